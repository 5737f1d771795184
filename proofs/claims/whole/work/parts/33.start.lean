/-! the start: what the statement gives, three new objects, the loop -/
theorem ctr_in : ∀ j : Nat, j < 11 → Cond.eq (.elem (.static RX0 "CONTRARY" "[I") (.int (Int32.ofNat j))) (.int (ctr j)) ∈ flatC (Jvm.Cond.and given_1 narrow_1) := by decide +kernel
theorem am_start {s : State} {b : Nat} (hts : ∀ w ∈ lw_tbl, w.before #[Value.ref b] s = true) (hgv : (Jvm.Cond.and given_1 narrow_1).before #[Value.ref b] s = true) : am s.heap.size s s.heap := by
  have hs := flat_of_before _ hgv
  have hA : ∀ a : Nat, a < s.heap.size → ¬ (fun q : Nat => s.heap.size ≤ q) a := fun a h => Nat.not_le.mpr h
  have z1 : vx_Zq Bundle.tN "UNASSIGNED_STACK" Bundle.steD (fun q : Nat => s.heap.size ≤ q) s s.heap := vx_Zqof (hts (.laysStatic Bundle.tN "UNASSIGNED_STACK" Bundle.steD) (by decide +kernel)) (hts (.initialized Bundle.tN) (by decide +kernel)) (hs (.isRef (.static Bundle.tN "UNASSIGNED_STACK" Bundle.steD)) (by decide +kernel)) hA
  have z2 : vx_Zq Bundle.tN "SUPPRESSED_SENTINEL" Bundle.listD (fun q : Nat => s.heap.size ≤ q) s s.heap := vx_Zqof (hts (.laysStatic Bundle.tN "SUPPRESSED_SENTINEL" Bundle.listD) (by decide +kernel)) (hts (.initialized Bundle.tN) (by decide +kernel)) (hs (.isRef (.static Bundle.tN "SUPPRESSED_SENTINEL" Bundle.listD)) (by decide +kernel)) hA
  obtain ⟨t, ht, hT⟩ := va_Tof (tm := .static RX0 "CONTRARY" "[I") (ty := .int) (N := 11) (f := fun j => .int (ctr j)) (A := fun q : Nat => s.heap.size ≤ q) (by decide) (hs (.arrayOf (.static RX0 "CONTRARY" "[I") .int) (by decide +kernel)) (va_eqt (hs (.eq (.length (.static RX0 "CONTRARY" "[I")) (.int 11)) (by decide +kernel))) (fun j hj => va_eqt (hs _ (ctr_in j hj))) hA
  have z3 := va_Zof (hts (.laysStatic RX0 "CONTRARY" "[I") (by decide +kernel)) (hts (.initialized RX0) (by decide +kernel)) ht hA
  have zs : ∀ (own tx : String) (k : Nat), (Cond.stringRef own k tx).before #[Value.ref b] s = true → (Cond.exactly (.string own k) "java/lang/String").before #[Value.ref b] s = true → ∃ a, vk_R own k tx a s := fun own tx k h1 h2 => by
    obtain ⟨a, c, cA, kA, q1, -⟩ := Cond.exactly_spec (args := #[Value.ref b]) (first := s) (o := none) (s := s) (idx := []) (t := .string own k) (cls := "java/lang/String") h2
    exact ⟨a, vk_R.of h1 q1⟩
  refine ⟨⟨z1, z2⟩, ⟨t, z3, hT⟩, ⟨va_Nw.of rfl (hts (.declares y_iR) (by decide +kernel)), va_Nw.of rfl (hts (.declares y_iE) (by decide +kernel)), va_Nw.of rfl (hts (.declares y_iT) (by decide +kernel)), va_Nw.of rfl (hts (.castable n_IAE n_IAE) (by decide +kernel)), va_Nw.of rfl (hts (.castable n_AE n_AE) (by decide +kernel))⟩, ⟨?_, ?_, ?_, ?_, ?_, ?_⟩, va_Nw.of rfl (hts (.fieldLinkNest RX2 45 "RangeBox$Outcome" "low" "J" "RangeBox") (by decide +kernel)), va_Nw.of rfl (hts (.fieldLinkNest RX2 49 "RangeBox$Outcome" "high" "J" "RangeBox") (by decide +kernel)), va_Nw.of rfl (hts (.methodLinkNest RX2 18 yX1_init "RangeBox") (by decide +kernel))⟩
  · exact zs RX2 "no such range" 78 (hts _ (by decide +kernel)) (hs _ (by decide +kernel))
  · exact zs RX2 "low is above high" 29 (hts _ (by decide +kernel)) (hs _ (by decide +kernel))
  · exact zs RX2 "no such instruction" 80 (hts _ (by decide +kernel)) (hs _ (by decide +kernel))
  · exact zs RX2 "no such condition" 82 (hts _ (by decide +kernel)) (hs _ (by decide +kernel))
  · exact zs RX2 "a range is not cut by itself" 60 (hts _ (by decide +kernel)) (hs _ (by decide +kernel))
  · exact zs RJ9 "long overflow" 116 (hts _ (by decide +kernel)) (hs _ (by decide +kernel))
set_option maxHeartbeats 4000000 in
set_option maxRecDepth 100000 in
theorem whole_start {p : Program} {e : Env} {s : State} {m : MethodId} {below : List Frame} {meth : Method} {c : Code} (l : Launch) (hst : l.stackTraces = false) {b L : Nat} {xs : Nat → Int32} (hL : L ≤ 3584) (C0 : lw_At p s m meth c b L xs) : W p l e room_1 s m #[Value.ref b] below meth c s.heap [] 0 0 (lw_Z below #[Value.ref b] s) (entryFrame m ([Value.ref b] : List Value).toArray 8) := by
  obtain ⟨hx, hb, hr, hml, hown, hts, hX, hbl, hlocks, hgv⟩ := id C0
  have hown : s.vm.findClass RL = some m.cls := hown
  have ham := am_start hts hgv
  have hA : ∀ q : Nat, s.heap.size ≤ q → (fun q : Nat => s.heap.size ≤ q) q := fun _ h => h
  have hbA : ¬ (fun q : Nat => s.heap.size ≤ q) b := Nat.not_le.mpr hbl
  obtain ⟨c0, iS0, hKn0⟩ := u_known (C := RX1) (T := TX1) (N := 6) (n := 6) hts in_wsX10 (hts (.instantiable RX1 6) (by decide +kernel))
  obtain ⟨c1, iS1, hKn1⟩ := u_known (C := RX2) (T := TX2) (N := 3) (n := 3) hts in_wsX20 (hts (.instantiable RX2 3) (by decide +kernel))
  obtain ⟨c2, iS2, hKn2⟩ := u_known (C := RX3) (T := TX3) (N := 10) (n := 10) hts in_wsX30 (hts (.instantiable RX3 10) (by decide +kernel))
  obtain ⟨dC, dI, hKc⟩ : ∃ (dC : Nat → ClassId) (dI : Nat → Nat → Nat), ∀ (k : Nat) (q : vw_C), vwCl[k]? = some q → u_Kn s q.1 q.2.1 q.2.2 (dC k) (dI k) := by
    refine ⟨fun k => if k = 0 then c0 else if k = 1 then c1 else c2, fun k => if k = 0 then iS0 else if k = 1 then iS1 else iS2, ?_⟩
    intro k q hq
    match k, hq with
    | 0, hq => cases hq; exact hKn0
    | 1, hq => cases hq; exact hKn1
    | 2, hq => cases hq; exact hKn2
    | k + 3, hq => simp [vwCl] at hq
  have hS : va_S (fun q : Nat => s.heap.size ≤ q) s.heap s.heap [] := va_S.rf
  have hK : va_K (dC, dI) vwCl [] s := ⟨hKc, fun k q h => by simp at h⟩
  have hP : va_P (dC, dI) vwCl [] s.heap := fun k q h => by simp at h
  have hD : va_D (fun q : Nat => s.heap.size ≤ q) [] := ⟨fun i j p q h => by simp at h, fun k q h => by simp at h⟩
  have hl := lv_entry ([.ref b]) (n := 8) (Nat.le_of_ble_eq_true rfl)
  rw [lg_entry_eq]
  generalize (lg_sl ([.ref b]) ++ List.replicate (8 - (lg_sl ([.ref b])).length) Slot.unset).toArray = ls at hl ⊢
  have hl : lv_has ls 8 [(0, .ref b)] := hl
  refine va_new (ci := 1) (fs := [.null, .null, .null]) (C := RX2) (T := TX2) (N := 3) hx hb hts in_wsX20 tyX2 tyX2_ok hown (hts (.classLink RL 8 RX2) (by decide +kernel)) (hts (.instantiable RX2 3) (by decide +kernel)) (hts (.initialized RX2) (by decide +kernel)) hK hP hD hS hA rfl (fun j hj => by rcases (show j = 0 ∨ j = 1 ∨ j = 2 by omega) with rfl | rfl | rfl <;> rfl) (Nat.le_of_ble_eq_true rfl) (Nat.le_of_ble_eq_true rfl) dL_law_0 (fun h0 H hP hD hS => ?_)
  have hP : va_P (dC, dI) vwCl [(h0, .inr (1, [.null, .null, .null]))] H := hP
  have hD : va_D (fun q : Nat => s.heap.size ≤ q) [(h0, .inr (1, [.null, .null, .null]))] := hD
  refine W.widen (k := 1) (n := 3) (by omega) (by omega) ?_
  refine lv_dup hx hb dL_law_3 rfl ?_
  have hFc := va_free (wc := [(h0, .inr (1, [.null, .null, .null]))]) hD hS hA [0] rfl
  refine va_callv (va_runI (As := []) (rest := [.ref h0]) ⟨hx, hb, hml, hown, hts⟩ (c_X2_init l s.heap.size dC dI h0 H.size) (cwI 0 hts gg_X2_init rfl rfl rfl (hts (.initialized RX2) (by decide +kernel)) (hts (.methodLink RL 38 yX2_init) (by decide +kernel)) (hts (.instanceMethod yX2_init) (by decide +kernel)) rfl (by decide +kernel) ⟨(Nat.le_of_ble_eq_true rfl), (Nat.le_of_ble_eq_true rfl)⟩) (twp_S (hK.sub (tys' := []) [] rfl) (hP.sub (ws' := [(h0, .inr (1, [.null, .null, .null]))]) [0] rfl) (hD.sub (ws' := [(h0, .inr (1, [.null, .null, .null]))]) [0] (by decide) rfl) (ham.kept (fun a h1 h2 => hS.2.1 a h1 h2))) rfl rfl hl.1 rfl (lv_room (Nat.le_of_ble_eq_true rfl)) dL_law_4 ⟨(Nat.le_of_ble_eq_true rfl), (Nat.le_of_ble_eq_true rfl)⟩) hS (fun q _ h => hFc q h) hFc (fun u t H1 locs ht hvm _ hB hz1 hk1 hS => ?_)
  obtain ⟨q1, q2, q3, cA, cB⟩ := u
  obtain ⟨hP1, hK1, hD1⟩ := hB
  rw [ht] at hP1
  have hK1 := va_K.moved hvm.symm hK1
  obtain ⟨hP, hD⟩ := va_join (wr := []) (w1 := [(h0, .inr (1, [.ref q1, .ref q2, .ref q3])), (q1, .inl (cA, 16, .inr (.inl zL))), (q2, .inl (cB, 16, .inr (.inl zL))), (q3, .inr (0, [.long 0, .long 0, .long 0, .long 0, .long 0, .long 0]))]) hP hD [0] [] rfl rfl (by decide) (by decide) hk1 hFc hP1 hD1
  have hK := (hK.sub (tys' := []) [] rfl).app hK1
  generalize H1 = H at hP hS ⊢
  have hP : va_P (dC, dI) vwCl [(h0, .inr (1, [.ref q1, .ref q2, .ref q3])), (q1, .inl (cA, 16, .inr (.inl zL))), (q2, .inl (cB, 16, .inr (.inl zL))), (q3, .inr (0, [.long 0, .long 0, .long 0, .long 0, .long 0, .long 0]))] H := hP
  have hD : va_D (fun q : Nat => s.heap.size ≤ q) [(h0, .inr (1, [.ref q1, .ref q2, .ref q3])), (q1, .inl (cA, 16, .inr (.inl zL))), (q2, .inl (cB, 16, .inr (.inl zL))), (q3, .inr (0, [.long 0, .long 0, .long 0, .long 0, .long 0, .long 0]))] := hD
  have hK : va_K (dC, dI) vwCl [(cA, .long), (cB, .long)] s := hK
  refine W.widen (k := 4) (n := 41) (by omega) (by omega) ?_
  refine lv_astore_n (lv' := [(1, .ref h0), (0, .ref b)]) hx hb dL_law_7 rfl hl (by decide) rfl (fun ls hl => ?_)
  refine va_new (ci := 2) (fs := [.int 0, .null, .null, .long 0, .long 0, .int 0, .long 0, .long 0, .long 0, .long 0]) (C := RX3) (T := TX3) (N := 10) hx hb hts in_wsX30 tyX3 tyX3_ok hown (hts (.classLink RL 39 RX3) (by decide +kernel)) (hts (.instantiable RX3 10) (by decide +kernel)) (hts (.initialized RX3) (by decide +kernel)) hK hP hD hS hA rfl (fun j hj => by rcases (show j = 0 ∨ j = 1 ∨ j = 2 ∨ j = 3 ∨ j = 4 ∨ j = 5 ∨ j = 6 ∨ j = 7 ∨ j = 8 ∨ j = 9 by omega) with rfl | rfl | rfl | rfl | rfl | rfl | rfl | rfl | rfl | rfl <;> rfl) (Nat.le_of_ble_eq_true rfl) (Nat.le_of_ble_eq_true rfl) dL_law_8 (fun g0 H hP hD hS => ?_)
  have hP : va_P (dC, dI) vwCl [(h0, .inr (1, [.ref q1, .ref q2, .ref q3])), (q1, .inl (cA, 16, .inr (.inl zL))), (q2, .inl (cB, 16, .inr (.inl zL))), (q3, .inr (0, [.long 0, .long 0, .long 0, .long 0, .long 0, .long 0])), (g0, .inr (2, [.int 0, .null, .null, .long 0, .long 0, .int 0, .long 0, .long 0, .long 0, .long 0]))] H := hP
  have hD : va_D (fun q : Nat => s.heap.size ≤ q) [(h0, .inr (1, [.ref q1, .ref q2, .ref q3])), (q1, .inl (cA, 16, .inr (.inl zL))), (q2, .inl (cB, 16, .inr (.inl zL))), (q3, .inr (0, [.long 0, .long 0, .long 0, .long 0, .long 0, .long 0])), (g0, .inr (2, [.int 0, .null, .null, .long 0, .long 0, .int 0, .long 0, .long 0, .long 0, .long 0]))] := hD
  refine W.widen (k := 5) (n := 51) (by omega) (by omega) ?_
  refine lv_dup hx hb dL_law_11 rfl ?_
  have hFc := va_free (wc := [(g0, .inr (2, [.int 0, .null, .null, .long 0, .long 0, .int 0, .long 0, .long 0, .long 0, .long 0]))]) hD hS hA [4] rfl
  refine va_callv (va_runI (As := []) (rest := [.ref g0]) ⟨hx, hb, hml, hown, hts⟩ (c_X3_init l dC dI g0 H.size) (cwI 0 hts gg_X3_init rfl rfl rfl (hts (.initialized RX3) (by decide +kernel)) (hts (.methodLink RL 41 yX3_init) (by decide +kernel)) (hts (.instanceMethod yX3_init) (by decide +kernel)) rfl (by decide +kernel) ⟨(Nat.le_of_ble_eq_true rfl), (Nat.le_of_ble_eq_true rfl)⟩) (wp_S (hK.sub (tys' := []) [] rfl) (hP.sub (ws' := [(g0, .inr (2, [.int 0, .null, .null, .long 0, .long 0, .int 0, .long 0, .long 0, .long 0, .long 0]))]) [4] rfl) (hD.sub (ws' := [(g0, .inr (2, [.int 0, .null, .null, .long 0, .long 0, .int 0, .long 0, .long 0, .long 0, .long 0]))]) [4] (by decide) rfl)) rfl rfl hl.1 rfl (lv_room (Nat.le_of_ble_eq_true rfl)) dL_law_12 ⟨(Nat.le_of_ble_eq_true rfl), (Nat.le_of_ble_eq_true rfl)⟩) hS (fun q _ h => hFc q h) hFc (fun u t H1 locs ht hvm _ hB hz1 hk1 hS => ?_)
  obtain ⟨r1, r2, cC, cD⟩ := u
  obtain ⟨hP1, hK1, hD1⟩ := hB
  rw [ht] at hP1
  have hK1 := va_K.moved hvm.symm hK1
  obtain ⟨hP, hD⟩ := va_join (wr := [(h0, .inr (1, [.ref q1, .ref q2, .ref q3])), (q1, .inl (cA, 16, .inr (.inl zL))), (q2, .inl (cB, 16, .inr (.inl zL))), (q3, .inr (0, [.long 0, .long 0, .long 0, .long 0, .long 0, .long 0]))]) (w1 := [(g0, .inr (2, [.int 0, .ref r1, .ref r2, .long 0, .long 0, .int 0, .long 0, .long 0, .long 0, .long 0])), (r1, .inl (cC, 16, .inr (.inl zL))), (r2, .inl (cD, 16, .inr (.inl zL)))]) hP hD [4] [0, 1, 2, 3] rfl rfl (by decide) (by decide) hk1 hFc hP1 hD1
  have hK := (hK.sub (tys' := [(cA, .long), (cB, .long)]) [0, 1] rfl).app hK1
  generalize H1 = H at hP hS ⊢
  have hP : va_P (dC, dI) vwCl [(h0, .inr (1, [.ref q1, .ref q2, .ref q3])), (q1, .inl (cA, 16, .inr (.inl zL))), (q2, .inl (cB, 16, .inr (.inl zL))), (q3, .inr (0, [.long 0, .long 0, .long 0, .long 0, .long 0, .long 0])), (g0, .inr (2, [.int 0, .ref r1, .ref r2, .long 0, .long 0, .int 0, .long 0, .long 0, .long 0, .long 0])), (r1, .inl (cC, 16, .inr (.inl zL))), (r2, .inl (cD, 16, .inr (.inl zL)))] H := hP
  have hD : va_D (fun q : Nat => s.heap.size ≤ q) [(h0, .inr (1, [.ref q1, .ref q2, .ref q3])), (q1, .inl (cA, 16, .inr (.inl zL))), (q2, .inl (cB, 16, .inr (.inl zL))), (q3, .inr (0, [.long 0, .long 0, .long 0, .long 0, .long 0, .long 0])), (g0, .inr (2, [.int 0, .ref r1, .ref r2, .long 0, .long 0, .int 0, .long 0, .long 0, .long 0, .long 0])), (r1, .inl (cC, 16, .inr (.inl zL))), (r2, .inl (cD, 16, .inr (.inl zL)))] := hD
  have hK : va_K (dC, dI) vwCl [(cA, .long), (cB, .long), (cC, .long), (cD, .long)] s := hK
  refine W.widen (k := 7) (n := 83) (by omega) (by omega) ?_
  refine lv_astore_n (lv' := [(2, .ref g0), (1, .ref h0), (0, .ref b)]) hx hb dL_law_15 rfl hl (by decide) rfl (fun ls hl => ?_)
  refine lv_iconst (v := (1 : Int32)) hx hb dL_law_16 (by decide) ?_
  refine va_newa (atype := .long) (n := 1) (ty := .long) (a0 := (1, .inr (.inl zL))) (N' := 1) hx hb (hts (.arrayClass .long) (by decide +kernel)) rfl hK hP hD hS hA (fun _ => rfl) (by decide) (by decide) (by decide) (Nat.le_of_ble_eq_true rfl) (Nat.le_of_ble_eq_true rfl) dL_law_17 (fun o0 cO H hK hP hD hS => ?_)
  have hP : va_P (dC, dI) vwCl [(h0, .inr (1, [.ref q1, .ref q2, .ref q3])), (q1, .inl (cA, 16, .inr (.inl zL))), (q2, .inl (cB, 16, .inr (.inl zL))), (q3, .inr (0, [.long 0, .long 0, .long 0, .long 0, .long 0, .long 0])), (g0, .inr (2, [.int 0, .ref r1, .ref r2, .long 0, .long 0, .int 0, .long 0, .long 0, .long 0, .long 0])), (r1, .inl (cC, 16, .inr (.inl zL))), (r2, .inl (cD, 16, .inr (.inl zL))), (o0, .inl (cO, 1, .inr (.inl zL)))] H := hP
  have hD : va_D (fun q : Nat => s.heap.size ≤ q) [(h0, .inr (1, [.ref q1, .ref q2, .ref q3])), (q1, .inl (cA, 16, .inr (.inl zL))), (q2, .inl (cB, 16, .inr (.inl zL))), (q3, .inr (0, [.long 0, .long 0, .long 0, .long 0, .long 0, .long 0])), (g0, .inr (2, [.int 0, .ref r1, .ref r2, .long 0, .long 0, .int 0, .long 0, .long 0, .long 0, .long 0])), (r1, .inl (cC, 16, .inr (.inl zL))), (r2, .inl (cD, 16, .inr (.inl zL))), (o0, .inl (cO, 1, .inr (.inl zL)))] := hD
  have hK : va_K (dC, dI) vwCl [(cA, .long), (cB, .long), (cC, .long), (cD, .long), (cO, .long)] s := hK
  refine W.widen (k := 8) (n := 84) (by omega) (by omega) ?_
  refine lv_astore_n (lv' := [(3, .ref o0), (2, .ref g0), (1, .ref h0), (0, .ref b)]) hx hb dL_law_19 rfl hl (by decide) rfl (fun ls hl => ?_)
  refine lv_iconst (v := (0 : Int32)) hx hb dL_law_20 (by decide) ?_
  refine lv_istore (lv' := [(4, .int (nI 0)), (3, .ref o0), (2, .ref g0), (1, .ref h0), (0, .ref b)]) hx hb dL_law_21 hl (by decide) rfl (fun ls hl => ?_)
  exact law_loop hst hx hb hml hown hts hX hbl hA (fun _ h => h) hbA ham hK hL hr hlocks (fun _ h => h) (L + 1) 0 (Nat.zero_le L) (by omega) _ _ _ _ _ _ _ _ _ _ _ _ _ _ _ _ _ _ _ _ _ _ (fun j _ => by unfold zL; decide) (by omega) (by omega) hP hD hS (lv_sub hl [4, 3, 2, 1, 0] rfl)
