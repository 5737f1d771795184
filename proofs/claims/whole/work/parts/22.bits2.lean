/-! the highest bit: numberOfLeadingZeros, and the run of ones behind it -/
theorem nlz32 {n : Nat} (h0 : 0 < n) (hn : n < 2147483648) : ∃ z, z ≤ 31 ∧ s_J6_nlz (nI n) = nI z ∧ 2 ^ (31 - z) ≤ n ∧ n < 2 ^ (32 - z) := by
  have u1 : ∀ a, a < 2147483648 → pi_ushr (nI a) 1 = nI (a / 2) := fun a h => pk_ushrN (by omega) 1 1 (by decide)
  have u2 : ∀ a, a < 2147483648 → pi_ushr (nI a) 2 = nI (a / 4) := fun a h => pk_ushrN (by omega) 2 2 (by decide)
  have u4 : ∀ a, a < 2147483648 → pi_ushr (nI a) 4 = nI (a / 16) := fun a h => pk_ushrN (by omega) 4 4 (by decide)
  have u8 : ∀ a, a < 2147483648 → pi_ushr (nI a) 8 = nI (a / 256) := fun a h => pk_ushrN (by omega) 8 8 (by decide)
  have u16 : ∀ a, a < 2147483648 → pi_ushr (nI a) 16 = nI (a / 65536) := fun a h => pk_ushrN (by omega) 16 16 (by decide)
  have lt : ∀ (a b : Nat) (c : Int32), a < 2147483648 → b < 2147483648 → c = nI b → (nI a < c ↔ a < b) := fun a b c ha hb e => by rw [e]; exact nI_ltI ha hb
  unfold s_J6_nlz
  rw [if_pos (show (0 : Int32) < nI n from by rw [← nI_0]; exact (nI_ltI (by decide) hn).mpr h0)]
  by_cases c1 : n < 65536
  · rw [if_pos ((lt (n) 65536 65536 (by omega) (by decide) rfl).mpr c1)]
    by_cases c2 : n < 256
    · rw [if_pos ((lt (n) 256 256 (by omega) (by decide) rfl).mpr c2)]
      by_cases c3 : n < 16
      · rw [if_pos ((lt (n) 16 16 (by omega) (by decide) rfl).mpr c3)]
        by_cases c4 : n < 4
        · rw [if_pos ((lt (n) 4 4 (by omega) (by decide) rfl).mpr c4)]
          rw [u1 (n) (by omega)]
          by_cases c5 : n < 2
          · rw [show n / 2 = 0 from by omega]
            exact ⟨31, by decide, by decide, by rw [show (2 : Nat) ^ (31 - 31) = 1 from by decide]; omega, by rw [show (2 : Nat) ^ (32 - 31) = 2 from by decide]; omega⟩
          · rw [show n / 2 = 1 from by omega]
            exact ⟨30, by decide, by decide, by rw [show (2 : Nat) ^ (31 - 30) = 2 from by decide]; omega, by rw [show (2 : Nat) ^ (32 - 30) = 4 from by decide]; omega⟩
        · rw [if_neg (fun z => c4 ((lt (n) 4 4 (by omega) (by decide) rfl).mp z))]
          rw [u2 (n) (by omega)]
          rw [u1 (n / 4) (by omega)]
          by_cases c6 : n / 4 < 2
          · rw [show n / 4 / 2 = 0 from by omega]
            exact ⟨29, by decide, by decide, by rw [show (2 : Nat) ^ (31 - 29) = 4 from by decide]; omega, by rw [show (2 : Nat) ^ (32 - 29) = 8 from by decide]; omega⟩
          · rw [show n / 4 / 2 = 1 from by omega]
            exact ⟨28, by decide, by decide, by rw [show (2 : Nat) ^ (31 - 28) = 8 from by decide]; omega, by rw [show (2 : Nat) ^ (32 - 28) = 16 from by decide]; omega⟩
      · rw [if_neg (fun z => c3 ((lt (n) 16 16 (by omega) (by decide) rfl).mp z))]
        rw [u4 (n) (by omega)]
        by_cases c7 : n / 16 < 4
        · rw [if_pos ((lt (n / 16) 4 4 (by omega) (by decide) rfl).mpr c7)]
          rw [u1 (n / 16) (by omega)]
          by_cases c8 : n / 16 < 2
          · rw [show n / 16 / 2 = 0 from by omega]
            exact ⟨27, by decide, by decide, by rw [show (2 : Nat) ^ (31 - 27) = 16 from by decide]; omega, by rw [show (2 : Nat) ^ (32 - 27) = 32 from by decide]; omega⟩
          · rw [show n / 16 / 2 = 1 from by omega]
            exact ⟨26, by decide, by decide, by rw [show (2 : Nat) ^ (31 - 26) = 32 from by decide]; omega, by rw [show (2 : Nat) ^ (32 - 26) = 64 from by decide]; omega⟩
        · rw [if_neg (fun z => c7 ((lt (n / 16) 4 4 (by omega) (by decide) rfl).mp z))]
          rw [u2 (n / 16) (by omega)]
          rw [u1 (n / 16 / 4) (by omega)]
          by_cases c9 : n / 16 / 4 < 2
          · rw [show n / 16 / 4 / 2 = 0 from by omega]
            exact ⟨25, by decide, by decide, by rw [show (2 : Nat) ^ (31 - 25) = 64 from by decide]; omega, by rw [show (2 : Nat) ^ (32 - 25) = 128 from by decide]; omega⟩
          · rw [show n / 16 / 4 / 2 = 1 from by omega]
            exact ⟨24, by decide, by decide, by rw [show (2 : Nat) ^ (31 - 24) = 128 from by decide]; omega, by rw [show (2 : Nat) ^ (32 - 24) = 256 from by decide]; omega⟩
    · rw [if_neg (fun z => c2 ((lt (n) 256 256 (by omega) (by decide) rfl).mp z))]
      rw [u8 (n) (by omega)]
      by_cases c10 : n / 256 < 16
      · rw [if_pos ((lt (n / 256) 16 16 (by omega) (by decide) rfl).mpr c10)]
        by_cases c11 : n / 256 < 4
        · rw [if_pos ((lt (n / 256) 4 4 (by omega) (by decide) rfl).mpr c11)]
          rw [u1 (n / 256) (by omega)]
          by_cases c12 : n / 256 < 2
          · rw [show n / 256 / 2 = 0 from by omega]
            exact ⟨23, by decide, by decide, by rw [show (2 : Nat) ^ (31 - 23) = 256 from by decide]; omega, by rw [show (2 : Nat) ^ (32 - 23) = 512 from by decide]; omega⟩
          · rw [show n / 256 / 2 = 1 from by omega]
            exact ⟨22, by decide, by decide, by rw [show (2 : Nat) ^ (31 - 22) = 512 from by decide]; omega, by rw [show (2 : Nat) ^ (32 - 22) = 1024 from by decide]; omega⟩
        · rw [if_neg (fun z => c11 ((lt (n / 256) 4 4 (by omega) (by decide) rfl).mp z))]
          rw [u2 (n / 256) (by omega)]
          rw [u1 (n / 256 / 4) (by omega)]
          by_cases c13 : n / 256 / 4 < 2
          · rw [show n / 256 / 4 / 2 = 0 from by omega]
            exact ⟨21, by decide, by decide, by rw [show (2 : Nat) ^ (31 - 21) = 1024 from by decide]; omega, by rw [show (2 : Nat) ^ (32 - 21) = 2048 from by decide]; omega⟩
          · rw [show n / 256 / 4 / 2 = 1 from by omega]
            exact ⟨20, by decide, by decide, by rw [show (2 : Nat) ^ (31 - 20) = 2048 from by decide]; omega, by rw [show (2 : Nat) ^ (32 - 20) = 4096 from by decide]; omega⟩
      · rw [if_neg (fun z => c10 ((lt (n / 256) 16 16 (by omega) (by decide) rfl).mp z))]
        rw [u4 (n / 256) (by omega)]
        by_cases c14 : n / 256 / 16 < 4
        · rw [if_pos ((lt (n / 256 / 16) 4 4 (by omega) (by decide) rfl).mpr c14)]
          rw [u1 (n / 256 / 16) (by omega)]
          by_cases c15 : n / 256 / 16 < 2
          · rw [show n / 256 / 16 / 2 = 0 from by omega]
            exact ⟨19, by decide, by decide, by rw [show (2 : Nat) ^ (31 - 19) = 4096 from by decide]; omega, by rw [show (2 : Nat) ^ (32 - 19) = 8192 from by decide]; omega⟩
          · rw [show n / 256 / 16 / 2 = 1 from by omega]
            exact ⟨18, by decide, by decide, by rw [show (2 : Nat) ^ (31 - 18) = 8192 from by decide]; omega, by rw [show (2 : Nat) ^ (32 - 18) = 16384 from by decide]; omega⟩
        · rw [if_neg (fun z => c14 ((lt (n / 256 / 16) 4 4 (by omega) (by decide) rfl).mp z))]
          rw [u2 (n / 256 / 16) (by omega)]
          rw [u1 (n / 256 / 16 / 4) (by omega)]
          by_cases c16 : n / 256 / 16 / 4 < 2
          · rw [show n / 256 / 16 / 4 / 2 = 0 from by omega]
            exact ⟨17, by decide, by decide, by rw [show (2 : Nat) ^ (31 - 17) = 16384 from by decide]; omega, by rw [show (2 : Nat) ^ (32 - 17) = 32768 from by decide]; omega⟩
          · rw [show n / 256 / 16 / 4 / 2 = 1 from by omega]
            exact ⟨16, by decide, by decide, by rw [show (2 : Nat) ^ (31 - 16) = 32768 from by decide]; omega, by rw [show (2 : Nat) ^ (32 - 16) = 65536 from by decide]; omega⟩
  · rw [if_neg (fun z => c1 ((lt (n) 65536 65536 (by omega) (by decide) rfl).mp z))]
    rw [u16 (n) (by omega)]
    by_cases c17 : n / 65536 < 256
    · rw [if_pos ((lt (n / 65536) 256 256 (by omega) (by decide) rfl).mpr c17)]
      by_cases c18 : n / 65536 < 16
      · rw [if_pos ((lt (n / 65536) 16 16 (by omega) (by decide) rfl).mpr c18)]
        by_cases c19 : n / 65536 < 4
        · rw [if_pos ((lt (n / 65536) 4 4 (by omega) (by decide) rfl).mpr c19)]
          rw [u1 (n / 65536) (by omega)]
          by_cases c20 : n / 65536 < 2
          · rw [show n / 65536 / 2 = 0 from by omega]
            exact ⟨15, by decide, by decide, by rw [show (2 : Nat) ^ (31 - 15) = 65536 from by decide]; omega, by rw [show (2 : Nat) ^ (32 - 15) = 131072 from by decide]; omega⟩
          · rw [show n / 65536 / 2 = 1 from by omega]
            exact ⟨14, by decide, by decide, by rw [show (2 : Nat) ^ (31 - 14) = 131072 from by decide]; omega, by rw [show (2 : Nat) ^ (32 - 14) = 262144 from by decide]; omega⟩
        · rw [if_neg (fun z => c19 ((lt (n / 65536) 4 4 (by omega) (by decide) rfl).mp z))]
          rw [u2 (n / 65536) (by omega)]
          rw [u1 (n / 65536 / 4) (by omega)]
          by_cases c21 : n / 65536 / 4 < 2
          · rw [show n / 65536 / 4 / 2 = 0 from by omega]
            exact ⟨13, by decide, by decide, by rw [show (2 : Nat) ^ (31 - 13) = 262144 from by decide]; omega, by rw [show (2 : Nat) ^ (32 - 13) = 524288 from by decide]; omega⟩
          · rw [show n / 65536 / 4 / 2 = 1 from by omega]
            exact ⟨12, by decide, by decide, by rw [show (2 : Nat) ^ (31 - 12) = 524288 from by decide]; omega, by rw [show (2 : Nat) ^ (32 - 12) = 1048576 from by decide]; omega⟩
      · rw [if_neg (fun z => c18 ((lt (n / 65536) 16 16 (by omega) (by decide) rfl).mp z))]
        rw [u4 (n / 65536) (by omega)]
        by_cases c22 : n / 65536 / 16 < 4
        · rw [if_pos ((lt (n / 65536 / 16) 4 4 (by omega) (by decide) rfl).mpr c22)]
          rw [u1 (n / 65536 / 16) (by omega)]
          by_cases c23 : n / 65536 / 16 < 2
          · rw [show n / 65536 / 16 / 2 = 0 from by omega]
            exact ⟨11, by decide, by decide, by rw [show (2 : Nat) ^ (31 - 11) = 1048576 from by decide]; omega, by rw [show (2 : Nat) ^ (32 - 11) = 2097152 from by decide]; omega⟩
          · rw [show n / 65536 / 16 / 2 = 1 from by omega]
            exact ⟨10, by decide, by decide, by rw [show (2 : Nat) ^ (31 - 10) = 2097152 from by decide]; omega, by rw [show (2 : Nat) ^ (32 - 10) = 4194304 from by decide]; omega⟩
        · rw [if_neg (fun z => c22 ((lt (n / 65536 / 16) 4 4 (by omega) (by decide) rfl).mp z))]
          rw [u2 (n / 65536 / 16) (by omega)]
          rw [u1 (n / 65536 / 16 / 4) (by omega)]
          by_cases c24 : n / 65536 / 16 / 4 < 2
          · rw [show n / 65536 / 16 / 4 / 2 = 0 from by omega]
            exact ⟨9, by decide, by decide, by rw [show (2 : Nat) ^ (31 - 9) = 4194304 from by decide]; omega, by rw [show (2 : Nat) ^ (32 - 9) = 8388608 from by decide]; omega⟩
          · rw [show n / 65536 / 16 / 4 / 2 = 1 from by omega]
            exact ⟨8, by decide, by decide, by rw [show (2 : Nat) ^ (31 - 8) = 8388608 from by decide]; omega, by rw [show (2 : Nat) ^ (32 - 8) = 16777216 from by decide]; omega⟩
    · rw [if_neg (fun z => c17 ((lt (n / 65536) 256 256 (by omega) (by decide) rfl).mp z))]
      rw [u8 (n / 65536) (by omega)]
      by_cases c25 : n / 65536 / 256 < 16
      · rw [if_pos ((lt (n / 65536 / 256) 16 16 (by omega) (by decide) rfl).mpr c25)]
        by_cases c26 : n / 65536 / 256 < 4
        · rw [if_pos ((lt (n / 65536 / 256) 4 4 (by omega) (by decide) rfl).mpr c26)]
          rw [u1 (n / 65536 / 256) (by omega)]
          by_cases c27 : n / 65536 / 256 < 2
          · rw [show n / 65536 / 256 / 2 = 0 from by omega]
            exact ⟨7, by decide, by decide, by rw [show (2 : Nat) ^ (31 - 7) = 16777216 from by decide]; omega, by rw [show (2 : Nat) ^ (32 - 7) = 33554432 from by decide]; omega⟩
          · rw [show n / 65536 / 256 / 2 = 1 from by omega]
            exact ⟨6, by decide, by decide, by rw [show (2 : Nat) ^ (31 - 6) = 33554432 from by decide]; omega, by rw [show (2 : Nat) ^ (32 - 6) = 67108864 from by decide]; omega⟩
        · rw [if_neg (fun z => c26 ((lt (n / 65536 / 256) 4 4 (by omega) (by decide) rfl).mp z))]
          rw [u2 (n / 65536 / 256) (by omega)]
          rw [u1 (n / 65536 / 256 / 4) (by omega)]
          by_cases c28 : n / 65536 / 256 / 4 < 2
          · rw [show n / 65536 / 256 / 4 / 2 = 0 from by omega]
            exact ⟨5, by decide, by decide, by rw [show (2 : Nat) ^ (31 - 5) = 67108864 from by decide]; omega, by rw [show (2 : Nat) ^ (32 - 5) = 134217728 from by decide]; omega⟩
          · rw [show n / 65536 / 256 / 4 / 2 = 1 from by omega]
            exact ⟨4, by decide, by decide, by rw [show (2 : Nat) ^ (31 - 4) = 134217728 from by decide]; omega, by rw [show (2 : Nat) ^ (32 - 4) = 268435456 from by decide]; omega⟩
      · rw [if_neg (fun z => c25 ((lt (n / 65536 / 256) 16 16 (by omega) (by decide) rfl).mp z))]
        rw [u4 (n / 65536 / 256) (by omega)]
        by_cases c29 : n / 65536 / 256 / 16 < 4
        · rw [if_pos ((lt (n / 65536 / 256 / 16) 4 4 (by omega) (by decide) rfl).mpr c29)]
          rw [u1 (n / 65536 / 256 / 16) (by omega)]
          by_cases c30 : n / 65536 / 256 / 16 < 2
          · rw [show n / 65536 / 256 / 16 / 2 = 0 from by omega]
            exact ⟨3, by decide, by decide, by rw [show (2 : Nat) ^ (31 - 3) = 268435456 from by decide]; omega, by rw [show (2 : Nat) ^ (32 - 3) = 536870912 from by decide]; omega⟩
          · rw [show n / 65536 / 256 / 16 / 2 = 1 from by omega]
            exact ⟨2, by decide, by decide, by rw [show (2 : Nat) ^ (31 - 2) = 536870912 from by decide]; omega, by rw [show (2 : Nat) ^ (32 - 2) = 1073741824 from by decide]; omega⟩
        · rw [if_neg (fun z => c29 ((lt (n / 65536 / 256 / 16) 4 4 (by omega) (by decide) rfl).mp z))]
          rw [u2 (n / 65536 / 256 / 16) (by omega)]
          rw [u1 (n / 65536 / 256 / 16 / 4) (by omega)]
          by_cases c31 : n / 65536 / 256 / 16 / 4 < 2
          · rw [show n / 65536 / 256 / 16 / 4 / 2 = 0 from by omega]
            exact ⟨1, by decide, by decide, by rw [show (2 : Nat) ^ (31 - 1) = 1073741824 from by decide]; omega, by rw [show (2 : Nat) ^ (32 - 1) = 2147483648 from by decide]; omega⟩
          · rw [show n / 65536 / 256 / 16 / 4 / 2 = 1 from by omega]
            exact ⟨0, by decide, by decide, by rw [show (2 : Nat) ^ (31 - 0) = 2147483648 from by decide]; omega, by rw [show (2 : Nat) ^ (32 - 0) = 4294967296 from by decide]; omega⟩
theorem uN_lN {n : Nat} (h : n < 18446744073709551616) : uN (lN n) = n := by
  show (BitVec.ofNat 64 n).toNat = n
  rw [BitVec.toNat_ofNat]
  exact Nat.mod_eq_of_lt h
theorem lN_uN (x : Int64) : lN (uN x) = x := uN_inj (uN_lN (uN_lt x))
theorem two_p {z : Nat} (h : z ≤ 31) : 2 ^ (63 - z) = 2 ^ (31 - z) * 4294967296 ∧ 2 ^ (64 - z) = 2 ^ (32 - z) * 4294967296 := by
  rw [show 63 - z = (31 - z) + 32 by omega, show 64 - z = (32 - z) + 32 by omega, Nat.pow_add, Nat.pow_add]
  exact ⟨rfl, rfl⟩
theorem nlz64 {x : Int64} (hx : ¬ x < 0) (h0 : ¬ x = 0) : ∃ z, z ≤ 63 ∧ s_J13_nlz x = nI z ∧ 2 ^ (63 - z) ≤ uN x ∧ uN x < 2 ^ (64 - z) := by
  obtain ⟨-, hX⟩ := uN_pos hx
  have hp : 0 < uN x := Nat.pos_of_ne_zero (fun z => h0 (uN_inj (z.trans (by decide))))
  have e1 : (pl_ushr x 32).toInt32 = nI (uN x / 4294967296) := by
    rw [← lN_uN (pl_ushr x 32), lN_i, uN_pushr, show ct 32 = 32 from by decide]
  have e2 : x.toInt32 = nI (uN x) := by
    conv => lhs; rw [← lN_uN x]
    exact lN_i _
  unfold s_J13_nlz
  rw [e1, e2]
  by_cases c : uN x / 4294967296 = 0
  · rw [c, nI_0, if_pos rfl]
    by_cases c2 : uN x < 2147483648
    · obtain ⟨z, z1, z2, z3, z4⟩ := nlz32 hp c2
      refine ⟨32 + z, by omega, ?_, ?_, ?_⟩
      · rw [z2, show (32 : Int32) = nI 32 from rfl, nI_add]
      · rw [show 63 - (32 + z) = 31 - z by omega]; exact z3
      · rw [show 64 - (32 + z) = 32 - z by omega]; exact z4
    · have hneg : s_J6_nlz (nI (uN x)) = 0 := by
        unfold s_J6_nlz
        have hb : (nI (uN x)).toBitVec.toNat = uN x := pk_tn (by omega)
        have hi : (nI (uN x)).toInt = (uN x : Int) - 4294967296 := by
          have := BitVec.toInt_eq_toNat_cond (nI (uN x)).toBitVec
          rw [hb] at this
          show (nI (uN x)).toBitVec.toInt = _
          rw [this, if_neg (by omega)]
          rfl
        rw [if_neg (by rw [Int32.lt_iff_toInt_lt, hi, show (0 : Int32).toInt = 0 from by decide]; omega), if_neg (fun q => by
          have := congrArg Int32.toInt q
          rw [hi, show (0 : Int32).toInt = 0 from by decide] at this
          omega)]
      exact ⟨32, by decide, by rw [hneg]; decide, by rw [show (2 : Nat) ^ (63 - 32) = 2147483648 from by decide]; omega, by rw [show (2 : Nat) ^ (64 - 32) = 4294967296 from by decide]; omega⟩
  · rw [if_neg (by
      intro q
      have := congrArg Int32.toNatClampNeg q
      rw [nI_clamp (by omega)] at this
      exact c (this.trans (by decide)))]
    obtain ⟨z, z1, z2, z3, z4⟩ := nlz32 (n := uN x / 4294967296) (by omega) (by omega)
    obtain ⟨t1, t2⟩ := two_p z1
    refine ⟨z, by omega, z2, ?_, ?_⟩
    · rw [t1]; omega
    · rw [t2]; omega
-- the run of ones
theorem uN_sm (x : Int64) (y : Int32) : uN (pl_sm x y) = uN x ||| uN x / 2 ^ ct y := by
  unfold pl_sm
  rw [show uN (x ||| pl_ushr x y) = uN x ||| uN (pl_ushr x y) from UInt64.toNat_or _ _, uN_pushr]
def sp9 (n n' k : Nat) : Prop := ∀ i, n'.testBit i = true ↔ ∃ j, j < k ∧ n.testBit (i + j) = true
theorem sp_1 (n : Nat) : sp9 n n 1 := fun i => ⟨fun h => ⟨0, by decide, h⟩, fun ⟨j, hj, h⟩ => by
  have : j = 0 := by omega
  subst this
  exact h⟩
theorem sp_d {n n' k : Nat} (h : sp9 n n' k) : sp9 n (n' ||| n' / 2 ^ k) (k + k) := by
  intro i
  rw [Nat.testBit_or, Nat.testBit_div_two_pow, Bool.or_eq_true, h i, h (i + k)]
  constructor
  · rintro (⟨j, hj, z⟩ | ⟨j, hj, z⟩)
    · exact ⟨j, by omega, z⟩
    · exact ⟨k + j, by omega, by rw [show i + (k + j) = i + k + j by omega]; exact z⟩
  · rintro ⟨j, hj, z⟩
    by_cases c : j < k
    · exact Or.inl ⟨j, c, z⟩
    · exact Or.inr ⟨j - k, by omega, by rw [show i + k + (j - k) = i + j by omega]; exact z⟩
theorem sp_top {n n' L : Nat} (h : sp9 n n' 64) (h1 : 2 ^ L ≤ n) (h2 : n < 2 ^ (L + 1)) (hL : L < 64) : n' = 2 ^ (L + 1) - 1 := by
  apply Nat.eq_of_testBit_eq
  intro i
  rw [Nat.testBit_two_pow_sub_one]
  by_cases c : i < L + 1
  · rw [decide_eq_true c]
    refine (h i).mpr ⟨L - i, by omega, ?_⟩
    rw [show i + (L - i) = L by omega, Nat.testBit_eq_decide_div_mod_eq]
    have : n / 2 ^ L = 1 := Nat.div_eq_of_lt_le (by omega) (by rw [Nat.pow_succ] at h2; omega)
    rw [this]
    rfl
  · rw [decide_eq_false c]
    cases hb : n'.testBit i with
    | false => rfl
    | true =>
      obtain ⟨j, -, z⟩ := (h i).mp hb
      have : n < 2 ^ (i + j) := Nat.lt_of_lt_of_le h2 (Nat.pow_le_pow_right (by decide) (by omega))
      rw [Nat.testBit_lt_two_pow this] at z
      cases z
theorem bits_top {x : Int64} {L : Nat} (h1 : 2 ^ L ≤ uN x) (h2 : uN x < 2 ^ (L + 1)) (hL : L < 64) : uN (s_X1_allBitsUpTo x) = 2 ^ (L + 1) - 1 := by
  unfold s_X1_allBitsUpTo
  rw [uN_sm, uN_sm, uN_sm, uN_sm, uN_sm, uN_sm, show ct 1 = 1 from by decide, show ct 2 = 2 from by decide, show ct 4 = 4 from by decide, show ct 8 = 8 from by decide, show ct 16 = 16 from by decide, show ct 32 = 32 from by decide]
  exact sp_top (sp_d (k := 32) (sp_d (k := 16) (sp_d (k := 8) (sp_d (k := 4) (sp_d (k := 2) (sp_d (k := 1) (sp_1 (uN x)))))))) h1 h2 hL
theorem ct_n : ∀ z, z < 64 → ct (nI z) = z := by decide +kernel
theorem ones_n : ∀ z, z < 64 → 18446744073709551615 / 2 ^ z = 2 ^ (64 - z) - 1 := by decide +kernel
/-- OR, XOR: the least 2^k - 1 that isn't below a high -/
theorem join_eq {a b : Int64} (ha : ¬ a < 0) (hb : ¬ b < 0) : s_X1_allBitsUpTo (a ||| b) = if pl_max a b = 0 then 0 else pl_ushr (-1) (s_J13_nlz (pl_max a b)) := by
  obtain ⟨a1, a2⟩ := uN_pos ha
  obtain ⟨b1, b2⟩ := uN_pos hb
  have hm : uN (pl_max a b) = max (uN a) (uN b) := by
    apply uN_of
    rw [max_i, a1, b1]
    omega
  have hmn : ¬ pl_max a b < 0 := fun z => by
    have := (neg_iff _).mp z
    omega
  have ho : uN (a ||| b) = uN a ||| uN b := UInt64.toNat_or _ _
  by_cases c : pl_max a b = 0
  · rw [if_pos c]
    have h0 := congrArg uN c
    rw [hm, show uN 0 = 0 from by decide] at h0
    have ea : a = 0 := uN_inj (by rw [show uN 0 = 0 from by decide]; omega)
    have eb : b = 0 := uN_inj (by rw [show uN 0 = 0 from by decide]; omega)
    rw [ea, eb]
    decide
  · rw [if_neg c]
    obtain ⟨z, z1, z2, z3, z4⟩ := nlz64 hmn c
    rw [hm] at z3 z4
    apply uN_inj
    rw [z2, uN_pushr, ct_n z (by omega), show uN (-1) = 18446744073709551615 from by decide, ones_n z (by omega)]
    have l1 := Nat.left_le_or (n := uN a) (m := uN b)
    have l2 := Nat.right_le_or (n := uN a) (m := uN b)
    have hlt : uN a ||| uN b < 2 ^ (63 - z + 1) := by
      rw [show 63 - z + 1 = 64 - z by omega]
      exact Nat.or_lt_two_pow (by omega) (by omega)
    rw [bits_top (L := 63 - z) (by rw [ho]; omega) (by rw [ho]; exact hlt) (by omega), show 63 - z + 1 = 64 - z by omega]
