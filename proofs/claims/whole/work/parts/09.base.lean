/-! numbers and rows of numbers -/
def nup (b : Nat → Nat) (i v : Nat) : Nat → Nat := fun j => if j = i then v else b j
theorem nup_same (b : Nat → Nat) (i v : Nat) : nup b i v i = v := by simp [nup]
theorem nup_ne {b : Nat → Nat} {i v j : Nat} (h : j ≠ i) : nup b i v j = b j := by simp [nup, h]
theorem nup_I (b : Nat → Nat) (i v : Nat) : upd (fun j => nI (b j)) i (nI v) = fun j => nI (nup b i v j) := by
  funext j
  by_cases h : j = i
  · subst h; simp [upd, nup]
  · simp [upd, nup, h]
theorem nx_and (a b : Nat) : nI a &&& nI b = nI (a &&& b) := by
  apply Int32.toBitVec_inj.mp
  show BitVec.ofNat 32 a &&& BitVec.ofNat 32 b = BitVec.ofNat 32 (a &&& b)
  exact (BitVec.ofNat_and ..).symm
theorem nx_xor (a b : Nat) : nI a ^^^ nI b = nI (a ^^^ b) := by
  apply Int32.toBitVec_inj.mp
  show BitVec.ofNat 32 a ^^^ BitVec.ofNat 32 b = BitVec.ofNat 32 (a ^^^ b)
  exact (BitVec.ofNat_xor ..).symm
theorem fa_or (a b : Nat) : nI a ||| nI b = nI (a ||| b) := by
  apply Int32.toBitVec_inj.mp
  show BitVec.ofNat 32 a ||| BitVec.ofNat 32 b = BitVec.ofNat 32 (a ||| b)
  exact (BitVec.ofNat_or ..).symm
theorem gl_m31 : ∀ n, n < 32 → ((nI n &&& 31).toBitVec.smod 32).toNat = n := by decide +kernel
theorem gl_shl1 {n : Nat} (h : n < 31) : nI 1 <<< (nI n &&& 31) = nI (2 ^ n) := by
  have h1 := pk_shlN (n := 1) (nI n &&& 31) n (gl_m31 n (by omega)) (by have := Nat.pow_lt_pow_right (a := 2) (by omega) (show n < 32 by omega); omega)
  rw [Nat.one_mul] at h1
  exact h1
theorem gl_shr {x n : Nat} (hx : x < 2147483648) (h : n < 32) : nI x >>> (nI n &&& 31) = nI (x / 2 ^ n) := pk_shrN hx (nI n &&& 31) n (gl_m31 n h)
theorem gv_lo {w : Int32} {n : Nat} (h : w < 0) : ¬ vp_in w n := fun k => k (Or.inl h)
theorem gv_hi {w : Int32} {n : Nat} (hn : n < 2147483648) (h : nI n ≤ w) : ¬ vp_in w n := fun k => by
  obtain ⟨j, hj, rfl⟩ := vp_in_of k hn
  exact absurd ((nI_leI hn (by omega)).mp h) (by omega)
theorem gv_mk {w : Int32} {n : Nat} (hn : n < 2147483648) (h : ¬ w < 0) (h2 : ¬ nI n ≤ w) : vp_in w n := by
  obtain ⟨j, hj, rfl⟩ := nI_of h
  exact vp_in_nI (Nat.lt_of_not_le (fun z => h2 ((nI_leI hn hj).mpr z))) hn
theorem gv_N {n N : Nat} (hn : n < 2147483648) (hN : N < 2147483648) : vp_in (nI n) N ↔ n < N := ⟨fun h => by
  obtain ⟨j, hj, e⟩ := vp_in_of h hN
  have := (nI_eq hn (by omega)).mp e
  omega, fun h => vp_in_nI h hN⟩
theorem p2_le {n m : Nat} (h : n ≤ m) : 2 ^ n ≤ 2 ^ m := Nat.pow_le_pow_right (by omega) h
theorem p2_8 {n : Nat} (h : n ≤ 8) : 2 ^ n ≤ 256 := p2_le (m := 8) h
/-- a yes or no -/
abbrev isB (r : Int32) (P : Prop) : Prop := (r = nI 1 ∧ P) ∨ (r = nI 0 ∧ ¬ P)
theorem gv_mk6 {w : Int32} (h : ¬ w < 0) (h2 : ¬ nI 5 < w) : vp_in w 6 := by
  obtain ⟨j, hj, rfl⟩ := nI_of h
  exact vp_in_nI (Nat.lt_of_not_le (fun z => h2 ((nI_ltI (by omega) hj).mpr (by omega)))) (by omega)
theorem gv_hi6 {w : Int32} (h : nI 5 < w) : ¬ vp_in w 6 := fun k => by
  obtain ⟨j, hj, rfl⟩ := vp_in_of k (by omega)
  exact absurd ((nI_ltI (by omega) (by omega)).mp h) (by omega)
