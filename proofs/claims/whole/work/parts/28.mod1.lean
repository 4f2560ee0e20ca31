/-! the reference: its small questions -/
theorem ii_vp {w : Int32} {n : Nat} (hn : n < 1000000) : (nI 0 ≤ w ∧ w ≤ nI n - nI 1) ↔ vp_in w n := by
  rw [vp_in_iff, Int32.le_iff_toInt_le, Int32.le_iff_toInt_le, pk_sub_toInt (by omega) (by omega), nI_toInt (by omega)]
  omega
theorem ii_k {w : Int32} {k : Nat} (hn : k < 1000000) : (nI 0 ≤ w ∧ w ≤ nI k) ↔ vp_in w (k + 1) := by
  rw [vp_in_iff, Int32.le_iff_toInt_le, Int32.le_iff_toInt_le, nI_toInt (by omega), nI_toInt (by omega)]
  omega
theorem ii_0 {w : Int32} : (nI 0 ≤ w ∧ w ≤ nI 0) ↔ w = 0 := by
  rw [Int32.le_iff_toInt_le, Int32.le_iff_toInt_le, nI_toInt (by omega), ← Int32.toInt_inj]
  have : (0 : Int32).toInt = 0 := rfl
  omega
theorem ii_lo {w : Int32} {n : Int32} (h : nI 0 ≤ w ∧ w ≤ n) : ¬ w < 0 := fun z => by
  have h1 := h.1
  rw [Int32.le_iff_toInt_le, nI_toInt (by omega)] at h1
  rw [Int32.lt_iff_toInt_lt] at z
  have : (0 : Int32).toInt = 0 := rfl
  omega
theorem ii_hi {w n : Int32} (h : nI 0 ≤ w ∧ w ≤ n) : ¬ n < w := fun z => by
  have h1 := h.2
  rw [Int32.le_iff_toInt_le] at h1
  rw [Int32.lt_iff_toInt_lt] at z
  omega
theorem ii_no {w : Int32} {n : Nat} (hn : n ≤ 8) {j : Nat} (hj : j = 1 ∨ j = 2) (h : ¬ (nI 0 ≤ w ∧ w ≤ nI n)) : ¬ cdI n (nI j) w := by
  by_cases h0 : w < 0
  · exact cd12lo hj hn h0
  · refine cd12hi hj hn ?_
    obtain ⟨y, hy, rfl⟩ := nI_of h0
    refine (nI_ltI (by omega) hy).mpr (Nat.lt_of_not_le fun z => h ⟨(nI_leI (by omega) hy).mpr (Nat.zero_le _), (nI_leI hy (by omega)).mpr z⟩)
theorem ii_ko {n : Nat} {k w : Int32} (h : ¬ (nI 0 ≤ k ∧ k ≤ nI 3)) : ¬ cdI n k w := fun z => by
  obtain ⟨x, y, rfl, rfl, h1⟩ := z
  have hx : x ≤ 3 := by rcases h1 with h1 | h1 | h1 | h1 <;> omega
  exact h ⟨(nI_leI (by omega) (by omega)).mpr (Nat.zero_le _), (nI_leI (by omega) (by omega)).mpr hx⟩
theorem ii_nat {w : Int32} {k : Nat} (hk : k < 1000000) (h : nI 0 ≤ w ∧ w ≤ nI k) : ∃ j, j ≤ k ∧ w = nI j := by
  obtain ⟨j, hj, e⟩ := vp_in_of ((ii_k hk).mp h) (by omega)
  exact ⟨j, by omega, e⟩
def lA (T : Nat → Nat) (len p : Nat) : Nat := if p < len then T p else 0
theorem adds_eq (F : Nat → Nat) (k x y : Nat) : nup (nup (nup (nup F (6 + 3 * F 1) k) (6 + 3 * F 1 + 1) x) (6 + 3 * F 1 + 2) y) 1 (F 1 + 1) = agC F k x y := by
  funext j
  unfold agC sgC nup
  repeat' split
  all_goals first | rfl | omega
theorem adds_1 (F : Nat → Nat) (k x y : Nat) : nup (nup (nup F (6 + 3 * F 1) k) (6 + 3 * F 1 + 1) x) (6 + 3 * F 1 + 2) y 1 = F 1 := by
  rw [nup_ne (by omega), nup_ne (by omega), nup_ne (by omega)]
def on8 (w : Nat) : Nat → Nat
  | 0 => 0
  | i + 1 => on8 w i + w / 2 ^ i % 2
theorem on8_8 (w : Nat) : on8 w 8 = ones8 w := by simp [on8, ones8]
/-- what s and t make of a wire's value, as the reference has it -/
def saS (w v : Nat) (s t : Option Nat) : Nat := match s with
  | some s => if s / 2 = w then s % 2 else (match t with
    | some t => if t / 2 = w then t % 2 else v
    | none => v)
  | none => match t with
    | some t => if t / 2 = w then t % 2 else v
    | none => v
theorem tb_shr : ∀ t, t < 64 → ((nI t).toInt64 &&& 63) = lN t := wb_c
theorem tb_has (x : Int64) {t : Nat} (ht : t < 64) : ((x >>> ((nI t).toInt64 &&& 63)) &&& 1 = 1) ↔ tb x t = 1 := by
  rw [wb_c t ht, tb_eq]
  have e1 : (x >>> lN t).toBitVec = x.toBitVec.sshiftRight t := by
    rw [Int64.toBitVec_shiftRight, wb_tb, wb_sm t ht]
    have : (BitVec.ofNat 64 t).toNat = t := by rw [BitVec.toNat_ofNat, Nat.mod_eq_of_lt (by omega)]
    rw [BitVec.sshiftRight_eq', this]
  have e2 : (x >>> lN t).toBitVec.getLsbD 0 = x.toBitVec.getLsbD t := by
    rw [e1, BitVec.getLsbD_sshiftRight]
    simp [ht]
  constructor
  · intro h
    have h2 : ((x >>> lN t) &&& 1).toBitVec.getLsbD 0 = true := by rw [h]; rfl
    rw [Int64.toBitVec_and, BitVec.getLsbD_and, e2] at h2
    simp only [Bool.and_eq_true] at h2
    exact h2.1
  · intro h
    apply Int64.toBitVec_inj.mp
    apply BitVec.eq_of_getLsbD_eq
    intro i hi
    rw [Int64.toBitVec_and, BitVec.getLsbD_and]
    have h1 : (1 : Int64).toBitVec = 1#64 := rfl
    rw [h1]
    by_cases hi0 : i = 0
    · subst hi0; rw [e2, h]; simp
    · have : (1#64 : BitVec 64).getLsbD i = false := by
        rw [BitVec.getLsbD_one]; simp [hi0]
      rw [this]; simp
theorem lg_eq {x y : Int64} (h : lg_cmp x y = 0) : x = y := by
  unfold lg_cmp at h
  repeat' split at h
  all_goals first | assumption | (exact absurd h (by decide))
theorem lg_ne {x y : Int64} (h : ¬ lg_cmp x y = 0) : ¬ x = y := fun z => h (by
  subst z
  unfold lg_cmp
  rw [if_neg (show ¬ x > x from fun q => by have := Int64.lt_iff_toInt_lt.mp q; omega), if_pos rfl])

theorem ge_of {a b : Int32} (h : ¬ a < b) : b ≤ a := by rw [Int32.lt_iff_toInt_lt] at h; rw [Int32.le_iff_toInt_le]; omega
theorem le_of {a b : Int32} (h : ¬ b < a) : a ≤ b := by rw [Int32.lt_iff_toInt_lt] at h; rw [Int32.le_iff_toInt_le]; omega
theorem nlt_of {a b : Int32} (h : a ≤ b) : ¬ b < a := by rw [Int32.le_iff_toInt_le] at h; rw [Int32.lt_iff_toInt_lt]; omega

theorem ok_X7_adds : gOK yX7_adds wsX7_adds ({ frames := 0, cells := 0, slots := 0, locals := 0 }) 5 4 := ⟨⟨_, _, _, rfl⟩, rfl, rfl, by decide, by decide, by decide +kernel⟩
set_option maxRecDepth 100000 in
set_option maxHeartbeats 4000000 in
theorem c_X7_adds (l : Launch) (D : va_G) (cC cI cJ cO : ClassId) (q : Nat) (F : Nat → Nat) (k : Nat) (x : Nat) (y : Nat) (hF : F 1 < 24) : CM (S := Unit) l D (tyL cC cI cJ cO) yX7_adds wsX7_adds ({ frames := 0, cells := 0, slots := 0, locals := 0 }) [.ref q, .int (nI k), .int (nI x), .int (nI y)] [(q, .inl (cI, 78, .inl (fun j_ => nI (F j_))))] (fun _ => none) (fun _ => True) (fun u_ => [(q, .inl (cI, 78, .inl (fun j_ => nI ((agC F k x y) j_))))]) := by
  refine CM_in (cc := cX7_adds) (maxL := 5) (ret := none) (by decide) rfl (Nat.le_of_ble_eq_true rfl) ?_
  intro X hX hret
  show GW X [(q, .inl (cI, 78, .inl (fun j_ => nI (F j_))))] [(0, .ref q), (1, .int (nI k)), (2, .int (nI x)), (3, .int (nI y))] [] 0 0 0
  refine g_bipush (v := nI 6) hX dX7_adds_0 (by decide) ?_
  refine g_iconst (v := nI 3) hX dX7_adds_2 (by decide) ?_
  refine g_aload_n 0 (hd := dX7_adds_3) (C := hX) rfl rfl ?_
  refine g_iconst (v := nI 1) hX dX7_adds_4 (by decide) ?_
  refine g_iald (hd := dX7_adds_5) (C := hX) 0 1 rfl rfl (by omega) (by decide) ?_
  refine g_imul hX dX7_adds_6 ?_
  refine g_top (y := (nI (3 * (F 1)))) (pk_mul _ _) ?_
  refine g_iadd hX dX7_adds_7 ?_
  refine g_top (y := (nI (6 + (3 * (F 1))))) (nI_add _ _) ?_
  refine g_istore [(0, .ref q), (1, .int (nI k)), (2, .int (nI x)), (3, .int (nI y)), (4, .int (nI (6 + (3 * (F 1)))))] [1, 2, 3, 4, 0] (hd := dX7_adds_8) (C := hX) (by decide) rfl ?_
  refine g_aload_n 0 (hd := dX7_adds_10) (C := hX) rfl rfl ?_
  refine g_iload 4 (hd := dX7_adds_11) (C := hX) rfl ?_
  refine g_iload_n 1 (hd := dX7_adds_13) (C := hX) rfl rfl ?_
  refine g_iast (hd := dX7_adds_14) (C := hX) 0 1 [(q, .inl (cI, 78, .inl (fun j_ => nI ((nup F (6 + (3 * (F 1))) k) j_))))] rfl rfl (by omega) (by decide) (by rw [nup_I]; rfl) ?_
  refine g_aload_n 0 (hd := dX7_adds_15) (C := hX) rfl rfl ?_
  refine g_iload 4 (hd := dX7_adds_16) (C := hX) rfl ?_
  refine g_iconst (v := nI 1) hX dX7_adds_18 (by decide) ?_
  refine g_iadd hX dX7_adds_19 ?_
  refine g_top (y := (nI ((6 + (3 * (F 1))) + 1))) (nI_add _ _) ?_
  refine g_iload_n 2 (hd := dX7_adds_20) (C := hX) rfl rfl ?_
  refine g_iast (hd := dX7_adds_21) (C := hX) 0 1 [(q, .inl (cI, 78, .inl (fun j_ => nI ((nup (nup F (6 + (3 * (F 1))) k) ((6 + (3 * (F 1))) + 1) x) j_))))] rfl rfl (by omega) (by decide) (by rw [nup_I]; rfl) ?_
  refine g_aload_n 0 (hd := dX7_adds_22) (C := hX) rfl rfl ?_
  refine g_iload 4 (hd := dX7_adds_23) (C := hX) rfl ?_
  refine g_iconst (v := nI 2) hX dX7_adds_25 (by decide) ?_
  refine g_iadd hX dX7_adds_26 ?_
  refine g_top (y := (nI ((6 + (3 * (F 1))) + 2))) (nI_add _ _) ?_
  refine g_iload_n 3 (hd := dX7_adds_27) (C := hX) rfl rfl ?_
  refine g_iast (hd := dX7_adds_28) (C := hX) 0 1 [(q, .inl (cI, 78, .inl (fun j_ => nI ((nup (nup (nup F (6 + (3 * (F 1))) k) ((6 + (3 * (F 1))) + 1) x) ((6 + (3 * (F 1))) + 2) y) j_))))] rfl rfl (by omega) (by decide) (by rw [nup_I]; rfl) ?_
  refine g_aload_n 0 (hd := dX7_adds_29) (C := hX) rfl rfl ?_
  refine g_iconst (v := nI 1) hX dX7_adds_30 (by decide) ?_
  refine g_dup2_11 hX dX7_adds_31 rfl rfl ?_
  refine g_iald (hd := dX7_adds_32) (C := hX) 0 1 rfl rfl (by omega) (by decide) ?_
  refine g_iconst (v := nI 1) hX dX7_adds_33 (by decide) ?_
  refine g_iadd hX dX7_adds_34 ?_
  refine g_top (y := (nI (((nup (nup (nup F (6 + (3 * (F 1))) k) ((6 + (3 * (F 1))) + 1) x) ((6 + (3 * (F 1))) + 2) y) 1) + 1))) (nI_add _ _) ?_
  refine g_iast (hd := dX7_adds_35) (C := hX) 0 1 [(q, .inl (cI, 78, .inl (fun j_ => nI ((nup (nup (nup (nup F (6 + (3 * (F 1))) k) ((6 + (3 * (F 1))) + 1) x) ((6 + (3 * (F 1))) + 2) y) 1 (((nup (nup (nup F (6 + (3 * (F 1))) k) ((6 + (3 * (F 1))) + 1) x) ((6 + (3 * (F 1))) + 2) y) 1) + 1)) j_))))] rfl rfl (by omega) (by decide) (by rw [nup_I]; rfl) ?_
  refine g_w [(q, .inl (cI, 78, .inl (fun j_ => nI ((agC F k x y) j_))))] (by rw [adds_1, adds_eq]) ?_
  exact (hret () _ _ trivial).1 rfl rfl dX7_adds_36

theorem ok_X7_isIn : gOK yX7_isIn wsX7_isIn ({ frames := 0, cells := 0, slots := 0, locals := 0 }) 3 3 := ⟨⟨_, _, _, rfl⟩, rfl, rfl, by decide, by decide, by decide +kernel⟩
set_option maxRecDepth 100000 in
set_option maxHeartbeats 4000000 in
theorem c_X7_isIn (l : Launch) (D : va_G) (cC cI cJ cO : ClassId) (z : Int32) (lo : Int32) (hi : Int32) : CM (S := Int32) l D (tyL cC cI cJ cO) yX7_isIn wsX7_isIn ({ frames := 0, cells := 0, slots := 0, locals := 0 }) [.int z, .int lo, .int hi] [] (fun r => some (.int r)) (fun r => isB r (lo ≤ z ∧ z ≤ hi)) (fun u_ => []) := by
  refine CM_in (cc := cX7_isIn) (maxL := 3) (ret := (some .boolean)) (by decide) rfl (Nat.le_of_ble_eq_true rfl) ?_
  intro X hX hret
  show GW X [] [(0, .int z), (1, .int lo), (2, .int hi)] [] 0 0 0
  refine g_iload_n 0 (hd := dX7_isIn_0) (C := hX) rfl rfl ?_
  refine g_iload_n 1 (hd := dX7_isIn_1) (C := hX) rfl rfl ?_
  refine g_icmp_lt 14 (hd := dX7_isIn_2) (C := hX) (by decide) (fun c_2 => ?_) (fun c_2 => ?_)
  · refine g_iconst (v := nI 0) hX dX7_isIn_14 (by decide) ?_
    exact (hret (nI 0) _ _ (by first | exact Or.inl ⟨rfl, ge_of c_2, le_of c_7⟩ | exact Or.inr ⟨rfl, fun y => absurd c_2 (nlt_of y.1)⟩ | exact Or.inr ⟨rfl, fun y => absurd c_7 (nlt_of y.2)⟩)).2.2.1 _ rfl rfl (by decide) dX7_isIn_15
  · refine g_iload_n 0 (hd := dX7_isIn_5) (C := hX) rfl rfl ?_
    refine g_iload_n 2 (hd := dX7_isIn_6) (C := hX) rfl rfl ?_
    refine g_icmp_gt 14 (hd := dX7_isIn_7) (C := hX) (by decide) (fun c_7 => ?_) (fun c_7 => ?_)
    · refine g_iconst (v := nI 0) hX dX7_isIn_14 (by decide) ?_
      exact (hret (nI 0) _ _ (by first | exact Or.inl ⟨rfl, ge_of c_2, le_of c_7⟩ | exact Or.inr ⟨rfl, fun y => absurd c_2 (nlt_of y.1)⟩ | exact Or.inr ⟨rfl, fun y => absurd c_7 (nlt_of y.2)⟩)).2.2.1 _ rfl rfl (by decide) dX7_isIn_15
    · refine g_iconst (v := nI 1) hX dX7_isIn_10 (by decide) ?_
      refine g_goto 15 (hd := dX7_isIn_11) (C := hX) (by decide) ?_
      exact (hret (nI 1) _ _ (by first | exact Or.inl ⟨rfl, ge_of c_2, le_of c_7⟩ | exact Or.inr ⟨rfl, fun y => absurd c_2 (nlt_of y.1)⟩ | exact Or.inr ⟨rfl, fun y => absurd c_7 (nlt_of y.2)⟩)).2.2.1 _ rfl rfl (by decide) dX7_isIn_15

theorem ok_X7_canBe : gOK yX7_canBe wsX7_canBe ({ frames := 1, cells := 0, slots := 0, locals := 22 }) 3 3 := ⟨⟨_, _, _, rfl⟩, rfl, rfl, by decide, by decide, by decide +kernel⟩
set_option maxRecDepth 100000 in
set_option maxHeartbeats 4000000 in
theorem c_X7_canBe (l : Launch) (D : va_G) (cC cI cJ cO : ClassId) (n : Nat) (kd : Int32) (nm : Int32) (hn : n ≤ 8) : CM (S := Int32) l D (tyL cC cI cJ cO) yX7_canBe wsX7_canBe ({ frames := 1, cells := 0, slots := 0, locals := 22 }) [.int (nI n), .int kd, .int nm] [] (fun r => some (.int r)) (fun r => isB r (cdI n kd nm)) (fun u_ => []) := by
  refine CM_in (cc := cX7_canBe) (maxL := 3) (ret := (some .boolean)) (by decide) rfl (Nat.le_of_ble_eq_true rfl) ?_
  intro X hX hret
  show GW X [] [(0, .int (nI n)), (1, .int kd), (2, .int nm)] [] 0 0 0
  refine g_iload_n 1 (hd := dX7_canBe_0) (C := hX) rfl rfl ?_
  refine g_iconst (v := nI 0) hX dX7_canBe_1 (by decide) ?_
  refine g_iconst (v := nI 3) hX dX7_canBe_2 (by decide) ?_
  refine g_callS (rest := []) hX (c_X7_isIn l D cC cI cJ cO kd (nI 0) (nI 3)) ok_X7_isIn (fun _ => rfl) (hd := dX7_canBe_3) gX7_canBe_X7_isIn ⟨by decide, by decide⟩ rfl (Nat.le_of_ble_eq_true rfl) ⟨Nat.zero_le _, Nat.zero_le _⟩ [] (by decide) rfl rfl ?_
  intro r_3 e_3
  rcases e_3 with ⟨rfl, p_3⟩ | ⟨rfl, p_3⟩
  · show GW X [] [(0, .int (nI n)), (1, .int kd), (2, .int nm)] [.int (nI 1)] 6 0 0
    refine g_if_eqN 46 (hd := dX7_canBe_6) (C := hX) (by decide) (by decide) (fun c_6 => absurd c_6 (by decide)) (fun c_6 => ?_)
    obtain ⟨jk, hjk, rfl⟩ := ii_nat (by decide) p_3
    rcases (show jk = 0 ∨ jk = 1 ∨ jk = 2 ∨ jk = 3 by omega) with rfl | rfl | rfl | rfl
    · refine g_iload_n 2 (hd := dX7_canBe_9) (C := hX) rfl rfl ?_
      refine g_iconst (v := nI 0) hX dX7_canBe_10 (by decide) ?_
      refine g_iload_n 1 (hd := dX7_canBe_11) (C := hX) rfl rfl ?_
      refine g_if_eqN 20 (hd := dX7_canBe_12) (C := hX) (by decide) (by decide) (fun c_12 => ?_) (fun c_12 => absurd c_12 (by decide))
      refine g_iconst (v := nI 0) hX dX7_canBe_20 (by decide) ?_
      refine g_goto 25 (hd := dX7_canBe_21) (C := hX) (by decide) ?_
      refine g_callS (rest := []) hX (c_X7_isIn l D cC cI cJ cO nm (nI 0) (nI 0)) ok_X7_isIn (fun _ => rfl) (hd := dX7_canBe_25) gX7_canBe_X7_isIn ⟨by decide, by decide⟩ rfl (Nat.le_of_ble_eq_true rfl) ⟨Nat.zero_le _, Nat.zero_le _⟩ [] (by decide) rfl rfl ?_
      intro r_25 e_25
      rcases e_25 with ⟨rfl, p_25⟩ | ⟨rfl, p_25⟩
      · show GW X [] [(0, .int (nI n)), (1, .int (nI 0)), (2, .int nm)] [.int (nI 1)] 28 0 0
        refine g_if_eqN 46 (hd := dX7_canBe_28) (C := hX) (by decide) (by decide) (fun c_28 => absurd c_28 (by decide)) (fun c_28 => ?_)
        refine g_iload_n 1 (hd := dX7_canBe_31) (C := hX) rfl rfl ?_
        refine g_iconst (v := nI 3) hX dX7_canBe_32 (by decide) ?_
        refine g_icmp_neN 42 (hd := dX7_canBe_33) (C := hX) (by decide) (by decide) (by decide) (fun c_33 => ?_) (fun c_33 => absurd c_33 (by decide))
        refine g_iconst (v := nI 1) hX dX7_canBe_42 (by decide) ?_
        refine g_goto 47 (hd := dX7_canBe_43) (C := hX) (by decide) ?_
        exact (hret (nI 1) _ _ (Or.inl ⟨rfl, cd0 (ii_0.mp p_25)⟩)).2.2.1 _ rfl rfl (by decide) dX7_canBe_47
      · show GW X [] [(0, .int (nI n)), (1, .int (nI 0)), (2, .int nm)] [.int (nI 0)] 28 0 0
        refine g_if_eqN 46 (hd := dX7_canBe_28) (C := hX) (by decide) (by decide) (fun c_28 => ?_) (fun c_28 => absurd c_28 (by decide))
        refine g_iconst (v := nI 0) hX dX7_canBe_46 (by decide) ?_
        exact (hret (nI 0) _ _ (Or.inr ⟨rfl, cd0n (fun z => p_25 (ii_0.mpr z))⟩)).2.2.1 _ rfl rfl (by decide) dX7_canBe_47
    · refine g_iload_n 2 (hd := dX7_canBe_9) (C := hX) rfl rfl ?_
      refine g_iconst (v := nI 0) hX dX7_canBe_10 (by decide) ?_
      refine g_iload_n 1 (hd := dX7_canBe_11) (C := hX) rfl rfl ?_
      refine g_if_eqN 20 (hd := dX7_canBe_12) (C := hX) (by decide) (by decide) (fun c_12 => absurd c_12 (by decide)) (fun c_12 => ?_)
      refine g_iload_n 1 (hd := dX7_canBe_15) (C := hX) rfl rfl ?_
      refine g_iconst (v := nI 3) hX dX7_canBe_16 (by decide) ?_
      refine g_icmp_neN 24 (hd := dX7_canBe_17) (C := hX) (by decide) (by decide) (by decide) (fun c_17 => ?_) (fun c_17 => absurd c_17 (by decide))
      refine g_iload_n 0 (hd := dX7_canBe_24) (C := hX) rfl rfl ?_
      refine g_callS (rest := []) hX (c_X7_isIn l D cC cI cJ cO nm (nI 0) (nI n)) ok_X7_isIn (fun _ => rfl) (hd := dX7_canBe_25) gX7_canBe_X7_isIn ⟨by decide, by decide⟩ rfl (Nat.le_of_ble_eq_true rfl) ⟨Nat.zero_le _, Nat.zero_le _⟩ [] (by decide) rfl rfl ?_
      intro r_25 e_25
      rcases e_25 with ⟨rfl, p_25⟩ | ⟨rfl, p_25⟩
      · show GW X [] [(0, .int (nI n)), (1, .int (nI 1)), (2, .int nm)] [.int (nI 1)] 28 0 0
        refine g_if_eqN 46 (hd := dX7_canBe_28) (C := hX) (by decide) (by decide) (fun c_28 => absurd c_28 (by decide)) (fun c_28 => ?_)
        refine g_iload_n 1 (hd := dX7_canBe_31) (C := hX) rfl rfl ?_
        refine g_iconst (v := nI 3) hX dX7_canBe_32 (by decide) ?_
        refine g_icmp_neN 42 (hd := dX7_canBe_33) (C := hX) (by decide) (by decide) (by decide) (fun c_33 => ?_) (fun c_33 => absurd c_33 (by decide))
        refine g_iconst (v := nI 1) hX dX7_canBe_42 (by decide) ?_
        refine g_goto 47 (hd := dX7_canBe_43) (C := hX) (by decide) ?_
        exact (hret (nI 1) _ _ (Or.inl ⟨rfl, cd12 (by decide) hn (ii_lo p_25) (ii_hi p_25)⟩)).2.2.1 _ rfl rfl (by decide) dX7_canBe_47
      · show GW X [] [(0, .int (nI n)), (1, .int (nI 1)), (2, .int nm)] [.int (nI 0)] 28 0 0
        refine g_if_eqN 46 (hd := dX7_canBe_28) (C := hX) (by decide) (by decide) (fun c_28 => ?_) (fun c_28 => absurd c_28 (by decide))
        refine g_iconst (v := nI 0) hX dX7_canBe_46 (by decide) ?_
        exact (hret (nI 0) _ _ (Or.inr ⟨rfl, ii_no hn (by decide) p_25⟩)).2.2.1 _ rfl rfl (by decide) dX7_canBe_47
    · refine g_iload_n 2 (hd := dX7_canBe_9) (C := hX) rfl rfl ?_
      refine g_iconst (v := nI 0) hX dX7_canBe_10 (by decide) ?_
      refine g_iload_n 1 (hd := dX7_canBe_11) (C := hX) rfl rfl ?_
      refine g_if_eqN 20 (hd := dX7_canBe_12) (C := hX) (by decide) (by decide) (fun c_12 => absurd c_12 (by decide)) (fun c_12 => ?_)
      refine g_iload_n 1 (hd := dX7_canBe_15) (C := hX) rfl rfl ?_
      refine g_iconst (v := nI 3) hX dX7_canBe_16 (by decide) ?_
      refine g_icmp_neN 24 (hd := dX7_canBe_17) (C := hX) (by decide) (by decide) (by decide) (fun c_17 => ?_) (fun c_17 => absurd c_17 (by decide))
      refine g_iload_n 0 (hd := dX7_canBe_24) (C := hX) rfl rfl ?_
      refine g_callS (rest := []) hX (c_X7_isIn l D cC cI cJ cO nm (nI 0) (nI n)) ok_X7_isIn (fun _ => rfl) (hd := dX7_canBe_25) gX7_canBe_X7_isIn ⟨by decide, by decide⟩ rfl (Nat.le_of_ble_eq_true rfl) ⟨Nat.zero_le _, Nat.zero_le _⟩ [] (by decide) rfl rfl ?_
      intro r_25 e_25
      rcases e_25 with ⟨rfl, p_25⟩ | ⟨rfl, p_25⟩
      · show GW X [] [(0, .int (nI n)), (1, .int (nI 2)), (2, .int nm)] [.int (nI 1)] 28 0 0
        refine g_if_eqN 46 (hd := dX7_canBe_28) (C := hX) (by decide) (by decide) (fun c_28 => absurd c_28 (by decide)) (fun c_28 => ?_)
        refine g_iload_n 1 (hd := dX7_canBe_31) (C := hX) rfl rfl ?_
        refine g_iconst (v := nI 3) hX dX7_canBe_32 (by decide) ?_
        refine g_icmp_neN 42 (hd := dX7_canBe_33) (C := hX) (by decide) (by decide) (by decide) (fun c_33 => ?_) (fun c_33 => absurd c_33 (by decide))
        refine g_iconst (v := nI 1) hX dX7_canBe_42 (by decide) ?_
        refine g_goto 47 (hd := dX7_canBe_43) (C := hX) (by decide) ?_
        exact (hret (nI 1) _ _ (Or.inl ⟨rfl, cd12 (by decide) hn (ii_lo p_25) (ii_hi p_25)⟩)).2.2.1 _ rfl rfl (by decide) dX7_canBe_47
      · show GW X [] [(0, .int (nI n)), (1, .int (nI 2)), (2, .int nm)] [.int (nI 0)] 28 0 0
        refine g_if_eqN 46 (hd := dX7_canBe_28) (C := hX) (by decide) (by decide) (fun c_28 => ?_) (fun c_28 => absurd c_28 (by decide))
        refine g_iconst (v := nI 0) hX dX7_canBe_46 (by decide) ?_
        exact (hret (nI 0) _ _ (Or.inr ⟨rfl, ii_no hn (by decide) p_25⟩)).2.2.1 _ rfl rfl (by decide) dX7_canBe_47
    · refine g_iload_n 2 (hd := dX7_canBe_9) (C := hX) rfl rfl ?_
      refine g_iconst (v := nI 0) hX dX7_canBe_10 (by decide) ?_
      refine g_iload_n 1 (hd := dX7_canBe_11) (C := hX) rfl rfl ?_
      refine g_if_eqN 20 (hd := dX7_canBe_12) (C := hX) (by decide) (by decide) (fun c_12 => absurd c_12 (by decide)) (fun c_12 => ?_)
      refine g_iload_n 1 (hd := dX7_canBe_15) (C := hX) rfl rfl ?_
      refine g_iconst (v := nI 3) hX dX7_canBe_16 (by decide) ?_
      refine g_icmp_neN 24 (hd := dX7_canBe_17) (C := hX) (by decide) (by decide) (by decide) (fun c_17 => absurd c_17 (by decide)) (fun c_17 => ?_)
      refine g_iconst (v := nI 0) hX dX7_canBe_20 (by decide) ?_
      refine g_goto 25 (hd := dX7_canBe_21) (C := hX) (by decide) ?_
      refine g_callS (rest := []) hX (c_X7_isIn l D cC cI cJ cO nm (nI 0) (nI 0)) ok_X7_isIn (fun _ => rfl) (hd := dX7_canBe_25) gX7_canBe_X7_isIn ⟨by decide, by decide⟩ rfl (Nat.le_of_ble_eq_true rfl) ⟨Nat.zero_le _, Nat.zero_le _⟩ [] (by decide) rfl rfl ?_
      intro r_25 e_25
      rcases e_25 with ⟨rfl, p_25⟩ | ⟨rfl, p_25⟩
      · show GW X [] [(0, .int (nI n)), (1, .int (nI 3)), (2, .int nm)] [.int (nI 1)] 28 0 0
        refine g_if_eqN 46 (hd := dX7_canBe_28) (C := hX) (by decide) (by decide) (fun c_28 => absurd c_28 (by decide)) (fun c_28 => ?_)
        refine g_iload_n 1 (hd := dX7_canBe_31) (C := hX) rfl rfl ?_
        refine g_iconst (v := nI 3) hX dX7_canBe_32 (by decide) ?_
        refine g_icmp_neN 42 (hd := dX7_canBe_33) (C := hX) (by decide) (by decide) (by decide) (fun c_33 => absurd c_33 (by decide)) (fun c_33 => ?_)
        refine g_iload_n 0 (hd := dX7_canBe_36) (C := hX) rfl rfl ?_
        refine g_iconst (v := nI 2) hX dX7_canBe_37 (by decide) ?_
        refine g_irem hX dX7_canBe_38 (by decide) ?_
        refine g_top (y := (nI (n % 2))) (pk_rem (by omega) (by omega) (by omega)) ?_
        refine g_if_neN 46 (hd := dX7_canBe_39) (C := hX) (by decide) (by omega) (fun c_39 => ?_) (fun c_39 => ?_)
        · refine g_iconst (v := nI 0) hX dX7_canBe_46 (by decide) ?_
          exact (hret (nI 0) _ _ (by first | exact Or.inr ⟨rfl, cd3m c_39⟩ | exact Or.inr ⟨rfl, cd3n (fun z => p_25 (ii_0.mpr z))⟩)).2.2.1 _ rfl rfl (by decide) dX7_canBe_47
        · refine g_iconst (v := nI 1) hX dX7_canBe_42 (by decide) ?_
          refine g_goto 47 (hd := dX7_canBe_43) (C := hX) (by decide) ?_
          exact (hret (nI 1) _ _ (Or.inl ⟨rfl, cd3 (ii_0.mp p_25) c_39⟩)).2.2.1 _ rfl rfl (by decide) dX7_canBe_47
      · show GW X [] [(0, .int (nI n)), (1, .int (nI 3)), (2, .int nm)] [.int (nI 0)] 28 0 0
        refine g_if_eqN 46 (hd := dX7_canBe_28) (C := hX) (by decide) (by decide) (fun c_28 => ?_) (fun c_28 => absurd c_28 (by decide))
        refine g_iconst (v := nI 0) hX dX7_canBe_46 (by decide) ?_
        exact (hret (nI 0) _ _ (by first | exact Or.inr ⟨rfl, cd3m c_39⟩ | exact Or.inr ⟨rfl, cd3n (fun z => p_25 (ii_0.mpr z))⟩)).2.2.1 _ rfl rfl (by decide) dX7_canBe_47
  · show GW X [] [(0, .int (nI n)), (1, .int kd), (2, .int nm)] [.int (nI 0)] 6 0 0
    refine g_if_eqN 46 (hd := dX7_canBe_6) (C := hX) (by decide) (by decide) (fun c_6 => ?_) (fun c_6 => absurd c_6 (by decide))
    refine g_iconst (v := nI 0) hX dX7_canBe_46 (by decide) ?_
    exact (hret (nI 0) _ _ (Or.inr ⟨rfl, ii_ko p_3⟩)).2.2.1 _ rfl rfl (by decide) dX7_canBe_47

theorem in_X7_letterAt_7 : ∀ w ∈ wsX70, w ∈ wsX7_letterAt := fun _ h => List.mem_cons_of_mem _ (List.mem_append_right _ h)
theorem ok_X7_letterAt : gOK yX7_letterAt wsX7_letterAt ({ frames := 0, cells := 0, slots := 0, locals := 0 }) 2 1 := ⟨⟨_, _, _, rfl⟩, rfl, rfl, by decide, by decide, by decide +kernel⟩
set_option maxRecDepth 100000 in
set_option maxHeartbeats 4000000 in
theorem c_X7_letterAt (l : Launch) (D : va_G) (cC cI cJ cO : ClassId) (o : Nat) (ot : Nat) (on : Nat) (od : Nat) (ow : Nat) (oi : Nat) (oe : Nat) (op : Nat) (len : Nat) (ch : Nat) (va : Nat) (en : Nat) (aE : Int64) (aP : Int64) (lt : Int64) (T : Nat → Nat) (c : Nat → Nat) (rd : Nat → Nat) (ww : Nat → Nat) (wi : Nat → Nat) (EX : Nat → Int64) (PA : Nat → Int64) (p : Nat) (hp : p < 1000) (hl : len ≤ 200) : CM (S := Int32) l D (tyL cC cI cJ cO) yX7_letterAt wsX7_letterAt ({ frames := 0, cells := 0, slots := 0, locals := 0 }) [.ref o, .int (nI p)] [(o, .inr (7, [.int (nI len), .ref ot, .ref on, .ref od, .ref ow, .int (nI ch), .int (nI va), .int (nI en), .ref oi, .ref oe, .ref op, .long aE, .long aP, .long lt])), (ot, .inl (cI, 200, .inl (fun j_ => nI (T j_)))), (on, .inl (cI, 78, .inl (fun j_ => nI (c j_)))), (od, .inl (cI, 78, .inl (fun j_ => nI (rd j_)))), (ow, .inl (cI, 468, .inl (fun j_ => nI (ww j_)))), (oi, .inl (cI, 32, .inl (fun j_ => nI (wi j_)))), (oe, .inl (cJ, 256, .inr (.inl EX))), (op, .inl (cJ, 256, .inr (.inl PA)))] (fun r => some (.int r)) (fun r => r = nI (lA T len p)) (fun u_ => [(o, .inr (7, [.int (nI len), .ref ot, .ref on, .ref od, .ref ow, .int (nI ch), .int (nI va), .int (nI en), .ref oi, .ref oe, .ref op, .long aE, .long aP, .long lt])), (ot, .inl (cI, 200, .inl (fun j_ => nI (T j_)))), (on, .inl (cI, 78, .inl (fun j_ => nI (c j_)))), (od, .inl (cI, 78, .inl (fun j_ => nI (rd j_)))), (ow, .inl (cI, 468, .inl (fun j_ => nI (ww j_)))), (oi, .inl (cI, 32, .inl (fun j_ => nI (wi j_)))), (oe, .inl (cJ, 256, .inr (.inl EX))), (op, .inl (cJ, 256, .inr (.inl PA)))]) := by
  refine CM_in (cc := cX7_letterAt) (maxL := 2) (ret := (some .int)) (by decide) rfl (Nat.le_of_ble_eq_true rfl) ?_
  intro X hX hret
  show GW X [(o, .inr (7, [.int (nI len), .ref ot, .ref on, .ref od, .ref ow, .int (nI ch), .int (nI va), .int (nI en), .ref oi, .ref oe, .ref op, .long aE, .long aP, .long lt])), (ot, .inl (cI, 200, .inl (fun j_ => nI (T j_)))), (on, .inl (cI, 78, .inl (fun j_ => nI (c j_)))), (od, .inl (cI, 78, .inl (fun j_ => nI (rd j_)))), (ow, .inl (cI, 468, .inl (fun j_ => nI (ww j_)))), (oi, .inl (cI, 32, .inl (fun j_ => nI (wi j_)))), (oe, .inl (cJ, 256, .inr (.inl EX))), (op, .inl (cJ, 256, .inr (.inl PA)))] [(0, .ref o), (1, .int (nI p))] [] 0 0 0
  refine g_iload_n 1 (hd := dX7_letterAt_0) (C := hX) rfl rfl ?_
  refine g_aload_n 0 (hd := dX7_letterAt_1) (C := hX) rfl rfl ?_
  refine g_get (hd := dX7_letterAt_2) (C := hX) 0 0 rfl rfl in_X7_letterAt_7 (by decide) (by decide +kernel) rfl ?_
  refine g_icmp_geN 17 (hd := dX7_letterAt_5) (C := hX) (by decide) (by omega) (by omega) (fun c_5 => ?_) (fun c_5 => ?_)
  · refine g_iconst (v := nI 0) hX dX7_letterAt_17 (by decide) ?_
    exact (hret (nI 0) _ _ (by unfold lA; first | rw [if_pos c_5] | rw [if_neg (Nat.not_lt.mpr c_5)])).2.1 _ rfl rfl dX7_letterAt_18
  · refine g_aload_n 0 (hd := dX7_letterAt_8) (C := hX) rfl rfl ?_
    refine g_get (hd := dX7_letterAt_9) (C := hX) 0 1 rfl rfl in_X7_letterAt_7 (by decide) (by decide +kernel) rfl ?_
    refine g_iload_n 1 (hd := dX7_letterAt_12) (C := hX) rfl rfl ?_
    refine g_iald (hd := dX7_letterAt_13) (C := hX) 1 1 rfl rfl (by omega) (by decide) ?_
    refine g_goto 18 (hd := dX7_letterAt_14) (C := hX) (by decide) ?_
    exact (hret (nI (T p)) _ _ (by unfold lA; first | rw [if_pos c_5] | rw [if_neg (Nat.not_lt.mpr c_5)])).2.1 _ rfl rfl dX7_letterAt_18

theorem in_X7_wires_7 : ∀ w ∈ wsX70, w ∈ wsX7_wires := fun _ h => List.mem_cons_of_mem _ (List.mem_append_right _ h)
theorem ok_X7_wires : gOK yX7_wires wsX7_wires ({ frames := 0, cells := 0, slots := 0, locals := 0 }) 1 0 := ⟨⟨_, _, _, rfl⟩, rfl, rfl, by decide, by decide, by decide +kernel⟩
set_option maxRecDepth 100000 in
set_option maxHeartbeats 4000000 in
theorem c_X7_wires (l : Launch) (D : va_G) (cC cI cJ cO : ClassId) (o : Nat) (ot : Nat) (on : Nat) (od : Nat) (ow : Nat) (oi : Nat) (oe : Nat) (op : Nat) (len : Nat) (ch : Nat) (va : Nat) (en : Nat) (aE : Int64) (aP : Int64) (lt : Int64) (T : Nat → Nat) (c : Nat → Nat) (rd : Nat → Nat) (ww : Nat → Nat) (wi : Nat → Nat) (EX : Nat → Int64) (PA : Nat → Int64) : CM (S := Int32) l D (tyL cC cI cJ cO) yX7_wires wsX7_wires ({ frames := 0, cells := 0, slots := 0, locals := 0 }) [.ref o] [(o, .inr (7, [.int (nI len), .ref ot, .ref on, .ref od, .ref ow, .int (nI ch), .int (nI va), .int (nI en), .ref oi, .ref oe, .ref op, .long aE, .long aP, .long lt])), (ot, .inl (cI, 200, .inl (fun j_ => nI (T j_)))), (on, .inl (cI, 78, .inl (fun j_ => nI (c j_)))), (od, .inl (cI, 78, .inl (fun j_ => nI (rd j_)))), (ow, .inl (cI, 468, .inl (fun j_ => nI (ww j_)))), (oi, .inl (cI, 32, .inl (fun j_ => nI (wi j_)))), (oe, .inl (cJ, 256, .inr (.inl EX))), (op, .inl (cJ, 256, .inr (.inl PA)))] (fun r => some (.int r)) (fun r => r = nI (c 0 + c 1)) (fun u_ => [(o, .inr (7, [.int (nI len), .ref ot, .ref on, .ref od, .ref ow, .int (nI ch), .int (nI va), .int (nI en), .ref oi, .ref oe, .ref op, .long aE, .long aP, .long lt])), (ot, .inl (cI, 200, .inl (fun j_ => nI (T j_)))), (on, .inl (cI, 78, .inl (fun j_ => nI (c j_)))), (od, .inl (cI, 78, .inl (fun j_ => nI (rd j_)))), (ow, .inl (cI, 468, .inl (fun j_ => nI (ww j_)))), (oi, .inl (cI, 32, .inl (fun j_ => nI (wi j_)))), (oe, .inl (cJ, 256, .inr (.inl EX))), (op, .inl (cJ, 256, .inr (.inl PA)))]) := by
  refine CM_in (cc := cX7_wires) (maxL := 1) (ret := (some .int)) (by decide) rfl (Nat.le_of_ble_eq_true rfl) ?_
  intro X hX hret
  show GW X [(o, .inr (7, [.int (nI len), .ref ot, .ref on, .ref od, .ref ow, .int (nI ch), .int (nI va), .int (nI en), .ref oi, .ref oe, .ref op, .long aE, .long aP, .long lt])), (ot, .inl (cI, 200, .inl (fun j_ => nI (T j_)))), (on, .inl (cI, 78, .inl (fun j_ => nI (c j_)))), (od, .inl (cI, 78, .inl (fun j_ => nI (rd j_)))), (ow, .inl (cI, 468, .inl (fun j_ => nI (ww j_)))), (oi, .inl (cI, 32, .inl (fun j_ => nI (wi j_)))), (oe, .inl (cJ, 256, .inr (.inl EX))), (op, .inl (cJ, 256, .inr (.inl PA)))] [(0, .ref o)] [] 0 0 0
  refine g_aload_n 0 (hd := dX7_wires_0) (C := hX) rfl rfl ?_
  refine g_get (hd := dX7_wires_1) (C := hX) 0 2 rfl rfl in_X7_wires_7 (by decide) (by decide +kernel) rfl ?_
  refine g_iconst (v := nI 0) hX dX7_wires_4 (by decide) ?_
  refine g_iald (hd := dX7_wires_5) (C := hX) 2 1 rfl rfl (by omega) (by decide) ?_
  refine g_aload_n 0 (hd := dX7_wires_6) (C := hX) rfl rfl ?_
  refine g_get (hd := dX7_wires_7) (C := hX) 0 2 rfl rfl in_X7_wires_7 (by decide) (by decide +kernel) rfl ?_
  refine g_iconst (v := nI 1) hX dX7_wires_10 (by decide) ?_
  refine g_iald (hd := dX7_wires_11) (C := hX) 2 1 rfl rfl (by omega) (by decide) ?_
  refine g_iadd hX dX7_wires_12 ?_
  refine g_top (y := (nI ((c 0) + (c 1)))) (nI_add _ _) ?_
  exact (hret (nI ((c 0) + (c 1))) _ _ rfl).2.1 _ rfl rfl dX7_wires_13

theorem in_X7_isWire_7 : ∀ w ∈ wsX70, w ∈ wsX7_isWire := fun _ h => List.mem_cons_of_mem _ (List.mem_append_right _ h)
theorem ok_X7_isWire : gOK yX7_isWire wsX7_isWire ({ frames := 1, cells := 0, slots := 0, locals := 22 }) 2 1 := ⟨⟨_, _, _, rfl⟩, rfl, rfl, by decide, by decide, by decide +kernel⟩
set_option maxRecDepth 100000 in
set_option maxHeartbeats 4000000 in
theorem c_X7_isWire (l : Launch) (D : va_G) (cC cI cJ cO : ClassId) (o : Nat) (ot : Nat) (on : Nat) (od : Nat) (ow : Nat) (oi : Nat) (oe : Nat) (op : Nat) (len : Nat) (ch : Nat) (va : Nat) (en : Nat) (aE : Int64) (aP : Int64) (lt : Int64) (T : Nat → Nat) (c : Nat → Nat) (rd : Nat → Nat) (ww : Nat → Nat) (wi : Nat → Nat) (EX : Nat → Int64) (PA : Nat → Int64) (w : Int32) (b0 : c 0 ≤ 8) (b1 : c 1 ≤ 24) : CM (S := Int32) l D (tyL cC cI cJ cO) yX7_isWire wsX7_isWire ({ frames := 1, cells := 0, slots := 0, locals := 22 }) [.ref o, .int w] [(o, .inr (7, [.int (nI len), .ref ot, .ref on, .ref od, .ref ow, .int (nI ch), .int (nI va), .int (nI en), .ref oi, .ref oe, .ref op, .long aE, .long aP, .long lt])), (ot, .inl (cI, 200, .inl (fun j_ => nI (T j_)))), (on, .inl (cI, 78, .inl (fun j_ => nI (c j_)))), (od, .inl (cI, 78, .inl (fun j_ => nI (rd j_)))), (ow, .inl (cI, 468, .inl (fun j_ => nI (ww j_)))), (oi, .inl (cI, 32, .inl (fun j_ => nI (wi j_)))), (oe, .inl (cJ, 256, .inr (.inl EX))), (op, .inl (cJ, 256, .inr (.inl PA)))] (fun r => some (.int r)) (fun r => isB r (vp_in w (c 0 + c 1))) (fun u_ => [(o, .inr (7, [.int (nI len), .ref ot, .ref on, .ref od, .ref ow, .int (nI ch), .int (nI va), .int (nI en), .ref oi, .ref oe, .ref op, .long aE, .long aP, .long lt])), (ot, .inl (cI, 200, .inl (fun j_ => nI (T j_)))), (on, .inl (cI, 78, .inl (fun j_ => nI (c j_)))), (od, .inl (cI, 78, .inl (fun j_ => nI (rd j_)))), (ow, .inl (cI, 468, .inl (fun j_ => nI (ww j_)))), (oi, .inl (cI, 32, .inl (fun j_ => nI (wi j_)))), (oe, .inl (cJ, 256, .inr (.inl EX))), (op, .inl (cJ, 256, .inr (.inl PA)))]) := by
  refine CM_in (cc := cX7_isWire) (maxL := 2) (ret := (some .boolean)) (by decide) rfl (Nat.le_of_ble_eq_true rfl) ?_
  intro X hX hret
  show GW X [(o, .inr (7, [.int (nI len), .ref ot, .ref on, .ref od, .ref ow, .int (nI ch), .int (nI va), .int (nI en), .ref oi, .ref oe, .ref op, .long aE, .long aP, .long lt])), (ot, .inl (cI, 200, .inl (fun j_ => nI (T j_)))), (on, .inl (cI, 78, .inl (fun j_ => nI (c j_)))), (od, .inl (cI, 78, .inl (fun j_ => nI (rd j_)))), (ow, .inl (cI, 468, .inl (fun j_ => nI (ww j_)))), (oi, .inl (cI, 32, .inl (fun j_ => nI (wi j_)))), (oe, .inl (cJ, 256, .inr (.inl EX))), (op, .inl (cJ, 256, .inr (.inl PA)))] [(0, .ref o), (1, .int w)] [] 0 0 0
  refine g_iload_n 1 (hd := dX7_isWire_0) (C := hX) rfl rfl ?_
  refine g_iconst (v := nI 0) hX dX7_isWire_1 (by decide) ?_
  refine g_aload_n 0 (hd := dX7_isWire_2) (C := hX) rfl rfl ?_
  refine g_callVs (rest := [.int (nI 0), .int w]) hX (c_X7_wires l D cC cI cJ cO o ot on od ow oi oe op len ch va en aE aP lt T c rd ww wi EX PA) ok_X7_wires rfl 0 rfl rfl (hd := dX7_isWire_3) gX7_isWire_X7_wires ⟨by decide, by decide⟩ rfl (Nat.le_of_ble_eq_true rfl) ⟨Nat.zero_le _, Nat.zero_le _⟩ [0, 1, 2, 3, 4, 5, 6, 7] (by decide) rfl rfl ?_
  intro r_3 e_3
  subst e_3
  show GW X [(o, .inr (7, [.int (nI len), .ref ot, .ref on, .ref od, .ref ow, .int (nI ch), .int (nI va), .int (nI en), .ref oi, .ref oe, .ref op, .long aE, .long aP, .long lt])), (ot, .inl (cI, 200, .inl (fun j_ => nI (T j_)))), (on, .inl (cI, 78, .inl (fun j_ => nI (c j_)))), (od, .inl (cI, 78, .inl (fun j_ => nI (rd j_)))), (ow, .inl (cI, 468, .inl (fun j_ => nI (ww j_)))), (oi, .inl (cI, 32, .inl (fun j_ => nI (wi j_)))), (oe, .inl (cJ, 256, .inr (.inl EX))), (op, .inl (cJ, 256, .inr (.inl PA)))] [(0, .ref o), (1, .int w)] [.int (nI (c 0 + c 1)), .int (nI 0), .int w] 6 0 0
  refine g_iconst (v := nI 1) hX dX7_isWire_6 (by decide) ?_
  refine g_isub hX dX7_isWire_7 ?_
  refine g_callS (rest := []) hX (c_X7_isIn l D cC cI cJ cO w (nI 0) ((nI (c 0 + c 1)) - (nI 1))) ok_X7_isIn (fun _ => rfl) (hd := dX7_isWire_8) gX7_isWire_X7_isIn ⟨by decide, by decide⟩ rfl (Nat.le_of_ble_eq_true rfl) ⟨Nat.zero_le _, Nat.zero_le _⟩ [] (by decide) rfl rfl ?_
  intro r_8 e_8
  rcases e_8 with ⟨rfl, p_8⟩ | ⟨rfl, p_8⟩
  · show GW X [(o, .inr (7, [.int (nI len), .ref ot, .ref on, .ref od, .ref ow, .int (nI ch), .int (nI va), .int (nI en), .ref oi, .ref oe, .ref op, .long aE, .long aP, .long lt])), (ot, .inl (cI, 200, .inl (fun j_ => nI (T j_)))), (on, .inl (cI, 78, .inl (fun j_ => nI (c j_)))), (od, .inl (cI, 78, .inl (fun j_ => nI (rd j_)))), (ow, .inl (cI, 468, .inl (fun j_ => nI (ww j_)))), (oi, .inl (cI, 32, .inl (fun j_ => nI (wi j_)))), (oe, .inl (cJ, 256, .inr (.inl EX))), (op, .inl (cJ, 256, .inr (.inl PA)))] [(0, .ref o), (1, .int w)] [.int (nI 1)] 11 0 0
    exact (hret (nI 1) _ _ (Or.inl ⟨rfl, (ii_vp (by omega)).mp p_8⟩)).2.2.1 _ rfl rfl (by decide) dX7_isWire_11
  · show GW X [(o, .inr (7, [.int (nI len), .ref ot, .ref on, .ref od, .ref ow, .int (nI ch), .int (nI va), .int (nI en), .ref oi, .ref oe, .ref op, .long aE, .long aP, .long lt])), (ot, .inl (cI, 200, .inl (fun j_ => nI (T j_)))), (on, .inl (cI, 78, .inl (fun j_ => nI (c j_)))), (od, .inl (cI, 78, .inl (fun j_ => nI (rd j_)))), (ow, .inl (cI, 468, .inl (fun j_ => nI (ww j_)))), (oi, .inl (cI, 32, .inl (fun j_ => nI (wi j_)))), (oe, .inl (cJ, 256, .inr (.inl EX))), (op, .inl (cJ, 256, .inr (.inl PA)))] [(0, .ref o), (1, .int w)] [.int (nI 0)] 11 0 0
    exact (hret (nI 0) _ _ (Or.inr ⟨rfl, fun z => p_8 ((ii_vp (by omega)).mpr z)⟩)).2.2.1 _ rfl rfl (by decide) dX7_isWire_11

theorem in_X7_isGate_7 : ∀ w ∈ wsX70, w ∈ wsX7_isGate := fun _ h => List.mem_cons_of_mem _ (List.mem_append_right _ h)
theorem ok_X7_isGate : gOK yX7_isGate wsX7_isGate ({ frames := 1, cells := 0, slots := 0, locals := 22 }) 2 1 := ⟨⟨_, _, _, rfl⟩, rfl, rfl, by decide, by decide, by decide +kernel⟩
set_option maxRecDepth 100000 in
set_option maxHeartbeats 4000000 in
theorem c_X7_isGate (l : Launch) (D : va_G) (cC cI cJ cO : ClassId) (o : Nat) (ot : Nat) (on : Nat) (od : Nat) (ow : Nat) (oi : Nat) (oe : Nat) (op : Nat) (len : Nat) (ch : Nat) (va : Nat) (en : Nat) (aE : Int64) (aP : Int64) (lt : Int64) (T : Nat → Nat) (c : Nat → Nat) (rd : Nat → Nat) (ww : Nat → Nat) (wi : Nat → Nat) (EX : Nat → Int64) (PA : Nat → Int64) (w : Int32) (b0 : c 0 ≤ 8) (b1 : c 1 ≤ 24) : CM (S := Int32) l D (tyL cC cI cJ cO) yX7_isGate wsX7_isGate ({ frames := 1, cells := 0, slots := 0, locals := 22 }) [.ref o, .int w] [(o, .inr (7, [.int (nI len), .ref ot, .ref on, .ref od, .ref ow, .int (nI ch), .int (nI va), .int (nI en), .ref oi, .ref oe, .ref op, .long aE, .long aP, .long lt])), (ot, .inl (cI, 200, .inl (fun j_ => nI (T j_)))), (on, .inl (cI, 78, .inl (fun j_ => nI (c j_)))), (od, .inl (cI, 78, .inl (fun j_ => nI (rd j_)))), (ow, .inl (cI, 468, .inl (fun j_ => nI (ww j_)))), (oi, .inl (cI, 32, .inl (fun j_ => nI (wi j_)))), (oe, .inl (cJ, 256, .inr (.inl EX))), (op, .inl (cJ, 256, .inr (.inl PA)))] (fun r => some (.int r)) (fun r => isB r (vp_in w (c 1))) (fun u_ => [(o, .inr (7, [.int (nI len), .ref ot, .ref on, .ref od, .ref ow, .int (nI ch), .int (nI va), .int (nI en), .ref oi, .ref oe, .ref op, .long aE, .long aP, .long lt])), (ot, .inl (cI, 200, .inl (fun j_ => nI (T j_)))), (on, .inl (cI, 78, .inl (fun j_ => nI (c j_)))), (od, .inl (cI, 78, .inl (fun j_ => nI (rd j_)))), (ow, .inl (cI, 468, .inl (fun j_ => nI (ww j_)))), (oi, .inl (cI, 32, .inl (fun j_ => nI (wi j_)))), (oe, .inl (cJ, 256, .inr (.inl EX))), (op, .inl (cJ, 256, .inr (.inl PA)))]) := by
  refine CM_in (cc := cX7_isGate) (maxL := 2) (ret := (some .boolean)) (by decide) rfl (Nat.le_of_ble_eq_true rfl) ?_
  intro X hX hret
  show GW X [(o, .inr (7, [.int (nI len), .ref ot, .ref on, .ref od, .ref ow, .int (nI ch), .int (nI va), .int (nI en), .ref oi, .ref oe, .ref op, .long aE, .long aP, .long lt])), (ot, .inl (cI, 200, .inl (fun j_ => nI (T j_)))), (on, .inl (cI, 78, .inl (fun j_ => nI (c j_)))), (od, .inl (cI, 78, .inl (fun j_ => nI (rd j_)))), (ow, .inl (cI, 468, .inl (fun j_ => nI (ww j_)))), (oi, .inl (cI, 32, .inl (fun j_ => nI (wi j_)))), (oe, .inl (cJ, 256, .inr (.inl EX))), (op, .inl (cJ, 256, .inr (.inl PA)))] [(0, .ref o), (1, .int w)] [] 0 0 0
  refine g_iload_n 1 (hd := dX7_isGate_0) (C := hX) rfl rfl ?_
  refine g_iconst (v := nI 0) hX dX7_isGate_1 (by decide) ?_
  refine g_aload_n 0 (hd := dX7_isGate_2) (C := hX) rfl rfl ?_
  refine g_get (hd := dX7_isGate_3) (C := hX) 0 2 rfl rfl in_X7_isGate_7 (by decide) (by decide +kernel) rfl ?_
  refine g_iconst (v := nI 1) hX dX7_isGate_6 (by decide) ?_
  refine g_iald (hd := dX7_isGate_7) (C := hX) 2 1 rfl rfl (by omega) (by decide) ?_
  refine g_iconst (v := nI 1) hX dX7_isGate_8 (by decide) ?_
  refine g_isub hX dX7_isGate_9 ?_
  refine g_callS (rest := []) hX (c_X7_isIn l D cC cI cJ cO w (nI 0) ((nI (c 1)) - (nI 1))) ok_X7_isIn (fun _ => rfl) (hd := dX7_isGate_10) gX7_isGate_X7_isIn ⟨by decide, by decide⟩ rfl (Nat.le_of_ble_eq_true rfl) ⟨Nat.zero_le _, Nat.zero_le _⟩ [] (by decide) rfl rfl ?_
  intro r_10 e_10
  rcases e_10 with ⟨rfl, p_10⟩ | ⟨rfl, p_10⟩
  · show GW X [(o, .inr (7, [.int (nI len), .ref ot, .ref on, .ref od, .ref ow, .int (nI ch), .int (nI va), .int (nI en), .ref oi, .ref oe, .ref op, .long aE, .long aP, .long lt])), (ot, .inl (cI, 200, .inl (fun j_ => nI (T j_)))), (on, .inl (cI, 78, .inl (fun j_ => nI (c j_)))), (od, .inl (cI, 78, .inl (fun j_ => nI (rd j_)))), (ow, .inl (cI, 468, .inl (fun j_ => nI (ww j_)))), (oi, .inl (cI, 32, .inl (fun j_ => nI (wi j_)))), (oe, .inl (cJ, 256, .inr (.inl EX))), (op, .inl (cJ, 256, .inr (.inl PA)))] [(0, .ref o), (1, .int w)] [.int (nI 1)] 13 0 0
    exact (hret (nI 1) _ _ (Or.inl ⟨rfl, (ii_vp (by omega)).mp p_10⟩)).2.2.1 _ rfl rfl (by decide) dX7_isGate_13
  · show GW X [(o, .inr (7, [.int (nI len), .ref ot, .ref on, .ref od, .ref ow, .int (nI ch), .int (nI va), .int (nI en), .ref oi, .ref oe, .ref op, .long aE, .long aP, .long lt])), (ot, .inl (cI, 200, .inl (fun j_ => nI (T j_)))), (on, .inl (cI, 78, .inl (fun j_ => nI (c j_)))), (od, .inl (cI, 78, .inl (fun j_ => nI (rd j_)))), (ow, .inl (cI, 468, .inl (fun j_ => nI (ww j_)))), (oi, .inl (cI, 32, .inl (fun j_ => nI (wi j_)))), (oe, .inl (cJ, 256, .inr (.inl EX))), (op, .inl (cJ, 256, .inr (.inl PA)))] [(0, .ref o), (1, .int w)] [.int (nI 0)] 13 0 0
    exact (hret (nI 0) _ _ (Or.inr ⟨rfl, fun z => p_10 ((ii_vp (by omega)).mpr z)⟩)).2.2.1 _ rfl rfl (by decide) dX7_isGate_13

theorem in_X7_isStuck_7 : ∀ w ∈ wsX70, w ∈ wsX7_isStuck := fun _ h => List.mem_cons_of_mem _ (List.mem_append_right _ h)
theorem ok_X7_isStuck : gOK yX7_isStuck wsX7_isStuck ({ frames := 1, cells := 0, slots := 0, locals := 22 }) 2 1 := ⟨⟨_, _, _, rfl⟩, rfl, rfl, by decide, by decide, by decide +kernel⟩
set_option maxRecDepth 100000 in
set_option maxHeartbeats 4000000 in
theorem c_X7_isStuck (l : Launch) (D : va_G) (cC cI cJ cO : ClassId) (o : Nat) (ot : Nat) (on : Nat) (od : Nat) (ow : Nat) (oi : Nat) (oe : Nat) (op : Nat) (len : Nat) (ch : Nat) (va : Nat) (en : Nat) (aE : Int64) (aP : Int64) (lt : Int64) (T : Nat → Nat) (c : Nat → Nat) (rd : Nat → Nat) (ww : Nat → Nat) (wi : Nat → Nat) (EX : Nat → Int64) (PA : Nat → Int64) (w : Int32) (b0 : c 0 ≤ 8) (b1 : c 1 ≤ 24) : CM (S := Int32) l D (tyL cC cI cJ cO) yX7_isStuck wsX7_isStuck ({ frames := 1, cells := 0, slots := 0, locals := 22 }) [.ref o, .int w] [(o, .inr (7, [.int (nI len), .ref ot, .ref on, .ref od, .ref ow, .int (nI ch), .int (nI va), .int (nI en), .ref oi, .ref oe, .ref op, .long aE, .long aP, .long lt])), (ot, .inl (cI, 200, .inl (fun j_ => nI (T j_)))), (on, .inl (cI, 78, .inl (fun j_ => nI (c j_)))), (od, .inl (cI, 78, .inl (fun j_ => nI (rd j_)))), (ow, .inl (cI, 468, .inl (fun j_ => nI (ww j_)))), (oi, .inl (cI, 32, .inl (fun j_ => nI (wi j_)))), (oe, .inl (cJ, 256, .inr (.inl EX))), (op, .inl (cJ, 256, .inr (.inl PA)))] (fun r => some (.int r)) (fun r => isB r (vp_in w (2 * (c 0 + c 1)))) (fun u_ => [(o, .inr (7, [.int (nI len), .ref ot, .ref on, .ref od, .ref ow, .int (nI ch), .int (nI va), .int (nI en), .ref oi, .ref oe, .ref op, .long aE, .long aP, .long lt])), (ot, .inl (cI, 200, .inl (fun j_ => nI (T j_)))), (on, .inl (cI, 78, .inl (fun j_ => nI (c j_)))), (od, .inl (cI, 78, .inl (fun j_ => nI (rd j_)))), (ow, .inl (cI, 468, .inl (fun j_ => nI (ww j_)))), (oi, .inl (cI, 32, .inl (fun j_ => nI (wi j_)))), (oe, .inl (cJ, 256, .inr (.inl EX))), (op, .inl (cJ, 256, .inr (.inl PA)))]) := by
  refine CM_in (cc := cX7_isStuck) (maxL := 2) (ret := (some .boolean)) (by decide) rfl (Nat.le_of_ble_eq_true rfl) ?_
  intro X hX hret
  show GW X [(o, .inr (7, [.int (nI len), .ref ot, .ref on, .ref od, .ref ow, .int (nI ch), .int (nI va), .int (nI en), .ref oi, .ref oe, .ref op, .long aE, .long aP, .long lt])), (ot, .inl (cI, 200, .inl (fun j_ => nI (T j_)))), (on, .inl (cI, 78, .inl (fun j_ => nI (c j_)))), (od, .inl (cI, 78, .inl (fun j_ => nI (rd j_)))), (ow, .inl (cI, 468, .inl (fun j_ => nI (ww j_)))), (oi, .inl (cI, 32, .inl (fun j_ => nI (wi j_)))), (oe, .inl (cJ, 256, .inr (.inl EX))), (op, .inl (cJ, 256, .inr (.inl PA)))] [(0, .ref o), (1, .int w)] [] 0 0 0
  refine g_iload_n 1 (hd := dX7_isStuck_0) (C := hX) rfl rfl ?_
  refine g_iconst (v := nI 0) hX dX7_isStuck_1 (by decide) ?_
  refine g_iconst (v := nI 2) hX dX7_isStuck_2 (by decide) ?_
  refine g_aload_n 0 (hd := dX7_isStuck_3) (C := hX) rfl rfl ?_
  refine g_callVs (rest := [.int (nI 2), .int (nI 0), .int w]) hX (c_X7_wires l D cC cI cJ cO o ot on od ow oi oe op len ch va en aE aP lt T c rd ww wi EX PA) ok_X7_wires rfl 0 rfl rfl (hd := dX7_isStuck_4) gX7_isStuck_X7_wires ⟨by decide, by decide⟩ rfl (Nat.le_of_ble_eq_true rfl) ⟨Nat.zero_le _, Nat.zero_le _⟩ [0, 1, 2, 3, 4, 5, 6, 7] (by decide) rfl rfl ?_
  intro r_4 e_4
  subst e_4
  show GW X [(o, .inr (7, [.int (nI len), .ref ot, .ref on, .ref od, .ref ow, .int (nI ch), .int (nI va), .int (nI en), .ref oi, .ref oe, .ref op, .long aE, .long aP, .long lt])), (ot, .inl (cI, 200, .inl (fun j_ => nI (T j_)))), (on, .inl (cI, 78, .inl (fun j_ => nI (c j_)))), (od, .inl (cI, 78, .inl (fun j_ => nI (rd j_)))), (ow, .inl (cI, 468, .inl (fun j_ => nI (ww j_)))), (oi, .inl (cI, 32, .inl (fun j_ => nI (wi j_)))), (oe, .inl (cJ, 256, .inr (.inl EX))), (op, .inl (cJ, 256, .inr (.inl PA)))] [(0, .ref o), (1, .int w)] [.int (nI (c 0 + c 1)), .int (nI 2), .int (nI 0), .int w] 7 0 0
  refine g_imul hX dX7_isStuck_7 ?_
  refine g_top (y := (nI (2 * (c 0 + c 1)))) (pk_mul _ _) ?_
  refine g_iconst (v := nI 1) hX dX7_isStuck_8 (by decide) ?_
  refine g_isub hX dX7_isStuck_9 ?_
  refine g_callS (rest := []) hX (c_X7_isIn l D cC cI cJ cO w (nI 0) ((nI (2 * (c 0 + c 1))) - (nI 1))) ok_X7_isIn (fun _ => rfl) (hd := dX7_isStuck_10) gX7_isStuck_X7_isIn ⟨by decide, by decide⟩ rfl (Nat.le_of_ble_eq_true rfl) ⟨Nat.zero_le _, Nat.zero_le _⟩ [] (by decide) rfl rfl ?_
  intro r_10 e_10
  rcases e_10 with ⟨rfl, p_10⟩ | ⟨rfl, p_10⟩
  · show GW X [(o, .inr (7, [.int (nI len), .ref ot, .ref on, .ref od, .ref ow, .int (nI ch), .int (nI va), .int (nI en), .ref oi, .ref oe, .ref op, .long aE, .long aP, .long lt])), (ot, .inl (cI, 200, .inl (fun j_ => nI (T j_)))), (on, .inl (cI, 78, .inl (fun j_ => nI (c j_)))), (od, .inl (cI, 78, .inl (fun j_ => nI (rd j_)))), (ow, .inl (cI, 468, .inl (fun j_ => nI (ww j_)))), (oi, .inl (cI, 32, .inl (fun j_ => nI (wi j_)))), (oe, .inl (cJ, 256, .inr (.inl EX))), (op, .inl (cJ, 256, .inr (.inl PA)))] [(0, .ref o), (1, .int w)] [.int (nI 1)] 13 0 0
    exact (hret (nI 1) _ _ (Or.inl ⟨rfl, (ii_vp (by omega)).mp p_10⟩)).2.2.1 _ rfl rfl (by decide) dX7_isStuck_13
  · show GW X [(o, .inr (7, [.int (nI len), .ref ot, .ref on, .ref od, .ref ow, .int (nI ch), .int (nI va), .int (nI en), .ref oi, .ref oe, .ref op, .long aE, .long aP, .long lt])), (ot, .inl (cI, 200, .inl (fun j_ => nI (T j_)))), (on, .inl (cI, 78, .inl (fun j_ => nI (c j_)))), (od, .inl (cI, 78, .inl (fun j_ => nI (rd j_)))), (ow, .inl (cI, 468, .inl (fun j_ => nI (ww j_)))), (oi, .inl (cI, 32, .inl (fun j_ => nI (wi j_)))), (oe, .inl (cJ, 256, .inr (.inl EX))), (op, .inl (cJ, 256, .inr (.inl PA)))] [(0, .ref o), (1, .int w)] [.int (nI 0)] 13 0 0
    exact (hret (nI 0) _ _ (Or.inr ⟨rfl, fun z => p_10 ((ii_vp (by omega)).mpr z)⟩)).2.2.1 _ rfl rfl (by decide) dX7_isStuck_13

theorem in_X7_isWord_7 : ∀ w ∈ wsX70, w ∈ wsX7_isWord := fun _ h => List.mem_cons_of_mem _ (List.mem_append_right _ h)
theorem ok_X7_isWord : gOK yX7_isWord wsX7_isWord ({ frames := 1, cells := 0, slots := 0, locals := 22 }) 2 1 := ⟨⟨_, _, _, rfl⟩, rfl, rfl, by decide, by decide, by decide +kernel⟩
set_option maxRecDepth 100000 in
set_option maxHeartbeats 4000000 in
theorem c_X7_isWord (l : Launch) (D : va_G) (cC cI cJ cO : ClassId) (o : Nat) (ot : Nat) (on : Nat) (od : Nat) (ow : Nat) (oi : Nat) (oe : Nat) (op : Nat) (len : Nat) (ch : Nat) (va : Nat) (en : Nat) (aE : Int64) (aP : Int64) (lt : Int64) (T : Nat → Nat) (c : Nat → Nat) (rd : Nat → Nat) (ww : Nat → Nat) (wi : Nat → Nat) (EX : Nat → Int64) (PA : Nat → Int64) (w : Int32) (b0 : c 0 ≤ 8) : CM (S := Int32) l D (tyL cC cI cJ cO) yX7_isWord wsX7_isWord ({ frames := 1, cells := 0, slots := 0, locals := 22 }) [.ref o, .int w] [(o, .inr (7, [.int (nI len), .ref ot, .ref on, .ref od, .ref ow, .int (nI ch), .int (nI va), .int (nI en), .ref oi, .ref oe, .ref op, .long aE, .long aP, .long lt])), (ot, .inl (cI, 200, .inl (fun j_ => nI (T j_)))), (on, .inl (cI, 78, .inl (fun j_ => nI (c j_)))), (od, .inl (cI, 78, .inl (fun j_ => nI (rd j_)))), (ow, .inl (cI, 468, .inl (fun j_ => nI (ww j_)))), (oi, .inl (cI, 32, .inl (fun j_ => nI (wi j_)))), (oe, .inl (cJ, 256, .inr (.inl EX))), (op, .inl (cJ, 256, .inr (.inl PA)))] (fun r => some (.int r)) (fun r => isB r (vp_in w (2 ^ c 0))) (fun u_ => [(o, .inr (7, [.int (nI len), .ref ot, .ref on, .ref od, .ref ow, .int (nI ch), .int (nI va), .int (nI en), .ref oi, .ref oe, .ref op, .long aE, .long aP, .long lt])), (ot, .inl (cI, 200, .inl (fun j_ => nI (T j_)))), (on, .inl (cI, 78, .inl (fun j_ => nI (c j_)))), (od, .inl (cI, 78, .inl (fun j_ => nI (rd j_)))), (ow, .inl (cI, 468, .inl (fun j_ => nI (ww j_)))), (oi, .inl (cI, 32, .inl (fun j_ => nI (wi j_)))), (oe, .inl (cJ, 256, .inr (.inl EX))), (op, .inl (cJ, 256, .inr (.inl PA)))]) := by
  refine CM_in (cc := cX7_isWord) (maxL := 2) (ret := (some .boolean)) (by decide) rfl (Nat.le_of_ble_eq_true rfl) ?_
  intro X hX hret
  show GW X [(o, .inr (7, [.int (nI len), .ref ot, .ref on, .ref od, .ref ow, .int (nI ch), .int (nI va), .int (nI en), .ref oi, .ref oe, .ref op, .long aE, .long aP, .long lt])), (ot, .inl (cI, 200, .inl (fun j_ => nI (T j_)))), (on, .inl (cI, 78, .inl (fun j_ => nI (c j_)))), (od, .inl (cI, 78, .inl (fun j_ => nI (rd j_)))), (ow, .inl (cI, 468, .inl (fun j_ => nI (ww j_)))), (oi, .inl (cI, 32, .inl (fun j_ => nI (wi j_)))), (oe, .inl (cJ, 256, .inr (.inl EX))), (op, .inl (cJ, 256, .inr (.inl PA)))] [(0, .ref o), (1, .int w)] [] 0 0 0
  refine g_iload_n 1 (hd := dX7_isWord_0) (C := hX) rfl rfl ?_
  refine g_iconst (v := nI 0) hX dX7_isWord_1 (by decide) ?_
  refine g_iconst (v := nI 1) hX dX7_isWord_2 (by decide) ?_
  refine g_aload_n 0 (hd := dX7_isWord_3) (C := hX) rfl rfl ?_
  refine g_get (hd := dX7_isWord_4) (C := hX) 0 2 rfl rfl in_X7_isWord_7 (by decide) (by decide +kernel) rfl ?_
  refine g_iconst (v := nI 0) hX dX7_isWord_7 (by decide) ?_
  refine g_iald (hd := dX7_isWord_8) (C := hX) 2 1 rfl rfl (by omega) (by decide) ?_
  refine g_ishl hX dX7_isWord_9 ?_
  refine g_top (y := (nI (2 ^ c 0))) (gl_shl1 (by omega)) ?_
  refine g_iconst (v := nI 1) hX dX7_isWord_10 (by decide) ?_
  refine g_isub hX dX7_isWord_11 ?_
  refine g_callS (rest := []) hX (c_X7_isIn l D cC cI cJ cO w (nI 0) ((nI (2 ^ c 0)) - (nI 1))) ok_X7_isIn (fun _ => rfl) (hd := dX7_isWord_12) gX7_isWord_X7_isIn ⟨by decide, by decide⟩ rfl (Nat.le_of_ble_eq_true rfl) ⟨Nat.zero_le _, Nat.zero_le _⟩ [] (by decide) rfl rfl ?_
  intro r_12 e_12
  rcases e_12 with ⟨rfl, p_12⟩ | ⟨rfl, p_12⟩
  · show GW X [(o, .inr (7, [.int (nI len), .ref ot, .ref on, .ref od, .ref ow, .int (nI ch), .int (nI va), .int (nI en), .ref oi, .ref oe, .ref op, .long aE, .long aP, .long lt])), (ot, .inl (cI, 200, .inl (fun j_ => nI (T j_)))), (on, .inl (cI, 78, .inl (fun j_ => nI (c j_)))), (od, .inl (cI, 78, .inl (fun j_ => nI (rd j_)))), (ow, .inl (cI, 468, .inl (fun j_ => nI (ww j_)))), (oi, .inl (cI, 32, .inl (fun j_ => nI (wi j_)))), (oe, .inl (cJ, 256, .inr (.inl EX))), (op, .inl (cJ, 256, .inr (.inl PA)))] [(0, .ref o), (1, .int w)] [.int (nI 1)] 15 0 0
    exact (hret (nI 1) _ _ (by have := p2_8 b0; exact Or.inl ⟨rfl, (ii_vp (by omega)).mp p_12⟩)).2.2.1 _ rfl rfl (by decide) dX7_isWord_15
  · show GW X [(o, .inr (7, [.int (nI len), .ref ot, .ref on, .ref od, .ref ow, .int (nI ch), .int (nI va), .int (nI en), .ref oi, .ref oe, .ref op, .long aE, .long aP, .long lt])), (ot, .inl (cI, 200, .inl (fun j_ => nI (T j_)))), (on, .inl (cI, 78, .inl (fun j_ => nI (c j_)))), (od, .inl (cI, 78, .inl (fun j_ => nI (rd j_)))), (ow, .inl (cI, 468, .inl (fun j_ => nI (ww j_)))), (oi, .inl (cI, 32, .inl (fun j_ => nI (wi j_)))), (oe, .inl (cJ, 256, .inr (.inl EX))), (op, .inl (cJ, 256, .inr (.inl PA)))] [(0, .ref o), (1, .int w)] [.int (nI 0)] 15 0 0
    exact (hret (nI 0) _ _ (by have := p2_8 b0; exact Or.inr ⟨rfl, fun z => p_12 ((ii_vp (by omega)).mpr z)⟩)).2.2.1 _ rfl rfl (by decide) dX7_isWord_15

theorem ok_X7_isValid : gOK yX7_isValid wsX7_isValid ({ frames := 0, cells := 0, slots := 0, locals := 0 }) 1 1 := ⟨⟨_, _, _, rfl⟩, rfl, rfl, by decide, by decide, by decide +kernel⟩
set_option maxRecDepth 100000 in
set_option maxHeartbeats 4000000 in
theorem c_X7_isValid (l : Launch) (D : va_G) (cC cI cJ cO : ClassId) (n : Nat) (ho : n < 4) : CM (S := Int32) l D (tyL cC cI cJ cO) yX7_isValid wsX7_isValid ({ frames := 0, cells := 0, slots := 0, locals := 0 }) [.int (nI n)] [] (fun r => some (.int r)) (fun r => isB r (n = 1 ∨ n = 2)) (fun u_ => []) := by
  refine CM_in (cc := cX7_isValid) (maxL := 1) (ret := (some .boolean)) (by decide) rfl (Nat.le_of_ble_eq_true rfl) ?_
  intro X hX hret
  show GW X [] [(0, .int (nI n))] [] 0 0 0
  refine g_iload_n 0 (hd := dX7_isValid_0) (C := hX) rfl rfl ?_
  refine g_iconst (v := nI 1) hX dX7_isValid_1 (by decide) ?_
  refine g_icmp_eqN 10 (hd := dX7_isValid_2) (C := hX) (by decide) (by omega) (by omega) (fun c_2 => ?_) (fun c_2 => ?_)
  · refine g_iconst (v := nI 1) hX dX7_isValid_10 (by decide) ?_
    refine g_goto 15 (hd := dX7_isValid_11) (C := hX) (by decide) ?_
    exact (hret (nI 1) _ _ (by first | exact Or.inl ⟨rfl, Or.inl c_2⟩ | exact Or.inl ⟨rfl, Or.inr c_7⟩ | exact Or.inr ⟨rfl, fun z => by omega⟩)).2.2.1 _ rfl rfl (by decide) dX7_isValid_15
  · refine g_iload_n 0 (hd := dX7_isValid_5) (C := hX) rfl rfl ?_
    refine g_iconst (v := nI 2) hX dX7_isValid_6 (by decide) ?_
    refine g_icmp_neN 14 (hd := dX7_isValid_7) (C := hX) (by decide) (by omega) (by omega) (fun c_7 => ?_) (fun c_7 => ?_)
    · refine g_iconst (v := nI 0) hX dX7_isValid_14 (by decide) ?_
      exact (hret (nI 0) _ _ (by first | exact Or.inl ⟨rfl, Or.inl c_2⟩ | exact Or.inl ⟨rfl, Or.inr c_7⟩ | exact Or.inr ⟨rfl, fun z => by omega⟩)).2.2.1 _ rfl rfl (by decide) dX7_isValid_15
    · refine g_iconst (v := nI 1) hX dX7_isValid_10 (by decide) ?_
      refine g_goto 15 (hd := dX7_isValid_11) (C := hX) (by decide) ?_
      exact (hret (nI 1) _ _ (by first | exact Or.inl ⟨rfl, Or.inl c_2⟩ | exact Or.inl ⟨rfl, Or.inr c_7⟩ | exact Or.inr ⟨rfl, fun z => by omega⟩)).2.2.1 _ rfl rfl (by decide) dX7_isValid_15

theorem ok_X7_ones : gOK yX7_ones wsX7_ones ({ frames := 0, cells := 0, slots := 0, locals := 0 }) 3 1 := ⟨⟨_, _, _, rfl⟩, rfl, rfl, by decide, by decide, by decide +kernel⟩
set_option maxRecDepth 100000 in
set_option maxHeartbeats 4000000 in
theorem c_X7_ones (l : Launch) (D : va_G) (cC cI cJ cO : ClassId) (w : Nat) (hw : w < 256) : CM (S := Int32) l D (tyL cC cI cJ cO) yX7_ones wsX7_ones ({ frames := 0, cells := 0, slots := 0, locals := 0 }) [.int (nI w)] [] (fun r => some (.int r)) (fun r => r = nI (ones8 w)) (fun u_ => []) := by
  refine CM_in (cc := cX7_ones) (maxL := 3) (ret := (some .int)) (by decide) rfl (Nat.le_of_ble_eq_true rfl) ?_
  intro X hX hret
  show GW X [] [(0, .int (nI w))] [] 0 0 0
  refine g_iconst (v := nI 0) hX dX7_ones_0 (by decide) ?_
  refine g_istore_n [(0, .int (nI w)), (1, .int (nI 0))] [1, 0] (hd := dX7_ones_1) (C := hX) rfl (by decide) rfl ?_
  refine g_iconst (v := nI 0) hX dX7_ones_2 (by decide) ?_
  refine g_istore_n [(0, .int (nI w)), (1, .int (nI 0)), (2, .int (nI 0))] [1, 2, 0] (hd := dX7_ones_3) (C := hX) rfl (by decide) rfl ?_
  have L_4 : ∀ (n_4 : Nat) (i : Nat), 8 - i < n_4 → (i ≤ 8) → GW X [] [(0, .int (nI w)), (1, .int (nI (on8 w i))), (2, .int (nI i))] [] 4 0 0 := by
    intro n_4
    induction n_4 with
    | zero => intro i hm_4; exact absurd hm_4 (Nat.not_lt_zero _)
    | succ n_4 ih_4 =>
      intro i hm_4 hiL
      refine g_iload_n 2 (hd := dX7_ones_4) (C := hX) rfl rfl ?_
      refine g_bipush (v := nI 8) hX dX7_ones_5 (by decide) ?_
      refine g_icmp_geN 24 (hd := dX7_ones_7) (C := hX) (by decide) (by omega) (by omega) (fun c_7 => ?_) (fun c_7 => ?_)
      · refine g_iload_n 1 (hd := dX7_ones_24) (C := hX) rfl rfl ?_
        exact (hret (nI (on8 w i)) _ _ (by rw [show i = 8 from by omega, on8_8])).2.1 _ rfl rfl dX7_ones_25
      · refine g_iload_n 1 (hd := dX7_ones_10) (C := hX) rfl rfl ?_
        refine g_iload_n 0 (hd := dX7_ones_11) (C := hX) rfl rfl ?_
        refine g_iload_n 2 (hd := dX7_ones_12) (C := hX) rfl rfl ?_
        refine g_ishr hX dX7_ones_13 ?_
        refine g_top (y := (nI (w / 2 ^ i))) (gl_shr (by omega) (by omega)) ?_
        refine g_iconst (v := nI 1) hX dX7_ones_14 (by decide) ?_
        refine g_iand hX dX7_ones_15 ?_
        refine g_top (y := (nI (w / 2 ^ i % 2))) (by rw [nx_and, Nat.and_one_is_mod]) ?_
        refine g_iadd hX dX7_ones_16 ?_
        refine g_top (y := (nI ((on8 w i) + (w / 2 ^ i % 2)))) (nI_add _ _) ?_
        refine g_istore_n [(0, .int (nI w)), (1, .int (nI ((on8 w i) + (w / 2 ^ i % 2)))), (2, .int (nI i))] [1, 0, 2] (hd := dX7_ones_17) (C := hX) rfl (by decide) rfl ?_
        refine g_iinc (v := (nI (i + 1))) 2 [(0, .int (nI w)), (1, .int (nI ((on8 w i) + (w / 2 ^ i % 2)))), (2, .int (nI (i + 1)))] [1, 2, 0] (hd := dX7_ones_18) (C := hX) rfl (nI_1 _) (by decide) rfl ?_
        refine g_goto 4 (hd := dX7_ones_21) (C := hX) (by decide) ?_
        refine g_lve [(0, .int (nI w)), (1, .int (nI (on8 w (i + 1)))), (2, .int (nI (i + 1)))] rfl ?_
        exact ih_4 (i + 1) (by omega) (by omega)
  refine g_lve [(0, .int (nI w)), (1, .int (nI (on8 w 0))), (2, .int (nI 0))] rfl ?_
  exact L_4 _ 0 (Nat.lt_succ_self _) (by decide)

theorem in_X7_all_7 : ∀ w ∈ wsX70, w ∈ wsX7_all := fun _ h => List.mem_cons_of_mem _ (List.mem_append_right _ h)
theorem ok_X7_all : gOK yX7_all wsX7_all ({ frames := 0, cells := 0, slots := 0, locals := 0 }) 1 0 := ⟨⟨_, _, _, rfl⟩, rfl, rfl, by decide, by decide, by decide +kernel⟩
set_option maxRecDepth 100000 in
set_option maxHeartbeats 4000000 in
theorem c_X7_all (l : Launch) (D : va_G) (cC cI cJ cO : ClassId) (o : Nat) (ot : Nat) (on : Nat) (od : Nat) (ow : Nat) (oi : Nat) (oe : Nat) (op : Nat) (len : Nat) (ch : Nat) (va : Nat) (en : Nat) (aE : Int64) (aP : Int64) (lt : Int64) (T : Nat → Nat) (c : Nat → Nat) (rd : Nat → Nat) (ww : Nat → Nat) (wi : Nat → Nat) (EX : Nat → Int64) (PA : Nat → Int64) (b0 : c 0 ≤ 8) : CM (S := Int32) l D (tyL cC cI cJ cO) yX7_all wsX7_all ({ frames := 0, cells := 0, slots := 0, locals := 0 }) [.ref o] [(o, .inr (7, [.int (nI len), .ref ot, .ref on, .ref od, .ref ow, .int (nI ch), .int (nI va), .int (nI en), .ref oi, .ref oe, .ref op, .long aE, .long aP, .long lt])), (ot, .inl (cI, 200, .inl (fun j_ => nI (T j_)))), (on, .inl (cI, 78, .inl (fun j_ => nI (c j_)))), (od, .inl (cI, 78, .inl (fun j_ => nI (rd j_)))), (ow, .inl (cI, 468, .inl (fun j_ => nI (ww j_)))), (oi, .inl (cI, 32, .inl (fun j_ => nI (wi j_)))), (oe, .inl (cJ, 256, .inr (.inl EX))), (op, .inl (cJ, 256, .inr (.inl PA)))] (fun r => some (.int r)) (fun r => r = nI (2 ^ c 0)) (fun u_ => [(o, .inr (7, [.int (nI len), .ref ot, .ref on, .ref od, .ref ow, .int (nI ch), .int (nI va), .int (nI en), .ref oi, .ref oe, .ref op, .long aE, .long aP, .long lt])), (ot, .inl (cI, 200, .inl (fun j_ => nI (T j_)))), (on, .inl (cI, 78, .inl (fun j_ => nI (c j_)))), (od, .inl (cI, 78, .inl (fun j_ => nI (rd j_)))), (ow, .inl (cI, 468, .inl (fun j_ => nI (ww j_)))), (oi, .inl (cI, 32, .inl (fun j_ => nI (wi j_)))), (oe, .inl (cJ, 256, .inr (.inl EX))), (op, .inl (cJ, 256, .inr (.inl PA)))]) := by
  refine CM_in (cc := cX7_all) (maxL := 1) (ret := (some .int)) (by decide) rfl (Nat.le_of_ble_eq_true rfl) ?_
  intro X hX hret
  show GW X [(o, .inr (7, [.int (nI len), .ref ot, .ref on, .ref od, .ref ow, .int (nI ch), .int (nI va), .int (nI en), .ref oi, .ref oe, .ref op, .long aE, .long aP, .long lt])), (ot, .inl (cI, 200, .inl (fun j_ => nI (T j_)))), (on, .inl (cI, 78, .inl (fun j_ => nI (c j_)))), (od, .inl (cI, 78, .inl (fun j_ => nI (rd j_)))), (ow, .inl (cI, 468, .inl (fun j_ => nI (ww j_)))), (oi, .inl (cI, 32, .inl (fun j_ => nI (wi j_)))), (oe, .inl (cJ, 256, .inr (.inl EX))), (op, .inl (cJ, 256, .inr (.inl PA)))] [(0, .ref o)] [] 0 0 0
  refine g_iconst (v := nI 1) hX dX7_all_0 (by decide) ?_
  refine g_aload_n 0 (hd := dX7_all_1) (C := hX) rfl rfl ?_
  refine g_get (hd := dX7_all_2) (C := hX) 0 2 rfl rfl in_X7_all_7 (by decide) (by decide +kernel) rfl ?_
  refine g_iconst (v := nI 0) hX dX7_all_5 (by decide) ?_
  refine g_iald (hd := dX7_all_6) (C := hX) 2 1 rfl rfl (by omega) (by decide) ?_
  refine g_ishl hX dX7_all_7 ?_
  refine g_top (y := (nI (2 ^ c 0))) (gl_shl1 (by omega)) ?_
  exact (hret (nI (2 ^ c 0)) _ _ rfl).2.1 _ rfl rfl dX7_all_8

theorem ok_X7_has : gOK yX7_has wsX7_has ({ frames := 0, cells := 0, slots := 0, locals := 0 }) 3 2 := ⟨⟨_, _, _, rfl⟩, rfl, rfl, by decide, by decide, by decide +kernel⟩
set_option maxRecDepth 100000 in
set_option maxHeartbeats 4000000 in
theorem c_X7_has (l : Launch) (D : va_G) (cC cI cJ cO : ClassId) (x : Int64) (t : Nat) (ht : t < 64) : CM (S := Int32) l D (tyL cC cI cJ cO) yX7_has wsX7_has ({ frames := 0, cells := 0, slots := 0, locals := 0 }) [.long x, .int (nI t)] [] (fun r => some (.int r)) (fun r => isB r (tb x t = 1)) (fun u_ => []) := by
  refine CM_in (cc := cX7_has) (maxL := 3) (ret := (some .boolean)) (by decide) rfl (Nat.le_of_ble_eq_true rfl) ?_
  intro X hX hret
  show GW X [] [(0, .long x), (2, .int (nI t))] [] 0 0 0
  refine g_lload_n 0 (hd := dX7_has_0) (C := hX) rfl rfl ?_
  refine g_iload_n 1 (hd := dX7_has_1) (C := hX) rfl rfl ?_
  refine g_lshr (v := (x >>> ((nI t).toInt64 &&& 63))) hX dX7_has_2 rfl ?_
  refine g_lconst (v := 1) hX dX7_has_3 rfl ?_
  refine g_land hX dX7_has_4 ?_
  refine g_lconst (v := 1) hX dX7_has_5 rfl ?_
  refine g_lcmp hX dX7_has_6 ?_
  refine g_if_ne 14 (hd := dX7_has_7) (C := hX) (by decide) (fun c_7 => ?_) (fun c_7 => ?_)
  · refine g_iconst (v := nI 0) hX dX7_has_14 (by decide) ?_
    exact (hret (nI 0) _ _ (by first | exact Or.inl ⟨rfl, (tb_has x ht).mp (lg_eq c_7)⟩ | exact Or.inr ⟨rfl, fun z => lg_ne c_7 ((tb_has x ht).mpr z)⟩)).2.2.1 _ rfl rfl (by decide) dX7_has_15
  · refine g_iconst (v := nI 1) hX dX7_has_10 (by decide) ?_
    refine g_goto 15 (hd := dX7_has_11) (C := hX) (by decide) ?_
    exact (hret (nI 1) _ _ (by first | exact Or.inl ⟨rfl, (tb_has x ht).mp (lg_eq c_7)⟩ | exact Or.inr ⟨rfl, fun z => lg_ne c_7 ((tb_has x ht).mpr z)⟩)).2.2.1 _ rfl rfl (by decide) dX7_has_15
