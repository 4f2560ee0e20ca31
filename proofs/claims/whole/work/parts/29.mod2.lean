/-! the reference's words and wires -/
theorem on_le2 {u w : Nat} (hu : u < 9) (hw : w < 256) : ones8 (w % 2 ^ u) ≤ u := by
  have h := on_le u hu w hw
  rw [Nat.and_two_pow_sub_one_eq_mod] at h
  exact h
def gvN (k a c : Nat) : Nat := if k < 3 then (if k % 3 = 0 then a &&& c else if k % 3 = 1 then a ||| c else a ^^^ c) else 1 - (if k % 3 = 0 then a &&& c else if k % 3 = 1 then a ||| c else a ^^^ c)
def rvX (c : Nat → Nat) (wd : Nat) (s t : Option Nat) (R : Nat → Nat) (w : Nat) : Nat := saS w (if w < c 0 then wd / 2 ^ w % 2 else gvN (c (6 + 3 * (w - c 0))) (R (c (6 + 3 * (w - c 0) + 1))) (R (c (6 + 3 * (w - c 0) + 2)))) s t
def rvA (c : Nat → Nat) (wd : Nat) (s t : Option Nat) (R : Nat → Nat) : Nat → Nat → Nat
  | 0 => R
  | w + 1 => nup (rvA c wd s t R w) w (rvX c wd s t (rvA c wd s t R w) w)
theorem bit2 : ∀ a, a < 2 → ∀ b, b < 2 → (a &&& b) < 2 ∧ (a ||| b) < 2 ∧ (a ^^^ b) < 2 := by decide +kernel
theorem gvN_le {k a b : Nat} (ha : a ≤ 1) (hb : b ≤ 1) : gvN k a b ≤ 1 := by
  have h := bit2 a (by omega) b (by omega)
  unfold gvN
  repeat' split
  all_goals omega
theorem saS_le {w v : Nat} {s t : Option Nat} (hv : v ≤ 1) : saS w v s t ≤ 1 := by
  unfold saS
  repeat' split
  all_goals omega
theorem rv_le {c : Nat → Nat} (hok : okC c) (wd : Nat) (s t : Option Nat) (R : Nat → Nat) : ∀ i, i ≤ c 0 + c 1 → ∀ j, j < i → rvA c wd s t R i j ≤ 1
  | 0, _, j, h => absurd h (Nat.not_lt_zero j)
  | i + 1, hi, j, hj => by
    have ih := rv_le hok wd s t R i (by omega)
    simp only [rvA]
    rcases Nat.lt_or_ge j i with q | q
    · rw [nup_ne (by omega)]; exact ih j q
    · have e : j = i := by omega
      subst e
      rw [nup_same]
      refine saS_le ?_
      split
      · omega
      · have g := hok.2.2.2.2.2.2 (j - c 0) (by omega)
        exact gvN_le (ih _ (by rw [show 6 + 3 * (j - c 0) + 1 = 7 + 3 * (j - c 0) by omega]; omega)) (ih _ (by rw [show 6 + 3 * (j - c 0) + 2 = 8 + 3 * (j - c 0) by omega]; omega))
/-- a stuck as the reference is given it: none below 0 -/
def soI (s : Int32) (o : Option Nat) : Prop := (o = none ∧ s < 0) ∨ ∃ j, o = some j ∧ j < 64 ∧ s = nI j
theorem so_n {s : Int32} (h : s < 0) : soI s none := Or.inl ⟨rfl, h⟩
theorem so_s {j : Nat} (h : j < 64) : soI (nI j) (some j) := Or.inr ⟨j, rfl, h, rfl⟩
theorem prs_1 {w i : Nat} (h : prs w i = true) (hn : ¬ w / 2 ^ (2 * i) % 2 = w / 2 ^ (2 * i + 1) % 2) : prs w (i + 1) = true := by simp [prs, h, hn]
theorem prs_0 {w i : Nat} (h : prs w i = false ∨ w / 2 ^ (2 * i) % 2 = w / 2 ^ (2 * i + 1) % 2) : prs w (i + 1) = false := by
  rcases h with h | h <;> simp [prs, h]
theorem tn_t {b : Bool} (h : ¬ b.toNat = 0) : b = true := by cases b <;> simp_all
theorem tn_f {b : Bool} (h : b.toNat = 0) : b = false := by cases b <;> simp_all

theorem in_X7_isCode_7 : ∀ w ∈ wsX70, w ∈ wsX7_isCode := fun _ h => List.mem_cons_of_mem _ (List.mem_append_right _ h)
theorem ok_X7_isCode : gOK yX7_isCode wsX7_isCode ({ frames := 1, cells := 0, slots := 0, locals := 22 }) 7 1 := ⟨⟨_, _, _, rfl⟩, rfl, rfl, by decide, by decide, by decide +kernel⟩
set_option maxRecDepth 100000 in
set_option maxHeartbeats 4000000 in
theorem c_X7_isCode (l : Launch) (D : va_G) (cC cI cJ cO : ClassId) (o : Nat) (ot : Nat) (on : Nat) (od : Nat) (ow : Nat) (oi : Nat) (oe : Nat) (op : Nat) (len : Nat) (ch : Nat) (va : Nat) (en : Nat) (aE : Int64) (aP : Int64) (lt : Int64) (T : Nat → Nat) (c : Nat → Nat) (rd : Nat → Nat) (ww : Nat → Nat) (wi : Nat → Nat) (EX : Nat → Int64) (PA : Nat → Int64) (w : Nat) (hw : w < 256) (b0 : c 0 ≤ 8) (hcd : cdOK (c 0) (c 4) (c 5)) : CM (S := Int32) l D (tyL cC cI cJ cO) yX7_isCode wsX7_isCode ({ frames := 1, cells := 0, slots := 0, locals := 22 }) [.ref o, .int (nI w)] [(o, .inr (7, [.int (nI len), .ref ot, .ref on, .ref od, .ref ow, .int (nI ch), .int (nI va), .int (nI en), .ref oi, .ref oe, .ref op, .long aE, .long aP, .long lt])), (ot, .inl (cI, 200, .inl (fun j_ => nI (T j_)))), (on, .inl (cI, 78, .inl (fun j_ => nI (c j_)))), (od, .inl (cI, 78, .inl (fun j_ => nI (rd j_)))), (ow, .inl (cI, 468, .inl (fun j_ => nI (ww j_)))), (oi, .inl (cI, 32, .inl (fun j_ => nI (wi j_)))), (oe, .inl (cJ, 256, .inr (.inl EX))), (op, .inl (cJ, 256, .inr (.inl PA)))] (fun r => some (.int r)) (fun r => isB r (inB c w = true)) (fun u_ => [(o, .inr (7, [.int (nI len), .ref ot, .ref on, .ref od, .ref ow, .int (nI ch), .int (nI va), .int (nI en), .ref oi, .ref oe, .ref op, .long aE, .long aP, .long lt])), (ot, .inl (cI, 200, .inl (fun j_ => nI (T j_)))), (on, .inl (cI, 78, .inl (fun j_ => nI (c j_)))), (od, .inl (cI, 78, .inl (fun j_ => nI (rd j_)))), (ow, .inl (cI, 468, .inl (fun j_ => nI (ww j_)))), (oi, .inl (cI, 32, .inl (fun j_ => nI (wi j_)))), (oe, .inl (cJ, 256, .inr (.inl EX))), (op, .inl (cJ, 256, .inr (.inl PA)))]) := by
  refine CM_in (cc := cX7_isCode) (maxL := 7) (ret := (some .boolean)) (by decide) rfl (Nat.le_of_ble_eq_true rfl) ?_
  intro X hX hret
  show GW X [(o, .inr (7, [.int (nI len), .ref ot, .ref on, .ref od, .ref ow, .int (nI ch), .int (nI va), .int (nI en), .ref oi, .ref oe, .ref op, .long aE, .long aP, .long lt])), (ot, .inl (cI, 200, .inl (fun j_ => nI (T j_)))), (on, .inl (cI, 78, .inl (fun j_ => nI (c j_)))), (od, .inl (cI, 78, .inl (fun j_ => nI (rd j_)))), (ow, .inl (cI, 468, .inl (fun j_ => nI (ww j_)))), (oi, .inl (cI, 32, .inl (fun j_ => nI (wi j_)))), (oe, .inl (cJ, 256, .inr (.inl EX))), (op, .inl (cJ, 256, .inr (.inl PA)))] [(0, .ref o), (1, .int (nI w))] [] 0 0 0
  refine g_aload_n 0 (hd := dX7_isCode_0) (C := hX) rfl rfl ?_
  refine g_get (hd := dX7_isCode_1) (C := hX) 0 2 rfl rfl in_X7_isCode_7 (by decide) (by decide +kernel) rfl ?_
  refine g_iconst (v := nI 0) hX dX7_isCode_4 (by decide) ?_
  refine g_iald (hd := dX7_isCode_5) (C := hX) 2 1 rfl rfl (by omega) (by decide) ?_
  refine g_istore_n [(0, .ref o), (1, .int (nI w)), (2, .int (nI (c 0)))] [1, 2, 0] (hd := dX7_isCode_6) (C := hX) rfl (by decide) rfl ?_
  refine g_aload_n 0 (hd := dX7_isCode_7) (C := hX) rfl rfl ?_
  refine g_get (hd := dX7_isCode_8) (C := hX) 0 2 rfl rfl in_X7_isCode_7 (by decide) (by decide +kernel) rfl ?_
  refine g_iconst (v := nI 5) hX dX7_isCode_11 (by decide) ?_
  refine g_iald (hd := dX7_isCode_12) (C := hX) 2 1 rfl rfl (by omega) (by decide) ?_
  refine g_istore_n [(0, .ref o), (1, .int (nI w)), (2, .int (nI (c 0))), (3, .int (nI (c 5)))] [1, 2, 3, 0] (hd := dX7_isCode_13) (C := hX) rfl (by decide) rfl ?_
  refine g_aload_n 0 (hd := dX7_isCode_14) (C := hX) rfl rfl ?_
  refine g_get (hd := dX7_isCode_15) (C := hX) 0 2 rfl rfl in_X7_isCode_7 (by decide) (by decide +kernel) rfl ?_
  refine g_iconst (v := nI 4) hX dX7_isCode_18 (by decide) ?_
  refine g_iald (hd := dX7_isCode_19) (C := hX) 2 1 rfl rfl (by omega) (by decide) ?_
  rcases cp_four hcd with k_20 | k_20 | k_20 | k_20
  · refine g_top (y := nI 0) (by rw [k_20]) ?_
    refine g_tableIn 48 (hd := dX7_isCode_20) (C := hX) (by decide) (by decide) rfl (by decide) ?_
    refine g_iconst (v := nI 1) hX dX7_isCode_48 (by decide) ?_
    exact (hret (nI 1) _ _ (Or.inl ⟨rfl, by simp [inB, inC, k_20]⟩)).2.2.1 _ rfl rfl (by decide) dX7_isCode_49
  · refine g_top (y := nI 1) (by rw [k_20]) ?_
    refine g_tableIn 50 (hd := dX7_isCode_20) (C := hX) (by decide) (by decide) rfl (by decide) ?_
    refine g_iload_n 1 (hd := dX7_isCode_50) (C := hX) rfl rfl ?_
    refine g_callS (rest := []) hX (c_X7_ones l D cC cI cJ cO w (by omega)) ok_X7_ones (fun _ => rfl) (hd := dX7_isCode_51) gX7_isCode_X7_ones ⟨by decide, by decide⟩ rfl (Nat.le_of_ble_eq_true rfl) ⟨Nat.zero_le _, Nat.zero_le _⟩ [] (by decide) rfl rfl ?_
    intro r_51 e_51
    subst e_51
    show GW X [(o, .inr (7, [.int (nI len), .ref ot, .ref on, .ref od, .ref ow, .int (nI ch), .int (nI va), .int (nI en), .ref oi, .ref oe, .ref op, .long aE, .long aP, .long lt])), (ot, .inl (cI, 200, .inl (fun j_ => nI (T j_)))), (on, .inl (cI, 78, .inl (fun j_ => nI (c j_)))), (od, .inl (cI, 78, .inl (fun j_ => nI (rd j_)))), (ow, .inl (cI, 468, .inl (fun j_ => nI (ww j_)))), (oi, .inl (cI, 32, .inl (fun j_ => nI (wi j_)))), (oe, .inl (cJ, 256, .inr (.inl EX))), (op, .inl (cJ, 256, .inr (.inl PA)))] [(0, .ref o), (1, .int (nI w)), (2, .int (nI (c 0))), (3, .int (nI (c 5)))] [.int (nI (ones8 w))] 54 0 0
    refine g_iload_n 3 (hd := dX7_isCode_54) (C := hX) rfl rfl ?_
    have q1 := ones8_le w
    have q2 : c 5 ≤ c 0 := by rcases hcd with h | h | h | h <;> omega
    refine g_icmp_neN 62 (hd := dX7_isCode_55) (C := hX) (by decide) (by omega) (by omega) (fun c_55 => ?_) (fun c_55 => ?_)
    · refine g_iconst (v := nI 0) hX dX7_isCode_62 (by decide) ?_
      exact (hret (nI 0) _ _ (Or.inr ⟨rfl, by simp [inB, inC, k_20, c_55]⟩)).2.2.1 _ rfl rfl (by decide) dX7_isCode_63
    · refine g_iconst (v := nI 1) hX dX7_isCode_58 (by decide) ?_
      refine g_goto 63 (hd := dX7_isCode_59) (C := hX) (by decide) ?_
      exact (hret (nI 1) _ _ (Or.inl ⟨rfl, by simp [inB, inC, k_20, c_55]⟩)).2.2.1 _ rfl rfl (by decide) dX7_isCode_63
  · refine g_top (y := nI 2) (by rw [k_20]) ?_
    refine g_tableIn 64 (hd := dX7_isCode_20) (C := hX) (by decide) (by decide) rfl (by decide) ?_
    have q2 : c 5 ≤ c 0 := by rcases hcd with h | h | h | h <;> omega
    refine g_iload_n 3 (hd := dX7_isCode_64) (C := hX) rfl rfl ?_
    refine g_iload_n 1 (hd := dX7_isCode_65) (C := hX) rfl rfl ?_
    refine g_iconst (v := nI 1) hX dX7_isCode_66 (by decide) ?_
    refine g_iload_n 3 (hd := dX7_isCode_67) (C := hX) rfl rfl ?_
    refine g_ishl hX dX7_isCode_68 ?_
    refine g_top (y := (nI (2 ^ c 5))) (gl_shl1 (by omega)) ?_
    refine g_iconst (v := nI 1) hX dX7_isCode_69 (by decide) ?_
    refine g_isub hX dX7_isCode_70 ?_
    refine g_top (y := (nI (2 ^ c 5 - 1))) (pk_sub Nat.one_le_two_pow) ?_
    refine g_iand hX dX7_isCode_71 ?_
    refine g_top (y := (nI (w % 2 ^ c 5))) (by rw [nx_and, Nat.and_two_pow_sub_one_eq_mod]) ?_
    refine g_callS (rest := [.int (nI (c 5))]) hX (c_X7_ones l D cC cI cJ cO (w % 2 ^ c 5) (Nat.lt_of_le_of_lt (Nat.mod_le _ _) hw)) ok_X7_ones (fun _ => rfl) (hd := dX7_isCode_72) gX7_isCode_X7_ones ⟨by decide, by decide⟩ rfl (Nat.le_of_ble_eq_true rfl) ⟨Nat.zero_le _, Nat.zero_le _⟩ [] (by decide) rfl rfl ?_
    intro r_72 e_72
    subst e_72
    show GW X [(o, .inr (7, [.int (nI len), .ref ot, .ref on, .ref od, .ref ow, .int (nI ch), .int (nI va), .int (nI en), .ref oi, .ref oe, .ref op, .long aE, .long aP, .long lt])), (ot, .inl (cI, 200, .inl (fun j_ => nI (T j_)))), (on, .inl (cI, 78, .inl (fun j_ => nI (c j_)))), (od, .inl (cI, 78, .inl (fun j_ => nI (rd j_)))), (ow, .inl (cI, 468, .inl (fun j_ => nI (ww j_)))), (oi, .inl (cI, 32, .inl (fun j_ => nI (wi j_)))), (oe, .inl (cJ, 256, .inr (.inl EX))), (op, .inl (cJ, 256, .inr (.inl PA)))] [(0, .ref o), (1, .int (nI w)), (2, .int (nI (c 0))), (3, .int (nI (c 5)))] [.int (nI (ones8 (w % 2 ^ c 5))), .int (nI (c 5))] 75 0 0
    refine g_isub hX dX7_isCode_75 ?_
    refine g_top (y := (nI (c 5 - ones8 (w % 2 ^ c 5)))) (pk_sub (on_le2 (by omega) hw)) ?_
    refine g_istore [(0, .ref o), (1, .int (nI w)), (2, .int (nI (c 0))), (3, .int (nI (c 5))), (4, .int (nI (c 5 - ones8 (w % 2 ^ c 5))))] [1, 2, 3, 4, 0] (hd := dX7_isCode_76) (C := hX) (by decide) rfl ?_
    refine g_iload_n 1 (hd := dX7_isCode_78) (C := hX) rfl rfl ?_
    refine g_iload_n 3 (hd := dX7_isCode_79) (C := hX) rfl rfl ?_
    refine g_ishr hX dX7_isCode_80 ?_
    refine g_top (y := (nI (w / 2 ^ c 5))) (gl_shr (by omega) (by omega)) ?_
    refine g_iload 4 (hd := dX7_isCode_81) (C := hX) rfl ?_
    refine g_iconst (v := nI 1) hX dX7_isCode_83 (by decide) ?_
    refine g_iload_n 2 (hd := dX7_isCode_84) (C := hX) rfl rfl ?_
    refine g_iload_n 3 (hd := dX7_isCode_85) (C := hX) rfl rfl ?_
    refine g_isub hX dX7_isCode_86 ?_
    refine g_top (y := (nI ((c 0) - (c 5)))) (pk_sub (by omega)) ?_
    refine g_ishl hX dX7_isCode_87 ?_
    refine g_top (y := (nI (2 ^ (c 0 - c 5)))) (gl_shl1 (by omega)) ?_
    have q3 := p2_8 (show c 0 - c 5 ≤ 8 by omega)
    have q4 := Nat.two_pow_pos (c 0 - c 5)
    refine g_irem hX dX7_isCode_88 (nI_ne0 q4 (by omega)) ?_
    refine g_top (y := (nI ((c 5 - ones8 (w % 2 ^ c 5)) % 2 ^ (c 0 - c 5)))) (pk_rem (by omega) q4 (by omega)) ?_
    have q5 : w / 2 ^ c 5 ≤ w := Nat.div_le_self _ _
    have q6 := Nat.mod_lt (c 5 - ones8 (w % 2 ^ c 5)) q4
    refine g_icmp_neN 96 (hd := dX7_isCode_89) (C := hX) (by decide) (by omega) (by omega) (fun c_89 => ?_) (fun c_89 => ?_)
    · refine g_iconst (v := nI 0) hX dX7_isCode_96 (by decide) ?_
      exact (hret (nI 0) _ _ (Or.inr ⟨rfl, fun z => c_89 (by rw [show inB c w = (w / 2 ^ c 5 == (c 5 - ones8 (w % 2 ^ c 5)) % 2 ^ (c 0 - c 5)) from by unfold inB inC; rw [k_20]; rfl] at z; exact beq_iff_eq.mp z)⟩)).2.2.1 _ rfl rfl (by decide) dX7_isCode_97
    · refine g_iconst (v := nI 1) hX dX7_isCode_92 (by decide) ?_
      refine g_goto 97 (hd := dX7_isCode_93) (C := hX) (by decide) ?_
      exact (hret (nI 1) _ _ (Or.inl ⟨rfl, by rw [show inB c w = (w / 2 ^ c 5 == (c 5 - ones8 (w % 2 ^ c 5)) % 2 ^ (c 0 - c 5)) from by unfold inB inC; rw [k_20]; rfl]; exact beq_iff_eq.mpr c_89⟩)).2.2.1 _ rfl rfl (by decide) dX7_isCode_97
  · refine g_top (y := nI 3) (by rw [k_20]) ?_
    refine g_tableOut 98 (hd := dX7_isCode_20) (C := hX) (by decide) (by decide) ?_
    have he : c 0 % 2 = 0 := by rcases hcd with h | h | h | h <;> omega
    refine g_iconst (v := nI 1) hX dX7_isCode_98 (by decide) ?_
    refine g_istore [(0, .ref o), (1, .int (nI w)), (2, .int (nI (c 0))), (3, .int (nI (c 5))), (5, .int (nI 1))] [1, 2, 3, 4, 0] (hd := dX7_isCode_99) (C := hX) (by decide) rfl ?_
    refine g_iconst (v := nI 0) hX dX7_isCode_101 (by decide) ?_
    refine g_istore [(0, .ref o), (1, .int (nI w)), (2, .int (nI (c 0))), (3, .int (nI (c 5))), (5, .int (nI 1)), (6, .int (nI 0))] [1, 2, 3, 4, 5, 0] (hd := dX7_isCode_102) (C := hX) (by decide) rfl ?_
    have L_104 : ∀ (n_104 : Nat) (i : Nat), c 0 / 2 - i < n_104 → (i ≤ c 0 / 2) → GW X [(o, .inr (7, [.int (nI len), .ref ot, .ref on, .ref od, .ref ow, .int (nI ch), .int (nI va), .int (nI en), .ref oi, .ref oe, .ref op, .long aE, .long aP, .long lt])), (ot, .inl (cI, 200, .inl (fun j_ => nI (T j_)))), (on, .inl (cI, 78, .inl (fun j_ => nI (c j_)))), (od, .inl (cI, 78, .inl (fun j_ => nI (rd j_)))), (ow, .inl (cI, 468, .inl (fun j_ => nI (ww j_)))), (oi, .inl (cI, 32, .inl (fun j_ => nI (wi j_)))), (oe, .inl (cJ, 256, .inr (.inl EX))), (op, .inl (cJ, 256, .inr (.inl PA)))] [(0, .ref o), (1, .int (nI w)), (2, .int (nI (c 0))), (3, .int (nI (c 5))), (5, .int (nI ((prs w i).toNat))), (6, .int (nI (2 * i)))] [] 104 0 0 := by
      intro n_104
      induction n_104 with
      | zero => intro i hm_104; exact absurd hm_104 (Nat.not_lt_zero _)
      | succ n_104 ih_104 =>
        intro i hm_104 hiL
        refine g_iload 5 (hd := dX7_isCode_104) (C := hX) rfl ?_
        refine g_iload_n 2 (hd := dX7_isCode_106) (C := hX) rfl rfl ?_
        refine g_icmp_geN 145 (hd := dX7_isCode_107) (C := hX) (by decide) (by omega) (by omega) (fun c_107 => ?_) (fun c_107 => ?_)
        · refine g_iload 4 (hd := dX7_isCode_145) (C := hX) rfl ?_
          exact (hret (nI ((prs w i).toNat)) _ _ (by rw [show i = c 0 / 2 from by omega]; have e9 : inB c w = prs w (c 0 / 2) := by { unfold inB inC; rw [k_20]; rfl }; rw [e9]; cases prs w (c 0 / 2); exact Or.inr ⟨rfl, by decide⟩; exact Or.inl ⟨rfl, rfl⟩)).2.2.1 _ rfl rfl (by cases prs w i; exact Or.inl rfl; exact Or.inr rfl) dX7_isCode_147
        · refine g_iload 4 (hd := dX7_isCode_110) (C := hX) rfl ?_
          have q7 := Bool.toNat_le (prs w i)
          refine g_if_eqN 136 (hd := dX7_isCode_112) (C := hX) (by decide) (by omega) (fun c_112 => ?_) (fun c_112 => ?_)
          · refine g_iconst (v := nI 0) hX dX7_isCode_136 (by decide) ?_
            refine g_istore [(0, .ref o), (1, .int (nI w)), (2, .int (nI (c 0))), (3, .int (nI (c 5))), (5, .int (nI 0)), (6, .int (nI (2 * i)))] [1, 2, 3, 4, 0, 5] (hd := dX7_isCode_137) (C := hX) (by decide) rfl ?_
            refine g_iinc (v := (nI (2 * i + 2))) 5 [(0, .ref o), (1, .int (nI w)), (2, .int (nI (c 0))), (3, .int (nI (c 5))), (5, .int (nI 0)), (6, .int (nI (2 * i + 2)))] [1, 2, 3, 4, 5, 0] (hd := dX7_isCode_139) (C := hX) rfl (nI_add _ 2) (by decide) rfl ?_
            refine g_goto 104 (hd := dX7_isCode_142) (C := hX) (by decide) ?_
            refine g_lve [(0, .ref o), (1, .int (nI w)), (2, .int (nI (c 0))), (3, .int (nI (c 5))), (5, .int (nI ((prs w (i + 1)).toNat))), (6, .int (nI (2 * (i + 1))))] (by rw [show 2 * i + 2 = 2 * (i + 1) from by omega]; first | (rw [prs_0 (Or.inl (tn_f c_112))]; rfl) | (rw [prs_0 (Or.inr c_129)]; rfl)) ?_
            exact ih_104 (i + 1) (by omega) (by omega)
          · refine g_iload_n 1 (hd := dX7_isCode_115) (C := hX) rfl rfl ?_
            refine g_iload 5 (hd := dX7_isCode_116) (C := hX) rfl ?_
            refine g_ishr hX dX7_isCode_118 ?_
            refine g_top (y := (nI (w / 2 ^ (2 * i)))) (gl_shr (by omega) (by omega)) ?_
            refine g_iconst (v := nI 1) hX dX7_isCode_119 (by decide) ?_
            refine g_iand hX dX7_isCode_120 ?_
            refine g_top (y := (nI (w / 2 ^ (2 * i) % 2))) (by rw [nx_and, Nat.and_one_is_mod]) ?_
            refine g_iload_n 1 (hd := dX7_isCode_121) (C := hX) rfl rfl ?_
            refine g_iload 5 (hd := dX7_isCode_122) (C := hX) rfl ?_
            refine g_iconst (v := nI 1) hX dX7_isCode_124 (by decide) ?_
            refine g_iadd hX dX7_isCode_125 ?_
            refine g_top (y := (nI ((2 * i) + 1))) (nI_add _ _) ?_
            refine g_ishr hX dX7_isCode_126 ?_
            refine g_top (y := (nI (w / 2 ^ (2 * i + 1)))) (gl_shr (by omega) (by omega)) ?_
            refine g_iconst (v := nI 1) hX dX7_isCode_127 (by decide) ?_
            refine g_iand hX dX7_isCode_128 ?_
            refine g_top (y := (nI (w / 2 ^ (2 * i + 1) % 2))) (by rw [nx_and, Nat.and_one_is_mod]) ?_
            refine g_icmp_eqN 136 (hd := dX7_isCode_129) (C := hX) (by decide) (by omega) (by omega) (fun c_129 => ?_) (fun c_129 => ?_)
            · refine g_iconst (v := nI 0) hX dX7_isCode_136 (by decide) ?_
              refine g_istore [(0, .ref o), (1, .int (nI w)), (2, .int (nI (c 0))), (3, .int (nI (c 5))), (5, .int (nI 0)), (6, .int (nI (2 * i)))] [1, 2, 3, 4, 0, 5] (hd := dX7_isCode_137) (C := hX) (by decide) rfl ?_
              refine g_iinc (v := (nI (2 * i + 2))) 5 [(0, .ref o), (1, .int (nI w)), (2, .int (nI (c 0))), (3, .int (nI (c 5))), (5, .int (nI 0)), (6, .int (nI (2 * i + 2)))] [1, 2, 3, 4, 5, 0] (hd := dX7_isCode_139) (C := hX) rfl (nI_add _ 2) (by decide) rfl ?_
              refine g_goto 104 (hd := dX7_isCode_142) (C := hX) (by decide) ?_
              refine g_lve [(0, .ref o), (1, .int (nI w)), (2, .int (nI (c 0))), (3, .int (nI (c 5))), (5, .int (nI ((prs w (i + 1)).toNat))), (6, .int (nI (2 * (i + 1))))] (by rw [show 2 * i + 2 = 2 * (i + 1) from by omega]; first | (rw [prs_0 (Or.inl (tn_f c_112))]; rfl) | (rw [prs_0 (Or.inr c_129)]; rfl)) ?_
              exact ih_104 (i + 1) (by omega) (by omega)
            · refine g_iconst (v := nI 1) hX dX7_isCode_132 (by decide) ?_
              refine g_goto 137 (hd := dX7_isCode_133) (C := hX) (by decide) ?_
              refine g_istore [(0, .ref o), (1, .int (nI w)), (2, .int (nI (c 0))), (3, .int (nI (c 5))), (5, .int (nI 1)), (6, .int (nI (2 * i)))] [1, 2, 3, 4, 0, 5] (hd := dX7_isCode_137) (C := hX) (by decide) rfl ?_
              refine g_iinc (v := (nI (2 * i + 2))) 5 [(0, .ref o), (1, .int (nI w)), (2, .int (nI (c 0))), (3, .int (nI (c 5))), (5, .int (nI 1)), (6, .int (nI (2 * i + 2)))] [1, 2, 3, 4, 5, 0] (hd := dX7_isCode_139) (C := hX) rfl (nI_add _ 2) (by decide) rfl ?_
              refine g_goto 104 (hd := dX7_isCode_142) (C := hX) (by decide) ?_
              refine g_lve [(0, .ref o), (1, .int (nI w)), (2, .int (nI (c 0))), (3, .int (nI (c 5))), (5, .int (nI ((prs w (i + 1)).toNat))), (6, .int (nI (2 * (i + 1))))] (by rw [show 2 * i + 2 = 2 * (i + 1) from by omega]; rw [prs_1 (tn_t c_112) c_129]; rfl) ?_
              exact ih_104 (i + 1) (by omega) (by omega)
    refine g_lve [(0, .ref o), (1, .int (nI w)), (2, .int (nI (c 0))), (3, .int (nI (c 5))), (5, .int (nI ((prs w 0).toNat))), (6, .int (nI (2 * 0)))] rfl ?_
    exact L_104 _ 0 (Nat.lt_succ_self _) (Nat.zero_le _)

theorem ok_X7_stuckAs : gOK yX7_stuckAs wsX7_stuckAs ({ frames := 0, cells := 0, slots := 0, locals := 0 }) 4 4 := ⟨⟨_, _, _, rfl⟩, rfl, rfl, by decide, by decide, by decide +kernel⟩
set_option maxRecDepth 100000 in
set_option maxHeartbeats 4000000 in
theorem c_X7_stuckAs (l : Launch) (D : va_G) (cC cI cJ cO : ClassId) (w : Nat) (z : Nat) (sr : Int32) (tr : Int32) (so : Option Nat) (to : Option Nat) (hs : soI sr so) (ht : soI tr to) (hw : w < 1000) : CM (S := Int32) l D (tyL cC cI cJ cO) yX7_stuckAs wsX7_stuckAs ({ frames := 0, cells := 0, slots := 0, locals := 0 }) [.int (nI w), .int (nI z), .int sr, .int tr] [] (fun r => some (.int r)) (fun r => r = nI (saS w z so to)) (fun u_ => []) := by
  refine CM_in (cc := cX7_stuckAs) (maxL := 4) (ret := (some .int)) (by decide) rfl (Nat.le_of_ble_eq_true rfl) ?_
  intro X hX hret
  show GW X [] [(0, .int (nI w)), (1, .int (nI z)), (2, .int sr), (3, .int tr)] [] 0 0 0
  rcases hs with ⟨rfl, hs0⟩ | ⟨js, rfl, hjs, rfl⟩
  · rcases ht with ⟨rfl, ht0⟩ | ⟨jt, rfl, hjt, rfl⟩
    · refine g_iload_n 2 (hd := dX7_stuckAs_0) (C := hX) rfl rfl ?_
      refine g_if_lt 17 (hd := dX7_stuckAs_1) (C := hX) (by decide) (fun c_1 => ?_) (fun c_1 => absurd hs0 c_1)
      refine g_iload_n 3 (hd := dX7_stuckAs_17) (C := hX) rfl rfl ?_
      refine g_if_lt 34 (hd := dX7_stuckAs_18) (C := hX) (by decide) (fun c_18 => ?_) (fun c_18 => absurd ht0 c_18)
      refine g_iload_n 1 (hd := dX7_stuckAs_34) (C := hX) rfl rfl ?_
      exact (hret (nI z) _ _ (by simp [saS])).2.1 _ rfl rfl dX7_stuckAs_35
    · refine g_iload_n 2 (hd := dX7_stuckAs_0) (C := hX) rfl rfl ?_
      refine g_if_lt 17 (hd := dX7_stuckAs_1) (C := hX) (by decide) (fun c_1 => ?_) (fun c_1 => absurd hs0 c_1)
      refine g_iload_n 3 (hd := dX7_stuckAs_17) (C := hX) rfl rfl ?_
      refine g_if_lt 34 (hd := dX7_stuckAs_18) (C := hX) (by decide) (fun c_18 => absurd c_18 (nI_pos (by omega))) (fun c_18 => ?_)
      refine g_iload_n 3 (hd := dX7_stuckAs_21) (C := hX) rfl rfl ?_
      refine g_iconst (v := nI 2) hX dX7_stuckAs_22 (by decide) ?_
      refine g_idiv hX dX7_stuckAs_23 (by decide) ?_
      refine g_top (y := (nI (jt / 2))) (pk_div (by omega) (by omega) (by omega)) ?_
      refine g_iload_n 0 (hd := dX7_stuckAs_24) (C := hX) rfl rfl ?_
      refine g_icmp_neN 34 (hd := dX7_stuckAs_25) (C := hX) (by decide) (by omega) (by omega) (fun c_25 => ?_) (fun c_25 => ?_)
      · refine g_iload_n 1 (hd := dX7_stuckAs_34) (C := hX) rfl rfl ?_
        exact (hret (nI z) _ _ (by simp [saS, c_25])).2.1 _ rfl rfl dX7_stuckAs_35
      · refine g_iload_n 3 (hd := dX7_stuckAs_28) (C := hX) rfl rfl ?_
        refine g_iconst (v := nI 2) hX dX7_stuckAs_29 (by decide) ?_
        refine g_irem hX dX7_stuckAs_30 (by decide) ?_
        refine g_top (y := (nI (jt % 2))) (pk_rem (by omega) (by omega) (by omega)) ?_
        refine g_goto 35 (hd := dX7_stuckAs_31) (C := hX) (by decide) ?_
        exact (hret (nI (jt % 2)) _ _ (by simp [saS, c_25])).2.1 _ rfl rfl dX7_stuckAs_35
  · rcases ht with ⟨rfl, ht0⟩ | ⟨jt, rfl, hjt, rfl⟩
    · refine g_iload_n 2 (hd := dX7_stuckAs_0) (C := hX) rfl rfl ?_
      refine g_if_lt 17 (hd := dX7_stuckAs_1) (C := hX) (by decide) (fun c_1 => absurd c_1 (nI_pos (by omega))) (fun c_1 => ?_)
      refine g_iload_n 2 (hd := dX7_stuckAs_4) (C := hX) rfl rfl ?_
      refine g_iconst (v := nI 2) hX dX7_stuckAs_5 (by decide) ?_
      refine g_idiv hX dX7_stuckAs_6 (by decide) ?_
      refine g_top (y := (nI (js / 2))) (pk_div (by omega) (by omega) (by omega)) ?_
      refine g_iload_n 0 (hd := dX7_stuckAs_7) (C := hX) rfl rfl ?_
      refine g_icmp_neN 17 (hd := dX7_stuckAs_8) (C := hX) (by decide) (by omega) (by omega) (fun c_8 => ?_) (fun c_8 => ?_)
      · refine g_iload_n 3 (hd := dX7_stuckAs_17) (C := hX) rfl rfl ?_
        refine g_if_lt 34 (hd := dX7_stuckAs_18) (C := hX) (by decide) (fun c_18 => ?_) (fun c_18 => absurd ht0 c_18)
        refine g_iload_n 1 (hd := dX7_stuckAs_34) (C := hX) rfl rfl ?_
        exact (hret (nI z) _ _ (by simp [saS, c_8])).2.1 _ rfl rfl dX7_stuckAs_35
      · refine g_iload_n 2 (hd := dX7_stuckAs_11) (C := hX) rfl rfl ?_
        refine g_iconst (v := nI 2) hX dX7_stuckAs_12 (by decide) ?_
        refine g_irem hX dX7_stuckAs_13 (by decide) ?_
        refine g_top (y := (nI (js % 2))) (pk_rem (by omega) (by omega) (by omega)) ?_
        refine g_goto 35 (hd := dX7_stuckAs_14) (C := hX) (by decide) ?_
        exact (hret (nI (js % 2)) _ _ (by simp [saS, c_8])).2.1 _ rfl rfl dX7_stuckAs_35
    · refine g_iload_n 2 (hd := dX7_stuckAs_0) (C := hX) rfl rfl ?_
      refine g_if_lt 17 (hd := dX7_stuckAs_1) (C := hX) (by decide) (fun c_1 => absurd c_1 (nI_pos (by omega))) (fun c_1 => ?_)
      refine g_iload_n 2 (hd := dX7_stuckAs_4) (C := hX) rfl rfl ?_
      refine g_iconst (v := nI 2) hX dX7_stuckAs_5 (by decide) ?_
      refine g_idiv hX dX7_stuckAs_6 (by decide) ?_
      refine g_top (y := (nI (js / 2))) (pk_div (by omega) (by omega) (by omega)) ?_
      refine g_iload_n 0 (hd := dX7_stuckAs_7) (C := hX) rfl rfl ?_
      refine g_icmp_neN 17 (hd := dX7_stuckAs_8) (C := hX) (by decide) (by omega) (by omega) (fun c_8 => ?_) (fun c_8 => ?_)
      · refine g_iload_n 3 (hd := dX7_stuckAs_17) (C := hX) rfl rfl ?_
        refine g_if_lt 34 (hd := dX7_stuckAs_18) (C := hX) (by decide) (fun c_18 => absurd c_18 (nI_pos (by omega))) (fun c_18 => ?_)
        refine g_iload_n 3 (hd := dX7_stuckAs_21) (C := hX) rfl rfl ?_
        refine g_iconst (v := nI 2) hX dX7_stuckAs_22 (by decide) ?_
        refine g_idiv hX dX7_stuckAs_23 (by decide) ?_
        refine g_top (y := (nI (jt / 2))) (pk_div (by omega) (by omega) (by omega)) ?_
        refine g_iload_n 0 (hd := dX7_stuckAs_24) (C := hX) rfl rfl ?_
        refine g_icmp_neN 34 (hd := dX7_stuckAs_25) (C := hX) (by decide) (by omega) (by omega) (fun c_25 => ?_) (fun c_25 => ?_)
        · refine g_iload_n 1 (hd := dX7_stuckAs_34) (C := hX) rfl rfl ?_
          exact (hret (nI z) _ _ (by simp [saS, c_8, c_25])).2.1 _ rfl rfl dX7_stuckAs_35
        · refine g_iload_n 3 (hd := dX7_stuckAs_28) (C := hX) rfl rfl ?_
          refine g_iconst (v := nI 2) hX dX7_stuckAs_29 (by decide) ?_
          refine g_irem hX dX7_stuckAs_30 (by decide) ?_
          refine g_top (y := (nI (jt % 2))) (pk_rem (by omega) (by omega) (by omega)) ?_
          refine g_goto 35 (hd := dX7_stuckAs_31) (C := hX) (by decide) ?_
          exact (hret (nI (jt % 2)) _ _ (by simp [saS, c_8, c_25])).2.1 _ rfl rfl dX7_stuckAs_35
      · refine g_iload_n 2 (hd := dX7_stuckAs_11) (C := hX) rfl rfl ?_
        refine g_iconst (v := nI 2) hX dX7_stuckAs_12 (by decide) ?_
        refine g_irem hX dX7_stuckAs_13 (by decide) ?_
        refine g_top (y := (nI (js % 2))) (pk_rem (by omega) (by omega) (by omega)) ?_
        refine g_goto 35 (hd := dX7_stuckAs_14) (C := hX) (by decide) ?_
        exact (hret (nI (js % 2)) _ _ (by simp [saS, c_8])).2.1 _ rfl rfl dX7_stuckAs_35

theorem in_X7_lets_7 : ∀ w ∈ wsX70, w ∈ wsX7_lets := fun _ h => List.mem_cons_of_mem _ (List.mem_append_right _ h)
theorem ok_X7_lets : gOK yX7_lets wsX7_lets ({ frames := 1, cells := 0, slots := 0, locals := 23 }) 11 3 := ⟨⟨_, _, _, rfl⟩, rfl, rfl, by decide, by decide, by decide +kernel⟩
set_option maxRecDepth 100000 in
set_option maxHeartbeats 4000000 in
theorem c_X7_lets (l : Launch) (D : va_G) (cC cI cJ cO : ClassId) (o : Nat) (ot : Nat) (on : Nat) (od : Nat) (ow : Nat) (oi : Nat) (oe : Nat) (op : Nat) (len : Nat) (ch : Nat) (va : Nat) (en : Nat) (aE : Int64) (aP : Int64) (lt : Int64) (T : Nat → Nat) (c : Nat → Nat) (rd : Nat → Nat) (ww : Nat → Nat) (wi : Nat → Nat) (EX : Nat → Int64) (PA : Nat → Int64) (wd : Nat) (sr : Int32) (tr : Int32) (so : Option Nat) (to : Option Nat) (hs : soI sr so) (ht : soI tr to) (hw : wd < 256) (hok : okC c) : CM (S := Int32) l D (tyL cC cI cJ cO) yX7_lets wsX7_lets ({ frames := 1, cells := 0, slots := 0, locals := 23 }) [.ref o, .int (nI wd), .int sr, .int tr] [(o, .inr (7, [.int (nI len), .ref ot, .ref on, .ref od, .ref ow, .int (nI ch), .int (nI va), .int (nI en), .ref oi, .ref oe, .ref op, .long aE, .long aP, .long lt])), (ot, .inl (cI, 200, .inl (fun j_ => nI (T j_)))), (on, .inl (cI, 78, .inl (fun j_ => nI (c j_)))), (od, .inl (cI, 78, .inl (fun j_ => nI (rd j_)))), (ow, .inl (cI, 468, .inl (fun j_ => nI (ww j_)))), (oi, .inl (cI, 32, .inl (fun j_ => nI (wi j_)))), (oe, .inl (cJ, 256, .inr (.inl EX))), (op, .inl (cJ, 256, .inr (.inl PA)))] (fun r => some (.int r)) (fun r => r = nI (2 * (rvA c wd so to wi (c 0 + c 1)) (c 2) + (rvA c wd so to wi (c 0 + c 1)) (c 3))) (fun u_ => [(o, .inr (7, [.int (nI len), .ref ot, .ref on, .ref od, .ref ow, .int (nI ch), .int (nI va), .int (nI en), .ref oi, .ref oe, .ref op, .long aE, .long aP, .long lt])), (ot, .inl (cI, 200, .inl (fun j_ => nI (T j_)))), (on, .inl (cI, 78, .inl (fun j_ => nI (c j_)))), (od, .inl (cI, 78, .inl (fun j_ => nI (rd j_)))), (ow, .inl (cI, 468, .inl (fun j_ => nI (ww j_)))), (oi, .inl (cI, 32, .inl (fun j_ => nI ((rvA c wd so to wi (c 0 + c 1)) j_)))), (oe, .inl (cJ, 256, .inr (.inl EX))), (op, .inl (cJ, 256, .inr (.inl PA)))]) := by
  refine CM_in (cc := cX7_lets) (maxL := 11) (ret := (some .int)) (by decide) rfl (Nat.le_of_ble_eq_true rfl) ?_
  intro X hX hret
  show GW X [(o, .inr (7, [.int (nI len), .ref ot, .ref on, .ref od, .ref ow, .int (nI ch), .int (nI va), .int (nI en), .ref oi, .ref oe, .ref op, .long aE, .long aP, .long lt])), (ot, .inl (cI, 200, .inl (fun j_ => nI (T j_)))), (on, .inl (cI, 78, .inl (fun j_ => nI (c j_)))), (od, .inl (cI, 78, .inl (fun j_ => nI (rd j_)))), (ow, .inl (cI, 468, .inl (fun j_ => nI (ww j_)))), (oi, .inl (cI, 32, .inl (fun j_ => nI (wi j_)))), (oe, .inl (cJ, 256, .inr (.inl EX))), (op, .inl (cJ, 256, .inr (.inl PA)))] [(0, .ref o), (1, .int (nI wd)), (2, .int sr), (3, .int tr)] [] 0 0 0
  have b0 := hok.2.1
  have b1 := hok.2.2.1
  have g_2 := hok.2.2.2.1
  have g_3 := hok.2.2.2.2.1
  rcases hs with ⟨rfl, hs0⟩ | ⟨js, rfl, hjs, rfl⟩
  · rcases ht with ⟨rfl, ht0⟩ | ⟨jt, rfl, hjt, rfl⟩
    · refine g_iconst (v := nI 0) hX dX7_lets_0 (by decide) ?_
      refine g_istore [(0, .ref o), (1, .int (nI wd)), (2, .int sr), (3, .int tr), (4, .int (nI 0))] [1, 2, 3, 4, 0] (hd := dX7_lets_1) (C := hX) (by decide) rfl ?_
      have L_3 : ∀ (n_3 : Nat) (i : Nat), c 0 + c 1 - i < n_3 → (i ≤ c 0 + c 1) → GW X [(o, .inr (7, [.int (nI len), .ref ot, .ref on, .ref od, .ref ow, .int (nI ch), .int (nI va), .int (nI en), .ref oi, .ref oe, .ref op, .long aE, .long aP, .long lt])), (ot, .inl (cI, 200, .inl (fun j_ => nI (T j_)))), (on, .inl (cI, 78, .inl (fun j_ => nI (c j_)))), (od, .inl (cI, 78, .inl (fun j_ => nI (rd j_)))), (ow, .inl (cI, 468, .inl (fun j_ => nI (ww j_)))), (oi, .inl (cI, 32, .inl (fun j_ => nI ((rvA c wd none none wi i) j_)))), (oe, .inl (cJ, 256, .inr (.inl EX))), (op, .inl (cJ, 256, .inr (.inl PA)))] [(0, .ref o), (1, .int (nI wd)), (2, .int sr), (3, .int tr), (4, .int (nI i))] [] 3 0 0 := by
        intro n_3
        induction n_3 with
        | zero => intro i hm_3; exact absurd hm_3 (Nat.not_lt_zero _)
        | succ n_3 ih_3 =>
          intro i hm_3 hiL
          refine g_iload 4 (hd := dX7_lets_3) (C := hX) rfl ?_
          refine g_aload_n 0 (hd := dX7_lets_5) (C := hX) rfl rfl ?_
          refine g_callVs (rest := [.int (nI i)]) hX (c_X7_wires l D cC cI cJ cO o ot on od ow oi oe op len ch va en aE aP lt T c rd ww (rvA c wd none none wi i) EX PA) ok_X7_wires rfl 0 rfl rfl (hd := dX7_lets_6) gX7_lets_X7_wires ⟨by decide, by decide⟩ rfl (Nat.le_of_ble_eq_true rfl) ⟨Nat.zero_le _, Nat.zero_le _⟩ [0, 1, 2, 3, 4, 5, 6, 7] (by decide) rfl rfl ?_
          intro r_6 e_6
          subst e_6
          show GW X [(o, .inr (7, [.int (nI len), .ref ot, .ref on, .ref od, .ref ow, .int (nI ch), .int (nI va), .int (nI en), .ref oi, .ref oe, .ref op, .long aE, .long aP, .long lt])), (ot, .inl (cI, 200, .inl (fun j_ => nI (T j_)))), (on, .inl (cI, 78, .inl (fun j_ => nI (c j_)))), (od, .inl (cI, 78, .inl (fun j_ => nI (rd j_)))), (ow, .inl (cI, 468, .inl (fun j_ => nI (ww j_)))), (oi, .inl (cI, 32, .inl (fun j_ => nI ((rvA c wd none none wi i) j_)))), (oe, .inl (cJ, 256, .inr (.inl EX))), (op, .inl (cJ, 256, .inr (.inl PA)))] [(0, .ref o), (1, .int (nI wd)), (2, .int sr), (3, .int tr), (4, .int (nI i))] [.int (nI (c 0 + c 1)), .int (nI i)] 9 0 0
          refine g_icmp_geN 165 (hd := dX7_lets_9) (C := hX) (by decide) (by omega) (by omega) (fun c_9 => ?_) (fun c_9 => ?_)
          · refine g_iconst (v := nI 2) hX dX7_lets_165 (by decide) ?_
            refine g_aload_n 0 (hd := dX7_lets_166) (C := hX) rfl rfl ?_
            refine g_get (hd := dX7_lets_167) (C := hX) 0 8 rfl rfl in_X7_lets_7 (by decide) (by decide +kernel) rfl ?_
            refine g_aload_n 0 (hd := dX7_lets_170) (C := hX) rfl rfl ?_
            refine g_get (hd := dX7_lets_171) (C := hX) 0 2 rfl rfl in_X7_lets_7 (by decide) (by decide +kernel) rfl ?_
            refine g_iconst (v := nI 2) hX dX7_lets_174 (by decide) ?_
            refine g_iald (hd := dX7_lets_175) (C := hX) 2 1 rfl rfl (by omega) (by decide) ?_
            refine g_iald (hd := dX7_lets_176) (C := hX) 5 1 rfl rfl (by omega) (by decide) ?_
            refine g_imul hX dX7_lets_177 ?_
            refine g_top (y := (nI (2 * ((rvA c wd none none wi i) (c 2))))) (pk_mul _ _) ?_
            refine g_aload_n 0 (hd := dX7_lets_178) (C := hX) rfl rfl ?_
            refine g_get (hd := dX7_lets_179) (C := hX) 0 8 rfl rfl in_X7_lets_7 (by decide) (by decide +kernel) rfl ?_
            refine g_aload_n 0 (hd := dX7_lets_182) (C := hX) rfl rfl ?_
            refine g_get (hd := dX7_lets_183) (C := hX) 0 2 rfl rfl in_X7_lets_7 (by decide) (by decide +kernel) rfl ?_
            refine g_iconst (v := nI 3) hX dX7_lets_186 (by decide) ?_
            refine g_iald (hd := dX7_lets_187) (C := hX) 2 1 rfl rfl (by omega) (by decide) ?_
            refine g_iald (hd := dX7_lets_188) (C := hX) 5 1 rfl rfl (by omega) (by decide) ?_
            refine g_iadd hX dX7_lets_189 ?_
            refine g_top (y := (nI ((2 * ((rvA c wd none none wi i) (c 2))) + ((rvA c wd none none wi i) (c 3))))) (nI_add _ _) ?_
            refine g_w [(o, .inr (7, [.int (nI len), .ref ot, .ref on, .ref od, .ref ow, .int (nI ch), .int (nI va), .int (nI en), .ref oi, .ref oe, .ref op, .long aE, .long aP, .long lt])), (ot, .inl (cI, 200, .inl (fun j_ => nI (T j_)))), (on, .inl (cI, 78, .inl (fun j_ => nI (c j_)))), (od, .inl (cI, 78, .inl (fun j_ => nI (rd j_)))), (ow, .inl (cI, 468, .inl (fun j_ => nI (ww j_)))), (oi, .inl (cI, 32, .inl (fun j_ => nI ((rvA c wd none none wi (c 0 + c 1)) j_)))), (oe, .inl (cJ, 256, .inr (.inl EX))), (op, .inl (cJ, 256, .inr (.inl PA)))] (by rw [show i = c 0 + c 1 from by omega]) ?_
            exact (hret (nI ((2 * ((rvA c wd none none wi i) (c 2))) + ((rvA c wd none none wi i) (c 3)))) _ _ (by rw [show i = c 0 + c 1 from by omega])).2.1 _ rfl rfl dX7_lets_190
          · refine g_iload_n 1 (hd := dX7_lets_12) (C := hX) rfl rfl ?_
            refine g_iload 4 (hd := dX7_lets_13) (C := hX) rfl ?_
            refine g_ishr hX dX7_lets_15 ?_
            refine g_top (y := (nI (wd / 2 ^ i))) (gl_shr (by omega) (by omega)) ?_
            refine g_iconst (v := nI 1) hX dX7_lets_16 (by decide) ?_
            refine g_iand hX dX7_lets_17 ?_
            refine g_top (y := (nI (wd / 2 ^ i % 2))) (by rw [nx_and, Nat.and_one_is_mod]) ?_
            refine g_istore [(0, .ref o), (1, .int (nI wd)), (2, .int sr), (3, .int tr), (4, .int (nI i)), (5, .int (nI (wd / 2 ^ i % 2)))] [1, 2, 3, 4, 5, 0] (hd := dX7_lets_18) (C := hX) (by decide) rfl ?_
            refine g_iload 4 (hd := dX7_lets_20) (C := hX) rfl ?_
            refine g_aload_n 0 (hd := dX7_lets_22) (C := hX) rfl rfl ?_
            refine g_get (hd := dX7_lets_23) (C := hX) 0 2 rfl rfl in_X7_lets_7 (by decide) (by decide +kernel) rfl ?_
            refine g_iconst (v := nI 0) hX dX7_lets_26 (by decide) ?_
            refine g_iald (hd := dX7_lets_27) (C := hX) 2 1 rfl rfl (by omega) (by decide) ?_
            refine g_icmp_ltN 143 (hd := dX7_lets_28) (C := hX) (by decide) (by omega) (by omega) (fun c_28 => ?_) (fun c_28 => ?_)
            · refine g_aload_n 0 (hd := dX7_lets_143) (C := hX) rfl rfl ?_
              refine g_get (hd := dX7_lets_144) (C := hX) 0 8 rfl rfl in_X7_lets_7 (by decide) (by decide +kernel) rfl ?_
              refine g_iload 4 (hd := dX7_lets_147) (C := hX) rfl ?_
              refine g_iload 4 (hd := dX7_lets_149) (C := hX) rfl ?_
              refine g_iload 5 (hd := dX7_lets_151) (C := hX) rfl ?_
              refine g_iload_n 2 (hd := dX7_lets_153) (C := hX) rfl rfl ?_
              refine g_iload_n 3 (hd := dX7_lets_154) (C := hX) rfl rfl ?_
              refine g_callS (rest := [.int (nI i), .ref oi]) hX (c_X7_stuckAs l D cC cI cJ cO i (wd / 2 ^ i % 2) sr tr none none (by first | exact so_n hs0 | exact so_s hjs) (by first | exact so_n ht0 | exact so_s hjt) (by omega)) ok_X7_stuckAs (fun _ => rfl) (hd := dX7_lets_155) gX7_lets_X7_stuckAs ⟨by decide, by decide⟩ rfl (Nat.le_of_ble_eq_true rfl) ⟨Nat.zero_le _, Nat.zero_le _⟩ [] (by decide) rfl rfl ?_
              intro r_155 e_155
              subst e_155
              show GW X [(o, .inr (7, [.int (nI len), .ref ot, .ref on, .ref od, .ref ow, .int (nI ch), .int (nI va), .int (nI en), .ref oi, .ref oe, .ref op, .long aE, .long aP, .long lt])), (ot, .inl (cI, 200, .inl (fun j_ => nI (T j_)))), (on, .inl (cI, 78, .inl (fun j_ => nI (c j_)))), (od, .inl (cI, 78, .inl (fun j_ => nI (rd j_)))), (ow, .inl (cI, 468, .inl (fun j_ => nI (ww j_)))), (oi, .inl (cI, 32, .inl (fun j_ => nI ((rvA c wd none none wi i) j_)))), (oe, .inl (cJ, 256, .inr (.inl EX))), (op, .inl (cJ, 256, .inr (.inl PA)))] [(0, .ref o), (1, .int (nI wd)), (2, .int sr), (3, .int tr), (4, .int (nI i)), (5, .int (nI (wd / 2 ^ i % 2)))] [.int (nI (saS i (wd / 2 ^ i % 2) none none)), .int (nI i), .ref oi] 158 0 0
              refine g_iast (hd := dX7_lets_158) (C := hX) 5 1 [(o, .inr (7, [.int (nI len), .ref ot, .ref on, .ref od, .ref ow, .int (nI ch), .int (nI va), .int (nI en), .ref oi, .ref oe, .ref op, .long aE, .long aP, .long lt])), (ot, .inl (cI, 200, .inl (fun j_ => nI (T j_)))), (on, .inl (cI, 78, .inl (fun j_ => nI (c j_)))), (od, .inl (cI, 78, .inl (fun j_ => nI (rd j_)))), (ow, .inl (cI, 468, .inl (fun j_ => nI (ww j_)))), (oi, .inl (cI, 32, .inl (fun j_ => nI ((nup (rvA c wd none none wi i) i (saS i (wd / 2 ^ i % 2) none none)) j_)))), (oe, .inl (cJ, 256, .inr (.inl EX))), (op, .inl (cJ, 256, .inr (.inl PA)))] rfl rfl (by omega) (by decide) (by rw [nup_I]; rfl) ?_
              refine g_iinc (v := (nI (i + 1))) 4 [(0, .ref o), (1, .int (nI wd)), (2, .int sr), (3, .int tr), (4, .int (nI (i + 1))), (5, .int (nI (wd / 2 ^ i % 2)))] [1, 2, 3, 4, 0, 5] (hd := dX7_lets_159) (C := hX) rfl (nI_1 _) (by decide) rfl ?_
              refine g_goto 3 (hd := dX7_lets_162) (C := hX) (by decide) ?_
              refine g_w [(o, .inr (7, [.int (nI len), .ref ot, .ref on, .ref od, .ref ow, .int (nI ch), .int (nI va), .int (nI en), .ref oi, .ref oe, .ref op, .long aE, .long aP, .long lt])), (ot, .inl (cI, 200, .inl (fun j_ => nI (T j_)))), (on, .inl (cI, 78, .inl (fun j_ => nI (c j_)))), (od, .inl (cI, 78, .inl (fun j_ => nI (rd j_)))), (ow, .inl (cI, 468, .inl (fun j_ => nI (ww j_)))), (oi, .inl (cI, 32, .inl (fun j_ => nI ((rvA c wd none none wi (i + 1)) j_)))), (oe, .inl (cJ, 256, .inr (.inl EX))), (op, .inl (cJ, 256, .inr (.inl PA)))] (by simp only [rvA, rvX]; rw [if_pos c_28]) ?_
              refine g_lv [(0, .ref o), (1, .int (nI wd)), (2, .int sr), (3, .int tr), (4, .int (nI (i + 1)))] [0, 1, 2, 3, 4] rfl ?_
              exact ih_3 (i + 1) (by omega) (by omega)
            · have hq := hok.2.2.2.2.2.2 (i - c 0) (by omega)
              have hq1 : c (6 + 3 * (i - c 0) + 1) < i := by rw [show 6 + 3 * (i - c 0) + 1 = 7 + 3 * (i - c 0) from by omega]; omega
              have hq2 : c (6 + 3 * (i - c 0) + 2) < i := by rw [show 6 + 3 * (i - c 0) + 2 = 8 + 3 * (i - c 0) from by omega]; omega
              refine g_bipush (v := nI 6) hX dX7_lets_31 (by decide) ?_
              refine g_iconst (v := nI 3) hX dX7_lets_33 (by decide) ?_
              refine g_iload 4 (hd := dX7_lets_34) (C := hX) rfl ?_
              refine g_aload_n 0 (hd := dX7_lets_36) (C := hX) rfl rfl ?_
              refine g_get (hd := dX7_lets_37) (C := hX) 0 2 rfl rfl in_X7_lets_7 (by decide) (by decide +kernel) rfl ?_
              refine g_iconst (v := nI 0) hX dX7_lets_40 (by decide) ?_
              refine g_iald (hd := dX7_lets_41) (C := hX) 2 1 rfl rfl (by omega) (by decide) ?_
              refine g_isub hX dX7_lets_42 ?_
              refine g_top (y := (nI (i - (c 0)))) (pk_sub (by omega)) ?_
              refine g_imul hX dX7_lets_43 ?_
              refine g_top (y := (nI (3 * (i - (c 0))))) (pk_mul _ _) ?_
              refine g_iadd hX dX7_lets_44 ?_
              refine g_top (y := (nI (6 + (3 * (i - (c 0)))))) (nI_add _ _) ?_
              refine g_istore [(0, .ref o), (1, .int (nI wd)), (2, .int sr), (3, .int tr), (4, .int (nI i)), (5, .int (nI (wd / 2 ^ i % 2))), (6, .int (nI (6 + (3 * (i - (c 0))))))] [1, 2, 3, 4, 5, 6, 0] (hd := dX7_lets_45) (C := hX) (by decide) rfl ?_
              refine g_aload_n 0 (hd := dX7_lets_47) (C := hX) rfl rfl ?_
              refine g_get (hd := dX7_lets_48) (C := hX) 0 8 rfl rfl in_X7_lets_7 (by decide) (by decide +kernel) rfl ?_
              refine g_aload_n 0 (hd := dX7_lets_51) (C := hX) rfl rfl ?_
              refine g_get (hd := dX7_lets_52) (C := hX) 0 2 rfl rfl in_X7_lets_7 (by decide) (by decide +kernel) rfl ?_
              refine g_iload 6 (hd := dX7_lets_55) (C := hX) rfl ?_
              refine g_iconst (v := nI 1) hX dX7_lets_57 (by decide) ?_
              refine g_iadd hX dX7_lets_58 ?_
              refine g_top (y := (nI ((6 + (3 * (i - (c 0)))) + 1))) (nI_add _ _) ?_
              refine g_iald (hd := dX7_lets_59) (C := hX) 2 1 rfl rfl (by omega) (by decide) ?_
              refine g_iald (hd := dX7_lets_60) (C := hX) 5 1 rfl rfl (by omega) (by decide) ?_
              refine g_istore [(0, .ref o), (1, .int (nI wd)), (2, .int sr), (3, .int tr), (4, .int (nI i)), (5, .int (nI (wd / 2 ^ i % 2))), (6, .int (nI (6 + (3 * (i - (c 0)))))), (7, .int (nI ((rvA c wd none none wi i) (c ((6 + (3 * (i - (c 0)))) + 1)))))] [1, 2, 3, 4, 5, 6, 7, 0] (hd := dX7_lets_61) (C := hX) (by decide) rfl ?_
              refine g_aload_n 0 (hd := dX7_lets_63) (C := hX) rfl rfl ?_
              refine g_get (hd := dX7_lets_64) (C := hX) 0 8 rfl rfl in_X7_lets_7 (by decide) (by decide +kernel) rfl ?_
              refine g_aload_n 0 (hd := dX7_lets_67) (C := hX) rfl rfl ?_
              refine g_get (hd := dX7_lets_68) (C := hX) 0 2 rfl rfl in_X7_lets_7 (by decide) (by decide +kernel) rfl ?_
              refine g_iload 6 (hd := dX7_lets_71) (C := hX) rfl ?_
              refine g_iconst (v := nI 2) hX dX7_lets_73 (by decide) ?_
              refine g_iadd hX dX7_lets_74 ?_
              refine g_top (y := (nI ((6 + (3 * (i - (c 0)))) + 2))) (nI_add _ _) ?_
              refine g_iald (hd := dX7_lets_75) (C := hX) 2 1 rfl rfl (by omega) (by decide) ?_
              refine g_iald (hd := dX7_lets_76) (C := hX) 5 1 rfl rfl (by omega) (by decide) ?_
              refine g_istore [(0, .ref o), (1, .int (nI wd)), (2, .int sr), (3, .int tr), (4, .int (nI i)), (5, .int (nI (wd / 2 ^ i % 2))), (6, .int (nI (6 + (3 * (i - (c 0)))))), (7, .int (nI ((rvA c wd none none wi i) (c ((6 + (3 * (i - (c 0)))) + 1))))), (8, .int (nI ((rvA c wd none none wi i) (c ((6 + (3 * (i - (c 0)))) + 2)))))] [1, 2, 3, 4, 5, 6, 7, 8, 0] (hd := dX7_lets_77) (C := hX) (by decide) rfl ?_
              refine g_aload_n 0 (hd := dX7_lets_79) (C := hX) rfl rfl ?_
              refine g_get (hd := dX7_lets_80) (C := hX) 0 2 rfl rfl in_X7_lets_7 (by decide) (by decide +kernel) rfl ?_
              refine g_iload 6 (hd := dX7_lets_83) (C := hX) rfl ?_
              refine g_iald (hd := dX7_lets_85) (C := hX) 2 1 rfl rfl (by omega) (by decide) ?_
              refine g_istore [(0, .ref o), (1, .int (nI wd)), (2, .int sr), (3, .int tr), (4, .int (nI i)), (5, .int (nI (wd / 2 ^ i % 2))), (6, .int (nI (6 + (3 * (i - (c 0)))))), (7, .int (nI ((rvA c wd none none wi i) (c ((6 + (3 * (i - (c 0)))) + 1))))), (8, .int (nI ((rvA c wd none none wi i) (c ((6 + (3 * (i - (c 0)))) + 2))))), (9, .int (nI (c (6 + (3 * (i - (c 0)))))))] [1, 2, 3, 4, 5, 6, 7, 8, 9, 0] (hd := dX7_lets_86) (C := hX) (by decide) rfl ?_
              refine g_iload 9 (hd := dX7_lets_88) (C := hX) rfl ?_
              refine g_iconst (v := nI 3) hX dX7_lets_90 (by decide) ?_
              refine g_irem hX dX7_lets_91 (by decide) ?_
              refine g_top (y := (nI (c (6 + (3 * (i - (c 0)))) % 3))) (pk_rem (by omega) (by omega) (by omega)) ?_
              refine g_if_neN 103 (hd := dX7_lets_92) (C := hX) (by decide) (by omega) (fun c_92 => ?_) (fun c_92 => ?_)
              · refine g_iload 9 (hd := dX7_lets_103) (C := hX) rfl ?_
                refine g_iconst (v := nI 3) hX dX7_lets_105 (by decide) ?_
                refine g_irem hX dX7_lets_106 (by decide) ?_
                refine g_top (y := (nI (c (6 + (3 * (i - (c 0)))) % 3))) (pk_rem (by omega) (by omega) (by omega)) ?_
                refine g_iconst (v := nI 1) hX dX7_lets_107 (by decide) ?_
                refine g_icmp_neN 119 (hd := dX7_lets_108) (C := hX) (by decide) (by omega) (by omega) (fun c_108 => ?_) (fun c_108 => ?_)
                · refine g_iload 7 (hd := dX7_lets_119) (C := hX) rfl ?_
                  refine g_iload 8 (hd := dX7_lets_121) (C := hX) rfl ?_
                  refine g_ixor hX dX7_lets_123 ?_
                  refine g_top (y := (nI (((rvA c wd none none wi i) (c ((6 + (3 * (i - (c 0)))) + 1))) ^^^ ((rvA c wd none none wi i) (c ((6 + (3 * (i - (c 0)))) + 2)))))) (nx_xor _ _) ?_
                  refine g_istore [(0, .ref o), (1, .int (nI wd)), (2, .int sr), (3, .int tr), (4, .int (nI i)), (5, .int (nI (wd / 2 ^ i % 2))), (6, .int (nI (6 + (3 * (i - (c 0)))))), (7, .int (nI ((rvA c wd none none wi i) (c ((6 + (3 * (i - (c 0)))) + 1))))), (8, .int (nI ((rvA c wd none none wi i) (c ((6 + (3 * (i - (c 0)))) + 2))))), (9, .int (nI (c (6 + (3 * (i - (c 0))))))), (10, .int (nI (((rvA c wd none none wi i) (c ((6 + (3 * (i - (c 0)))) + 1))) ^^^ ((rvA c wd none none wi i) (c ((6 + (3 * (i - (c 0)))) + 2))))))] [1, 2, 3, 4, 5, 6, 7, 8, 9, 10, 0] (hd := dX7_lets_124) (C := hX) (by decide) rfl ?_
                  refine g_iload 9 (hd := dX7_lets_126) (C := hX) rfl ?_
                  refine g_iconst (v := nI 3) hX dX7_lets_128 (by decide) ?_
                  refine g_icmp_geN 137 (hd := dX7_lets_129) (C := hX) (by decide) (by omega) (by omega) (fun c_129 => ?_) (fun c_129 => ?_)
                  · have b9 := rv_le hok wd none none wi i hiL
                    have b8 := bit2 _ (Nat.lt_succ_of_le (b9 _ hq1)) _ (Nat.lt_succ_of_le (b9 _ hq2))
                    refine g_iconst (v := nI 1) hX dX7_lets_137 (by decide) ?_
                    refine g_iload 10 (hd := dX7_lets_138) (C := hX) rfl ?_
                    refine g_isub hX dX7_lets_140 ?_
                    refine g_top (y := (nI (1 - (((rvA c wd none none wi i) (c ((6 + (3 * (i - (c 0)))) + 1))) ^^^ ((rvA c wd none none wi i) (c ((6 + (3 * (i - (c 0)))) + 2))))))) (pk_sub (by omega)) ?_
                    refine g_istore [(0, .ref o), (1, .int (nI wd)), (2, .int sr), (3, .int tr), (4, .int (nI i)), (5, .int (nI (1 - (((rvA c wd none none wi i) (c ((6 + (3 * (i - (c 0)))) + 1))) ^^^ ((rvA c wd none none wi i) (c ((6 + (3 * (i - (c 0)))) + 2))))))), (6, .int (nI (6 + (3 * (i - (c 0)))))), (7, .int (nI ((rvA c wd none none wi i) (c ((6 + (3 * (i - (c 0)))) + 1))))), (8, .int (nI ((rvA c wd none none wi i) (c ((6 + (3 * (i - (c 0)))) + 2))))), (9, .int (nI (c (6 + (3 * (i - (c 0))))))), (10, .int (nI (((rvA c wd none none wi i) (c ((6 + (3 * (i - (c 0)))) + 1))) ^^^ ((rvA c wd none none wi i) (c ((6 + (3 * (i - (c 0)))) + 2))))))] [1, 2, 3, 4, 5, 0, 6, 7, 8, 9, 10] (hd := dX7_lets_141) (C := hX) (by decide) rfl ?_
                    refine g_aload_n 0 (hd := dX7_lets_143) (C := hX) rfl rfl ?_
                    refine g_get (hd := dX7_lets_144) (C := hX) 0 8 rfl rfl in_X7_lets_7 (by decide) (by decide +kernel) rfl ?_
                    refine g_iload 4 (hd := dX7_lets_147) (C := hX) rfl ?_
                    refine g_iload 4 (hd := dX7_lets_149) (C := hX) rfl ?_
                    refine g_iload 5 (hd := dX7_lets_151) (C := hX) rfl ?_
                    refine g_iload_n 2 (hd := dX7_lets_153) (C := hX) rfl rfl ?_
                    refine g_iload_n 3 (hd := dX7_lets_154) (C := hX) rfl rfl ?_
                    refine g_callS (rest := [.int (nI i), .ref oi]) hX (c_X7_stuckAs l D cC cI cJ cO i (1 - (((rvA c wd none none wi i) (c ((6 + (3 * (i - (c 0)))) + 1))) ^^^ ((rvA c wd none none wi i) (c ((6 + (3 * (i - (c 0)))) + 2))))) sr tr none none (by first | exact so_n hs0 | exact so_s hjs) (by first | exact so_n ht0 | exact so_s hjt) (by omega)) ok_X7_stuckAs (fun _ => rfl) (hd := dX7_lets_155) gX7_lets_X7_stuckAs ⟨by decide, by decide⟩ rfl (Nat.le_of_ble_eq_true rfl) ⟨Nat.zero_le _, Nat.zero_le _⟩ [] (by decide) rfl rfl ?_
                    intro r_155 e_155
                    subst e_155
                    show GW X [(o, .inr (7, [.int (nI len), .ref ot, .ref on, .ref od, .ref ow, .int (nI ch), .int (nI va), .int (nI en), .ref oi, .ref oe, .ref op, .long aE, .long aP, .long lt])), (ot, .inl (cI, 200, .inl (fun j_ => nI (T j_)))), (on, .inl (cI, 78, .inl (fun j_ => nI (c j_)))), (od, .inl (cI, 78, .inl (fun j_ => nI (rd j_)))), (ow, .inl (cI, 468, .inl (fun j_ => nI (ww j_)))), (oi, .inl (cI, 32, .inl (fun j_ => nI ((rvA c wd none none wi i) j_)))), (oe, .inl (cJ, 256, .inr (.inl EX))), (op, .inl (cJ, 256, .inr (.inl PA)))] [(0, .ref o), (1, .int (nI wd)), (2, .int sr), (3, .int tr), (4, .int (nI i)), (5, .int (nI (1 - (((rvA c wd none none wi i) (c ((6 + (3 * (i - (c 0)))) + 1))) ^^^ ((rvA c wd none none wi i) (c ((6 + (3 * (i - (c 0)))) + 2))))))), (6, .int (nI (6 + (3 * (i - (c 0)))))), (7, .int (nI ((rvA c wd none none wi i) (c ((6 + (3 * (i - (c 0)))) + 1))))), (8, .int (nI ((rvA c wd none none wi i) (c ((6 + (3 * (i - (c 0)))) + 2))))), (9, .int (nI (c (6 + (3 * (i - (c 0))))))), (10, .int (nI (((rvA c wd none none wi i) (c ((6 + (3 * (i - (c 0)))) + 1))) ^^^ ((rvA c wd none none wi i) (c ((6 + (3 * (i - (c 0)))) + 2))))))] [.int (nI (saS i (1 - (((rvA c wd none none wi i) (c ((6 + (3 * (i - (c 0)))) + 1))) ^^^ ((rvA c wd none none wi i) (c ((6 + (3 * (i - (c 0)))) + 2))))) none none)), .int (nI i), .ref oi] 158 0 0
                    refine g_iast (hd := dX7_lets_158) (C := hX) 5 1 [(o, .inr (7, [.int (nI len), .ref ot, .ref on, .ref od, .ref ow, .int (nI ch), .int (nI va), .int (nI en), .ref oi, .ref oe, .ref op, .long aE, .long aP, .long lt])), (ot, .inl (cI, 200, .inl (fun j_ => nI (T j_)))), (on, .inl (cI, 78, .inl (fun j_ => nI (c j_)))), (od, .inl (cI, 78, .inl (fun j_ => nI (rd j_)))), (ow, .inl (cI, 468, .inl (fun j_ => nI (ww j_)))), (oi, .inl (cI, 32, .inl (fun j_ => nI ((nup (rvA c wd none none wi i) i (saS i (1 - (((rvA c wd none none wi i) (c ((6 + (3 * (i - (c 0)))) + 1))) ^^^ ((rvA c wd none none wi i) (c ((6 + (3 * (i - (c 0)))) + 2))))) none none)) j_)))), (oe, .inl (cJ, 256, .inr (.inl EX))), (op, .inl (cJ, 256, .inr (.inl PA)))] rfl rfl (by omega) (by decide) (by rw [nup_I]; rfl) ?_
                    refine g_iinc (v := (nI (i + 1))) 4 [(0, .ref o), (1, .int (nI wd)), (2, .int sr), (3, .int tr), (4, .int (nI (i + 1))), (5, .int (nI (1 - (((rvA c wd none none wi i) (c ((6 + (3 * (i - (c 0)))) + 1))) ^^^ ((rvA c wd none none wi i) (c ((6 + (3 * (i - (c 0)))) + 2))))))), (6, .int (nI (6 + (3 * (i - (c 0)))))), (7, .int (nI ((rvA c wd none none wi i) (c ((6 + (3 * (i - (c 0)))) + 1))))), (8, .int (nI ((rvA c wd none none wi i) (c ((6 + (3 * (i - (c 0)))) + 2))))), (9, .int (nI (c (6 + (3 * (i - (c 0))))))), (10, .int (nI (((rvA c wd none none wi i) (c ((6 + (3 * (i - (c 0)))) + 1))) ^^^ ((rvA c wd none none wi i) (c ((6 + (3 * (i - (c 0)))) + 2))))))] [1, 2, 3, 4, 0, 5, 6, 7, 8, 9, 10] (hd := dX7_lets_159) (C := hX) rfl (nI_1 _) (by decide) rfl ?_
                    refine g_goto 3 (hd := dX7_lets_162) (C := hX) (by decide) ?_
                    refine g_w [(o, .inr (7, [.int (nI len), .ref ot, .ref on, .ref od, .ref ow, .int (nI ch), .int (nI va), .int (nI en), .ref oi, .ref oe, .ref op, .long aE, .long aP, .long lt])), (ot, .inl (cI, 200, .inl (fun j_ => nI (T j_)))), (on, .inl (cI, 78, .inl (fun j_ => nI (c j_)))), (od, .inl (cI, 78, .inl (fun j_ => nI (rd j_)))), (ow, .inl (cI, 468, .inl (fun j_ => nI (ww j_)))), (oi, .inl (cI, 32, .inl (fun j_ => nI ((rvA c wd none none wi (i + 1)) j_)))), (oe, .inl (cJ, 256, .inr (.inl EX))), (op, .inl (cJ, 256, .inr (.inl PA)))] (by simp only [rvA, rvX]; rw [if_neg (Nat.not_lt.mpr c_28)]; unfold gvN; rw [if_neg (Nat.not_lt.mpr c_129), if_neg c_92, if_neg c_108]) ?_
                    refine g_lv [(0, .ref o), (1, .int (nI wd)), (2, .int sr), (3, .int tr), (4, .int (nI (i + 1)))] [0, 1, 2, 3, 4] rfl ?_
                    exact ih_3 (i + 1) (by omega) (by omega)
                  · refine g_iload 10 (hd := dX7_lets_132) (C := hX) rfl ?_
                    refine g_goto 141 (hd := dX7_lets_134) (C := hX) (by decide) ?_
                    refine g_istore [(0, .ref o), (1, .int (nI wd)), (2, .int sr), (3, .int tr), (4, .int (nI i)), (5, .int (nI (((rvA c wd none none wi i) (c ((6 + (3 * (i - (c 0)))) + 1))) ^^^ ((rvA c wd none none wi i) (c ((6 + (3 * (i - (c 0)))) + 2)))))), (6, .int (nI (6 + (3 * (i - (c 0)))))), (7, .int (nI ((rvA c wd none none wi i) (c ((6 + (3 * (i - (c 0)))) + 1))))), (8, .int (nI ((rvA c wd none none wi i) (c ((6 + (3 * (i - (c 0)))) + 2))))), (9, .int (nI (c (6 + (3 * (i - (c 0))))))), (10, .int (nI (((rvA c wd none none wi i) (c ((6 + (3 * (i - (c 0)))) + 1))) ^^^ ((rvA c wd none none wi i) (c ((6 + (3 * (i - (c 0)))) + 2))))))] [1, 2, 3, 4, 5, 0, 6, 7, 8, 9, 10] (hd := dX7_lets_141) (C := hX) (by decide) rfl ?_
                    refine g_aload_n 0 (hd := dX7_lets_143) (C := hX) rfl rfl ?_
                    refine g_get (hd := dX7_lets_144) (C := hX) 0 8 rfl rfl in_X7_lets_7 (by decide) (by decide +kernel) rfl ?_
                    refine g_iload 4 (hd := dX7_lets_147) (C := hX) rfl ?_
                    refine g_iload 4 (hd := dX7_lets_149) (C := hX) rfl ?_
                    refine g_iload 5 (hd := dX7_lets_151) (C := hX) rfl ?_
                    refine g_iload_n 2 (hd := dX7_lets_153) (C := hX) rfl rfl ?_
                    refine g_iload_n 3 (hd := dX7_lets_154) (C := hX) rfl rfl ?_
                    refine g_callS (rest := [.int (nI i), .ref oi]) hX (c_X7_stuckAs l D cC cI cJ cO i (((rvA c wd none none wi i) (c ((6 + (3 * (i - (c 0)))) + 1))) ^^^ ((rvA c wd none none wi i) (c ((6 + (3 * (i - (c 0)))) + 2)))) sr tr none none (by first | exact so_n hs0 | exact so_s hjs) (by first | exact so_n ht0 | exact so_s hjt) (by omega)) ok_X7_stuckAs (fun _ => rfl) (hd := dX7_lets_155) gX7_lets_X7_stuckAs ⟨by decide, by decide⟩ rfl (Nat.le_of_ble_eq_true rfl) ⟨Nat.zero_le _, Nat.zero_le _⟩ [] (by decide) rfl rfl ?_
                    intro r_155 e_155
                    subst e_155
                    show GW X [(o, .inr (7, [.int (nI len), .ref ot, .ref on, .ref od, .ref ow, .int (nI ch), .int (nI va), .int (nI en), .ref oi, .ref oe, .ref op, .long aE, .long aP, .long lt])), (ot, .inl (cI, 200, .inl (fun j_ => nI (T j_)))), (on, .inl (cI, 78, .inl (fun j_ => nI (c j_)))), (od, .inl (cI, 78, .inl (fun j_ => nI (rd j_)))), (ow, .inl (cI, 468, .inl (fun j_ => nI (ww j_)))), (oi, .inl (cI, 32, .inl (fun j_ => nI ((rvA c wd none none wi i) j_)))), (oe, .inl (cJ, 256, .inr (.inl EX))), (op, .inl (cJ, 256, .inr (.inl PA)))] [(0, .ref o), (1, .int (nI wd)), (2, .int sr), (3, .int tr), (4, .int (nI i)), (5, .int (nI (((rvA c wd none none wi i) (c ((6 + (3 * (i - (c 0)))) + 1))) ^^^ ((rvA c wd none none wi i) (c ((6 + (3 * (i - (c 0)))) + 2)))))), (6, .int (nI (6 + (3 * (i - (c 0)))))), (7, .int (nI ((rvA c wd none none wi i) (c ((6 + (3 * (i - (c 0)))) + 1))))), (8, .int (nI ((rvA c wd none none wi i) (c ((6 + (3 * (i - (c 0)))) + 2))))), (9, .int (nI (c (6 + (3 * (i - (c 0))))))), (10, .int (nI (((rvA c wd none none wi i) (c ((6 + (3 * (i - (c 0)))) + 1))) ^^^ ((rvA c wd none none wi i) (c ((6 + (3 * (i - (c 0)))) + 2))))))] [.int (nI (saS i (((rvA c wd none none wi i) (c ((6 + (3 * (i - (c 0)))) + 1))) ^^^ ((rvA c wd none none wi i) (c ((6 + (3 * (i - (c 0)))) + 2)))) none none)), .int (nI i), .ref oi] 158 0 0
                    refine g_iast (hd := dX7_lets_158) (C := hX) 5 1 [(o, .inr (7, [.int (nI len), .ref ot, .ref on, .ref od, .ref ow, .int (nI ch), .int (nI va), .int (nI en), .ref oi, .ref oe, .ref op, .long aE, .long aP, .long lt])), (ot, .inl (cI, 200, .inl (fun j_ => nI (T j_)))), (on, .inl (cI, 78, .inl (fun j_ => nI (c j_)))), (od, .inl (cI, 78, .inl (fun j_ => nI (rd j_)))), (ow, .inl (cI, 468, .inl (fun j_ => nI (ww j_)))), (oi, .inl (cI, 32, .inl (fun j_ => nI ((nup (rvA c wd none none wi i) i (saS i (((rvA c wd none none wi i) (c ((6 + (3 * (i - (c 0)))) + 1))) ^^^ ((rvA c wd none none wi i) (c ((6 + (3 * (i - (c 0)))) + 2)))) none none)) j_)))), (oe, .inl (cJ, 256, .inr (.inl EX))), (op, .inl (cJ, 256, .inr (.inl PA)))] rfl rfl (by omega) (by decide) (by rw [nup_I]; rfl) ?_
                    refine g_iinc (v := (nI (i + 1))) 4 [(0, .ref o), (1, .int (nI wd)), (2, .int sr), (3, .int tr), (4, .int (nI (i + 1))), (5, .int (nI (((rvA c wd none none wi i) (c ((6 + (3 * (i - (c 0)))) + 1))) ^^^ ((rvA c wd none none wi i) (c ((6 + (3 * (i - (c 0)))) + 2)))))), (6, .int (nI (6 + (3 * (i - (c 0)))))), (7, .int (nI ((rvA c wd none none wi i) (c ((6 + (3 * (i - (c 0)))) + 1))))), (8, .int (nI ((rvA c wd none none wi i) (c ((6 + (3 * (i - (c 0)))) + 2))))), (9, .int (nI (c (6 + (3 * (i - (c 0))))))), (10, .int (nI (((rvA c wd none none wi i) (c ((6 + (3 * (i - (c 0)))) + 1))) ^^^ ((rvA c wd none none wi i) (c ((6 + (3 * (i - (c 0)))) + 2))))))] [1, 2, 3, 4, 0, 5, 6, 7, 8, 9, 10] (hd := dX7_lets_159) (C := hX) rfl (nI_1 _) (by decide) rfl ?_
                    refine g_goto 3 (hd := dX7_lets_162) (C := hX) (by decide) ?_
                    refine g_w [(o, .inr (7, [.int (nI len), .ref ot, .ref on, .ref od, .ref ow, .int (nI ch), .int (nI va), .int (nI en), .ref oi, .ref oe, .ref op, .long aE, .long aP, .long lt])), (ot, .inl (cI, 200, .inl (fun j_ => nI (T j_)))), (on, .inl (cI, 78, .inl (fun j_ => nI (c j_)))), (od, .inl (cI, 78, .inl (fun j_ => nI (rd j_)))), (ow, .inl (cI, 468, .inl (fun j_ => nI (ww j_)))), (oi, .inl (cI, 32, .inl (fun j_ => nI ((rvA c wd none none wi (i + 1)) j_)))), (oe, .inl (cJ, 256, .inr (.inl EX))), (op, .inl (cJ, 256, .inr (.inl PA)))] (by simp only [rvA, rvX]; rw [if_neg (Nat.not_lt.mpr c_28)]; unfold gvN; rw [if_pos c_129, if_neg c_92, if_neg c_108]) ?_
                    refine g_lv [(0, .ref o), (1, .int (nI wd)), (2, .int sr), (3, .int tr), (4, .int (nI (i + 1)))] [0, 1, 2, 3, 4] rfl ?_
                    exact ih_3 (i + 1) (by omega) (by omega)
                · refine g_iload 7 (hd := dX7_lets_111) (C := hX) rfl ?_
                  refine g_iload 8 (hd := dX7_lets_113) (C := hX) rfl ?_
                  refine g_ior hX dX7_lets_115 ?_
                  refine g_top (y := (nI (((rvA c wd none none wi i) (c ((6 + (3 * (i - (c 0)))) + 1))) ||| ((rvA c wd none none wi i) (c ((6 + (3 * (i - (c 0)))) + 2)))))) (fa_or _ _) ?_
                  refine g_goto 124 (hd := dX7_lets_116) (C := hX) (by decide) ?_
                  refine g_istore [(0, .ref o), (1, .int (nI wd)), (2, .int sr), (3, .int tr), (4, .int (nI i)), (5, .int (nI (wd / 2 ^ i % 2))), (6, .int (nI (6 + (3 * (i - (c 0)))))), (7, .int (nI ((rvA c wd none none wi i) (c ((6 + (3 * (i - (c 0)))) + 1))))), (8, .int (nI ((rvA c wd none none wi i) (c ((6 + (3 * (i - (c 0)))) + 2))))), (9, .int (nI (c (6 + (3 * (i - (c 0))))))), (10, .int (nI (((rvA c wd none none wi i) (c ((6 + (3 * (i - (c 0)))) + 1))) ||| ((rvA c wd none none wi i) (c ((6 + (3 * (i - (c 0)))) + 2))))))] [1, 2, 3, 4, 5, 6, 7, 8, 9, 10, 0] (hd := dX7_lets_124) (C := hX) (by decide) rfl ?_
                  refine g_iload 9 (hd := dX7_lets_126) (C := hX) rfl ?_
                  refine g_iconst (v := nI 3) hX dX7_lets_128 (by decide) ?_
                  refine g_icmp_geN 137 (hd := dX7_lets_129) (C := hX) (by decide) (by omega) (by omega) (fun c_129 => ?_) (fun c_129 => ?_)
                  · have b9 := rv_le hok wd none none wi i hiL
                    have b8 := bit2 _ (Nat.lt_succ_of_le (b9 _ hq1)) _ (Nat.lt_succ_of_le (b9 _ hq2))
                    refine g_iconst (v := nI 1) hX dX7_lets_137 (by decide) ?_
                    refine g_iload 10 (hd := dX7_lets_138) (C := hX) rfl ?_
                    refine g_isub hX dX7_lets_140 ?_
                    refine g_top (y := (nI (1 - (((rvA c wd none none wi i) (c ((6 + (3 * (i - (c 0)))) + 1))) ||| ((rvA c wd none none wi i) (c ((6 + (3 * (i - (c 0)))) + 2))))))) (pk_sub (by omega)) ?_
                    refine g_istore [(0, .ref o), (1, .int (nI wd)), (2, .int sr), (3, .int tr), (4, .int (nI i)), (5, .int (nI (1 - (((rvA c wd none none wi i) (c ((6 + (3 * (i - (c 0)))) + 1))) ||| ((rvA c wd none none wi i) (c ((6 + (3 * (i - (c 0)))) + 2))))))), (6, .int (nI (6 + (3 * (i - (c 0)))))), (7, .int (nI ((rvA c wd none none wi i) (c ((6 + (3 * (i - (c 0)))) + 1))))), (8, .int (nI ((rvA c wd none none wi i) (c ((6 + (3 * (i - (c 0)))) + 2))))), (9, .int (nI (c (6 + (3 * (i - (c 0))))))), (10, .int (nI (((rvA c wd none none wi i) (c ((6 + (3 * (i - (c 0)))) + 1))) ||| ((rvA c wd none none wi i) (c ((6 + (3 * (i - (c 0)))) + 2))))))] [1, 2, 3, 4, 5, 0, 6, 7, 8, 9, 10] (hd := dX7_lets_141) (C := hX) (by decide) rfl ?_
                    refine g_aload_n 0 (hd := dX7_lets_143) (C := hX) rfl rfl ?_
                    refine g_get (hd := dX7_lets_144) (C := hX) 0 8 rfl rfl in_X7_lets_7 (by decide) (by decide +kernel) rfl ?_
                    refine g_iload 4 (hd := dX7_lets_147) (C := hX) rfl ?_
                    refine g_iload 4 (hd := dX7_lets_149) (C := hX) rfl ?_
                    refine g_iload 5 (hd := dX7_lets_151) (C := hX) rfl ?_
                    refine g_iload_n 2 (hd := dX7_lets_153) (C := hX) rfl rfl ?_
                    refine g_iload_n 3 (hd := dX7_lets_154) (C := hX) rfl rfl ?_
                    refine g_callS (rest := [.int (nI i), .ref oi]) hX (c_X7_stuckAs l D cC cI cJ cO i (1 - (((rvA c wd none none wi i) (c ((6 + (3 * (i - (c 0)))) + 1))) ||| ((rvA c wd none none wi i) (c ((6 + (3 * (i - (c 0)))) + 2))))) sr tr none none (by first | exact so_n hs0 | exact so_s hjs) (by first | exact so_n ht0 | exact so_s hjt) (by omega)) ok_X7_stuckAs (fun _ => rfl) (hd := dX7_lets_155) gX7_lets_X7_stuckAs ⟨by decide, by decide⟩ rfl (Nat.le_of_ble_eq_true rfl) ⟨Nat.zero_le _, Nat.zero_le _⟩ [] (by decide) rfl rfl ?_
                    intro r_155 e_155
                    subst e_155
                    show GW X [(o, .inr (7, [.int (nI len), .ref ot, .ref on, .ref od, .ref ow, .int (nI ch), .int (nI va), .int (nI en), .ref oi, .ref oe, .ref op, .long aE, .long aP, .long lt])), (ot, .inl (cI, 200, .inl (fun j_ => nI (T j_)))), (on, .inl (cI, 78, .inl (fun j_ => nI (c j_)))), (od, .inl (cI, 78, .inl (fun j_ => nI (rd j_)))), (ow, .inl (cI, 468, .inl (fun j_ => nI (ww j_)))), (oi, .inl (cI, 32, .inl (fun j_ => nI ((rvA c wd none none wi i) j_)))), (oe, .inl (cJ, 256, .inr (.inl EX))), (op, .inl (cJ, 256, .inr (.inl PA)))] [(0, .ref o), (1, .int (nI wd)), (2, .int sr), (3, .int tr), (4, .int (nI i)), (5, .int (nI (1 - (((rvA c wd none none wi i) (c ((6 + (3 * (i - (c 0)))) + 1))) ||| ((rvA c wd none none wi i) (c ((6 + (3 * (i - (c 0)))) + 2))))))), (6, .int (nI (6 + (3 * (i - (c 0)))))), (7, .int (nI ((rvA c wd none none wi i) (c ((6 + (3 * (i - (c 0)))) + 1))))), (8, .int (nI ((rvA c wd none none wi i) (c ((6 + (3 * (i - (c 0)))) + 2))))), (9, .int (nI (c (6 + (3 * (i - (c 0))))))), (10, .int (nI (((rvA c wd none none wi i) (c ((6 + (3 * (i - (c 0)))) + 1))) ||| ((rvA c wd none none wi i) (c ((6 + (3 * (i - (c 0)))) + 2))))))] [.int (nI (saS i (1 - (((rvA c wd none none wi i) (c ((6 + (3 * (i - (c 0)))) + 1))) ||| ((rvA c wd none none wi i) (c ((6 + (3 * (i - (c 0)))) + 2))))) none none)), .int (nI i), .ref oi] 158 0 0
                    refine g_iast (hd := dX7_lets_158) (C := hX) 5 1 [(o, .inr (7, [.int (nI len), .ref ot, .ref on, .ref od, .ref ow, .int (nI ch), .int (nI va), .int (nI en), .ref oi, .ref oe, .ref op, .long aE, .long aP, .long lt])), (ot, .inl (cI, 200, .inl (fun j_ => nI (T j_)))), (on, .inl (cI, 78, .inl (fun j_ => nI (c j_)))), (od, .inl (cI, 78, .inl (fun j_ => nI (rd j_)))), (ow, .inl (cI, 468, .inl (fun j_ => nI (ww j_)))), (oi, .inl (cI, 32, .inl (fun j_ => nI ((nup (rvA c wd none none wi i) i (saS i (1 - (((rvA c wd none none wi i) (c ((6 + (3 * (i - (c 0)))) + 1))) ||| ((rvA c wd none none wi i) (c ((6 + (3 * (i - (c 0)))) + 2))))) none none)) j_)))), (oe, .inl (cJ, 256, .inr (.inl EX))), (op, .inl (cJ, 256, .inr (.inl PA)))] rfl rfl (by omega) (by decide) (by rw [nup_I]; rfl) ?_
                    refine g_iinc (v := (nI (i + 1))) 4 [(0, .ref o), (1, .int (nI wd)), (2, .int sr), (3, .int tr), (4, .int (nI (i + 1))), (5, .int (nI (1 - (((rvA c wd none none wi i) (c ((6 + (3 * (i - (c 0)))) + 1))) ||| ((rvA c wd none none wi i) (c ((6 + (3 * (i - (c 0)))) + 2))))))), (6, .int (nI (6 + (3 * (i - (c 0)))))), (7, .int (nI ((rvA c wd none none wi i) (c ((6 + (3 * (i - (c 0)))) + 1))))), (8, .int (nI ((rvA c wd none none wi i) (c ((6 + (3 * (i - (c 0)))) + 2))))), (9, .int (nI (c (6 + (3 * (i - (c 0))))))), (10, .int (nI (((rvA c wd none none wi i) (c ((6 + (3 * (i - (c 0)))) + 1))) ||| ((rvA c wd none none wi i) (c ((6 + (3 * (i - (c 0)))) + 2))))))] [1, 2, 3, 4, 0, 5, 6, 7, 8, 9, 10] (hd := dX7_lets_159) (C := hX) rfl (nI_1 _) (by decide) rfl ?_
                    refine g_goto 3 (hd := dX7_lets_162) (C := hX) (by decide) ?_
                    refine g_w [(o, .inr (7, [.int (nI len), .ref ot, .ref on, .ref od, .ref ow, .int (nI ch), .int (nI va), .int (nI en), .ref oi, .ref oe, .ref op, .long aE, .long aP, .long lt])), (ot, .inl (cI, 200, .inl (fun j_ => nI (T j_)))), (on, .inl (cI, 78, .inl (fun j_ => nI (c j_)))), (od, .inl (cI, 78, .inl (fun j_ => nI (rd j_)))), (ow, .inl (cI, 468, .inl (fun j_ => nI (ww j_)))), (oi, .inl (cI, 32, .inl (fun j_ => nI ((rvA c wd none none wi (i + 1)) j_)))), (oe, .inl (cJ, 256, .inr (.inl EX))), (op, .inl (cJ, 256, .inr (.inl PA)))] (by simp only [rvA, rvX]; rw [if_neg (Nat.not_lt.mpr c_28)]; unfold gvN; rw [if_neg (Nat.not_lt.mpr c_129), if_neg c_92, if_pos c_108]) ?_
                    refine g_lv [(0, .ref o), (1, .int (nI wd)), (2, .int sr), (3, .int tr), (4, .int (nI (i + 1)))] [0, 1, 2, 3, 4] rfl ?_
                    exact ih_3 (i + 1) (by omega) (by omega)
                  · refine g_iload 10 (hd := dX7_lets_132) (C := hX) rfl ?_
                    refine g_goto 141 (hd := dX7_lets_134) (C := hX) (by decide) ?_
                    refine g_istore [(0, .ref o), (1, .int (nI wd)), (2, .int sr), (3, .int tr), (4, .int (nI i)), (5, .int (nI (((rvA c wd none none wi i) (c ((6 + (3 * (i - (c 0)))) + 1))) ||| ((rvA c wd none none wi i) (c ((6 + (3 * (i - (c 0)))) + 2)))))), (6, .int (nI (6 + (3 * (i - (c 0)))))), (7, .int (nI ((rvA c wd none none wi i) (c ((6 + (3 * (i - (c 0)))) + 1))))), (8, .int (nI ((rvA c wd none none wi i) (c ((6 + (3 * (i - (c 0)))) + 2))))), (9, .int (nI (c (6 + (3 * (i - (c 0))))))), (10, .int (nI (((rvA c wd none none wi i) (c ((6 + (3 * (i - (c 0)))) + 1))) ||| ((rvA c wd none none wi i) (c ((6 + (3 * (i - (c 0)))) + 2))))))] [1, 2, 3, 4, 5, 0, 6, 7, 8, 9, 10] (hd := dX7_lets_141) (C := hX) (by decide) rfl ?_
                    refine g_aload_n 0 (hd := dX7_lets_143) (C := hX) rfl rfl ?_
                    refine g_get (hd := dX7_lets_144) (C := hX) 0 8 rfl rfl in_X7_lets_7 (by decide) (by decide +kernel) rfl ?_
                    refine g_iload 4 (hd := dX7_lets_147) (C := hX) rfl ?_
                    refine g_iload 4 (hd := dX7_lets_149) (C := hX) rfl ?_
                    refine g_iload 5 (hd := dX7_lets_151) (C := hX) rfl ?_
                    refine g_iload_n 2 (hd := dX7_lets_153) (C := hX) rfl rfl ?_
                    refine g_iload_n 3 (hd := dX7_lets_154) (C := hX) rfl rfl ?_
                    refine g_callS (rest := [.int (nI i), .ref oi]) hX (c_X7_stuckAs l D cC cI cJ cO i (((rvA c wd none none wi i) (c ((6 + (3 * (i - (c 0)))) + 1))) ||| ((rvA c wd none none wi i) (c ((6 + (3 * (i - (c 0)))) + 2)))) sr tr none none (by first | exact so_n hs0 | exact so_s hjs) (by first | exact so_n ht0 | exact so_s hjt) (by omega)) ok_X7_stuckAs (fun _ => rfl) (hd := dX7_lets_155) gX7_lets_X7_stuckAs ⟨by decide, by decide⟩ rfl (Nat.le_of_ble_eq_true rfl) ⟨Nat.zero_le _, Nat.zero_le _⟩ [] (by decide) rfl rfl ?_
                    intro r_155 e_155
                    subst e_155
                    show GW X [(o, .inr (7, [.int (nI len), .ref ot, .ref on, .ref od, .ref ow, .int (nI ch), .int (nI va), .int (nI en), .ref oi, .ref oe, .ref op, .long aE, .long aP, .long lt])), (ot, .inl (cI, 200, .inl (fun j_ => nI (T j_)))), (on, .inl (cI, 78, .inl (fun j_ => nI (c j_)))), (od, .inl (cI, 78, .inl (fun j_ => nI (rd j_)))), (ow, .inl (cI, 468, .inl (fun j_ => nI (ww j_)))), (oi, .inl (cI, 32, .inl (fun j_ => nI ((rvA c wd none none wi i) j_)))), (oe, .inl (cJ, 256, .inr (.inl EX))), (op, .inl (cJ, 256, .inr (.inl PA)))] [(0, .ref o), (1, .int (nI wd)), (2, .int sr), (3, .int tr), (4, .int (nI i)), (5, .int (nI (((rvA c wd none none wi i) (c ((6 + (3 * (i - (c 0)))) + 1))) ||| ((rvA c wd none none wi i) (c ((6 + (3 * (i - (c 0)))) + 2)))))), (6, .int (nI (6 + (3 * (i - (c 0)))))), (7, .int (nI ((rvA c wd none none wi i) (c ((6 + (3 * (i - (c 0)))) + 1))))), (8, .int (nI ((rvA c wd none none wi i) (c ((6 + (3 * (i - (c 0)))) + 2))))), (9, .int (nI (c (6 + (3 * (i - (c 0))))))), (10, .int (nI (((rvA c wd none none wi i) (c ((6 + (3 * (i - (c 0)))) + 1))) ||| ((rvA c wd none none wi i) (c ((6 + (3 * (i - (c 0)))) + 2))))))] [.int (nI (saS i (((rvA c wd none none wi i) (c ((6 + (3 * (i - (c 0)))) + 1))) ||| ((rvA c wd none none wi i) (c ((6 + (3 * (i - (c 0)))) + 2)))) none none)), .int (nI i), .ref oi] 158 0 0
                    refine g_iast (hd := dX7_lets_158) (C := hX) 5 1 [(o, .inr (7, [.int (nI len), .ref ot, .ref on, .ref od, .ref ow, .int (nI ch), .int (nI va), .int (nI en), .ref oi, .ref oe, .ref op, .long aE, .long aP, .long lt])), (ot, .inl (cI, 200, .inl (fun j_ => nI (T j_)))), (on, .inl (cI, 78, .inl (fun j_ => nI (c j_)))), (od, .inl (cI, 78, .inl (fun j_ => nI (rd j_)))), (ow, .inl (cI, 468, .inl (fun j_ => nI (ww j_)))), (oi, .inl (cI, 32, .inl (fun j_ => nI ((nup (rvA c wd none none wi i) i (saS i (((rvA c wd none none wi i) (c ((6 + (3 * (i - (c 0)))) + 1))) ||| ((rvA c wd none none wi i) (c ((6 + (3 * (i - (c 0)))) + 2)))) none none)) j_)))), (oe, .inl (cJ, 256, .inr (.inl EX))), (op, .inl (cJ, 256, .inr (.inl PA)))] rfl rfl (by omega) (by decide) (by rw [nup_I]; rfl) ?_
                    refine g_iinc (v := (nI (i + 1))) 4 [(0, .ref o), (1, .int (nI wd)), (2, .int sr), (3, .int tr), (4, .int (nI (i + 1))), (5, .int (nI (((rvA c wd none none wi i) (c ((6 + (3 * (i - (c 0)))) + 1))) ||| ((rvA c wd none none wi i) (c ((6 + (3 * (i - (c 0)))) + 2)))))), (6, .int (nI (6 + (3 * (i - (c 0)))))), (7, .int (nI ((rvA c wd none none wi i) (c ((6 + (3 * (i - (c 0)))) + 1))))), (8, .int (nI ((rvA c wd none none wi i) (c ((6 + (3 * (i - (c 0)))) + 2))))), (9, .int (nI (c (6 + (3 * (i - (c 0))))))), (10, .int (nI (((rvA c wd none none wi i) (c ((6 + (3 * (i - (c 0)))) + 1))) ||| ((rvA c wd none none wi i) (c ((6 + (3 * (i - (c 0)))) + 2))))))] [1, 2, 3, 4, 0, 5, 6, 7, 8, 9, 10] (hd := dX7_lets_159) (C := hX) rfl (nI_1 _) (by decide) rfl ?_
                    refine g_goto 3 (hd := dX7_lets_162) (C := hX) (by decide) ?_
                    refine g_w [(o, .inr (7, [.int (nI len), .ref ot, .ref on, .ref od, .ref ow, .int (nI ch), .int (nI va), .int (nI en), .ref oi, .ref oe, .ref op, .long aE, .long aP, .long lt])), (ot, .inl (cI, 200, .inl (fun j_ => nI (T j_)))), (on, .inl (cI, 78, .inl (fun j_ => nI (c j_)))), (od, .inl (cI, 78, .inl (fun j_ => nI (rd j_)))), (ow, .inl (cI, 468, .inl (fun j_ => nI (ww j_)))), (oi, .inl (cI, 32, .inl (fun j_ => nI ((rvA c wd none none wi (i + 1)) j_)))), (oe, .inl (cJ, 256, .inr (.inl EX))), (op, .inl (cJ, 256, .inr (.inl PA)))] (by simp only [rvA, rvX]; rw [if_neg (Nat.not_lt.mpr c_28)]; unfold gvN; rw [if_pos c_129, if_neg c_92, if_pos c_108]) ?_
                    refine g_lv [(0, .ref o), (1, .int (nI wd)), (2, .int sr), (3, .int tr), (4, .int (nI (i + 1)))] [0, 1, 2, 3, 4] rfl ?_
                    exact ih_3 (i + 1) (by omega) (by omega)
              · refine g_iload 7 (hd := dX7_lets_95) (C := hX) rfl ?_
                refine g_iload 8 (hd := dX7_lets_97) (C := hX) rfl ?_
                refine g_iand hX dX7_lets_99 ?_
                refine g_top (y := (nI (((rvA c wd none none wi i) (c ((6 + (3 * (i - (c 0)))) + 1))) &&& ((rvA c wd none none wi i) (c ((6 + (3 * (i - (c 0)))) + 2)))))) (nx_and _ _) ?_
                refine g_goto 124 (hd := dX7_lets_100) (C := hX) (by decide) ?_
                refine g_istore [(0, .ref o), (1, .int (nI wd)), (2, .int sr), (3, .int tr), (4, .int (nI i)), (5, .int (nI (wd / 2 ^ i % 2))), (6, .int (nI (6 + (3 * (i - (c 0)))))), (7, .int (nI ((rvA c wd none none wi i) (c ((6 + (3 * (i - (c 0)))) + 1))))), (8, .int (nI ((rvA c wd none none wi i) (c ((6 + (3 * (i - (c 0)))) + 2))))), (9, .int (nI (c (6 + (3 * (i - (c 0))))))), (10, .int (nI (((rvA c wd none none wi i) (c ((6 + (3 * (i - (c 0)))) + 1))) &&& ((rvA c wd none none wi i) (c ((6 + (3 * (i - (c 0)))) + 2))))))] [1, 2, 3, 4, 5, 6, 7, 8, 9, 10, 0] (hd := dX7_lets_124) (C := hX) (by decide) rfl ?_
                refine g_iload 9 (hd := dX7_lets_126) (C := hX) rfl ?_
                refine g_iconst (v := nI 3) hX dX7_lets_128 (by decide) ?_
                refine g_icmp_geN 137 (hd := dX7_lets_129) (C := hX) (by decide) (by omega) (by omega) (fun c_129 => ?_) (fun c_129 => ?_)
                · have b9 := rv_le hok wd none none wi i hiL
                  have b8 := bit2 _ (Nat.lt_succ_of_le (b9 _ hq1)) _ (Nat.lt_succ_of_le (b9 _ hq2))
                  refine g_iconst (v := nI 1) hX dX7_lets_137 (by decide) ?_
                  refine g_iload 10 (hd := dX7_lets_138) (C := hX) rfl ?_
                  refine g_isub hX dX7_lets_140 ?_
                  refine g_top (y := (nI (1 - (((rvA c wd none none wi i) (c ((6 + (3 * (i - (c 0)))) + 1))) &&& ((rvA c wd none none wi i) (c ((6 + (3 * (i - (c 0)))) + 2))))))) (pk_sub (by omega)) ?_
                  refine g_istore [(0, .ref o), (1, .int (nI wd)), (2, .int sr), (3, .int tr), (4, .int (nI i)), (5, .int (nI (1 - (((rvA c wd none none wi i) (c ((6 + (3 * (i - (c 0)))) + 1))) &&& ((rvA c wd none none wi i) (c ((6 + (3 * (i - (c 0)))) + 2))))))), (6, .int (nI (6 + (3 * (i - (c 0)))))), (7, .int (nI ((rvA c wd none none wi i) (c ((6 + (3 * (i - (c 0)))) + 1))))), (8, .int (nI ((rvA c wd none none wi i) (c ((6 + (3 * (i - (c 0)))) + 2))))), (9, .int (nI (c (6 + (3 * (i - (c 0))))))), (10, .int (nI (((rvA c wd none none wi i) (c ((6 + (3 * (i - (c 0)))) + 1))) &&& ((rvA c wd none none wi i) (c ((6 + (3 * (i - (c 0)))) + 2))))))] [1, 2, 3, 4, 5, 0, 6, 7, 8, 9, 10] (hd := dX7_lets_141) (C := hX) (by decide) rfl ?_
                  refine g_aload_n 0 (hd := dX7_lets_143) (C := hX) rfl rfl ?_
                  refine g_get (hd := dX7_lets_144) (C := hX) 0 8 rfl rfl in_X7_lets_7 (by decide) (by decide +kernel) rfl ?_
                  refine g_iload 4 (hd := dX7_lets_147) (C := hX) rfl ?_
                  refine g_iload 4 (hd := dX7_lets_149) (C := hX) rfl ?_
                  refine g_iload 5 (hd := dX7_lets_151) (C := hX) rfl ?_
                  refine g_iload_n 2 (hd := dX7_lets_153) (C := hX) rfl rfl ?_
                  refine g_iload_n 3 (hd := dX7_lets_154) (C := hX) rfl rfl ?_
                  refine g_callS (rest := [.int (nI i), .ref oi]) hX (c_X7_stuckAs l D cC cI cJ cO i (1 - (((rvA c wd none none wi i) (c ((6 + (3 * (i - (c 0)))) + 1))) &&& ((rvA c wd none none wi i) (c ((6 + (3 * (i - (c 0)))) + 2))))) sr tr none none (by first | exact so_n hs0 | exact so_s hjs) (by first | exact so_n ht0 | exact so_s hjt) (by omega)) ok_X7_stuckAs (fun _ => rfl) (hd := dX7_lets_155) gX7_lets_X7_stuckAs ⟨by decide, by decide⟩ rfl (Nat.le_of_ble_eq_true rfl) ⟨Nat.zero_le _, Nat.zero_le _⟩ [] (by decide) rfl rfl ?_
                  intro r_155 e_155
                  subst e_155
                  show GW X [(o, .inr (7, [.int (nI len), .ref ot, .ref on, .ref od, .ref ow, .int (nI ch), .int (nI va), .int (nI en), .ref oi, .ref oe, .ref op, .long aE, .long aP, .long lt])), (ot, .inl (cI, 200, .inl (fun j_ => nI (T j_)))), (on, .inl (cI, 78, .inl (fun j_ => nI (c j_)))), (od, .inl (cI, 78, .inl (fun j_ => nI (rd j_)))), (ow, .inl (cI, 468, .inl (fun j_ => nI (ww j_)))), (oi, .inl (cI, 32, .inl (fun j_ => nI ((rvA c wd none none wi i) j_)))), (oe, .inl (cJ, 256, .inr (.inl EX))), (op, .inl (cJ, 256, .inr (.inl PA)))] [(0, .ref o), (1, .int (nI wd)), (2, .int sr), (3, .int tr), (4, .int (nI i)), (5, .int (nI (1 - (((rvA c wd none none wi i) (c ((6 + (3 * (i - (c 0)))) + 1))) &&& ((rvA c wd none none wi i) (c ((6 + (3 * (i - (c 0)))) + 2))))))), (6, .int (nI (6 + (3 * (i - (c 0)))))), (7, .int (nI ((rvA c wd none none wi i) (c ((6 + (3 * (i - (c 0)))) + 1))))), (8, .int (nI ((rvA c wd none none wi i) (c ((6 + (3 * (i - (c 0)))) + 2))))), (9, .int (nI (c (6 + (3 * (i - (c 0))))))), (10, .int (nI (((rvA c wd none none wi i) (c ((6 + (3 * (i - (c 0)))) + 1))) &&& ((rvA c wd none none wi i) (c ((6 + (3 * (i - (c 0)))) + 2))))))] [.int (nI (saS i (1 - (((rvA c wd none none wi i) (c ((6 + (3 * (i - (c 0)))) + 1))) &&& ((rvA c wd none none wi i) (c ((6 + (3 * (i - (c 0)))) + 2))))) none none)), .int (nI i), .ref oi] 158 0 0
                  refine g_iast (hd := dX7_lets_158) (C := hX) 5 1 [(o, .inr (7, [.int (nI len), .ref ot, .ref on, .ref od, .ref ow, .int (nI ch), .int (nI va), .int (nI en), .ref oi, .ref oe, .ref op, .long aE, .long aP, .long lt])), (ot, .inl (cI, 200, .inl (fun j_ => nI (T j_)))), (on, .inl (cI, 78, .inl (fun j_ => nI (c j_)))), (od, .inl (cI, 78, .inl (fun j_ => nI (rd j_)))), (ow, .inl (cI, 468, .inl (fun j_ => nI (ww j_)))), (oi, .inl (cI, 32, .inl (fun j_ => nI ((nup (rvA c wd none none wi i) i (saS i (1 - (((rvA c wd none none wi i) (c ((6 + (3 * (i - (c 0)))) + 1))) &&& ((rvA c wd none none wi i) (c ((6 + (3 * (i - (c 0)))) + 2))))) none none)) j_)))), (oe, .inl (cJ, 256, .inr (.inl EX))), (op, .inl (cJ, 256, .inr (.inl PA)))] rfl rfl (by omega) (by decide) (by rw [nup_I]; rfl) ?_
                  refine g_iinc (v := (nI (i + 1))) 4 [(0, .ref o), (1, .int (nI wd)), (2, .int sr), (3, .int tr), (4, .int (nI (i + 1))), (5, .int (nI (1 - (((rvA c wd none none wi i) (c ((6 + (3 * (i - (c 0)))) + 1))) &&& ((rvA c wd none none wi i) (c ((6 + (3 * (i - (c 0)))) + 2))))))), (6, .int (nI (6 + (3 * (i - (c 0)))))), (7, .int (nI ((rvA c wd none none wi i) (c ((6 + (3 * (i - (c 0)))) + 1))))), (8, .int (nI ((rvA c wd none none wi i) (c ((6 + (3 * (i - (c 0)))) + 2))))), (9, .int (nI (c (6 + (3 * (i - (c 0))))))), (10, .int (nI (((rvA c wd none none wi i) (c ((6 + (3 * (i - (c 0)))) + 1))) &&& ((rvA c wd none none wi i) (c ((6 + (3 * (i - (c 0)))) + 2))))))] [1, 2, 3, 4, 0, 5, 6, 7, 8, 9, 10] (hd := dX7_lets_159) (C := hX) rfl (nI_1 _) (by decide) rfl ?_
                  refine g_goto 3 (hd := dX7_lets_162) (C := hX) (by decide) ?_
                  refine g_w [(o, .inr (7, [.int (nI len), .ref ot, .ref on, .ref od, .ref ow, .int (nI ch), .int (nI va), .int (nI en), .ref oi, .ref oe, .ref op, .long aE, .long aP, .long lt])), (ot, .inl (cI, 200, .inl (fun j_ => nI (T j_)))), (on, .inl (cI, 78, .inl (fun j_ => nI (c j_)))), (od, .inl (cI, 78, .inl (fun j_ => nI (rd j_)))), (ow, .inl (cI, 468, .inl (fun j_ => nI (ww j_)))), (oi, .inl (cI, 32, .inl (fun j_ => nI ((rvA c wd none none wi (i + 1)) j_)))), (oe, .inl (cJ, 256, .inr (.inl EX))), (op, .inl (cJ, 256, .inr (.inl PA)))] (by simp only [rvA, rvX]; rw [if_neg (Nat.not_lt.mpr c_28)]; unfold gvN; rw [if_neg (Nat.not_lt.mpr c_129), if_pos c_92]) ?_
                  refine g_lv [(0, .ref o), (1, .int (nI wd)), (2, .int sr), (3, .int tr), (4, .int (nI (i + 1)))] [0, 1, 2, 3, 4] rfl ?_
                  exact ih_3 (i + 1) (by omega) (by omega)
                · refine g_iload 10 (hd := dX7_lets_132) (C := hX) rfl ?_
                  refine g_goto 141 (hd := dX7_lets_134) (C := hX) (by decide) ?_
                  refine g_istore [(0, .ref o), (1, .int (nI wd)), (2, .int sr), (3, .int tr), (4, .int (nI i)), (5, .int (nI (((rvA c wd none none wi i) (c ((6 + (3 * (i - (c 0)))) + 1))) &&& ((rvA c wd none none wi i) (c ((6 + (3 * (i - (c 0)))) + 2)))))), (6, .int (nI (6 + (3 * (i - (c 0)))))), (7, .int (nI ((rvA c wd none none wi i) (c ((6 + (3 * (i - (c 0)))) + 1))))), (8, .int (nI ((rvA c wd none none wi i) (c ((6 + (3 * (i - (c 0)))) + 2))))), (9, .int (nI (c (6 + (3 * (i - (c 0))))))), (10, .int (nI (((rvA c wd none none wi i) (c ((6 + (3 * (i - (c 0)))) + 1))) &&& ((rvA c wd none none wi i) (c ((6 + (3 * (i - (c 0)))) + 2))))))] [1, 2, 3, 4, 5, 0, 6, 7, 8, 9, 10] (hd := dX7_lets_141) (C := hX) (by decide) rfl ?_
                  refine g_aload_n 0 (hd := dX7_lets_143) (C := hX) rfl rfl ?_
                  refine g_get (hd := dX7_lets_144) (C := hX) 0 8 rfl rfl in_X7_lets_7 (by decide) (by decide +kernel) rfl ?_
                  refine g_iload 4 (hd := dX7_lets_147) (C := hX) rfl ?_
                  refine g_iload 4 (hd := dX7_lets_149) (C := hX) rfl ?_
                  refine g_iload 5 (hd := dX7_lets_151) (C := hX) rfl ?_
                  refine g_iload_n 2 (hd := dX7_lets_153) (C := hX) rfl rfl ?_
                  refine g_iload_n 3 (hd := dX7_lets_154) (C := hX) rfl rfl ?_
                  refine g_callS (rest := [.int (nI i), .ref oi]) hX (c_X7_stuckAs l D cC cI cJ cO i (((rvA c wd none none wi i) (c ((6 + (3 * (i - (c 0)))) + 1))) &&& ((rvA c wd none none wi i) (c ((6 + (3 * (i - (c 0)))) + 2)))) sr tr none none (by first | exact so_n hs0 | exact so_s hjs) (by first | exact so_n ht0 | exact so_s hjt) (by omega)) ok_X7_stuckAs (fun _ => rfl) (hd := dX7_lets_155) gX7_lets_X7_stuckAs ⟨by decide, by decide⟩ rfl (Nat.le_of_ble_eq_true rfl) ⟨Nat.zero_le _, Nat.zero_le _⟩ [] (by decide) rfl rfl ?_
                  intro r_155 e_155
                  subst e_155
                  show GW X [(o, .inr (7, [.int (nI len), .ref ot, .ref on, .ref od, .ref ow, .int (nI ch), .int (nI va), .int (nI en), .ref oi, .ref oe, .ref op, .long aE, .long aP, .long lt])), (ot, .inl (cI, 200, .inl (fun j_ => nI (T j_)))), (on, .inl (cI, 78, .inl (fun j_ => nI (c j_)))), (od, .inl (cI, 78, .inl (fun j_ => nI (rd j_)))), (ow, .inl (cI, 468, .inl (fun j_ => nI (ww j_)))), (oi, .inl (cI, 32, .inl (fun j_ => nI ((rvA c wd none none wi i) j_)))), (oe, .inl (cJ, 256, .inr (.inl EX))), (op, .inl (cJ, 256, .inr (.inl PA)))] [(0, .ref o), (1, .int (nI wd)), (2, .int sr), (3, .int tr), (4, .int (nI i)), (5, .int (nI (((rvA c wd none none wi i) (c ((6 + (3 * (i - (c 0)))) + 1))) &&& ((rvA c wd none none wi i) (c ((6 + (3 * (i - (c 0)))) + 2)))))), (6, .int (nI (6 + (3 * (i - (c 0)))))), (7, .int (nI ((rvA c wd none none wi i) (c ((6 + (3 * (i - (c 0)))) + 1))))), (8, .int (nI ((rvA c wd none none wi i) (c ((6 + (3 * (i - (c 0)))) + 2))))), (9, .int (nI (c (6 + (3 * (i - (c 0))))))), (10, .int (nI (((rvA c wd none none wi i) (c ((6 + (3 * (i - (c 0)))) + 1))) &&& ((rvA c wd none none wi i) (c ((6 + (3 * (i - (c 0)))) + 2))))))] [.int (nI (saS i (((rvA c wd none none wi i) (c ((6 + (3 * (i - (c 0)))) + 1))) &&& ((rvA c wd none none wi i) (c ((6 + (3 * (i - (c 0)))) + 2)))) none none)), .int (nI i), .ref oi] 158 0 0
                  refine g_iast (hd := dX7_lets_158) (C := hX) 5 1 [(o, .inr (7, [.int (nI len), .ref ot, .ref on, .ref od, .ref ow, .int (nI ch), .int (nI va), .int (nI en), .ref oi, .ref oe, .ref op, .long aE, .long aP, .long lt])), (ot, .inl (cI, 200, .inl (fun j_ => nI (T j_)))), (on, .inl (cI, 78, .inl (fun j_ => nI (c j_)))), (od, .inl (cI, 78, .inl (fun j_ => nI (rd j_)))), (ow, .inl (cI, 468, .inl (fun j_ => nI (ww j_)))), (oi, .inl (cI, 32, .inl (fun j_ => nI ((nup (rvA c wd none none wi i) i (saS i (((rvA c wd none none wi i) (c ((6 + (3 * (i - (c 0)))) + 1))) &&& ((rvA c wd none none wi i) (c ((6 + (3 * (i - (c 0)))) + 2)))) none none)) j_)))), (oe, .inl (cJ, 256, .inr (.inl EX))), (op, .inl (cJ, 256, .inr (.inl PA)))] rfl rfl (by omega) (by decide) (by rw [nup_I]; rfl) ?_
                  refine g_iinc (v := (nI (i + 1))) 4 [(0, .ref o), (1, .int (nI wd)), (2, .int sr), (3, .int tr), (4, .int (nI (i + 1))), (5, .int (nI (((rvA c wd none none wi i) (c ((6 + (3 * (i - (c 0)))) + 1))) &&& ((rvA c wd none none wi i) (c ((6 + (3 * (i - (c 0)))) + 2)))))), (6, .int (nI (6 + (3 * (i - (c 0)))))), (7, .int (nI ((rvA c wd none none wi i) (c ((6 + (3 * (i - (c 0)))) + 1))))), (8, .int (nI ((rvA c wd none none wi i) (c ((6 + (3 * (i - (c 0)))) + 2))))), (9, .int (nI (c (6 + (3 * (i - (c 0))))))), (10, .int (nI (((rvA c wd none none wi i) (c ((6 + (3 * (i - (c 0)))) + 1))) &&& ((rvA c wd none none wi i) (c ((6 + (3 * (i - (c 0)))) + 2))))))] [1, 2, 3, 4, 0, 5, 6, 7, 8, 9, 10] (hd := dX7_lets_159) (C := hX) rfl (nI_1 _) (by decide) rfl ?_
                  refine g_goto 3 (hd := dX7_lets_162) (C := hX) (by decide) ?_
                  refine g_w [(o, .inr (7, [.int (nI len), .ref ot, .ref on, .ref od, .ref ow, .int (nI ch), .int (nI va), .int (nI en), .ref oi, .ref oe, .ref op, .long aE, .long aP, .long lt])), (ot, .inl (cI, 200, .inl (fun j_ => nI (T j_)))), (on, .inl (cI, 78, .inl (fun j_ => nI (c j_)))), (od, .inl (cI, 78, .inl (fun j_ => nI (rd j_)))), (ow, .inl (cI, 468, .inl (fun j_ => nI (ww j_)))), (oi, .inl (cI, 32, .inl (fun j_ => nI ((rvA c wd none none wi (i + 1)) j_)))), (oe, .inl (cJ, 256, .inr (.inl EX))), (op, .inl (cJ, 256, .inr (.inl PA)))] (by simp only [rvA, rvX]; rw [if_neg (Nat.not_lt.mpr c_28)]; unfold gvN; rw [if_pos c_129, if_pos c_92]) ?_
                  refine g_lv [(0, .ref o), (1, .int (nI wd)), (2, .int sr), (3, .int tr), (4, .int (nI (i + 1)))] [0, 1, 2, 3, 4] rfl ?_
                  exact ih_3 (i + 1) (by omega) (by omega)
      refine g_w [(o, .inr (7, [.int (nI len), .ref ot, .ref on, .ref od, .ref ow, .int (nI ch), .int (nI va), .int (nI en), .ref oi, .ref oe, .ref op, .long aE, .long aP, .long lt])), (ot, .inl (cI, 200, .inl (fun j_ => nI (T j_)))), (on, .inl (cI, 78, .inl (fun j_ => nI (c j_)))), (od, .inl (cI, 78, .inl (fun j_ => nI (rd j_)))), (ow, .inl (cI, 468, .inl (fun j_ => nI (ww j_)))), (oi, .inl (cI, 32, .inl (fun j_ => nI ((rvA c wd none none wi 0) j_)))), (oe, .inl (cJ, 256, .inr (.inl EX))), (op, .inl (cJ, 256, .inr (.inl PA)))] rfl ?_
      exact L_3 _ 0 (Nat.lt_succ_self _) (Nat.zero_le _)
    · refine g_iconst (v := nI 0) hX dX7_lets_0 (by decide) ?_
      refine g_istore [(0, .ref o), (1, .int (nI wd)), (2, .int sr), (3, .int (nI jt)), (4, .int (nI 0))] [1, 2, 3, 4, 0] (hd := dX7_lets_1) (C := hX) (by decide) rfl ?_
      have L_3 : ∀ (n_3 : Nat) (i : Nat), c 0 + c 1 - i < n_3 → (i ≤ c 0 + c 1) → GW X [(o, .inr (7, [.int (nI len), .ref ot, .ref on, .ref od, .ref ow, .int (nI ch), .int (nI va), .int (nI en), .ref oi, .ref oe, .ref op, .long aE, .long aP, .long lt])), (ot, .inl (cI, 200, .inl (fun j_ => nI (T j_)))), (on, .inl (cI, 78, .inl (fun j_ => nI (c j_)))), (od, .inl (cI, 78, .inl (fun j_ => nI (rd j_)))), (ow, .inl (cI, 468, .inl (fun j_ => nI (ww j_)))), (oi, .inl (cI, 32, .inl (fun j_ => nI ((rvA c wd none (some jt) wi i) j_)))), (oe, .inl (cJ, 256, .inr (.inl EX))), (op, .inl (cJ, 256, .inr (.inl PA)))] [(0, .ref o), (1, .int (nI wd)), (2, .int sr), (3, .int (nI jt)), (4, .int (nI i))] [] 3 0 0 := by
        intro n_3
        induction n_3 with
        | zero => intro i hm_3; exact absurd hm_3 (Nat.not_lt_zero _)
        | succ n_3 ih_3 =>
          intro i hm_3 hiL
          refine g_iload 4 (hd := dX7_lets_3) (C := hX) rfl ?_
          refine g_aload_n 0 (hd := dX7_lets_5) (C := hX) rfl rfl ?_
          refine g_callVs (rest := [.int (nI i)]) hX (c_X7_wires l D cC cI cJ cO o ot on od ow oi oe op len ch va en aE aP lt T c rd ww (rvA c wd none (some jt) wi i) EX PA) ok_X7_wires rfl 0 rfl rfl (hd := dX7_lets_6) gX7_lets_X7_wires ⟨by decide, by decide⟩ rfl (Nat.le_of_ble_eq_true rfl) ⟨Nat.zero_le _, Nat.zero_le _⟩ [0, 1, 2, 3, 4, 5, 6, 7] (by decide) rfl rfl ?_
          intro r_6 e_6
          subst e_6
          show GW X [(o, .inr (7, [.int (nI len), .ref ot, .ref on, .ref od, .ref ow, .int (nI ch), .int (nI va), .int (nI en), .ref oi, .ref oe, .ref op, .long aE, .long aP, .long lt])), (ot, .inl (cI, 200, .inl (fun j_ => nI (T j_)))), (on, .inl (cI, 78, .inl (fun j_ => nI (c j_)))), (od, .inl (cI, 78, .inl (fun j_ => nI (rd j_)))), (ow, .inl (cI, 468, .inl (fun j_ => nI (ww j_)))), (oi, .inl (cI, 32, .inl (fun j_ => nI ((rvA c wd none (some jt) wi i) j_)))), (oe, .inl (cJ, 256, .inr (.inl EX))), (op, .inl (cJ, 256, .inr (.inl PA)))] [(0, .ref o), (1, .int (nI wd)), (2, .int sr), (3, .int (nI jt)), (4, .int (nI i))] [.int (nI (c 0 + c 1)), .int (nI i)] 9 0 0
          refine g_icmp_geN 165 (hd := dX7_lets_9) (C := hX) (by decide) (by omega) (by omega) (fun c_9 => ?_) (fun c_9 => ?_)
          · refine g_iconst (v := nI 2) hX dX7_lets_165 (by decide) ?_
            refine g_aload_n 0 (hd := dX7_lets_166) (C := hX) rfl rfl ?_
            refine g_get (hd := dX7_lets_167) (C := hX) 0 8 rfl rfl in_X7_lets_7 (by decide) (by decide +kernel) rfl ?_
            refine g_aload_n 0 (hd := dX7_lets_170) (C := hX) rfl rfl ?_
            refine g_get (hd := dX7_lets_171) (C := hX) 0 2 rfl rfl in_X7_lets_7 (by decide) (by decide +kernel) rfl ?_
            refine g_iconst (v := nI 2) hX dX7_lets_174 (by decide) ?_
            refine g_iald (hd := dX7_lets_175) (C := hX) 2 1 rfl rfl (by omega) (by decide) ?_
            refine g_iald (hd := dX7_lets_176) (C := hX) 5 1 rfl rfl (by omega) (by decide) ?_
            refine g_imul hX dX7_lets_177 ?_
            refine g_top (y := (nI (2 * ((rvA c wd none (some jt) wi i) (c 2))))) (pk_mul _ _) ?_
            refine g_aload_n 0 (hd := dX7_lets_178) (C := hX) rfl rfl ?_
            refine g_get (hd := dX7_lets_179) (C := hX) 0 8 rfl rfl in_X7_lets_7 (by decide) (by decide +kernel) rfl ?_
            refine g_aload_n 0 (hd := dX7_lets_182) (C := hX) rfl rfl ?_
            refine g_get (hd := dX7_lets_183) (C := hX) 0 2 rfl rfl in_X7_lets_7 (by decide) (by decide +kernel) rfl ?_
            refine g_iconst (v := nI 3) hX dX7_lets_186 (by decide) ?_
            refine g_iald (hd := dX7_lets_187) (C := hX) 2 1 rfl rfl (by omega) (by decide) ?_
            refine g_iald (hd := dX7_lets_188) (C := hX) 5 1 rfl rfl (by omega) (by decide) ?_
            refine g_iadd hX dX7_lets_189 ?_
            refine g_top (y := (nI ((2 * ((rvA c wd none (some jt) wi i) (c 2))) + ((rvA c wd none (some jt) wi i) (c 3))))) (nI_add _ _) ?_
            refine g_w [(o, .inr (7, [.int (nI len), .ref ot, .ref on, .ref od, .ref ow, .int (nI ch), .int (nI va), .int (nI en), .ref oi, .ref oe, .ref op, .long aE, .long aP, .long lt])), (ot, .inl (cI, 200, .inl (fun j_ => nI (T j_)))), (on, .inl (cI, 78, .inl (fun j_ => nI (c j_)))), (od, .inl (cI, 78, .inl (fun j_ => nI (rd j_)))), (ow, .inl (cI, 468, .inl (fun j_ => nI (ww j_)))), (oi, .inl (cI, 32, .inl (fun j_ => nI ((rvA c wd none (some jt) wi (c 0 + c 1)) j_)))), (oe, .inl (cJ, 256, .inr (.inl EX))), (op, .inl (cJ, 256, .inr (.inl PA)))] (by rw [show i = c 0 + c 1 from by omega]) ?_
            exact (hret (nI ((2 * ((rvA c wd none (some jt) wi i) (c 2))) + ((rvA c wd none (some jt) wi i) (c 3)))) _ _ (by rw [show i = c 0 + c 1 from by omega])).2.1 _ rfl rfl dX7_lets_190
          · refine g_iload_n 1 (hd := dX7_lets_12) (C := hX) rfl rfl ?_
            refine g_iload 4 (hd := dX7_lets_13) (C := hX) rfl ?_
            refine g_ishr hX dX7_lets_15 ?_
            refine g_top (y := (nI (wd / 2 ^ i))) (gl_shr (by omega) (by omega)) ?_
            refine g_iconst (v := nI 1) hX dX7_lets_16 (by decide) ?_
            refine g_iand hX dX7_lets_17 ?_
            refine g_top (y := (nI (wd / 2 ^ i % 2))) (by rw [nx_and, Nat.and_one_is_mod]) ?_
            refine g_istore [(0, .ref o), (1, .int (nI wd)), (2, .int sr), (3, .int (nI jt)), (4, .int (nI i)), (5, .int (nI (wd / 2 ^ i % 2)))] [1, 2, 3, 4, 5, 0] (hd := dX7_lets_18) (C := hX) (by decide) rfl ?_
            refine g_iload 4 (hd := dX7_lets_20) (C := hX) rfl ?_
            refine g_aload_n 0 (hd := dX7_lets_22) (C := hX) rfl rfl ?_
            refine g_get (hd := dX7_lets_23) (C := hX) 0 2 rfl rfl in_X7_lets_7 (by decide) (by decide +kernel) rfl ?_
            refine g_iconst (v := nI 0) hX dX7_lets_26 (by decide) ?_
            refine g_iald (hd := dX7_lets_27) (C := hX) 2 1 rfl rfl (by omega) (by decide) ?_
            refine g_icmp_ltN 143 (hd := dX7_lets_28) (C := hX) (by decide) (by omega) (by omega) (fun c_28 => ?_) (fun c_28 => ?_)
            · refine g_aload_n 0 (hd := dX7_lets_143) (C := hX) rfl rfl ?_
              refine g_get (hd := dX7_lets_144) (C := hX) 0 8 rfl rfl in_X7_lets_7 (by decide) (by decide +kernel) rfl ?_
              refine g_iload 4 (hd := dX7_lets_147) (C := hX) rfl ?_
              refine g_iload 4 (hd := dX7_lets_149) (C := hX) rfl ?_
              refine g_iload 5 (hd := dX7_lets_151) (C := hX) rfl ?_
              refine g_iload_n 2 (hd := dX7_lets_153) (C := hX) rfl rfl ?_
              refine g_iload_n 3 (hd := dX7_lets_154) (C := hX) rfl rfl ?_
              refine g_callS (rest := [.int (nI i), .ref oi]) hX (c_X7_stuckAs l D cC cI cJ cO i (wd / 2 ^ i % 2) sr (nI jt) none (some jt) (by first | exact so_n hs0 | exact so_s hjs) (by first | exact so_n ht0 | exact so_s hjt) (by omega)) ok_X7_stuckAs (fun _ => rfl) (hd := dX7_lets_155) gX7_lets_X7_stuckAs ⟨by decide, by decide⟩ rfl (Nat.le_of_ble_eq_true rfl) ⟨Nat.zero_le _, Nat.zero_le _⟩ [] (by decide) rfl rfl ?_
              intro r_155 e_155
              subst e_155
              show GW X [(o, .inr (7, [.int (nI len), .ref ot, .ref on, .ref od, .ref ow, .int (nI ch), .int (nI va), .int (nI en), .ref oi, .ref oe, .ref op, .long aE, .long aP, .long lt])), (ot, .inl (cI, 200, .inl (fun j_ => nI (T j_)))), (on, .inl (cI, 78, .inl (fun j_ => nI (c j_)))), (od, .inl (cI, 78, .inl (fun j_ => nI (rd j_)))), (ow, .inl (cI, 468, .inl (fun j_ => nI (ww j_)))), (oi, .inl (cI, 32, .inl (fun j_ => nI ((rvA c wd none (some jt) wi i) j_)))), (oe, .inl (cJ, 256, .inr (.inl EX))), (op, .inl (cJ, 256, .inr (.inl PA)))] [(0, .ref o), (1, .int (nI wd)), (2, .int sr), (3, .int (nI jt)), (4, .int (nI i)), (5, .int (nI (wd / 2 ^ i % 2)))] [.int (nI (saS i (wd / 2 ^ i % 2) none (some jt))), .int (nI i), .ref oi] 158 0 0
              refine g_iast (hd := dX7_lets_158) (C := hX) 5 1 [(o, .inr (7, [.int (nI len), .ref ot, .ref on, .ref od, .ref ow, .int (nI ch), .int (nI va), .int (nI en), .ref oi, .ref oe, .ref op, .long aE, .long aP, .long lt])), (ot, .inl (cI, 200, .inl (fun j_ => nI (T j_)))), (on, .inl (cI, 78, .inl (fun j_ => nI (c j_)))), (od, .inl (cI, 78, .inl (fun j_ => nI (rd j_)))), (ow, .inl (cI, 468, .inl (fun j_ => nI (ww j_)))), (oi, .inl (cI, 32, .inl (fun j_ => nI ((nup (rvA c wd none (some jt) wi i) i (saS i (wd / 2 ^ i % 2) none (some jt))) j_)))), (oe, .inl (cJ, 256, .inr (.inl EX))), (op, .inl (cJ, 256, .inr (.inl PA)))] rfl rfl (by omega) (by decide) (by rw [nup_I]; rfl) ?_
              refine g_iinc (v := (nI (i + 1))) 4 [(0, .ref o), (1, .int (nI wd)), (2, .int sr), (3, .int (nI jt)), (4, .int (nI (i + 1))), (5, .int (nI (wd / 2 ^ i % 2)))] [1, 2, 3, 4, 0, 5] (hd := dX7_lets_159) (C := hX) rfl (nI_1 _) (by decide) rfl ?_
              refine g_goto 3 (hd := dX7_lets_162) (C := hX) (by decide) ?_
              refine g_w [(o, .inr (7, [.int (nI len), .ref ot, .ref on, .ref od, .ref ow, .int (nI ch), .int (nI va), .int (nI en), .ref oi, .ref oe, .ref op, .long aE, .long aP, .long lt])), (ot, .inl (cI, 200, .inl (fun j_ => nI (T j_)))), (on, .inl (cI, 78, .inl (fun j_ => nI (c j_)))), (od, .inl (cI, 78, .inl (fun j_ => nI (rd j_)))), (ow, .inl (cI, 468, .inl (fun j_ => nI (ww j_)))), (oi, .inl (cI, 32, .inl (fun j_ => nI ((rvA c wd none (some jt) wi (i + 1)) j_)))), (oe, .inl (cJ, 256, .inr (.inl EX))), (op, .inl (cJ, 256, .inr (.inl PA)))] (by simp only [rvA, rvX]; rw [if_pos c_28]) ?_
              refine g_lv [(0, .ref o), (1, .int (nI wd)), (2, .int sr), (3, .int (nI jt)), (4, .int (nI (i + 1)))] [0, 1, 2, 3, 4] rfl ?_
              exact ih_3 (i + 1) (by omega) (by omega)
            · have hq := hok.2.2.2.2.2.2 (i - c 0) (by omega)
              have hq1 : c (6 + 3 * (i - c 0) + 1) < i := by rw [show 6 + 3 * (i - c 0) + 1 = 7 + 3 * (i - c 0) from by omega]; omega
              have hq2 : c (6 + 3 * (i - c 0) + 2) < i := by rw [show 6 + 3 * (i - c 0) + 2 = 8 + 3 * (i - c 0) from by omega]; omega
              refine g_bipush (v := nI 6) hX dX7_lets_31 (by decide) ?_
              refine g_iconst (v := nI 3) hX dX7_lets_33 (by decide) ?_
              refine g_iload 4 (hd := dX7_lets_34) (C := hX) rfl ?_
              refine g_aload_n 0 (hd := dX7_lets_36) (C := hX) rfl rfl ?_
              refine g_get (hd := dX7_lets_37) (C := hX) 0 2 rfl rfl in_X7_lets_7 (by decide) (by decide +kernel) rfl ?_
              refine g_iconst (v := nI 0) hX dX7_lets_40 (by decide) ?_
              refine g_iald (hd := dX7_lets_41) (C := hX) 2 1 rfl rfl (by omega) (by decide) ?_
              refine g_isub hX dX7_lets_42 ?_
              refine g_top (y := (nI (i - (c 0)))) (pk_sub (by omega)) ?_
              refine g_imul hX dX7_lets_43 ?_
              refine g_top (y := (nI (3 * (i - (c 0))))) (pk_mul _ _) ?_
              refine g_iadd hX dX7_lets_44 ?_
              refine g_top (y := (nI (6 + (3 * (i - (c 0)))))) (nI_add _ _) ?_
              refine g_istore [(0, .ref o), (1, .int (nI wd)), (2, .int sr), (3, .int (nI jt)), (4, .int (nI i)), (5, .int (nI (wd / 2 ^ i % 2))), (6, .int (nI (6 + (3 * (i - (c 0))))))] [1, 2, 3, 4, 5, 6, 0] (hd := dX7_lets_45) (C := hX) (by decide) rfl ?_
              refine g_aload_n 0 (hd := dX7_lets_47) (C := hX) rfl rfl ?_
              refine g_get (hd := dX7_lets_48) (C := hX) 0 8 rfl rfl in_X7_lets_7 (by decide) (by decide +kernel) rfl ?_
              refine g_aload_n 0 (hd := dX7_lets_51) (C := hX) rfl rfl ?_
              refine g_get (hd := dX7_lets_52) (C := hX) 0 2 rfl rfl in_X7_lets_7 (by decide) (by decide +kernel) rfl ?_
              refine g_iload 6 (hd := dX7_lets_55) (C := hX) rfl ?_
              refine g_iconst (v := nI 1) hX dX7_lets_57 (by decide) ?_
              refine g_iadd hX dX7_lets_58 ?_
              refine g_top (y := (nI ((6 + (3 * (i - (c 0)))) + 1))) (nI_add _ _) ?_
              refine g_iald (hd := dX7_lets_59) (C := hX) 2 1 rfl rfl (by omega) (by decide) ?_
              refine g_iald (hd := dX7_lets_60) (C := hX) 5 1 rfl rfl (by omega) (by decide) ?_
              refine g_istore [(0, .ref o), (1, .int (nI wd)), (2, .int sr), (3, .int (nI jt)), (4, .int (nI i)), (5, .int (nI (wd / 2 ^ i % 2))), (6, .int (nI (6 + (3 * (i - (c 0)))))), (7, .int (nI ((rvA c wd none (some jt) wi i) (c ((6 + (3 * (i - (c 0)))) + 1)))))] [1, 2, 3, 4, 5, 6, 7, 0] (hd := dX7_lets_61) (C := hX) (by decide) rfl ?_
              refine g_aload_n 0 (hd := dX7_lets_63) (C := hX) rfl rfl ?_
              refine g_get (hd := dX7_lets_64) (C := hX) 0 8 rfl rfl in_X7_lets_7 (by decide) (by decide +kernel) rfl ?_
              refine g_aload_n 0 (hd := dX7_lets_67) (C := hX) rfl rfl ?_
              refine g_get (hd := dX7_lets_68) (C := hX) 0 2 rfl rfl in_X7_lets_7 (by decide) (by decide +kernel) rfl ?_
              refine g_iload 6 (hd := dX7_lets_71) (C := hX) rfl ?_
              refine g_iconst (v := nI 2) hX dX7_lets_73 (by decide) ?_
              refine g_iadd hX dX7_lets_74 ?_
              refine g_top (y := (nI ((6 + (3 * (i - (c 0)))) + 2))) (nI_add _ _) ?_
              refine g_iald (hd := dX7_lets_75) (C := hX) 2 1 rfl rfl (by omega) (by decide) ?_
              refine g_iald (hd := dX7_lets_76) (C := hX) 5 1 rfl rfl (by omega) (by decide) ?_
              refine g_istore [(0, .ref o), (1, .int (nI wd)), (2, .int sr), (3, .int (nI jt)), (4, .int (nI i)), (5, .int (nI (wd / 2 ^ i % 2))), (6, .int (nI (6 + (3 * (i - (c 0)))))), (7, .int (nI ((rvA c wd none (some jt) wi i) (c ((6 + (3 * (i - (c 0)))) + 1))))), (8, .int (nI ((rvA c wd none (some jt) wi i) (c ((6 + (3 * (i - (c 0)))) + 2)))))] [1, 2, 3, 4, 5, 6, 7, 8, 0] (hd := dX7_lets_77) (C := hX) (by decide) rfl ?_
              refine g_aload_n 0 (hd := dX7_lets_79) (C := hX) rfl rfl ?_
              refine g_get (hd := dX7_lets_80) (C := hX) 0 2 rfl rfl in_X7_lets_7 (by decide) (by decide +kernel) rfl ?_
              refine g_iload 6 (hd := dX7_lets_83) (C := hX) rfl ?_
              refine g_iald (hd := dX7_lets_85) (C := hX) 2 1 rfl rfl (by omega) (by decide) ?_
              refine g_istore [(0, .ref o), (1, .int (nI wd)), (2, .int sr), (3, .int (nI jt)), (4, .int (nI i)), (5, .int (nI (wd / 2 ^ i % 2))), (6, .int (nI (6 + (3 * (i - (c 0)))))), (7, .int (nI ((rvA c wd none (some jt) wi i) (c ((6 + (3 * (i - (c 0)))) + 1))))), (8, .int (nI ((rvA c wd none (some jt) wi i) (c ((6 + (3 * (i - (c 0)))) + 2))))), (9, .int (nI (c (6 + (3 * (i - (c 0)))))))] [1, 2, 3, 4, 5, 6, 7, 8, 9, 0] (hd := dX7_lets_86) (C := hX) (by decide) rfl ?_
              refine g_iload 9 (hd := dX7_lets_88) (C := hX) rfl ?_
              refine g_iconst (v := nI 3) hX dX7_lets_90 (by decide) ?_
              refine g_irem hX dX7_lets_91 (by decide) ?_
              refine g_top (y := (nI (c (6 + (3 * (i - (c 0)))) % 3))) (pk_rem (by omega) (by omega) (by omega)) ?_
              refine g_if_neN 103 (hd := dX7_lets_92) (C := hX) (by decide) (by omega) (fun c_92 => ?_) (fun c_92 => ?_)
              · refine g_iload 9 (hd := dX7_lets_103) (C := hX) rfl ?_
                refine g_iconst (v := nI 3) hX dX7_lets_105 (by decide) ?_
                refine g_irem hX dX7_lets_106 (by decide) ?_
                refine g_top (y := (nI (c (6 + (3 * (i - (c 0)))) % 3))) (pk_rem (by omega) (by omega) (by omega)) ?_
                refine g_iconst (v := nI 1) hX dX7_lets_107 (by decide) ?_
                refine g_icmp_neN 119 (hd := dX7_lets_108) (C := hX) (by decide) (by omega) (by omega) (fun c_108 => ?_) (fun c_108 => ?_)
                · refine g_iload 7 (hd := dX7_lets_119) (C := hX) rfl ?_
                  refine g_iload 8 (hd := dX7_lets_121) (C := hX) rfl ?_
                  refine g_ixor hX dX7_lets_123 ?_
                  refine g_top (y := (nI (((rvA c wd none (some jt) wi i) (c ((6 + (3 * (i - (c 0)))) + 1))) ^^^ ((rvA c wd none (some jt) wi i) (c ((6 + (3 * (i - (c 0)))) + 2)))))) (nx_xor _ _) ?_
                  refine g_istore [(0, .ref o), (1, .int (nI wd)), (2, .int sr), (3, .int (nI jt)), (4, .int (nI i)), (5, .int (nI (wd / 2 ^ i % 2))), (6, .int (nI (6 + (3 * (i - (c 0)))))), (7, .int (nI ((rvA c wd none (some jt) wi i) (c ((6 + (3 * (i - (c 0)))) + 1))))), (8, .int (nI ((rvA c wd none (some jt) wi i) (c ((6 + (3 * (i - (c 0)))) + 2))))), (9, .int (nI (c (6 + (3 * (i - (c 0))))))), (10, .int (nI (((rvA c wd none (some jt) wi i) (c ((6 + (3 * (i - (c 0)))) + 1))) ^^^ ((rvA c wd none (some jt) wi i) (c ((6 + (3 * (i - (c 0)))) + 2))))))] [1, 2, 3, 4, 5, 6, 7, 8, 9, 10, 0] (hd := dX7_lets_124) (C := hX) (by decide) rfl ?_
                  refine g_iload 9 (hd := dX7_lets_126) (C := hX) rfl ?_
                  refine g_iconst (v := nI 3) hX dX7_lets_128 (by decide) ?_
                  refine g_icmp_geN 137 (hd := dX7_lets_129) (C := hX) (by decide) (by omega) (by omega) (fun c_129 => ?_) (fun c_129 => ?_)
                  · have b9 := rv_le hok wd none (some jt) wi i hiL
                    have b8 := bit2 _ (Nat.lt_succ_of_le (b9 _ hq1)) _ (Nat.lt_succ_of_le (b9 _ hq2))
                    refine g_iconst (v := nI 1) hX dX7_lets_137 (by decide) ?_
                    refine g_iload 10 (hd := dX7_lets_138) (C := hX) rfl ?_
                    refine g_isub hX dX7_lets_140 ?_
                    refine g_top (y := (nI (1 - (((rvA c wd none (some jt) wi i) (c ((6 + (3 * (i - (c 0)))) + 1))) ^^^ ((rvA c wd none (some jt) wi i) (c ((6 + (3 * (i - (c 0)))) + 2))))))) (pk_sub (by omega)) ?_
                    refine g_istore [(0, .ref o), (1, .int (nI wd)), (2, .int sr), (3, .int (nI jt)), (4, .int (nI i)), (5, .int (nI (1 - (((rvA c wd none (some jt) wi i) (c ((6 + (3 * (i - (c 0)))) + 1))) ^^^ ((rvA c wd none (some jt) wi i) (c ((6 + (3 * (i - (c 0)))) + 2))))))), (6, .int (nI (6 + (3 * (i - (c 0)))))), (7, .int (nI ((rvA c wd none (some jt) wi i) (c ((6 + (3 * (i - (c 0)))) + 1))))), (8, .int (nI ((rvA c wd none (some jt) wi i) (c ((6 + (3 * (i - (c 0)))) + 2))))), (9, .int (nI (c (6 + (3 * (i - (c 0))))))), (10, .int (nI (((rvA c wd none (some jt) wi i) (c ((6 + (3 * (i - (c 0)))) + 1))) ^^^ ((rvA c wd none (some jt) wi i) (c ((6 + (3 * (i - (c 0)))) + 2))))))] [1, 2, 3, 4, 5, 0, 6, 7, 8, 9, 10] (hd := dX7_lets_141) (C := hX) (by decide) rfl ?_
                    refine g_aload_n 0 (hd := dX7_lets_143) (C := hX) rfl rfl ?_
                    refine g_get (hd := dX7_lets_144) (C := hX) 0 8 rfl rfl in_X7_lets_7 (by decide) (by decide +kernel) rfl ?_
                    refine g_iload 4 (hd := dX7_lets_147) (C := hX) rfl ?_
                    refine g_iload 4 (hd := dX7_lets_149) (C := hX) rfl ?_
                    refine g_iload 5 (hd := dX7_lets_151) (C := hX) rfl ?_
                    refine g_iload_n 2 (hd := dX7_lets_153) (C := hX) rfl rfl ?_
                    refine g_iload_n 3 (hd := dX7_lets_154) (C := hX) rfl rfl ?_
                    refine g_callS (rest := [.int (nI i), .ref oi]) hX (c_X7_stuckAs l D cC cI cJ cO i (1 - (((rvA c wd none (some jt) wi i) (c ((6 + (3 * (i - (c 0)))) + 1))) ^^^ ((rvA c wd none (some jt) wi i) (c ((6 + (3 * (i - (c 0)))) + 2))))) sr (nI jt) none (some jt) (by first | exact so_n hs0 | exact so_s hjs) (by first | exact so_n ht0 | exact so_s hjt) (by omega)) ok_X7_stuckAs (fun _ => rfl) (hd := dX7_lets_155) gX7_lets_X7_stuckAs ⟨by decide, by decide⟩ rfl (Nat.le_of_ble_eq_true rfl) ⟨Nat.zero_le _, Nat.zero_le _⟩ [] (by decide) rfl rfl ?_
                    intro r_155 e_155
                    subst e_155
                    show GW X [(o, .inr (7, [.int (nI len), .ref ot, .ref on, .ref od, .ref ow, .int (nI ch), .int (nI va), .int (nI en), .ref oi, .ref oe, .ref op, .long aE, .long aP, .long lt])), (ot, .inl (cI, 200, .inl (fun j_ => nI (T j_)))), (on, .inl (cI, 78, .inl (fun j_ => nI (c j_)))), (od, .inl (cI, 78, .inl (fun j_ => nI (rd j_)))), (ow, .inl (cI, 468, .inl (fun j_ => nI (ww j_)))), (oi, .inl (cI, 32, .inl (fun j_ => nI ((rvA c wd none (some jt) wi i) j_)))), (oe, .inl (cJ, 256, .inr (.inl EX))), (op, .inl (cJ, 256, .inr (.inl PA)))] [(0, .ref o), (1, .int (nI wd)), (2, .int sr), (3, .int (nI jt)), (4, .int (nI i)), (5, .int (nI (1 - (((rvA c wd none (some jt) wi i) (c ((6 + (3 * (i - (c 0)))) + 1))) ^^^ ((rvA c wd none (some jt) wi i) (c ((6 + (3 * (i - (c 0)))) + 2))))))), (6, .int (nI (6 + (3 * (i - (c 0)))))), (7, .int (nI ((rvA c wd none (some jt) wi i) (c ((6 + (3 * (i - (c 0)))) + 1))))), (8, .int (nI ((rvA c wd none (some jt) wi i) (c ((6 + (3 * (i - (c 0)))) + 2))))), (9, .int (nI (c (6 + (3 * (i - (c 0))))))), (10, .int (nI (((rvA c wd none (some jt) wi i) (c ((6 + (3 * (i - (c 0)))) + 1))) ^^^ ((rvA c wd none (some jt) wi i) (c ((6 + (3 * (i - (c 0)))) + 2))))))] [.int (nI (saS i (1 - (((rvA c wd none (some jt) wi i) (c ((6 + (3 * (i - (c 0)))) + 1))) ^^^ ((rvA c wd none (some jt) wi i) (c ((6 + (3 * (i - (c 0)))) + 2))))) none (some jt))), .int (nI i), .ref oi] 158 0 0
                    refine g_iast (hd := dX7_lets_158) (C := hX) 5 1 [(o, .inr (7, [.int (nI len), .ref ot, .ref on, .ref od, .ref ow, .int (nI ch), .int (nI va), .int (nI en), .ref oi, .ref oe, .ref op, .long aE, .long aP, .long lt])), (ot, .inl (cI, 200, .inl (fun j_ => nI (T j_)))), (on, .inl (cI, 78, .inl (fun j_ => nI (c j_)))), (od, .inl (cI, 78, .inl (fun j_ => nI (rd j_)))), (ow, .inl (cI, 468, .inl (fun j_ => nI (ww j_)))), (oi, .inl (cI, 32, .inl (fun j_ => nI ((nup (rvA c wd none (some jt) wi i) i (saS i (1 - (((rvA c wd none (some jt) wi i) (c ((6 + (3 * (i - (c 0)))) + 1))) ^^^ ((rvA c wd none (some jt) wi i) (c ((6 + (3 * (i - (c 0)))) + 2))))) none (some jt))) j_)))), (oe, .inl (cJ, 256, .inr (.inl EX))), (op, .inl (cJ, 256, .inr (.inl PA)))] rfl rfl (by omega) (by decide) (by rw [nup_I]; rfl) ?_
                    refine g_iinc (v := (nI (i + 1))) 4 [(0, .ref o), (1, .int (nI wd)), (2, .int sr), (3, .int (nI jt)), (4, .int (nI (i + 1))), (5, .int (nI (1 - (((rvA c wd none (some jt) wi i) (c ((6 + (3 * (i - (c 0)))) + 1))) ^^^ ((rvA c wd none (some jt) wi i) (c ((6 + (3 * (i - (c 0)))) + 2))))))), (6, .int (nI (6 + (3 * (i - (c 0)))))), (7, .int (nI ((rvA c wd none (some jt) wi i) (c ((6 + (3 * (i - (c 0)))) + 1))))), (8, .int (nI ((rvA c wd none (some jt) wi i) (c ((6 + (3 * (i - (c 0)))) + 2))))), (9, .int (nI (c (6 + (3 * (i - (c 0))))))), (10, .int (nI (((rvA c wd none (some jt) wi i) (c ((6 + (3 * (i - (c 0)))) + 1))) ^^^ ((rvA c wd none (some jt) wi i) (c ((6 + (3 * (i - (c 0)))) + 2))))))] [1, 2, 3, 4, 0, 5, 6, 7, 8, 9, 10] (hd := dX7_lets_159) (C := hX) rfl (nI_1 _) (by decide) rfl ?_
                    refine g_goto 3 (hd := dX7_lets_162) (C := hX) (by decide) ?_
                    refine g_w [(o, .inr (7, [.int (nI len), .ref ot, .ref on, .ref od, .ref ow, .int (nI ch), .int (nI va), .int (nI en), .ref oi, .ref oe, .ref op, .long aE, .long aP, .long lt])), (ot, .inl (cI, 200, .inl (fun j_ => nI (T j_)))), (on, .inl (cI, 78, .inl (fun j_ => nI (c j_)))), (od, .inl (cI, 78, .inl (fun j_ => nI (rd j_)))), (ow, .inl (cI, 468, .inl (fun j_ => nI (ww j_)))), (oi, .inl (cI, 32, .inl (fun j_ => nI ((rvA c wd none (some jt) wi (i + 1)) j_)))), (oe, .inl (cJ, 256, .inr (.inl EX))), (op, .inl (cJ, 256, .inr (.inl PA)))] (by simp only [rvA, rvX]; rw [if_neg (Nat.not_lt.mpr c_28)]; unfold gvN; rw [if_neg (Nat.not_lt.mpr c_129), if_neg c_92, if_neg c_108]) ?_
                    refine g_lv [(0, .ref o), (1, .int (nI wd)), (2, .int sr), (3, .int (nI jt)), (4, .int (nI (i + 1)))] [0, 1, 2, 3, 4] rfl ?_
                    exact ih_3 (i + 1) (by omega) (by omega)
                  · refine g_iload 10 (hd := dX7_lets_132) (C := hX) rfl ?_
                    refine g_goto 141 (hd := dX7_lets_134) (C := hX) (by decide) ?_
                    refine g_istore [(0, .ref o), (1, .int (nI wd)), (2, .int sr), (3, .int (nI jt)), (4, .int (nI i)), (5, .int (nI (((rvA c wd none (some jt) wi i) (c ((6 + (3 * (i - (c 0)))) + 1))) ^^^ ((rvA c wd none (some jt) wi i) (c ((6 + (3 * (i - (c 0)))) + 2)))))), (6, .int (nI (6 + (3 * (i - (c 0)))))), (7, .int (nI ((rvA c wd none (some jt) wi i) (c ((6 + (3 * (i - (c 0)))) + 1))))), (8, .int (nI ((rvA c wd none (some jt) wi i) (c ((6 + (3 * (i - (c 0)))) + 2))))), (9, .int (nI (c (6 + (3 * (i - (c 0))))))), (10, .int (nI (((rvA c wd none (some jt) wi i) (c ((6 + (3 * (i - (c 0)))) + 1))) ^^^ ((rvA c wd none (some jt) wi i) (c ((6 + (3 * (i - (c 0)))) + 2))))))] [1, 2, 3, 4, 5, 0, 6, 7, 8, 9, 10] (hd := dX7_lets_141) (C := hX) (by decide) rfl ?_
                    refine g_aload_n 0 (hd := dX7_lets_143) (C := hX) rfl rfl ?_
                    refine g_get (hd := dX7_lets_144) (C := hX) 0 8 rfl rfl in_X7_lets_7 (by decide) (by decide +kernel) rfl ?_
                    refine g_iload 4 (hd := dX7_lets_147) (C := hX) rfl ?_
                    refine g_iload 4 (hd := dX7_lets_149) (C := hX) rfl ?_
                    refine g_iload 5 (hd := dX7_lets_151) (C := hX) rfl ?_
                    refine g_iload_n 2 (hd := dX7_lets_153) (C := hX) rfl rfl ?_
                    refine g_iload_n 3 (hd := dX7_lets_154) (C := hX) rfl rfl ?_
                    refine g_callS (rest := [.int (nI i), .ref oi]) hX (c_X7_stuckAs l D cC cI cJ cO i (((rvA c wd none (some jt) wi i) (c ((6 + (3 * (i - (c 0)))) + 1))) ^^^ ((rvA c wd none (some jt) wi i) (c ((6 + (3 * (i - (c 0)))) + 2)))) sr (nI jt) none (some jt) (by first | exact so_n hs0 | exact so_s hjs) (by first | exact so_n ht0 | exact so_s hjt) (by omega)) ok_X7_stuckAs (fun _ => rfl) (hd := dX7_lets_155) gX7_lets_X7_stuckAs ⟨by decide, by decide⟩ rfl (Nat.le_of_ble_eq_true rfl) ⟨Nat.zero_le _, Nat.zero_le _⟩ [] (by decide) rfl rfl ?_
                    intro r_155 e_155
                    subst e_155
                    show GW X [(o, .inr (7, [.int (nI len), .ref ot, .ref on, .ref od, .ref ow, .int (nI ch), .int (nI va), .int (nI en), .ref oi, .ref oe, .ref op, .long aE, .long aP, .long lt])), (ot, .inl (cI, 200, .inl (fun j_ => nI (T j_)))), (on, .inl (cI, 78, .inl (fun j_ => nI (c j_)))), (od, .inl (cI, 78, .inl (fun j_ => nI (rd j_)))), (ow, .inl (cI, 468, .inl (fun j_ => nI (ww j_)))), (oi, .inl (cI, 32, .inl (fun j_ => nI ((rvA c wd none (some jt) wi i) j_)))), (oe, .inl (cJ, 256, .inr (.inl EX))), (op, .inl (cJ, 256, .inr (.inl PA)))] [(0, .ref o), (1, .int (nI wd)), (2, .int sr), (3, .int (nI jt)), (4, .int (nI i)), (5, .int (nI (((rvA c wd none (some jt) wi i) (c ((6 + (3 * (i - (c 0)))) + 1))) ^^^ ((rvA c wd none (some jt) wi i) (c ((6 + (3 * (i - (c 0)))) + 2)))))), (6, .int (nI (6 + (3 * (i - (c 0)))))), (7, .int (nI ((rvA c wd none (some jt) wi i) (c ((6 + (3 * (i - (c 0)))) + 1))))), (8, .int (nI ((rvA c wd none (some jt) wi i) (c ((6 + (3 * (i - (c 0)))) + 2))))), (9, .int (nI (c (6 + (3 * (i - (c 0))))))), (10, .int (nI (((rvA c wd none (some jt) wi i) (c ((6 + (3 * (i - (c 0)))) + 1))) ^^^ ((rvA c wd none (some jt) wi i) (c ((6 + (3 * (i - (c 0)))) + 2))))))] [.int (nI (saS i (((rvA c wd none (some jt) wi i) (c ((6 + (3 * (i - (c 0)))) + 1))) ^^^ ((rvA c wd none (some jt) wi i) (c ((6 + (3 * (i - (c 0)))) + 2)))) none (some jt))), .int (nI i), .ref oi] 158 0 0
                    refine g_iast (hd := dX7_lets_158) (C := hX) 5 1 [(o, .inr (7, [.int (nI len), .ref ot, .ref on, .ref od, .ref ow, .int (nI ch), .int (nI va), .int (nI en), .ref oi, .ref oe, .ref op, .long aE, .long aP, .long lt])), (ot, .inl (cI, 200, .inl (fun j_ => nI (T j_)))), (on, .inl (cI, 78, .inl (fun j_ => nI (c j_)))), (od, .inl (cI, 78, .inl (fun j_ => nI (rd j_)))), (ow, .inl (cI, 468, .inl (fun j_ => nI (ww j_)))), (oi, .inl (cI, 32, .inl (fun j_ => nI ((nup (rvA c wd none (some jt) wi i) i (saS i (((rvA c wd none (some jt) wi i) (c ((6 + (3 * (i - (c 0)))) + 1))) ^^^ ((rvA c wd none (some jt) wi i) (c ((6 + (3 * (i - (c 0)))) + 2)))) none (some jt))) j_)))), (oe, .inl (cJ, 256, .inr (.inl EX))), (op, .inl (cJ, 256, .inr (.inl PA)))] rfl rfl (by omega) (by decide) (by rw [nup_I]; rfl) ?_
                    refine g_iinc (v := (nI (i + 1))) 4 [(0, .ref o), (1, .int (nI wd)), (2, .int sr), (3, .int (nI jt)), (4, .int (nI (i + 1))), (5, .int (nI (((rvA c wd none (some jt) wi i) (c ((6 + (3 * (i - (c 0)))) + 1))) ^^^ ((rvA c wd none (some jt) wi i) (c ((6 + (3 * (i - (c 0)))) + 2)))))), (6, .int (nI (6 + (3 * (i - (c 0)))))), (7, .int (nI ((rvA c wd none (some jt) wi i) (c ((6 + (3 * (i - (c 0)))) + 1))))), (8, .int (nI ((rvA c wd none (some jt) wi i) (c ((6 + (3 * (i - (c 0)))) + 2))))), (9, .int (nI (c (6 + (3 * (i - (c 0))))))), (10, .int (nI (((rvA c wd none (some jt) wi i) (c ((6 + (3 * (i - (c 0)))) + 1))) ^^^ ((rvA c wd none (some jt) wi i) (c ((6 + (3 * (i - (c 0)))) + 2))))))] [1, 2, 3, 4, 0, 5, 6, 7, 8, 9, 10] (hd := dX7_lets_159) (C := hX) rfl (nI_1 _) (by decide) rfl ?_
                    refine g_goto 3 (hd := dX7_lets_162) (C := hX) (by decide) ?_
                    refine g_w [(o, .inr (7, [.int (nI len), .ref ot, .ref on, .ref od, .ref ow, .int (nI ch), .int (nI va), .int (nI en), .ref oi, .ref oe, .ref op, .long aE, .long aP, .long lt])), (ot, .inl (cI, 200, .inl (fun j_ => nI (T j_)))), (on, .inl (cI, 78, .inl (fun j_ => nI (c j_)))), (od, .inl (cI, 78, .inl (fun j_ => nI (rd j_)))), (ow, .inl (cI, 468, .inl (fun j_ => nI (ww j_)))), (oi, .inl (cI, 32, .inl (fun j_ => nI ((rvA c wd none (some jt) wi (i + 1)) j_)))), (oe, .inl (cJ, 256, .inr (.inl EX))), (op, .inl (cJ, 256, .inr (.inl PA)))] (by simp only [rvA, rvX]; rw [if_neg (Nat.not_lt.mpr c_28)]; unfold gvN; rw [if_pos c_129, if_neg c_92, if_neg c_108]) ?_
                    refine g_lv [(0, .ref o), (1, .int (nI wd)), (2, .int sr), (3, .int (nI jt)), (4, .int (nI (i + 1)))] [0, 1, 2, 3, 4] rfl ?_
                    exact ih_3 (i + 1) (by omega) (by omega)
                · refine g_iload 7 (hd := dX7_lets_111) (C := hX) rfl ?_
                  refine g_iload 8 (hd := dX7_lets_113) (C := hX) rfl ?_
                  refine g_ior hX dX7_lets_115 ?_
                  refine g_top (y := (nI (((rvA c wd none (some jt) wi i) (c ((6 + (3 * (i - (c 0)))) + 1))) ||| ((rvA c wd none (some jt) wi i) (c ((6 + (3 * (i - (c 0)))) + 2)))))) (fa_or _ _) ?_
                  refine g_goto 124 (hd := dX7_lets_116) (C := hX) (by decide) ?_
                  refine g_istore [(0, .ref o), (1, .int (nI wd)), (2, .int sr), (3, .int (nI jt)), (4, .int (nI i)), (5, .int (nI (wd / 2 ^ i % 2))), (6, .int (nI (6 + (3 * (i - (c 0)))))), (7, .int (nI ((rvA c wd none (some jt) wi i) (c ((6 + (3 * (i - (c 0)))) + 1))))), (8, .int (nI ((rvA c wd none (some jt) wi i) (c ((6 + (3 * (i - (c 0)))) + 2))))), (9, .int (nI (c (6 + (3 * (i - (c 0))))))), (10, .int (nI (((rvA c wd none (some jt) wi i) (c ((6 + (3 * (i - (c 0)))) + 1))) ||| ((rvA c wd none (some jt) wi i) (c ((6 + (3 * (i - (c 0)))) + 2))))))] [1, 2, 3, 4, 5, 6, 7, 8, 9, 10, 0] (hd := dX7_lets_124) (C := hX) (by decide) rfl ?_
                  refine g_iload 9 (hd := dX7_lets_126) (C := hX) rfl ?_
                  refine g_iconst (v := nI 3) hX dX7_lets_128 (by decide) ?_
                  refine g_icmp_geN 137 (hd := dX7_lets_129) (C := hX) (by decide) (by omega) (by omega) (fun c_129 => ?_) (fun c_129 => ?_)
                  · have b9 := rv_le hok wd none (some jt) wi i hiL
                    have b8 := bit2 _ (Nat.lt_succ_of_le (b9 _ hq1)) _ (Nat.lt_succ_of_le (b9 _ hq2))
                    refine g_iconst (v := nI 1) hX dX7_lets_137 (by decide) ?_
                    refine g_iload 10 (hd := dX7_lets_138) (C := hX) rfl ?_
                    refine g_isub hX dX7_lets_140 ?_
                    refine g_top (y := (nI (1 - (((rvA c wd none (some jt) wi i) (c ((6 + (3 * (i - (c 0)))) + 1))) ||| ((rvA c wd none (some jt) wi i) (c ((6 + (3 * (i - (c 0)))) + 2))))))) (pk_sub (by omega)) ?_
                    refine g_istore [(0, .ref o), (1, .int (nI wd)), (2, .int sr), (3, .int (nI jt)), (4, .int (nI i)), (5, .int (nI (1 - (((rvA c wd none (some jt) wi i) (c ((6 + (3 * (i - (c 0)))) + 1))) ||| ((rvA c wd none (some jt) wi i) (c ((6 + (3 * (i - (c 0)))) + 2))))))), (6, .int (nI (6 + (3 * (i - (c 0)))))), (7, .int (nI ((rvA c wd none (some jt) wi i) (c ((6 + (3 * (i - (c 0)))) + 1))))), (8, .int (nI ((rvA c wd none (some jt) wi i) (c ((6 + (3 * (i - (c 0)))) + 2))))), (9, .int (nI (c (6 + (3 * (i - (c 0))))))), (10, .int (nI (((rvA c wd none (some jt) wi i) (c ((6 + (3 * (i - (c 0)))) + 1))) ||| ((rvA c wd none (some jt) wi i) (c ((6 + (3 * (i - (c 0)))) + 2))))))] [1, 2, 3, 4, 5, 0, 6, 7, 8, 9, 10] (hd := dX7_lets_141) (C := hX) (by decide) rfl ?_
                    refine g_aload_n 0 (hd := dX7_lets_143) (C := hX) rfl rfl ?_
                    refine g_get (hd := dX7_lets_144) (C := hX) 0 8 rfl rfl in_X7_lets_7 (by decide) (by decide +kernel) rfl ?_
                    refine g_iload 4 (hd := dX7_lets_147) (C := hX) rfl ?_
                    refine g_iload 4 (hd := dX7_lets_149) (C := hX) rfl ?_
                    refine g_iload 5 (hd := dX7_lets_151) (C := hX) rfl ?_
                    refine g_iload_n 2 (hd := dX7_lets_153) (C := hX) rfl rfl ?_
                    refine g_iload_n 3 (hd := dX7_lets_154) (C := hX) rfl rfl ?_
                    refine g_callS (rest := [.int (nI i), .ref oi]) hX (c_X7_stuckAs l D cC cI cJ cO i (1 - (((rvA c wd none (some jt) wi i) (c ((6 + (3 * (i - (c 0)))) + 1))) ||| ((rvA c wd none (some jt) wi i) (c ((6 + (3 * (i - (c 0)))) + 2))))) sr (nI jt) none (some jt) (by first | exact so_n hs0 | exact so_s hjs) (by first | exact so_n ht0 | exact so_s hjt) (by omega)) ok_X7_stuckAs (fun _ => rfl) (hd := dX7_lets_155) gX7_lets_X7_stuckAs ⟨by decide, by decide⟩ rfl (Nat.le_of_ble_eq_true rfl) ⟨Nat.zero_le _, Nat.zero_le _⟩ [] (by decide) rfl rfl ?_
                    intro r_155 e_155
                    subst e_155
                    show GW X [(o, .inr (7, [.int (nI len), .ref ot, .ref on, .ref od, .ref ow, .int (nI ch), .int (nI va), .int (nI en), .ref oi, .ref oe, .ref op, .long aE, .long aP, .long lt])), (ot, .inl (cI, 200, .inl (fun j_ => nI (T j_)))), (on, .inl (cI, 78, .inl (fun j_ => nI (c j_)))), (od, .inl (cI, 78, .inl (fun j_ => nI (rd j_)))), (ow, .inl (cI, 468, .inl (fun j_ => nI (ww j_)))), (oi, .inl (cI, 32, .inl (fun j_ => nI ((rvA c wd none (some jt) wi i) j_)))), (oe, .inl (cJ, 256, .inr (.inl EX))), (op, .inl (cJ, 256, .inr (.inl PA)))] [(0, .ref o), (1, .int (nI wd)), (2, .int sr), (3, .int (nI jt)), (4, .int (nI i)), (5, .int (nI (1 - (((rvA c wd none (some jt) wi i) (c ((6 + (3 * (i - (c 0)))) + 1))) ||| ((rvA c wd none (some jt) wi i) (c ((6 + (3 * (i - (c 0)))) + 2))))))), (6, .int (nI (6 + (3 * (i - (c 0)))))), (7, .int (nI ((rvA c wd none (some jt) wi i) (c ((6 + (3 * (i - (c 0)))) + 1))))), (8, .int (nI ((rvA c wd none (some jt) wi i) (c ((6 + (3 * (i - (c 0)))) + 2))))), (9, .int (nI (c (6 + (3 * (i - (c 0))))))), (10, .int (nI (((rvA c wd none (some jt) wi i) (c ((6 + (3 * (i - (c 0)))) + 1))) ||| ((rvA c wd none (some jt) wi i) (c ((6 + (3 * (i - (c 0)))) + 2))))))] [.int (nI (saS i (1 - (((rvA c wd none (some jt) wi i) (c ((6 + (3 * (i - (c 0)))) + 1))) ||| ((rvA c wd none (some jt) wi i) (c ((6 + (3 * (i - (c 0)))) + 2))))) none (some jt))), .int (nI i), .ref oi] 158 0 0
                    refine g_iast (hd := dX7_lets_158) (C := hX) 5 1 [(o, .inr (7, [.int (nI len), .ref ot, .ref on, .ref od, .ref ow, .int (nI ch), .int (nI va), .int (nI en), .ref oi, .ref oe, .ref op, .long aE, .long aP, .long lt])), (ot, .inl (cI, 200, .inl (fun j_ => nI (T j_)))), (on, .inl (cI, 78, .inl (fun j_ => nI (c j_)))), (od, .inl (cI, 78, .inl (fun j_ => nI (rd j_)))), (ow, .inl (cI, 468, .inl (fun j_ => nI (ww j_)))), (oi, .inl (cI, 32, .inl (fun j_ => nI ((nup (rvA c wd none (some jt) wi i) i (saS i (1 - (((rvA c wd none (some jt) wi i) (c ((6 + (3 * (i - (c 0)))) + 1))) ||| ((rvA c wd none (some jt) wi i) (c ((6 + (3 * (i - (c 0)))) + 2))))) none (some jt))) j_)))), (oe, .inl (cJ, 256, .inr (.inl EX))), (op, .inl (cJ, 256, .inr (.inl PA)))] rfl rfl (by omega) (by decide) (by rw [nup_I]; rfl) ?_
                    refine g_iinc (v := (nI (i + 1))) 4 [(0, .ref o), (1, .int (nI wd)), (2, .int sr), (3, .int (nI jt)), (4, .int (nI (i + 1))), (5, .int (nI (1 - (((rvA c wd none (some jt) wi i) (c ((6 + (3 * (i - (c 0)))) + 1))) ||| ((rvA c wd none (some jt) wi i) (c ((6 + (3 * (i - (c 0)))) + 2))))))), (6, .int (nI (6 + (3 * (i - (c 0)))))), (7, .int (nI ((rvA c wd none (some jt) wi i) (c ((6 + (3 * (i - (c 0)))) + 1))))), (8, .int (nI ((rvA c wd none (some jt) wi i) (c ((6 + (3 * (i - (c 0)))) + 2))))), (9, .int (nI (c (6 + (3 * (i - (c 0))))))), (10, .int (nI (((rvA c wd none (some jt) wi i) (c ((6 + (3 * (i - (c 0)))) + 1))) ||| ((rvA c wd none (some jt) wi i) (c ((6 + (3 * (i - (c 0)))) + 2))))))] [1, 2, 3, 4, 0, 5, 6, 7, 8, 9, 10] (hd := dX7_lets_159) (C := hX) rfl (nI_1 _) (by decide) rfl ?_
                    refine g_goto 3 (hd := dX7_lets_162) (C := hX) (by decide) ?_
                    refine g_w [(o, .inr (7, [.int (nI len), .ref ot, .ref on, .ref od, .ref ow, .int (nI ch), .int (nI va), .int (nI en), .ref oi, .ref oe, .ref op, .long aE, .long aP, .long lt])), (ot, .inl (cI, 200, .inl (fun j_ => nI (T j_)))), (on, .inl (cI, 78, .inl (fun j_ => nI (c j_)))), (od, .inl (cI, 78, .inl (fun j_ => nI (rd j_)))), (ow, .inl (cI, 468, .inl (fun j_ => nI (ww j_)))), (oi, .inl (cI, 32, .inl (fun j_ => nI ((rvA c wd none (some jt) wi (i + 1)) j_)))), (oe, .inl (cJ, 256, .inr (.inl EX))), (op, .inl (cJ, 256, .inr (.inl PA)))] (by simp only [rvA, rvX]; rw [if_neg (Nat.not_lt.mpr c_28)]; unfold gvN; rw [if_neg (Nat.not_lt.mpr c_129), if_neg c_92, if_pos c_108]) ?_
                    refine g_lv [(0, .ref o), (1, .int (nI wd)), (2, .int sr), (3, .int (nI jt)), (4, .int (nI (i + 1)))] [0, 1, 2, 3, 4] rfl ?_
                    exact ih_3 (i + 1) (by omega) (by omega)
                  · refine g_iload 10 (hd := dX7_lets_132) (C := hX) rfl ?_
                    refine g_goto 141 (hd := dX7_lets_134) (C := hX) (by decide) ?_
                    refine g_istore [(0, .ref o), (1, .int (nI wd)), (2, .int sr), (3, .int (nI jt)), (4, .int (nI i)), (5, .int (nI (((rvA c wd none (some jt) wi i) (c ((6 + (3 * (i - (c 0)))) + 1))) ||| ((rvA c wd none (some jt) wi i) (c ((6 + (3 * (i - (c 0)))) + 2)))))), (6, .int (nI (6 + (3 * (i - (c 0)))))), (7, .int (nI ((rvA c wd none (some jt) wi i) (c ((6 + (3 * (i - (c 0)))) + 1))))), (8, .int (nI ((rvA c wd none (some jt) wi i) (c ((6 + (3 * (i - (c 0)))) + 2))))), (9, .int (nI (c (6 + (3 * (i - (c 0))))))), (10, .int (nI (((rvA c wd none (some jt) wi i) (c ((6 + (3 * (i - (c 0)))) + 1))) ||| ((rvA c wd none (some jt) wi i) (c ((6 + (3 * (i - (c 0)))) + 2))))))] [1, 2, 3, 4, 5, 0, 6, 7, 8, 9, 10] (hd := dX7_lets_141) (C := hX) (by decide) rfl ?_
                    refine g_aload_n 0 (hd := dX7_lets_143) (C := hX) rfl rfl ?_
                    refine g_get (hd := dX7_lets_144) (C := hX) 0 8 rfl rfl in_X7_lets_7 (by decide) (by decide +kernel) rfl ?_
                    refine g_iload 4 (hd := dX7_lets_147) (C := hX) rfl ?_
                    refine g_iload 4 (hd := dX7_lets_149) (C := hX) rfl ?_
                    refine g_iload 5 (hd := dX7_lets_151) (C := hX) rfl ?_
                    refine g_iload_n 2 (hd := dX7_lets_153) (C := hX) rfl rfl ?_
                    refine g_iload_n 3 (hd := dX7_lets_154) (C := hX) rfl rfl ?_
                    refine g_callS (rest := [.int (nI i), .ref oi]) hX (c_X7_stuckAs l D cC cI cJ cO i (((rvA c wd none (some jt) wi i) (c ((6 + (3 * (i - (c 0)))) + 1))) ||| ((rvA c wd none (some jt) wi i) (c ((6 + (3 * (i - (c 0)))) + 2)))) sr (nI jt) none (some jt) (by first | exact so_n hs0 | exact so_s hjs) (by first | exact so_n ht0 | exact so_s hjt) (by omega)) ok_X7_stuckAs (fun _ => rfl) (hd := dX7_lets_155) gX7_lets_X7_stuckAs ⟨by decide, by decide⟩ rfl (Nat.le_of_ble_eq_true rfl) ⟨Nat.zero_le _, Nat.zero_le _⟩ [] (by decide) rfl rfl ?_
                    intro r_155 e_155
                    subst e_155
                    show GW X [(o, .inr (7, [.int (nI len), .ref ot, .ref on, .ref od, .ref ow, .int (nI ch), .int (nI va), .int (nI en), .ref oi, .ref oe, .ref op, .long aE, .long aP, .long lt])), (ot, .inl (cI, 200, .inl (fun j_ => nI (T j_)))), (on, .inl (cI, 78, .inl (fun j_ => nI (c j_)))), (od, .inl (cI, 78, .inl (fun j_ => nI (rd j_)))), (ow, .inl (cI, 468, .inl (fun j_ => nI (ww j_)))), (oi, .inl (cI, 32, .inl (fun j_ => nI ((rvA c wd none (some jt) wi i) j_)))), (oe, .inl (cJ, 256, .inr (.inl EX))), (op, .inl (cJ, 256, .inr (.inl PA)))] [(0, .ref o), (1, .int (nI wd)), (2, .int sr), (3, .int (nI jt)), (4, .int (nI i)), (5, .int (nI (((rvA c wd none (some jt) wi i) (c ((6 + (3 * (i - (c 0)))) + 1))) ||| ((rvA c wd none (some jt) wi i) (c ((6 + (3 * (i - (c 0)))) + 2)))))), (6, .int (nI (6 + (3 * (i - (c 0)))))), (7, .int (nI ((rvA c wd none (some jt) wi i) (c ((6 + (3 * (i - (c 0)))) + 1))))), (8, .int (nI ((rvA c wd none (some jt) wi i) (c ((6 + (3 * (i - (c 0)))) + 2))))), (9, .int (nI (c (6 + (3 * (i - (c 0))))))), (10, .int (nI (((rvA c wd none (some jt) wi i) (c ((6 + (3 * (i - (c 0)))) + 1))) ||| ((rvA c wd none (some jt) wi i) (c ((6 + (3 * (i - (c 0)))) + 2))))))] [.int (nI (saS i (((rvA c wd none (some jt) wi i) (c ((6 + (3 * (i - (c 0)))) + 1))) ||| ((rvA c wd none (some jt) wi i) (c ((6 + (3 * (i - (c 0)))) + 2)))) none (some jt))), .int (nI i), .ref oi] 158 0 0
                    refine g_iast (hd := dX7_lets_158) (C := hX) 5 1 [(o, .inr (7, [.int (nI len), .ref ot, .ref on, .ref od, .ref ow, .int (nI ch), .int (nI va), .int (nI en), .ref oi, .ref oe, .ref op, .long aE, .long aP, .long lt])), (ot, .inl (cI, 200, .inl (fun j_ => nI (T j_)))), (on, .inl (cI, 78, .inl (fun j_ => nI (c j_)))), (od, .inl (cI, 78, .inl (fun j_ => nI (rd j_)))), (ow, .inl (cI, 468, .inl (fun j_ => nI (ww j_)))), (oi, .inl (cI, 32, .inl (fun j_ => nI ((nup (rvA c wd none (some jt) wi i) i (saS i (((rvA c wd none (some jt) wi i) (c ((6 + (3 * (i - (c 0)))) + 1))) ||| ((rvA c wd none (some jt) wi i) (c ((6 + (3 * (i - (c 0)))) + 2)))) none (some jt))) j_)))), (oe, .inl (cJ, 256, .inr (.inl EX))), (op, .inl (cJ, 256, .inr (.inl PA)))] rfl rfl (by omega) (by decide) (by rw [nup_I]; rfl) ?_
                    refine g_iinc (v := (nI (i + 1))) 4 [(0, .ref o), (1, .int (nI wd)), (2, .int sr), (3, .int (nI jt)), (4, .int (nI (i + 1))), (5, .int (nI (((rvA c wd none (some jt) wi i) (c ((6 + (3 * (i - (c 0)))) + 1))) ||| ((rvA c wd none (some jt) wi i) (c ((6 + (3 * (i - (c 0)))) + 2)))))), (6, .int (nI (6 + (3 * (i - (c 0)))))), (7, .int (nI ((rvA c wd none (some jt) wi i) (c ((6 + (3 * (i - (c 0)))) + 1))))), (8, .int (nI ((rvA c wd none (some jt) wi i) (c ((6 + (3 * (i - (c 0)))) + 2))))), (9, .int (nI (c (6 + (3 * (i - (c 0))))))), (10, .int (nI (((rvA c wd none (some jt) wi i) (c ((6 + (3 * (i - (c 0)))) + 1))) ||| ((rvA c wd none (some jt) wi i) (c ((6 + (3 * (i - (c 0)))) + 2))))))] [1, 2, 3, 4, 0, 5, 6, 7, 8, 9, 10] (hd := dX7_lets_159) (C := hX) rfl (nI_1 _) (by decide) rfl ?_
                    refine g_goto 3 (hd := dX7_lets_162) (C := hX) (by decide) ?_
                    refine g_w [(o, .inr (7, [.int (nI len), .ref ot, .ref on, .ref od, .ref ow, .int (nI ch), .int (nI va), .int (nI en), .ref oi, .ref oe, .ref op, .long aE, .long aP, .long lt])), (ot, .inl (cI, 200, .inl (fun j_ => nI (T j_)))), (on, .inl (cI, 78, .inl (fun j_ => nI (c j_)))), (od, .inl (cI, 78, .inl (fun j_ => nI (rd j_)))), (ow, .inl (cI, 468, .inl (fun j_ => nI (ww j_)))), (oi, .inl (cI, 32, .inl (fun j_ => nI ((rvA c wd none (some jt) wi (i + 1)) j_)))), (oe, .inl (cJ, 256, .inr (.inl EX))), (op, .inl (cJ, 256, .inr (.inl PA)))] (by simp only [rvA, rvX]; rw [if_neg (Nat.not_lt.mpr c_28)]; unfold gvN; rw [if_pos c_129, if_neg c_92, if_pos c_108]) ?_
                    refine g_lv [(0, .ref o), (1, .int (nI wd)), (2, .int sr), (3, .int (nI jt)), (4, .int (nI (i + 1)))] [0, 1, 2, 3, 4] rfl ?_
                    exact ih_3 (i + 1) (by omega) (by omega)
              · refine g_iload 7 (hd := dX7_lets_95) (C := hX) rfl ?_
                refine g_iload 8 (hd := dX7_lets_97) (C := hX) rfl ?_
                refine g_iand hX dX7_lets_99 ?_
                refine g_top (y := (nI (((rvA c wd none (some jt) wi i) (c ((6 + (3 * (i - (c 0)))) + 1))) &&& ((rvA c wd none (some jt) wi i) (c ((6 + (3 * (i - (c 0)))) + 2)))))) (nx_and _ _) ?_
                refine g_goto 124 (hd := dX7_lets_100) (C := hX) (by decide) ?_
                refine g_istore [(0, .ref o), (1, .int (nI wd)), (2, .int sr), (3, .int (nI jt)), (4, .int (nI i)), (5, .int (nI (wd / 2 ^ i % 2))), (6, .int (nI (6 + (3 * (i - (c 0)))))), (7, .int (nI ((rvA c wd none (some jt) wi i) (c ((6 + (3 * (i - (c 0)))) + 1))))), (8, .int (nI ((rvA c wd none (some jt) wi i) (c ((6 + (3 * (i - (c 0)))) + 2))))), (9, .int (nI (c (6 + (3 * (i - (c 0))))))), (10, .int (nI (((rvA c wd none (some jt) wi i) (c ((6 + (3 * (i - (c 0)))) + 1))) &&& ((rvA c wd none (some jt) wi i) (c ((6 + (3 * (i - (c 0)))) + 2))))))] [1, 2, 3, 4, 5, 6, 7, 8, 9, 10, 0] (hd := dX7_lets_124) (C := hX) (by decide) rfl ?_
                refine g_iload 9 (hd := dX7_lets_126) (C := hX) rfl ?_
                refine g_iconst (v := nI 3) hX dX7_lets_128 (by decide) ?_
                refine g_icmp_geN 137 (hd := dX7_lets_129) (C := hX) (by decide) (by omega) (by omega) (fun c_129 => ?_) (fun c_129 => ?_)
                · have b9 := rv_le hok wd none (some jt) wi i hiL
                  have b8 := bit2 _ (Nat.lt_succ_of_le (b9 _ hq1)) _ (Nat.lt_succ_of_le (b9 _ hq2))
                  refine g_iconst (v := nI 1) hX dX7_lets_137 (by decide) ?_
                  refine g_iload 10 (hd := dX7_lets_138) (C := hX) rfl ?_
                  refine g_isub hX dX7_lets_140 ?_
                  refine g_top (y := (nI (1 - (((rvA c wd none (some jt) wi i) (c ((6 + (3 * (i - (c 0)))) + 1))) &&& ((rvA c wd none (some jt) wi i) (c ((6 + (3 * (i - (c 0)))) + 2))))))) (pk_sub (by omega)) ?_
                  refine g_istore [(0, .ref o), (1, .int (nI wd)), (2, .int sr), (3, .int (nI jt)), (4, .int (nI i)), (5, .int (nI (1 - (((rvA c wd none (some jt) wi i) (c ((6 + (3 * (i - (c 0)))) + 1))) &&& ((rvA c wd none (some jt) wi i) (c ((6 + (3 * (i - (c 0)))) + 2))))))), (6, .int (nI (6 + (3 * (i - (c 0)))))), (7, .int (nI ((rvA c wd none (some jt) wi i) (c ((6 + (3 * (i - (c 0)))) + 1))))), (8, .int (nI ((rvA c wd none (some jt) wi i) (c ((6 + (3 * (i - (c 0)))) + 2))))), (9, .int (nI (c (6 + (3 * (i - (c 0))))))), (10, .int (nI (((rvA c wd none (some jt) wi i) (c ((6 + (3 * (i - (c 0)))) + 1))) &&& ((rvA c wd none (some jt) wi i) (c ((6 + (3 * (i - (c 0)))) + 2))))))] [1, 2, 3, 4, 5, 0, 6, 7, 8, 9, 10] (hd := dX7_lets_141) (C := hX) (by decide) rfl ?_
                  refine g_aload_n 0 (hd := dX7_lets_143) (C := hX) rfl rfl ?_
                  refine g_get (hd := dX7_lets_144) (C := hX) 0 8 rfl rfl in_X7_lets_7 (by decide) (by decide +kernel) rfl ?_
                  refine g_iload 4 (hd := dX7_lets_147) (C := hX) rfl ?_
                  refine g_iload 4 (hd := dX7_lets_149) (C := hX) rfl ?_
                  refine g_iload 5 (hd := dX7_lets_151) (C := hX) rfl ?_
                  refine g_iload_n 2 (hd := dX7_lets_153) (C := hX) rfl rfl ?_
                  refine g_iload_n 3 (hd := dX7_lets_154) (C := hX) rfl rfl ?_
                  refine g_callS (rest := [.int (nI i), .ref oi]) hX (c_X7_stuckAs l D cC cI cJ cO i (1 - (((rvA c wd none (some jt) wi i) (c ((6 + (3 * (i - (c 0)))) + 1))) &&& ((rvA c wd none (some jt) wi i) (c ((6 + (3 * (i - (c 0)))) + 2))))) sr (nI jt) none (some jt) (by first | exact so_n hs0 | exact so_s hjs) (by first | exact so_n ht0 | exact so_s hjt) (by omega)) ok_X7_stuckAs (fun _ => rfl) (hd := dX7_lets_155) gX7_lets_X7_stuckAs ⟨by decide, by decide⟩ rfl (Nat.le_of_ble_eq_true rfl) ⟨Nat.zero_le _, Nat.zero_le _⟩ [] (by decide) rfl rfl ?_
                  intro r_155 e_155
                  subst e_155
                  show GW X [(o, .inr (7, [.int (nI len), .ref ot, .ref on, .ref od, .ref ow, .int (nI ch), .int (nI va), .int (nI en), .ref oi, .ref oe, .ref op, .long aE, .long aP, .long lt])), (ot, .inl (cI, 200, .inl (fun j_ => nI (T j_)))), (on, .inl (cI, 78, .inl (fun j_ => nI (c j_)))), (od, .inl (cI, 78, .inl (fun j_ => nI (rd j_)))), (ow, .inl (cI, 468, .inl (fun j_ => nI (ww j_)))), (oi, .inl (cI, 32, .inl (fun j_ => nI ((rvA c wd none (some jt) wi i) j_)))), (oe, .inl (cJ, 256, .inr (.inl EX))), (op, .inl (cJ, 256, .inr (.inl PA)))] [(0, .ref o), (1, .int (nI wd)), (2, .int sr), (3, .int (nI jt)), (4, .int (nI i)), (5, .int (nI (1 - (((rvA c wd none (some jt) wi i) (c ((6 + (3 * (i - (c 0)))) + 1))) &&& ((rvA c wd none (some jt) wi i) (c ((6 + (3 * (i - (c 0)))) + 2))))))), (6, .int (nI (6 + (3 * (i - (c 0)))))), (7, .int (nI ((rvA c wd none (some jt) wi i) (c ((6 + (3 * (i - (c 0)))) + 1))))), (8, .int (nI ((rvA c wd none (some jt) wi i) (c ((6 + (3 * (i - (c 0)))) + 2))))), (9, .int (nI (c (6 + (3 * (i - (c 0))))))), (10, .int (nI (((rvA c wd none (some jt) wi i) (c ((6 + (3 * (i - (c 0)))) + 1))) &&& ((rvA c wd none (some jt) wi i) (c ((6 + (3 * (i - (c 0)))) + 2))))))] [.int (nI (saS i (1 - (((rvA c wd none (some jt) wi i) (c ((6 + (3 * (i - (c 0)))) + 1))) &&& ((rvA c wd none (some jt) wi i) (c ((6 + (3 * (i - (c 0)))) + 2))))) none (some jt))), .int (nI i), .ref oi] 158 0 0
                  refine g_iast (hd := dX7_lets_158) (C := hX) 5 1 [(o, .inr (7, [.int (nI len), .ref ot, .ref on, .ref od, .ref ow, .int (nI ch), .int (nI va), .int (nI en), .ref oi, .ref oe, .ref op, .long aE, .long aP, .long lt])), (ot, .inl (cI, 200, .inl (fun j_ => nI (T j_)))), (on, .inl (cI, 78, .inl (fun j_ => nI (c j_)))), (od, .inl (cI, 78, .inl (fun j_ => nI (rd j_)))), (ow, .inl (cI, 468, .inl (fun j_ => nI (ww j_)))), (oi, .inl (cI, 32, .inl (fun j_ => nI ((nup (rvA c wd none (some jt) wi i) i (saS i (1 - (((rvA c wd none (some jt) wi i) (c ((6 + (3 * (i - (c 0)))) + 1))) &&& ((rvA c wd none (some jt) wi i) (c ((6 + (3 * (i - (c 0)))) + 2))))) none (some jt))) j_)))), (oe, .inl (cJ, 256, .inr (.inl EX))), (op, .inl (cJ, 256, .inr (.inl PA)))] rfl rfl (by omega) (by decide) (by rw [nup_I]; rfl) ?_
                  refine g_iinc (v := (nI (i + 1))) 4 [(0, .ref o), (1, .int (nI wd)), (2, .int sr), (3, .int (nI jt)), (4, .int (nI (i + 1))), (5, .int (nI (1 - (((rvA c wd none (some jt) wi i) (c ((6 + (3 * (i - (c 0)))) + 1))) &&& ((rvA c wd none (some jt) wi i) (c ((6 + (3 * (i - (c 0)))) + 2))))))), (6, .int (nI (6 + (3 * (i - (c 0)))))), (7, .int (nI ((rvA c wd none (some jt) wi i) (c ((6 + (3 * (i - (c 0)))) + 1))))), (8, .int (nI ((rvA c wd none (some jt) wi i) (c ((6 + (3 * (i - (c 0)))) + 2))))), (9, .int (nI (c (6 + (3 * (i - (c 0))))))), (10, .int (nI (((rvA c wd none (some jt) wi i) (c ((6 + (3 * (i - (c 0)))) + 1))) &&& ((rvA c wd none (some jt) wi i) (c ((6 + (3 * (i - (c 0)))) + 2))))))] [1, 2, 3, 4, 0, 5, 6, 7, 8, 9, 10] (hd := dX7_lets_159) (C := hX) rfl (nI_1 _) (by decide) rfl ?_
                  refine g_goto 3 (hd := dX7_lets_162) (C := hX) (by decide) ?_
                  refine g_w [(o, .inr (7, [.int (nI len), .ref ot, .ref on, .ref od, .ref ow, .int (nI ch), .int (nI va), .int (nI en), .ref oi, .ref oe, .ref op, .long aE, .long aP, .long lt])), (ot, .inl (cI, 200, .inl (fun j_ => nI (T j_)))), (on, .inl (cI, 78, .inl (fun j_ => nI (c j_)))), (od, .inl (cI, 78, .inl (fun j_ => nI (rd j_)))), (ow, .inl (cI, 468, .inl (fun j_ => nI (ww j_)))), (oi, .inl (cI, 32, .inl (fun j_ => nI ((rvA c wd none (some jt) wi (i + 1)) j_)))), (oe, .inl (cJ, 256, .inr (.inl EX))), (op, .inl (cJ, 256, .inr (.inl PA)))] (by simp only [rvA, rvX]; rw [if_neg (Nat.not_lt.mpr c_28)]; unfold gvN; rw [if_neg (Nat.not_lt.mpr c_129), if_pos c_92]) ?_
                  refine g_lv [(0, .ref o), (1, .int (nI wd)), (2, .int sr), (3, .int (nI jt)), (4, .int (nI (i + 1)))] [0, 1, 2, 3, 4] rfl ?_
                  exact ih_3 (i + 1) (by omega) (by omega)
                · refine g_iload 10 (hd := dX7_lets_132) (C := hX) rfl ?_
                  refine g_goto 141 (hd := dX7_lets_134) (C := hX) (by decide) ?_
                  refine g_istore [(0, .ref o), (1, .int (nI wd)), (2, .int sr), (3, .int (nI jt)), (4, .int (nI i)), (5, .int (nI (((rvA c wd none (some jt) wi i) (c ((6 + (3 * (i - (c 0)))) + 1))) &&& ((rvA c wd none (some jt) wi i) (c ((6 + (3 * (i - (c 0)))) + 2)))))), (6, .int (nI (6 + (3 * (i - (c 0)))))), (7, .int (nI ((rvA c wd none (some jt) wi i) (c ((6 + (3 * (i - (c 0)))) + 1))))), (8, .int (nI ((rvA c wd none (some jt) wi i) (c ((6 + (3 * (i - (c 0)))) + 2))))), (9, .int (nI (c (6 + (3 * (i - (c 0))))))), (10, .int (nI (((rvA c wd none (some jt) wi i) (c ((6 + (3 * (i - (c 0)))) + 1))) &&& ((rvA c wd none (some jt) wi i) (c ((6 + (3 * (i - (c 0)))) + 2))))))] [1, 2, 3, 4, 5, 0, 6, 7, 8, 9, 10] (hd := dX7_lets_141) (C := hX) (by decide) rfl ?_
                  refine g_aload_n 0 (hd := dX7_lets_143) (C := hX) rfl rfl ?_
                  refine g_get (hd := dX7_lets_144) (C := hX) 0 8 rfl rfl in_X7_lets_7 (by decide) (by decide +kernel) rfl ?_
                  refine g_iload 4 (hd := dX7_lets_147) (C := hX) rfl ?_
                  refine g_iload 4 (hd := dX7_lets_149) (C := hX) rfl ?_
                  refine g_iload 5 (hd := dX7_lets_151) (C := hX) rfl ?_
                  refine g_iload_n 2 (hd := dX7_lets_153) (C := hX) rfl rfl ?_
                  refine g_iload_n 3 (hd := dX7_lets_154) (C := hX) rfl rfl ?_
                  refine g_callS (rest := [.int (nI i), .ref oi]) hX (c_X7_stuckAs l D cC cI cJ cO i (((rvA c wd none (some jt) wi i) (c ((6 + (3 * (i - (c 0)))) + 1))) &&& ((rvA c wd none (some jt) wi i) (c ((6 + (3 * (i - (c 0)))) + 2)))) sr (nI jt) none (some jt) (by first | exact so_n hs0 | exact so_s hjs) (by first | exact so_n ht0 | exact so_s hjt) (by omega)) ok_X7_stuckAs (fun _ => rfl) (hd := dX7_lets_155) gX7_lets_X7_stuckAs ⟨by decide, by decide⟩ rfl (Nat.le_of_ble_eq_true rfl) ⟨Nat.zero_le _, Nat.zero_le _⟩ [] (by decide) rfl rfl ?_
                  intro r_155 e_155
                  subst e_155
                  show GW X [(o, .inr (7, [.int (nI len), .ref ot, .ref on, .ref od, .ref ow, .int (nI ch), .int (nI va), .int (nI en), .ref oi, .ref oe, .ref op, .long aE, .long aP, .long lt])), (ot, .inl (cI, 200, .inl (fun j_ => nI (T j_)))), (on, .inl (cI, 78, .inl (fun j_ => nI (c j_)))), (od, .inl (cI, 78, .inl (fun j_ => nI (rd j_)))), (ow, .inl (cI, 468, .inl (fun j_ => nI (ww j_)))), (oi, .inl (cI, 32, .inl (fun j_ => nI ((rvA c wd none (some jt) wi i) j_)))), (oe, .inl (cJ, 256, .inr (.inl EX))), (op, .inl (cJ, 256, .inr (.inl PA)))] [(0, .ref o), (1, .int (nI wd)), (2, .int sr), (3, .int (nI jt)), (4, .int (nI i)), (5, .int (nI (((rvA c wd none (some jt) wi i) (c ((6 + (3 * (i - (c 0)))) + 1))) &&& ((rvA c wd none (some jt) wi i) (c ((6 + (3 * (i - (c 0)))) + 2)))))), (6, .int (nI (6 + (3 * (i - (c 0)))))), (7, .int (nI ((rvA c wd none (some jt) wi i) (c ((6 + (3 * (i - (c 0)))) + 1))))), (8, .int (nI ((rvA c wd none (some jt) wi i) (c ((6 + (3 * (i - (c 0)))) + 2))))), (9, .int (nI (c (6 + (3 * (i - (c 0))))))), (10, .int (nI (((rvA c wd none (some jt) wi i) (c ((6 + (3 * (i - (c 0)))) + 1))) &&& ((rvA c wd none (some jt) wi i) (c ((6 + (3 * (i - (c 0)))) + 2))))))] [.int (nI (saS i (((rvA c wd none (some jt) wi i) (c ((6 + (3 * (i - (c 0)))) + 1))) &&& ((rvA c wd none (some jt) wi i) (c ((6 + (3 * (i - (c 0)))) + 2)))) none (some jt))), .int (nI i), .ref oi] 158 0 0
                  refine g_iast (hd := dX7_lets_158) (C := hX) 5 1 [(o, .inr (7, [.int (nI len), .ref ot, .ref on, .ref od, .ref ow, .int (nI ch), .int (nI va), .int (nI en), .ref oi, .ref oe, .ref op, .long aE, .long aP, .long lt])), (ot, .inl (cI, 200, .inl (fun j_ => nI (T j_)))), (on, .inl (cI, 78, .inl (fun j_ => nI (c j_)))), (od, .inl (cI, 78, .inl (fun j_ => nI (rd j_)))), (ow, .inl (cI, 468, .inl (fun j_ => nI (ww j_)))), (oi, .inl (cI, 32, .inl (fun j_ => nI ((nup (rvA c wd none (some jt) wi i) i (saS i (((rvA c wd none (some jt) wi i) (c ((6 + (3 * (i - (c 0)))) + 1))) &&& ((rvA c wd none (some jt) wi i) (c ((6 + (3 * (i - (c 0)))) + 2)))) none (some jt))) j_)))), (oe, .inl (cJ, 256, .inr (.inl EX))), (op, .inl (cJ, 256, .inr (.inl PA)))] rfl rfl (by omega) (by decide) (by rw [nup_I]; rfl) ?_
                  refine g_iinc (v := (nI (i + 1))) 4 [(0, .ref o), (1, .int (nI wd)), (2, .int sr), (3, .int (nI jt)), (4, .int (nI (i + 1))), (5, .int (nI (((rvA c wd none (some jt) wi i) (c ((6 + (3 * (i - (c 0)))) + 1))) &&& ((rvA c wd none (some jt) wi i) (c ((6 + (3 * (i - (c 0)))) + 2)))))), (6, .int (nI (6 + (3 * (i - (c 0)))))), (7, .int (nI ((rvA c wd none (some jt) wi i) (c ((6 + (3 * (i - (c 0)))) + 1))))), (8, .int (nI ((rvA c wd none (some jt) wi i) (c ((6 + (3 * (i - (c 0)))) + 2))))), (9, .int (nI (c (6 + (3 * (i - (c 0))))))), (10, .int (nI (((rvA c wd none (some jt) wi i) (c ((6 + (3 * (i - (c 0)))) + 1))) &&& ((rvA c wd none (some jt) wi i) (c ((6 + (3 * (i - (c 0)))) + 2))))))] [1, 2, 3, 4, 0, 5, 6, 7, 8, 9, 10] (hd := dX7_lets_159) (C := hX) rfl (nI_1 _) (by decide) rfl ?_
                  refine g_goto 3 (hd := dX7_lets_162) (C := hX) (by decide) ?_
                  refine g_w [(o, .inr (7, [.int (nI len), .ref ot, .ref on, .ref od, .ref ow, .int (nI ch), .int (nI va), .int (nI en), .ref oi, .ref oe, .ref op, .long aE, .long aP, .long lt])), (ot, .inl (cI, 200, .inl (fun j_ => nI (T j_)))), (on, .inl (cI, 78, .inl (fun j_ => nI (c j_)))), (od, .inl (cI, 78, .inl (fun j_ => nI (rd j_)))), (ow, .inl (cI, 468, .inl (fun j_ => nI (ww j_)))), (oi, .inl (cI, 32, .inl (fun j_ => nI ((rvA c wd none (some jt) wi (i + 1)) j_)))), (oe, .inl (cJ, 256, .inr (.inl EX))), (op, .inl (cJ, 256, .inr (.inl PA)))] (by simp only [rvA, rvX]; rw [if_neg (Nat.not_lt.mpr c_28)]; unfold gvN; rw [if_pos c_129, if_pos c_92]) ?_
                  refine g_lv [(0, .ref o), (1, .int (nI wd)), (2, .int sr), (3, .int (nI jt)), (4, .int (nI (i + 1)))] [0, 1, 2, 3, 4] rfl ?_
                  exact ih_3 (i + 1) (by omega) (by omega)
      refine g_w [(o, .inr (7, [.int (nI len), .ref ot, .ref on, .ref od, .ref ow, .int (nI ch), .int (nI va), .int (nI en), .ref oi, .ref oe, .ref op, .long aE, .long aP, .long lt])), (ot, .inl (cI, 200, .inl (fun j_ => nI (T j_)))), (on, .inl (cI, 78, .inl (fun j_ => nI (c j_)))), (od, .inl (cI, 78, .inl (fun j_ => nI (rd j_)))), (ow, .inl (cI, 468, .inl (fun j_ => nI (ww j_)))), (oi, .inl (cI, 32, .inl (fun j_ => nI ((rvA c wd none (some jt) wi 0) j_)))), (oe, .inl (cJ, 256, .inr (.inl EX))), (op, .inl (cJ, 256, .inr (.inl PA)))] rfl ?_
      exact L_3 _ 0 (Nat.lt_succ_self _) (Nat.zero_le _)
  · rcases ht with ⟨rfl, ht0⟩ | ⟨jt, rfl, hjt, rfl⟩
    · refine g_iconst (v := nI 0) hX dX7_lets_0 (by decide) ?_
      refine g_istore [(0, .ref o), (1, .int (nI wd)), (2, .int (nI js)), (3, .int tr), (4, .int (nI 0))] [1, 2, 3, 4, 0] (hd := dX7_lets_1) (C := hX) (by decide) rfl ?_
      have L_3 : ∀ (n_3 : Nat) (i : Nat), c 0 + c 1 - i < n_3 → (i ≤ c 0 + c 1) → GW X [(o, .inr (7, [.int (nI len), .ref ot, .ref on, .ref od, .ref ow, .int (nI ch), .int (nI va), .int (nI en), .ref oi, .ref oe, .ref op, .long aE, .long aP, .long lt])), (ot, .inl (cI, 200, .inl (fun j_ => nI (T j_)))), (on, .inl (cI, 78, .inl (fun j_ => nI (c j_)))), (od, .inl (cI, 78, .inl (fun j_ => nI (rd j_)))), (ow, .inl (cI, 468, .inl (fun j_ => nI (ww j_)))), (oi, .inl (cI, 32, .inl (fun j_ => nI ((rvA c wd (some js) none wi i) j_)))), (oe, .inl (cJ, 256, .inr (.inl EX))), (op, .inl (cJ, 256, .inr (.inl PA)))] [(0, .ref o), (1, .int (nI wd)), (2, .int (nI js)), (3, .int tr), (4, .int (nI i))] [] 3 0 0 := by
        intro n_3
        induction n_3 with
        | zero => intro i hm_3; exact absurd hm_3 (Nat.not_lt_zero _)
        | succ n_3 ih_3 =>
          intro i hm_3 hiL
          refine g_iload 4 (hd := dX7_lets_3) (C := hX) rfl ?_
          refine g_aload_n 0 (hd := dX7_lets_5) (C := hX) rfl rfl ?_
          refine g_callVs (rest := [.int (nI i)]) hX (c_X7_wires l D cC cI cJ cO o ot on od ow oi oe op len ch va en aE aP lt T c rd ww (rvA c wd (some js) none wi i) EX PA) ok_X7_wires rfl 0 rfl rfl (hd := dX7_lets_6) gX7_lets_X7_wires ⟨by decide, by decide⟩ rfl (Nat.le_of_ble_eq_true rfl) ⟨Nat.zero_le _, Nat.zero_le _⟩ [0, 1, 2, 3, 4, 5, 6, 7] (by decide) rfl rfl ?_
          intro r_6 e_6
          subst e_6
          show GW X [(o, .inr (7, [.int (nI len), .ref ot, .ref on, .ref od, .ref ow, .int (nI ch), .int (nI va), .int (nI en), .ref oi, .ref oe, .ref op, .long aE, .long aP, .long lt])), (ot, .inl (cI, 200, .inl (fun j_ => nI (T j_)))), (on, .inl (cI, 78, .inl (fun j_ => nI (c j_)))), (od, .inl (cI, 78, .inl (fun j_ => nI (rd j_)))), (ow, .inl (cI, 468, .inl (fun j_ => nI (ww j_)))), (oi, .inl (cI, 32, .inl (fun j_ => nI ((rvA c wd (some js) none wi i) j_)))), (oe, .inl (cJ, 256, .inr (.inl EX))), (op, .inl (cJ, 256, .inr (.inl PA)))] [(0, .ref o), (1, .int (nI wd)), (2, .int (nI js)), (3, .int tr), (4, .int (nI i))] [.int (nI (c 0 + c 1)), .int (nI i)] 9 0 0
          refine g_icmp_geN 165 (hd := dX7_lets_9) (C := hX) (by decide) (by omega) (by omega) (fun c_9 => ?_) (fun c_9 => ?_)
          · refine g_iconst (v := nI 2) hX dX7_lets_165 (by decide) ?_
            refine g_aload_n 0 (hd := dX7_lets_166) (C := hX) rfl rfl ?_
            refine g_get (hd := dX7_lets_167) (C := hX) 0 8 rfl rfl in_X7_lets_7 (by decide) (by decide +kernel) rfl ?_
            refine g_aload_n 0 (hd := dX7_lets_170) (C := hX) rfl rfl ?_
            refine g_get (hd := dX7_lets_171) (C := hX) 0 2 rfl rfl in_X7_lets_7 (by decide) (by decide +kernel) rfl ?_
            refine g_iconst (v := nI 2) hX dX7_lets_174 (by decide) ?_
            refine g_iald (hd := dX7_lets_175) (C := hX) 2 1 rfl rfl (by omega) (by decide) ?_
            refine g_iald (hd := dX7_lets_176) (C := hX) 5 1 rfl rfl (by omega) (by decide) ?_
            refine g_imul hX dX7_lets_177 ?_
            refine g_top (y := (nI (2 * ((rvA c wd (some js) none wi i) (c 2))))) (pk_mul _ _) ?_
            refine g_aload_n 0 (hd := dX7_lets_178) (C := hX) rfl rfl ?_
            refine g_get (hd := dX7_lets_179) (C := hX) 0 8 rfl rfl in_X7_lets_7 (by decide) (by decide +kernel) rfl ?_
            refine g_aload_n 0 (hd := dX7_lets_182) (C := hX) rfl rfl ?_
            refine g_get (hd := dX7_lets_183) (C := hX) 0 2 rfl rfl in_X7_lets_7 (by decide) (by decide +kernel) rfl ?_
            refine g_iconst (v := nI 3) hX dX7_lets_186 (by decide) ?_
            refine g_iald (hd := dX7_lets_187) (C := hX) 2 1 rfl rfl (by omega) (by decide) ?_
            refine g_iald (hd := dX7_lets_188) (C := hX) 5 1 rfl rfl (by omega) (by decide) ?_
            refine g_iadd hX dX7_lets_189 ?_
            refine g_top (y := (nI ((2 * ((rvA c wd (some js) none wi i) (c 2))) + ((rvA c wd (some js) none wi i) (c 3))))) (nI_add _ _) ?_
            refine g_w [(o, .inr (7, [.int (nI len), .ref ot, .ref on, .ref od, .ref ow, .int (nI ch), .int (nI va), .int (nI en), .ref oi, .ref oe, .ref op, .long aE, .long aP, .long lt])), (ot, .inl (cI, 200, .inl (fun j_ => nI (T j_)))), (on, .inl (cI, 78, .inl (fun j_ => nI (c j_)))), (od, .inl (cI, 78, .inl (fun j_ => nI (rd j_)))), (ow, .inl (cI, 468, .inl (fun j_ => nI (ww j_)))), (oi, .inl (cI, 32, .inl (fun j_ => nI ((rvA c wd (some js) none wi (c 0 + c 1)) j_)))), (oe, .inl (cJ, 256, .inr (.inl EX))), (op, .inl (cJ, 256, .inr (.inl PA)))] (by rw [show i = c 0 + c 1 from by omega]) ?_
            exact (hret (nI ((2 * ((rvA c wd (some js) none wi i) (c 2))) + ((rvA c wd (some js) none wi i) (c 3)))) _ _ (by rw [show i = c 0 + c 1 from by omega])).2.1 _ rfl rfl dX7_lets_190
          · refine g_iload_n 1 (hd := dX7_lets_12) (C := hX) rfl rfl ?_
            refine g_iload 4 (hd := dX7_lets_13) (C := hX) rfl ?_
            refine g_ishr hX dX7_lets_15 ?_
            refine g_top (y := (nI (wd / 2 ^ i))) (gl_shr (by omega) (by omega)) ?_
            refine g_iconst (v := nI 1) hX dX7_lets_16 (by decide) ?_
            refine g_iand hX dX7_lets_17 ?_
            refine g_top (y := (nI (wd / 2 ^ i % 2))) (by rw [nx_and, Nat.and_one_is_mod]) ?_
            refine g_istore [(0, .ref o), (1, .int (nI wd)), (2, .int (nI js)), (3, .int tr), (4, .int (nI i)), (5, .int (nI (wd / 2 ^ i % 2)))] [1, 2, 3, 4, 5, 0] (hd := dX7_lets_18) (C := hX) (by decide) rfl ?_
            refine g_iload 4 (hd := dX7_lets_20) (C := hX) rfl ?_
            refine g_aload_n 0 (hd := dX7_lets_22) (C := hX) rfl rfl ?_
            refine g_get (hd := dX7_lets_23) (C := hX) 0 2 rfl rfl in_X7_lets_7 (by decide) (by decide +kernel) rfl ?_
            refine g_iconst (v := nI 0) hX dX7_lets_26 (by decide) ?_
            refine g_iald (hd := dX7_lets_27) (C := hX) 2 1 rfl rfl (by omega) (by decide) ?_
            refine g_icmp_ltN 143 (hd := dX7_lets_28) (C := hX) (by decide) (by omega) (by omega) (fun c_28 => ?_) (fun c_28 => ?_)
            · refine g_aload_n 0 (hd := dX7_lets_143) (C := hX) rfl rfl ?_
              refine g_get (hd := dX7_lets_144) (C := hX) 0 8 rfl rfl in_X7_lets_7 (by decide) (by decide +kernel) rfl ?_
              refine g_iload 4 (hd := dX7_lets_147) (C := hX) rfl ?_
              refine g_iload 4 (hd := dX7_lets_149) (C := hX) rfl ?_
              refine g_iload 5 (hd := dX7_lets_151) (C := hX) rfl ?_
              refine g_iload_n 2 (hd := dX7_lets_153) (C := hX) rfl rfl ?_
              refine g_iload_n 3 (hd := dX7_lets_154) (C := hX) rfl rfl ?_
              refine g_callS (rest := [.int (nI i), .ref oi]) hX (c_X7_stuckAs l D cC cI cJ cO i (wd / 2 ^ i % 2) (nI js) tr (some js) none (by first | exact so_n hs0 | exact so_s hjs) (by first | exact so_n ht0 | exact so_s hjt) (by omega)) ok_X7_stuckAs (fun _ => rfl) (hd := dX7_lets_155) gX7_lets_X7_stuckAs ⟨by decide, by decide⟩ rfl (Nat.le_of_ble_eq_true rfl) ⟨Nat.zero_le _, Nat.zero_le _⟩ [] (by decide) rfl rfl ?_
              intro r_155 e_155
              subst e_155
              show GW X [(o, .inr (7, [.int (nI len), .ref ot, .ref on, .ref od, .ref ow, .int (nI ch), .int (nI va), .int (nI en), .ref oi, .ref oe, .ref op, .long aE, .long aP, .long lt])), (ot, .inl (cI, 200, .inl (fun j_ => nI (T j_)))), (on, .inl (cI, 78, .inl (fun j_ => nI (c j_)))), (od, .inl (cI, 78, .inl (fun j_ => nI (rd j_)))), (ow, .inl (cI, 468, .inl (fun j_ => nI (ww j_)))), (oi, .inl (cI, 32, .inl (fun j_ => nI ((rvA c wd (some js) none wi i) j_)))), (oe, .inl (cJ, 256, .inr (.inl EX))), (op, .inl (cJ, 256, .inr (.inl PA)))] [(0, .ref o), (1, .int (nI wd)), (2, .int (nI js)), (3, .int tr), (4, .int (nI i)), (5, .int (nI (wd / 2 ^ i % 2)))] [.int (nI (saS i (wd / 2 ^ i % 2) (some js) none)), .int (nI i), .ref oi] 158 0 0
              refine g_iast (hd := dX7_lets_158) (C := hX) 5 1 [(o, .inr (7, [.int (nI len), .ref ot, .ref on, .ref od, .ref ow, .int (nI ch), .int (nI va), .int (nI en), .ref oi, .ref oe, .ref op, .long aE, .long aP, .long lt])), (ot, .inl (cI, 200, .inl (fun j_ => nI (T j_)))), (on, .inl (cI, 78, .inl (fun j_ => nI (c j_)))), (od, .inl (cI, 78, .inl (fun j_ => nI (rd j_)))), (ow, .inl (cI, 468, .inl (fun j_ => nI (ww j_)))), (oi, .inl (cI, 32, .inl (fun j_ => nI ((nup (rvA c wd (some js) none wi i) i (saS i (wd / 2 ^ i % 2) (some js) none)) j_)))), (oe, .inl (cJ, 256, .inr (.inl EX))), (op, .inl (cJ, 256, .inr (.inl PA)))] rfl rfl (by omega) (by decide) (by rw [nup_I]; rfl) ?_
              refine g_iinc (v := (nI (i + 1))) 4 [(0, .ref o), (1, .int (nI wd)), (2, .int (nI js)), (3, .int tr), (4, .int (nI (i + 1))), (5, .int (nI (wd / 2 ^ i % 2)))] [1, 2, 3, 4, 0, 5] (hd := dX7_lets_159) (C := hX) rfl (nI_1 _) (by decide) rfl ?_
              refine g_goto 3 (hd := dX7_lets_162) (C := hX) (by decide) ?_
              refine g_w [(o, .inr (7, [.int (nI len), .ref ot, .ref on, .ref od, .ref ow, .int (nI ch), .int (nI va), .int (nI en), .ref oi, .ref oe, .ref op, .long aE, .long aP, .long lt])), (ot, .inl (cI, 200, .inl (fun j_ => nI (T j_)))), (on, .inl (cI, 78, .inl (fun j_ => nI (c j_)))), (od, .inl (cI, 78, .inl (fun j_ => nI (rd j_)))), (ow, .inl (cI, 468, .inl (fun j_ => nI (ww j_)))), (oi, .inl (cI, 32, .inl (fun j_ => nI ((rvA c wd (some js) none wi (i + 1)) j_)))), (oe, .inl (cJ, 256, .inr (.inl EX))), (op, .inl (cJ, 256, .inr (.inl PA)))] (by simp only [rvA, rvX]; rw [if_pos c_28]) ?_
              refine g_lv [(0, .ref o), (1, .int (nI wd)), (2, .int (nI js)), (3, .int tr), (4, .int (nI (i + 1)))] [0, 1, 2, 3, 4] rfl ?_
              exact ih_3 (i + 1) (by omega) (by omega)
            · have hq := hok.2.2.2.2.2.2 (i - c 0) (by omega)
              have hq1 : c (6 + 3 * (i - c 0) + 1) < i := by rw [show 6 + 3 * (i - c 0) + 1 = 7 + 3 * (i - c 0) from by omega]; omega
              have hq2 : c (6 + 3 * (i - c 0) + 2) < i := by rw [show 6 + 3 * (i - c 0) + 2 = 8 + 3 * (i - c 0) from by omega]; omega
              refine g_bipush (v := nI 6) hX dX7_lets_31 (by decide) ?_
              refine g_iconst (v := nI 3) hX dX7_lets_33 (by decide) ?_
              refine g_iload 4 (hd := dX7_lets_34) (C := hX) rfl ?_
              refine g_aload_n 0 (hd := dX7_lets_36) (C := hX) rfl rfl ?_
              refine g_get (hd := dX7_lets_37) (C := hX) 0 2 rfl rfl in_X7_lets_7 (by decide) (by decide +kernel) rfl ?_
              refine g_iconst (v := nI 0) hX dX7_lets_40 (by decide) ?_
              refine g_iald (hd := dX7_lets_41) (C := hX) 2 1 rfl rfl (by omega) (by decide) ?_
              refine g_isub hX dX7_lets_42 ?_
              refine g_top (y := (nI (i - (c 0)))) (pk_sub (by omega)) ?_
              refine g_imul hX dX7_lets_43 ?_
              refine g_top (y := (nI (3 * (i - (c 0))))) (pk_mul _ _) ?_
              refine g_iadd hX dX7_lets_44 ?_
              refine g_top (y := (nI (6 + (3 * (i - (c 0)))))) (nI_add _ _) ?_
              refine g_istore [(0, .ref o), (1, .int (nI wd)), (2, .int (nI js)), (3, .int tr), (4, .int (nI i)), (5, .int (nI (wd / 2 ^ i % 2))), (6, .int (nI (6 + (3 * (i - (c 0))))))] [1, 2, 3, 4, 5, 6, 0] (hd := dX7_lets_45) (C := hX) (by decide) rfl ?_
              refine g_aload_n 0 (hd := dX7_lets_47) (C := hX) rfl rfl ?_
              refine g_get (hd := dX7_lets_48) (C := hX) 0 8 rfl rfl in_X7_lets_7 (by decide) (by decide +kernel) rfl ?_
              refine g_aload_n 0 (hd := dX7_lets_51) (C := hX) rfl rfl ?_
              refine g_get (hd := dX7_lets_52) (C := hX) 0 2 rfl rfl in_X7_lets_7 (by decide) (by decide +kernel) rfl ?_
              refine g_iload 6 (hd := dX7_lets_55) (C := hX) rfl ?_
              refine g_iconst (v := nI 1) hX dX7_lets_57 (by decide) ?_
              refine g_iadd hX dX7_lets_58 ?_
              refine g_top (y := (nI ((6 + (3 * (i - (c 0)))) + 1))) (nI_add _ _) ?_
              refine g_iald (hd := dX7_lets_59) (C := hX) 2 1 rfl rfl (by omega) (by decide) ?_
              refine g_iald (hd := dX7_lets_60) (C := hX) 5 1 rfl rfl (by omega) (by decide) ?_
              refine g_istore [(0, .ref o), (1, .int (nI wd)), (2, .int (nI js)), (3, .int tr), (4, .int (nI i)), (5, .int (nI (wd / 2 ^ i % 2))), (6, .int (nI (6 + (3 * (i - (c 0)))))), (7, .int (nI ((rvA c wd (some js) none wi i) (c ((6 + (3 * (i - (c 0)))) + 1)))))] [1, 2, 3, 4, 5, 6, 7, 0] (hd := dX7_lets_61) (C := hX) (by decide) rfl ?_
              refine g_aload_n 0 (hd := dX7_lets_63) (C := hX) rfl rfl ?_
              refine g_get (hd := dX7_lets_64) (C := hX) 0 8 rfl rfl in_X7_lets_7 (by decide) (by decide +kernel) rfl ?_
              refine g_aload_n 0 (hd := dX7_lets_67) (C := hX) rfl rfl ?_
              refine g_get (hd := dX7_lets_68) (C := hX) 0 2 rfl rfl in_X7_lets_7 (by decide) (by decide +kernel) rfl ?_
              refine g_iload 6 (hd := dX7_lets_71) (C := hX) rfl ?_
              refine g_iconst (v := nI 2) hX dX7_lets_73 (by decide) ?_
              refine g_iadd hX dX7_lets_74 ?_
              refine g_top (y := (nI ((6 + (3 * (i - (c 0)))) + 2))) (nI_add _ _) ?_
              refine g_iald (hd := dX7_lets_75) (C := hX) 2 1 rfl rfl (by omega) (by decide) ?_
              refine g_iald (hd := dX7_lets_76) (C := hX) 5 1 rfl rfl (by omega) (by decide) ?_
              refine g_istore [(0, .ref o), (1, .int (nI wd)), (2, .int (nI js)), (3, .int tr), (4, .int (nI i)), (5, .int (nI (wd / 2 ^ i % 2))), (6, .int (nI (6 + (3 * (i - (c 0)))))), (7, .int (nI ((rvA c wd (some js) none wi i) (c ((6 + (3 * (i - (c 0)))) + 1))))), (8, .int (nI ((rvA c wd (some js) none wi i) (c ((6 + (3 * (i - (c 0)))) + 2)))))] [1, 2, 3, 4, 5, 6, 7, 8, 0] (hd := dX7_lets_77) (C := hX) (by decide) rfl ?_
              refine g_aload_n 0 (hd := dX7_lets_79) (C := hX) rfl rfl ?_
              refine g_get (hd := dX7_lets_80) (C := hX) 0 2 rfl rfl in_X7_lets_7 (by decide) (by decide +kernel) rfl ?_
              refine g_iload 6 (hd := dX7_lets_83) (C := hX) rfl ?_
              refine g_iald (hd := dX7_lets_85) (C := hX) 2 1 rfl rfl (by omega) (by decide) ?_
              refine g_istore [(0, .ref o), (1, .int (nI wd)), (2, .int (nI js)), (3, .int tr), (4, .int (nI i)), (5, .int (nI (wd / 2 ^ i % 2))), (6, .int (nI (6 + (3 * (i - (c 0)))))), (7, .int (nI ((rvA c wd (some js) none wi i) (c ((6 + (3 * (i - (c 0)))) + 1))))), (8, .int (nI ((rvA c wd (some js) none wi i) (c ((6 + (3 * (i - (c 0)))) + 2))))), (9, .int (nI (c (6 + (3 * (i - (c 0)))))))] [1, 2, 3, 4, 5, 6, 7, 8, 9, 0] (hd := dX7_lets_86) (C := hX) (by decide) rfl ?_
              refine g_iload 9 (hd := dX7_lets_88) (C := hX) rfl ?_
              refine g_iconst (v := nI 3) hX dX7_lets_90 (by decide) ?_
              refine g_irem hX dX7_lets_91 (by decide) ?_
              refine g_top (y := (nI (c (6 + (3 * (i - (c 0)))) % 3))) (pk_rem (by omega) (by omega) (by omega)) ?_
              refine g_if_neN 103 (hd := dX7_lets_92) (C := hX) (by decide) (by omega) (fun c_92 => ?_) (fun c_92 => ?_)
              · refine g_iload 9 (hd := dX7_lets_103) (C := hX) rfl ?_
                refine g_iconst (v := nI 3) hX dX7_lets_105 (by decide) ?_
                refine g_irem hX dX7_lets_106 (by decide) ?_
                refine g_top (y := (nI (c (6 + (3 * (i - (c 0)))) % 3))) (pk_rem (by omega) (by omega) (by omega)) ?_
                refine g_iconst (v := nI 1) hX dX7_lets_107 (by decide) ?_
                refine g_icmp_neN 119 (hd := dX7_lets_108) (C := hX) (by decide) (by omega) (by omega) (fun c_108 => ?_) (fun c_108 => ?_)
                · refine g_iload 7 (hd := dX7_lets_119) (C := hX) rfl ?_
                  refine g_iload 8 (hd := dX7_lets_121) (C := hX) rfl ?_
                  refine g_ixor hX dX7_lets_123 ?_
                  refine g_top (y := (nI (((rvA c wd (some js) none wi i) (c ((6 + (3 * (i - (c 0)))) + 1))) ^^^ ((rvA c wd (some js) none wi i) (c ((6 + (3 * (i - (c 0)))) + 2)))))) (nx_xor _ _) ?_
                  refine g_istore [(0, .ref o), (1, .int (nI wd)), (2, .int (nI js)), (3, .int tr), (4, .int (nI i)), (5, .int (nI (wd / 2 ^ i % 2))), (6, .int (nI (6 + (3 * (i - (c 0)))))), (7, .int (nI ((rvA c wd (some js) none wi i) (c ((6 + (3 * (i - (c 0)))) + 1))))), (8, .int (nI ((rvA c wd (some js) none wi i) (c ((6 + (3 * (i - (c 0)))) + 2))))), (9, .int (nI (c (6 + (3 * (i - (c 0))))))), (10, .int (nI (((rvA c wd (some js) none wi i) (c ((6 + (3 * (i - (c 0)))) + 1))) ^^^ ((rvA c wd (some js) none wi i) (c ((6 + (3 * (i - (c 0)))) + 2))))))] [1, 2, 3, 4, 5, 6, 7, 8, 9, 10, 0] (hd := dX7_lets_124) (C := hX) (by decide) rfl ?_
                  refine g_iload 9 (hd := dX7_lets_126) (C := hX) rfl ?_
                  refine g_iconst (v := nI 3) hX dX7_lets_128 (by decide) ?_
                  refine g_icmp_geN 137 (hd := dX7_lets_129) (C := hX) (by decide) (by omega) (by omega) (fun c_129 => ?_) (fun c_129 => ?_)
                  · have b9 := rv_le hok wd (some js) none wi i hiL
                    have b8 := bit2 _ (Nat.lt_succ_of_le (b9 _ hq1)) _ (Nat.lt_succ_of_le (b9 _ hq2))
                    refine g_iconst (v := nI 1) hX dX7_lets_137 (by decide) ?_
                    refine g_iload 10 (hd := dX7_lets_138) (C := hX) rfl ?_
                    refine g_isub hX dX7_lets_140 ?_
                    refine g_top (y := (nI (1 - (((rvA c wd (some js) none wi i) (c ((6 + (3 * (i - (c 0)))) + 1))) ^^^ ((rvA c wd (some js) none wi i) (c ((6 + (3 * (i - (c 0)))) + 2))))))) (pk_sub (by omega)) ?_
                    refine g_istore [(0, .ref o), (1, .int (nI wd)), (2, .int (nI js)), (3, .int tr), (4, .int (nI i)), (5, .int (nI (1 - (((rvA c wd (some js) none wi i) (c ((6 + (3 * (i - (c 0)))) + 1))) ^^^ ((rvA c wd (some js) none wi i) (c ((6 + (3 * (i - (c 0)))) + 2))))))), (6, .int (nI (6 + (3 * (i - (c 0)))))), (7, .int (nI ((rvA c wd (some js) none wi i) (c ((6 + (3 * (i - (c 0)))) + 1))))), (8, .int (nI ((rvA c wd (some js) none wi i) (c ((6 + (3 * (i - (c 0)))) + 2))))), (9, .int (nI (c (6 + (3 * (i - (c 0))))))), (10, .int (nI (((rvA c wd (some js) none wi i) (c ((6 + (3 * (i - (c 0)))) + 1))) ^^^ ((rvA c wd (some js) none wi i) (c ((6 + (3 * (i - (c 0)))) + 2))))))] [1, 2, 3, 4, 5, 0, 6, 7, 8, 9, 10] (hd := dX7_lets_141) (C := hX) (by decide) rfl ?_
                    refine g_aload_n 0 (hd := dX7_lets_143) (C := hX) rfl rfl ?_
                    refine g_get (hd := dX7_lets_144) (C := hX) 0 8 rfl rfl in_X7_lets_7 (by decide) (by decide +kernel) rfl ?_
                    refine g_iload 4 (hd := dX7_lets_147) (C := hX) rfl ?_
                    refine g_iload 4 (hd := dX7_lets_149) (C := hX) rfl ?_
                    refine g_iload 5 (hd := dX7_lets_151) (C := hX) rfl ?_
                    refine g_iload_n 2 (hd := dX7_lets_153) (C := hX) rfl rfl ?_
                    refine g_iload_n 3 (hd := dX7_lets_154) (C := hX) rfl rfl ?_
                    refine g_callS (rest := [.int (nI i), .ref oi]) hX (c_X7_stuckAs l D cC cI cJ cO i (1 - (((rvA c wd (some js) none wi i) (c ((6 + (3 * (i - (c 0)))) + 1))) ^^^ ((rvA c wd (some js) none wi i) (c ((6 + (3 * (i - (c 0)))) + 2))))) (nI js) tr (some js) none (by first | exact so_n hs0 | exact so_s hjs) (by first | exact so_n ht0 | exact so_s hjt) (by omega)) ok_X7_stuckAs (fun _ => rfl) (hd := dX7_lets_155) gX7_lets_X7_stuckAs ⟨by decide, by decide⟩ rfl (Nat.le_of_ble_eq_true rfl) ⟨Nat.zero_le _, Nat.zero_le _⟩ [] (by decide) rfl rfl ?_
                    intro r_155 e_155
                    subst e_155
                    show GW X [(o, .inr (7, [.int (nI len), .ref ot, .ref on, .ref od, .ref ow, .int (nI ch), .int (nI va), .int (nI en), .ref oi, .ref oe, .ref op, .long aE, .long aP, .long lt])), (ot, .inl (cI, 200, .inl (fun j_ => nI (T j_)))), (on, .inl (cI, 78, .inl (fun j_ => nI (c j_)))), (od, .inl (cI, 78, .inl (fun j_ => nI (rd j_)))), (ow, .inl (cI, 468, .inl (fun j_ => nI (ww j_)))), (oi, .inl (cI, 32, .inl (fun j_ => nI ((rvA c wd (some js) none wi i) j_)))), (oe, .inl (cJ, 256, .inr (.inl EX))), (op, .inl (cJ, 256, .inr (.inl PA)))] [(0, .ref o), (1, .int (nI wd)), (2, .int (nI js)), (3, .int tr), (4, .int (nI i)), (5, .int (nI (1 - (((rvA c wd (some js) none wi i) (c ((6 + (3 * (i - (c 0)))) + 1))) ^^^ ((rvA c wd (some js) none wi i) (c ((6 + (3 * (i - (c 0)))) + 2))))))), (6, .int (nI (6 + (3 * (i - (c 0)))))), (7, .int (nI ((rvA c wd (some js) none wi i) (c ((6 + (3 * (i - (c 0)))) + 1))))), (8, .int (nI ((rvA c wd (some js) none wi i) (c ((6 + (3 * (i - (c 0)))) + 2))))), (9, .int (nI (c (6 + (3 * (i - (c 0))))))), (10, .int (nI (((rvA c wd (some js) none wi i) (c ((6 + (3 * (i - (c 0)))) + 1))) ^^^ ((rvA c wd (some js) none wi i) (c ((6 + (3 * (i - (c 0)))) + 2))))))] [.int (nI (saS i (1 - (((rvA c wd (some js) none wi i) (c ((6 + (3 * (i - (c 0)))) + 1))) ^^^ ((rvA c wd (some js) none wi i) (c ((6 + (3 * (i - (c 0)))) + 2))))) (some js) none)), .int (nI i), .ref oi] 158 0 0
                    refine g_iast (hd := dX7_lets_158) (C := hX) 5 1 [(o, .inr (7, [.int (nI len), .ref ot, .ref on, .ref od, .ref ow, .int (nI ch), .int (nI va), .int (nI en), .ref oi, .ref oe, .ref op, .long aE, .long aP, .long lt])), (ot, .inl (cI, 200, .inl (fun j_ => nI (T j_)))), (on, .inl (cI, 78, .inl (fun j_ => nI (c j_)))), (od, .inl (cI, 78, .inl (fun j_ => nI (rd j_)))), (ow, .inl (cI, 468, .inl (fun j_ => nI (ww j_)))), (oi, .inl (cI, 32, .inl (fun j_ => nI ((nup (rvA c wd (some js) none wi i) i (saS i (1 - (((rvA c wd (some js) none wi i) (c ((6 + (3 * (i - (c 0)))) + 1))) ^^^ ((rvA c wd (some js) none wi i) (c ((6 + (3 * (i - (c 0)))) + 2))))) (some js) none)) j_)))), (oe, .inl (cJ, 256, .inr (.inl EX))), (op, .inl (cJ, 256, .inr (.inl PA)))] rfl rfl (by omega) (by decide) (by rw [nup_I]; rfl) ?_
                    refine g_iinc (v := (nI (i + 1))) 4 [(0, .ref o), (1, .int (nI wd)), (2, .int (nI js)), (3, .int tr), (4, .int (nI (i + 1))), (5, .int (nI (1 - (((rvA c wd (some js) none wi i) (c ((6 + (3 * (i - (c 0)))) + 1))) ^^^ ((rvA c wd (some js) none wi i) (c ((6 + (3 * (i - (c 0)))) + 2))))))), (6, .int (nI (6 + (3 * (i - (c 0)))))), (7, .int (nI ((rvA c wd (some js) none wi i) (c ((6 + (3 * (i - (c 0)))) + 1))))), (8, .int (nI ((rvA c wd (some js) none wi i) (c ((6 + (3 * (i - (c 0)))) + 2))))), (9, .int (nI (c (6 + (3 * (i - (c 0))))))), (10, .int (nI (((rvA c wd (some js) none wi i) (c ((6 + (3 * (i - (c 0)))) + 1))) ^^^ ((rvA c wd (some js) none wi i) (c ((6 + (3 * (i - (c 0)))) + 2))))))] [1, 2, 3, 4, 0, 5, 6, 7, 8, 9, 10] (hd := dX7_lets_159) (C := hX) rfl (nI_1 _) (by decide) rfl ?_
                    refine g_goto 3 (hd := dX7_lets_162) (C := hX) (by decide) ?_
                    refine g_w [(o, .inr (7, [.int (nI len), .ref ot, .ref on, .ref od, .ref ow, .int (nI ch), .int (nI va), .int (nI en), .ref oi, .ref oe, .ref op, .long aE, .long aP, .long lt])), (ot, .inl (cI, 200, .inl (fun j_ => nI (T j_)))), (on, .inl (cI, 78, .inl (fun j_ => nI (c j_)))), (od, .inl (cI, 78, .inl (fun j_ => nI (rd j_)))), (ow, .inl (cI, 468, .inl (fun j_ => nI (ww j_)))), (oi, .inl (cI, 32, .inl (fun j_ => nI ((rvA c wd (some js) none wi (i + 1)) j_)))), (oe, .inl (cJ, 256, .inr (.inl EX))), (op, .inl (cJ, 256, .inr (.inl PA)))] (by simp only [rvA, rvX]; rw [if_neg (Nat.not_lt.mpr c_28)]; unfold gvN; rw [if_neg (Nat.not_lt.mpr c_129), if_neg c_92, if_neg c_108]) ?_
                    refine g_lv [(0, .ref o), (1, .int (nI wd)), (2, .int (nI js)), (3, .int tr), (4, .int (nI (i + 1)))] [0, 1, 2, 3, 4] rfl ?_
                    exact ih_3 (i + 1) (by omega) (by omega)
                  · refine g_iload 10 (hd := dX7_lets_132) (C := hX) rfl ?_
                    refine g_goto 141 (hd := dX7_lets_134) (C := hX) (by decide) ?_
                    refine g_istore [(0, .ref o), (1, .int (nI wd)), (2, .int (nI js)), (3, .int tr), (4, .int (nI i)), (5, .int (nI (((rvA c wd (some js) none wi i) (c ((6 + (3 * (i - (c 0)))) + 1))) ^^^ ((rvA c wd (some js) none wi i) (c ((6 + (3 * (i - (c 0)))) + 2)))))), (6, .int (nI (6 + (3 * (i - (c 0)))))), (7, .int (nI ((rvA c wd (some js) none wi i) (c ((6 + (3 * (i - (c 0)))) + 1))))), (8, .int (nI ((rvA c wd (some js) none wi i) (c ((6 + (3 * (i - (c 0)))) + 2))))), (9, .int (nI (c (6 + (3 * (i - (c 0))))))), (10, .int (nI (((rvA c wd (some js) none wi i) (c ((6 + (3 * (i - (c 0)))) + 1))) ^^^ ((rvA c wd (some js) none wi i) (c ((6 + (3 * (i - (c 0)))) + 2))))))] [1, 2, 3, 4, 5, 0, 6, 7, 8, 9, 10] (hd := dX7_lets_141) (C := hX) (by decide) rfl ?_
                    refine g_aload_n 0 (hd := dX7_lets_143) (C := hX) rfl rfl ?_
                    refine g_get (hd := dX7_lets_144) (C := hX) 0 8 rfl rfl in_X7_lets_7 (by decide) (by decide +kernel) rfl ?_
                    refine g_iload 4 (hd := dX7_lets_147) (C := hX) rfl ?_
                    refine g_iload 4 (hd := dX7_lets_149) (C := hX) rfl ?_
                    refine g_iload 5 (hd := dX7_lets_151) (C := hX) rfl ?_
                    refine g_iload_n 2 (hd := dX7_lets_153) (C := hX) rfl rfl ?_
                    refine g_iload_n 3 (hd := dX7_lets_154) (C := hX) rfl rfl ?_
                    refine g_callS (rest := [.int (nI i), .ref oi]) hX (c_X7_stuckAs l D cC cI cJ cO i (((rvA c wd (some js) none wi i) (c ((6 + (3 * (i - (c 0)))) + 1))) ^^^ ((rvA c wd (some js) none wi i) (c ((6 + (3 * (i - (c 0)))) + 2)))) (nI js) tr (some js) none (by first | exact so_n hs0 | exact so_s hjs) (by first | exact so_n ht0 | exact so_s hjt) (by omega)) ok_X7_stuckAs (fun _ => rfl) (hd := dX7_lets_155) gX7_lets_X7_stuckAs ⟨by decide, by decide⟩ rfl (Nat.le_of_ble_eq_true rfl) ⟨Nat.zero_le _, Nat.zero_le _⟩ [] (by decide) rfl rfl ?_
                    intro r_155 e_155
                    subst e_155
                    show GW X [(o, .inr (7, [.int (nI len), .ref ot, .ref on, .ref od, .ref ow, .int (nI ch), .int (nI va), .int (nI en), .ref oi, .ref oe, .ref op, .long aE, .long aP, .long lt])), (ot, .inl (cI, 200, .inl (fun j_ => nI (T j_)))), (on, .inl (cI, 78, .inl (fun j_ => nI (c j_)))), (od, .inl (cI, 78, .inl (fun j_ => nI (rd j_)))), (ow, .inl (cI, 468, .inl (fun j_ => nI (ww j_)))), (oi, .inl (cI, 32, .inl (fun j_ => nI ((rvA c wd (some js) none wi i) j_)))), (oe, .inl (cJ, 256, .inr (.inl EX))), (op, .inl (cJ, 256, .inr (.inl PA)))] [(0, .ref o), (1, .int (nI wd)), (2, .int (nI js)), (3, .int tr), (4, .int (nI i)), (5, .int (nI (((rvA c wd (some js) none wi i) (c ((6 + (3 * (i - (c 0)))) + 1))) ^^^ ((rvA c wd (some js) none wi i) (c ((6 + (3 * (i - (c 0)))) + 2)))))), (6, .int (nI (6 + (3 * (i - (c 0)))))), (7, .int (nI ((rvA c wd (some js) none wi i) (c ((6 + (3 * (i - (c 0)))) + 1))))), (8, .int (nI ((rvA c wd (some js) none wi i) (c ((6 + (3 * (i - (c 0)))) + 2))))), (9, .int (nI (c (6 + (3 * (i - (c 0))))))), (10, .int (nI (((rvA c wd (some js) none wi i) (c ((6 + (3 * (i - (c 0)))) + 1))) ^^^ ((rvA c wd (some js) none wi i) (c ((6 + (3 * (i - (c 0)))) + 2))))))] [.int (nI (saS i (((rvA c wd (some js) none wi i) (c ((6 + (3 * (i - (c 0)))) + 1))) ^^^ ((rvA c wd (some js) none wi i) (c ((6 + (3 * (i - (c 0)))) + 2)))) (some js) none)), .int (nI i), .ref oi] 158 0 0
                    refine g_iast (hd := dX7_lets_158) (C := hX) 5 1 [(o, .inr (7, [.int (nI len), .ref ot, .ref on, .ref od, .ref ow, .int (nI ch), .int (nI va), .int (nI en), .ref oi, .ref oe, .ref op, .long aE, .long aP, .long lt])), (ot, .inl (cI, 200, .inl (fun j_ => nI (T j_)))), (on, .inl (cI, 78, .inl (fun j_ => nI (c j_)))), (od, .inl (cI, 78, .inl (fun j_ => nI (rd j_)))), (ow, .inl (cI, 468, .inl (fun j_ => nI (ww j_)))), (oi, .inl (cI, 32, .inl (fun j_ => nI ((nup (rvA c wd (some js) none wi i) i (saS i (((rvA c wd (some js) none wi i) (c ((6 + (3 * (i - (c 0)))) + 1))) ^^^ ((rvA c wd (some js) none wi i) (c ((6 + (3 * (i - (c 0)))) + 2)))) (some js) none)) j_)))), (oe, .inl (cJ, 256, .inr (.inl EX))), (op, .inl (cJ, 256, .inr (.inl PA)))] rfl rfl (by omega) (by decide) (by rw [nup_I]; rfl) ?_
                    refine g_iinc (v := (nI (i + 1))) 4 [(0, .ref o), (1, .int (nI wd)), (2, .int (nI js)), (3, .int tr), (4, .int (nI (i + 1))), (5, .int (nI (((rvA c wd (some js) none wi i) (c ((6 + (3 * (i - (c 0)))) + 1))) ^^^ ((rvA c wd (some js) none wi i) (c ((6 + (3 * (i - (c 0)))) + 2)))))), (6, .int (nI (6 + (3 * (i - (c 0)))))), (7, .int (nI ((rvA c wd (some js) none wi i) (c ((6 + (3 * (i - (c 0)))) + 1))))), (8, .int (nI ((rvA c wd (some js) none wi i) (c ((6 + (3 * (i - (c 0)))) + 2))))), (9, .int (nI (c (6 + (3 * (i - (c 0))))))), (10, .int (nI (((rvA c wd (some js) none wi i) (c ((6 + (3 * (i - (c 0)))) + 1))) ^^^ ((rvA c wd (some js) none wi i) (c ((6 + (3 * (i - (c 0)))) + 2))))))] [1, 2, 3, 4, 0, 5, 6, 7, 8, 9, 10] (hd := dX7_lets_159) (C := hX) rfl (nI_1 _) (by decide) rfl ?_
                    refine g_goto 3 (hd := dX7_lets_162) (C := hX) (by decide) ?_
                    refine g_w [(o, .inr (7, [.int (nI len), .ref ot, .ref on, .ref od, .ref ow, .int (nI ch), .int (nI va), .int (nI en), .ref oi, .ref oe, .ref op, .long aE, .long aP, .long lt])), (ot, .inl (cI, 200, .inl (fun j_ => nI (T j_)))), (on, .inl (cI, 78, .inl (fun j_ => nI (c j_)))), (od, .inl (cI, 78, .inl (fun j_ => nI (rd j_)))), (ow, .inl (cI, 468, .inl (fun j_ => nI (ww j_)))), (oi, .inl (cI, 32, .inl (fun j_ => nI ((rvA c wd (some js) none wi (i + 1)) j_)))), (oe, .inl (cJ, 256, .inr (.inl EX))), (op, .inl (cJ, 256, .inr (.inl PA)))] (by simp only [rvA, rvX]; rw [if_neg (Nat.not_lt.mpr c_28)]; unfold gvN; rw [if_pos c_129, if_neg c_92, if_neg c_108]) ?_
                    refine g_lv [(0, .ref o), (1, .int (nI wd)), (2, .int (nI js)), (3, .int tr), (4, .int (nI (i + 1)))] [0, 1, 2, 3, 4] rfl ?_
                    exact ih_3 (i + 1) (by omega) (by omega)
                · refine g_iload 7 (hd := dX7_lets_111) (C := hX) rfl ?_
                  refine g_iload 8 (hd := dX7_lets_113) (C := hX) rfl ?_
                  refine g_ior hX dX7_lets_115 ?_
                  refine g_top (y := (nI (((rvA c wd (some js) none wi i) (c ((6 + (3 * (i - (c 0)))) + 1))) ||| ((rvA c wd (some js) none wi i) (c ((6 + (3 * (i - (c 0)))) + 2)))))) (fa_or _ _) ?_
                  refine g_goto 124 (hd := dX7_lets_116) (C := hX) (by decide) ?_
                  refine g_istore [(0, .ref o), (1, .int (nI wd)), (2, .int (nI js)), (3, .int tr), (4, .int (nI i)), (5, .int (nI (wd / 2 ^ i % 2))), (6, .int (nI (6 + (3 * (i - (c 0)))))), (7, .int (nI ((rvA c wd (some js) none wi i) (c ((6 + (3 * (i - (c 0)))) + 1))))), (8, .int (nI ((rvA c wd (some js) none wi i) (c ((6 + (3 * (i - (c 0)))) + 2))))), (9, .int (nI (c (6 + (3 * (i - (c 0))))))), (10, .int (nI (((rvA c wd (some js) none wi i) (c ((6 + (3 * (i - (c 0)))) + 1))) ||| ((rvA c wd (some js) none wi i) (c ((6 + (3 * (i - (c 0)))) + 2))))))] [1, 2, 3, 4, 5, 6, 7, 8, 9, 10, 0] (hd := dX7_lets_124) (C := hX) (by decide) rfl ?_
                  refine g_iload 9 (hd := dX7_lets_126) (C := hX) rfl ?_
                  refine g_iconst (v := nI 3) hX dX7_lets_128 (by decide) ?_
                  refine g_icmp_geN 137 (hd := dX7_lets_129) (C := hX) (by decide) (by omega) (by omega) (fun c_129 => ?_) (fun c_129 => ?_)
                  · have b9 := rv_le hok wd (some js) none wi i hiL
                    have b8 := bit2 _ (Nat.lt_succ_of_le (b9 _ hq1)) _ (Nat.lt_succ_of_le (b9 _ hq2))
                    refine g_iconst (v := nI 1) hX dX7_lets_137 (by decide) ?_
                    refine g_iload 10 (hd := dX7_lets_138) (C := hX) rfl ?_
                    refine g_isub hX dX7_lets_140 ?_
                    refine g_top (y := (nI (1 - (((rvA c wd (some js) none wi i) (c ((6 + (3 * (i - (c 0)))) + 1))) ||| ((rvA c wd (some js) none wi i) (c ((6 + (3 * (i - (c 0)))) + 2))))))) (pk_sub (by omega)) ?_
                    refine g_istore [(0, .ref o), (1, .int (nI wd)), (2, .int (nI js)), (3, .int tr), (4, .int (nI i)), (5, .int (nI (1 - (((rvA c wd (some js) none wi i) (c ((6 + (3 * (i - (c 0)))) + 1))) ||| ((rvA c wd (some js) none wi i) (c ((6 + (3 * (i - (c 0)))) + 2))))))), (6, .int (nI (6 + (3 * (i - (c 0)))))), (7, .int (nI ((rvA c wd (some js) none wi i) (c ((6 + (3 * (i - (c 0)))) + 1))))), (8, .int (nI ((rvA c wd (some js) none wi i) (c ((6 + (3 * (i - (c 0)))) + 2))))), (9, .int (nI (c (6 + (3 * (i - (c 0))))))), (10, .int (nI (((rvA c wd (some js) none wi i) (c ((6 + (3 * (i - (c 0)))) + 1))) ||| ((rvA c wd (some js) none wi i) (c ((6 + (3 * (i - (c 0)))) + 2))))))] [1, 2, 3, 4, 5, 0, 6, 7, 8, 9, 10] (hd := dX7_lets_141) (C := hX) (by decide) rfl ?_
                    refine g_aload_n 0 (hd := dX7_lets_143) (C := hX) rfl rfl ?_
                    refine g_get (hd := dX7_lets_144) (C := hX) 0 8 rfl rfl in_X7_lets_7 (by decide) (by decide +kernel) rfl ?_
                    refine g_iload 4 (hd := dX7_lets_147) (C := hX) rfl ?_
                    refine g_iload 4 (hd := dX7_lets_149) (C := hX) rfl ?_
                    refine g_iload 5 (hd := dX7_lets_151) (C := hX) rfl ?_
                    refine g_iload_n 2 (hd := dX7_lets_153) (C := hX) rfl rfl ?_
                    refine g_iload_n 3 (hd := dX7_lets_154) (C := hX) rfl rfl ?_
                    refine g_callS (rest := [.int (nI i), .ref oi]) hX (c_X7_stuckAs l D cC cI cJ cO i (1 - (((rvA c wd (some js) none wi i) (c ((6 + (3 * (i - (c 0)))) + 1))) ||| ((rvA c wd (some js) none wi i) (c ((6 + (3 * (i - (c 0)))) + 2))))) (nI js) tr (some js) none (by first | exact so_n hs0 | exact so_s hjs) (by first | exact so_n ht0 | exact so_s hjt) (by omega)) ok_X7_stuckAs (fun _ => rfl) (hd := dX7_lets_155) gX7_lets_X7_stuckAs ⟨by decide, by decide⟩ rfl (Nat.le_of_ble_eq_true rfl) ⟨Nat.zero_le _, Nat.zero_le _⟩ [] (by decide) rfl rfl ?_
                    intro r_155 e_155
                    subst e_155
                    show GW X [(o, .inr (7, [.int (nI len), .ref ot, .ref on, .ref od, .ref ow, .int (nI ch), .int (nI va), .int (nI en), .ref oi, .ref oe, .ref op, .long aE, .long aP, .long lt])), (ot, .inl (cI, 200, .inl (fun j_ => nI (T j_)))), (on, .inl (cI, 78, .inl (fun j_ => nI (c j_)))), (od, .inl (cI, 78, .inl (fun j_ => nI (rd j_)))), (ow, .inl (cI, 468, .inl (fun j_ => nI (ww j_)))), (oi, .inl (cI, 32, .inl (fun j_ => nI ((rvA c wd (some js) none wi i) j_)))), (oe, .inl (cJ, 256, .inr (.inl EX))), (op, .inl (cJ, 256, .inr (.inl PA)))] [(0, .ref o), (1, .int (nI wd)), (2, .int (nI js)), (3, .int tr), (4, .int (nI i)), (5, .int (nI (1 - (((rvA c wd (some js) none wi i) (c ((6 + (3 * (i - (c 0)))) + 1))) ||| ((rvA c wd (some js) none wi i) (c ((6 + (3 * (i - (c 0)))) + 2))))))), (6, .int (nI (6 + (3 * (i - (c 0)))))), (7, .int (nI ((rvA c wd (some js) none wi i) (c ((6 + (3 * (i - (c 0)))) + 1))))), (8, .int (nI ((rvA c wd (some js) none wi i) (c ((6 + (3 * (i - (c 0)))) + 2))))), (9, .int (nI (c (6 + (3 * (i - (c 0))))))), (10, .int (nI (((rvA c wd (some js) none wi i) (c ((6 + (3 * (i - (c 0)))) + 1))) ||| ((rvA c wd (some js) none wi i) (c ((6 + (3 * (i - (c 0)))) + 2))))))] [.int (nI (saS i (1 - (((rvA c wd (some js) none wi i) (c ((6 + (3 * (i - (c 0)))) + 1))) ||| ((rvA c wd (some js) none wi i) (c ((6 + (3 * (i - (c 0)))) + 2))))) (some js) none)), .int (nI i), .ref oi] 158 0 0
                    refine g_iast (hd := dX7_lets_158) (C := hX) 5 1 [(o, .inr (7, [.int (nI len), .ref ot, .ref on, .ref od, .ref ow, .int (nI ch), .int (nI va), .int (nI en), .ref oi, .ref oe, .ref op, .long aE, .long aP, .long lt])), (ot, .inl (cI, 200, .inl (fun j_ => nI (T j_)))), (on, .inl (cI, 78, .inl (fun j_ => nI (c j_)))), (od, .inl (cI, 78, .inl (fun j_ => nI (rd j_)))), (ow, .inl (cI, 468, .inl (fun j_ => nI (ww j_)))), (oi, .inl (cI, 32, .inl (fun j_ => nI ((nup (rvA c wd (some js) none wi i) i (saS i (1 - (((rvA c wd (some js) none wi i) (c ((6 + (3 * (i - (c 0)))) + 1))) ||| ((rvA c wd (some js) none wi i) (c ((6 + (3 * (i - (c 0)))) + 2))))) (some js) none)) j_)))), (oe, .inl (cJ, 256, .inr (.inl EX))), (op, .inl (cJ, 256, .inr (.inl PA)))] rfl rfl (by omega) (by decide) (by rw [nup_I]; rfl) ?_
                    refine g_iinc (v := (nI (i + 1))) 4 [(0, .ref o), (1, .int (nI wd)), (2, .int (nI js)), (3, .int tr), (4, .int (nI (i + 1))), (5, .int (nI (1 - (((rvA c wd (some js) none wi i) (c ((6 + (3 * (i - (c 0)))) + 1))) ||| ((rvA c wd (some js) none wi i) (c ((6 + (3 * (i - (c 0)))) + 2))))))), (6, .int (nI (6 + (3 * (i - (c 0)))))), (7, .int (nI ((rvA c wd (some js) none wi i) (c ((6 + (3 * (i - (c 0)))) + 1))))), (8, .int (nI ((rvA c wd (some js) none wi i) (c ((6 + (3 * (i - (c 0)))) + 2))))), (9, .int (nI (c (6 + (3 * (i - (c 0))))))), (10, .int (nI (((rvA c wd (some js) none wi i) (c ((6 + (3 * (i - (c 0)))) + 1))) ||| ((rvA c wd (some js) none wi i) (c ((6 + (3 * (i - (c 0)))) + 2))))))] [1, 2, 3, 4, 0, 5, 6, 7, 8, 9, 10] (hd := dX7_lets_159) (C := hX) rfl (nI_1 _) (by decide) rfl ?_
                    refine g_goto 3 (hd := dX7_lets_162) (C := hX) (by decide) ?_
                    refine g_w [(o, .inr (7, [.int (nI len), .ref ot, .ref on, .ref od, .ref ow, .int (nI ch), .int (nI va), .int (nI en), .ref oi, .ref oe, .ref op, .long aE, .long aP, .long lt])), (ot, .inl (cI, 200, .inl (fun j_ => nI (T j_)))), (on, .inl (cI, 78, .inl (fun j_ => nI (c j_)))), (od, .inl (cI, 78, .inl (fun j_ => nI (rd j_)))), (ow, .inl (cI, 468, .inl (fun j_ => nI (ww j_)))), (oi, .inl (cI, 32, .inl (fun j_ => nI ((rvA c wd (some js) none wi (i + 1)) j_)))), (oe, .inl (cJ, 256, .inr (.inl EX))), (op, .inl (cJ, 256, .inr (.inl PA)))] (by simp only [rvA, rvX]; rw [if_neg (Nat.not_lt.mpr c_28)]; unfold gvN; rw [if_neg (Nat.not_lt.mpr c_129), if_neg c_92, if_pos c_108]) ?_
                    refine g_lv [(0, .ref o), (1, .int (nI wd)), (2, .int (nI js)), (3, .int tr), (4, .int (nI (i + 1)))] [0, 1, 2, 3, 4] rfl ?_
                    exact ih_3 (i + 1) (by omega) (by omega)
                  · refine g_iload 10 (hd := dX7_lets_132) (C := hX) rfl ?_
                    refine g_goto 141 (hd := dX7_lets_134) (C := hX) (by decide) ?_
                    refine g_istore [(0, .ref o), (1, .int (nI wd)), (2, .int (nI js)), (3, .int tr), (4, .int (nI i)), (5, .int (nI (((rvA c wd (some js) none wi i) (c ((6 + (3 * (i - (c 0)))) + 1))) ||| ((rvA c wd (some js) none wi i) (c ((6 + (3 * (i - (c 0)))) + 2)))))), (6, .int (nI (6 + (3 * (i - (c 0)))))), (7, .int (nI ((rvA c wd (some js) none wi i) (c ((6 + (3 * (i - (c 0)))) + 1))))), (8, .int (nI ((rvA c wd (some js) none wi i) (c ((6 + (3 * (i - (c 0)))) + 2))))), (9, .int (nI (c (6 + (3 * (i - (c 0))))))), (10, .int (nI (((rvA c wd (some js) none wi i) (c ((6 + (3 * (i - (c 0)))) + 1))) ||| ((rvA c wd (some js) none wi i) (c ((6 + (3 * (i - (c 0)))) + 2))))))] [1, 2, 3, 4, 5, 0, 6, 7, 8, 9, 10] (hd := dX7_lets_141) (C := hX) (by decide) rfl ?_
                    refine g_aload_n 0 (hd := dX7_lets_143) (C := hX) rfl rfl ?_
                    refine g_get (hd := dX7_lets_144) (C := hX) 0 8 rfl rfl in_X7_lets_7 (by decide) (by decide +kernel) rfl ?_
                    refine g_iload 4 (hd := dX7_lets_147) (C := hX) rfl ?_
                    refine g_iload 4 (hd := dX7_lets_149) (C := hX) rfl ?_
                    refine g_iload 5 (hd := dX7_lets_151) (C := hX) rfl ?_
                    refine g_iload_n 2 (hd := dX7_lets_153) (C := hX) rfl rfl ?_
                    refine g_iload_n 3 (hd := dX7_lets_154) (C := hX) rfl rfl ?_
                    refine g_callS (rest := [.int (nI i), .ref oi]) hX (c_X7_stuckAs l D cC cI cJ cO i (((rvA c wd (some js) none wi i) (c ((6 + (3 * (i - (c 0)))) + 1))) ||| ((rvA c wd (some js) none wi i) (c ((6 + (3 * (i - (c 0)))) + 2)))) (nI js) tr (some js) none (by first | exact so_n hs0 | exact so_s hjs) (by first | exact so_n ht0 | exact so_s hjt) (by omega)) ok_X7_stuckAs (fun _ => rfl) (hd := dX7_lets_155) gX7_lets_X7_stuckAs ⟨by decide, by decide⟩ rfl (Nat.le_of_ble_eq_true rfl) ⟨Nat.zero_le _, Nat.zero_le _⟩ [] (by decide) rfl rfl ?_
                    intro r_155 e_155
                    subst e_155
                    show GW X [(o, .inr (7, [.int (nI len), .ref ot, .ref on, .ref od, .ref ow, .int (nI ch), .int (nI va), .int (nI en), .ref oi, .ref oe, .ref op, .long aE, .long aP, .long lt])), (ot, .inl (cI, 200, .inl (fun j_ => nI (T j_)))), (on, .inl (cI, 78, .inl (fun j_ => nI (c j_)))), (od, .inl (cI, 78, .inl (fun j_ => nI (rd j_)))), (ow, .inl (cI, 468, .inl (fun j_ => nI (ww j_)))), (oi, .inl (cI, 32, .inl (fun j_ => nI ((rvA c wd (some js) none wi i) j_)))), (oe, .inl (cJ, 256, .inr (.inl EX))), (op, .inl (cJ, 256, .inr (.inl PA)))] [(0, .ref o), (1, .int (nI wd)), (2, .int (nI js)), (3, .int tr), (4, .int (nI i)), (5, .int (nI (((rvA c wd (some js) none wi i) (c ((6 + (3 * (i - (c 0)))) + 1))) ||| ((rvA c wd (some js) none wi i) (c ((6 + (3 * (i - (c 0)))) + 2)))))), (6, .int (nI (6 + (3 * (i - (c 0)))))), (7, .int (nI ((rvA c wd (some js) none wi i) (c ((6 + (3 * (i - (c 0)))) + 1))))), (8, .int (nI ((rvA c wd (some js) none wi i) (c ((6 + (3 * (i - (c 0)))) + 2))))), (9, .int (nI (c (6 + (3 * (i - (c 0))))))), (10, .int (nI (((rvA c wd (some js) none wi i) (c ((6 + (3 * (i - (c 0)))) + 1))) ||| ((rvA c wd (some js) none wi i) (c ((6 + (3 * (i - (c 0)))) + 2))))))] [.int (nI (saS i (((rvA c wd (some js) none wi i) (c ((6 + (3 * (i - (c 0)))) + 1))) ||| ((rvA c wd (some js) none wi i) (c ((6 + (3 * (i - (c 0)))) + 2)))) (some js) none)), .int (nI i), .ref oi] 158 0 0
                    refine g_iast (hd := dX7_lets_158) (C := hX) 5 1 [(o, .inr (7, [.int (nI len), .ref ot, .ref on, .ref od, .ref ow, .int (nI ch), .int (nI va), .int (nI en), .ref oi, .ref oe, .ref op, .long aE, .long aP, .long lt])), (ot, .inl (cI, 200, .inl (fun j_ => nI (T j_)))), (on, .inl (cI, 78, .inl (fun j_ => nI (c j_)))), (od, .inl (cI, 78, .inl (fun j_ => nI (rd j_)))), (ow, .inl (cI, 468, .inl (fun j_ => nI (ww j_)))), (oi, .inl (cI, 32, .inl (fun j_ => nI ((nup (rvA c wd (some js) none wi i) i (saS i (((rvA c wd (some js) none wi i) (c ((6 + (3 * (i - (c 0)))) + 1))) ||| ((rvA c wd (some js) none wi i) (c ((6 + (3 * (i - (c 0)))) + 2)))) (some js) none)) j_)))), (oe, .inl (cJ, 256, .inr (.inl EX))), (op, .inl (cJ, 256, .inr (.inl PA)))] rfl rfl (by omega) (by decide) (by rw [nup_I]; rfl) ?_
                    refine g_iinc (v := (nI (i + 1))) 4 [(0, .ref o), (1, .int (nI wd)), (2, .int (nI js)), (3, .int tr), (4, .int (nI (i + 1))), (5, .int (nI (((rvA c wd (some js) none wi i) (c ((6 + (3 * (i - (c 0)))) + 1))) ||| ((rvA c wd (some js) none wi i) (c ((6 + (3 * (i - (c 0)))) + 2)))))), (6, .int (nI (6 + (3 * (i - (c 0)))))), (7, .int (nI ((rvA c wd (some js) none wi i) (c ((6 + (3 * (i - (c 0)))) + 1))))), (8, .int (nI ((rvA c wd (some js) none wi i) (c ((6 + (3 * (i - (c 0)))) + 2))))), (9, .int (nI (c (6 + (3 * (i - (c 0))))))), (10, .int (nI (((rvA c wd (some js) none wi i) (c ((6 + (3 * (i - (c 0)))) + 1))) ||| ((rvA c wd (some js) none wi i) (c ((6 + (3 * (i - (c 0)))) + 2))))))] [1, 2, 3, 4, 0, 5, 6, 7, 8, 9, 10] (hd := dX7_lets_159) (C := hX) rfl (nI_1 _) (by decide) rfl ?_
                    refine g_goto 3 (hd := dX7_lets_162) (C := hX) (by decide) ?_
                    refine g_w [(o, .inr (7, [.int (nI len), .ref ot, .ref on, .ref od, .ref ow, .int (nI ch), .int (nI va), .int (nI en), .ref oi, .ref oe, .ref op, .long aE, .long aP, .long lt])), (ot, .inl (cI, 200, .inl (fun j_ => nI (T j_)))), (on, .inl (cI, 78, .inl (fun j_ => nI (c j_)))), (od, .inl (cI, 78, .inl (fun j_ => nI (rd j_)))), (ow, .inl (cI, 468, .inl (fun j_ => nI (ww j_)))), (oi, .inl (cI, 32, .inl (fun j_ => nI ((rvA c wd (some js) none wi (i + 1)) j_)))), (oe, .inl (cJ, 256, .inr (.inl EX))), (op, .inl (cJ, 256, .inr (.inl PA)))] (by simp only [rvA, rvX]; rw [if_neg (Nat.not_lt.mpr c_28)]; unfold gvN; rw [if_pos c_129, if_neg c_92, if_pos c_108]) ?_
                    refine g_lv [(0, .ref o), (1, .int (nI wd)), (2, .int (nI js)), (3, .int tr), (4, .int (nI (i + 1)))] [0, 1, 2, 3, 4] rfl ?_
                    exact ih_3 (i + 1) (by omega) (by omega)
              · refine g_iload 7 (hd := dX7_lets_95) (C := hX) rfl ?_
                refine g_iload 8 (hd := dX7_lets_97) (C := hX) rfl ?_
                refine g_iand hX dX7_lets_99 ?_
                refine g_top (y := (nI (((rvA c wd (some js) none wi i) (c ((6 + (3 * (i - (c 0)))) + 1))) &&& ((rvA c wd (some js) none wi i) (c ((6 + (3 * (i - (c 0)))) + 2)))))) (nx_and _ _) ?_
                refine g_goto 124 (hd := dX7_lets_100) (C := hX) (by decide) ?_
                refine g_istore [(0, .ref o), (1, .int (nI wd)), (2, .int (nI js)), (3, .int tr), (4, .int (nI i)), (5, .int (nI (wd / 2 ^ i % 2))), (6, .int (nI (6 + (3 * (i - (c 0)))))), (7, .int (nI ((rvA c wd (some js) none wi i) (c ((6 + (3 * (i - (c 0)))) + 1))))), (8, .int (nI ((rvA c wd (some js) none wi i) (c ((6 + (3 * (i - (c 0)))) + 2))))), (9, .int (nI (c (6 + (3 * (i - (c 0))))))), (10, .int (nI (((rvA c wd (some js) none wi i) (c ((6 + (3 * (i - (c 0)))) + 1))) &&& ((rvA c wd (some js) none wi i) (c ((6 + (3 * (i - (c 0)))) + 2))))))] [1, 2, 3, 4, 5, 6, 7, 8, 9, 10, 0] (hd := dX7_lets_124) (C := hX) (by decide) rfl ?_
                refine g_iload 9 (hd := dX7_lets_126) (C := hX) rfl ?_
                refine g_iconst (v := nI 3) hX dX7_lets_128 (by decide) ?_
                refine g_icmp_geN 137 (hd := dX7_lets_129) (C := hX) (by decide) (by omega) (by omega) (fun c_129 => ?_) (fun c_129 => ?_)
                · have b9 := rv_le hok wd (some js) none wi i hiL
                  have b8 := bit2 _ (Nat.lt_succ_of_le (b9 _ hq1)) _ (Nat.lt_succ_of_le (b9 _ hq2))
                  refine g_iconst (v := nI 1) hX dX7_lets_137 (by decide) ?_
                  refine g_iload 10 (hd := dX7_lets_138) (C := hX) rfl ?_
                  refine g_isub hX dX7_lets_140 ?_
                  refine g_top (y := (nI (1 - (((rvA c wd (some js) none wi i) (c ((6 + (3 * (i - (c 0)))) + 1))) &&& ((rvA c wd (some js) none wi i) (c ((6 + (3 * (i - (c 0)))) + 2))))))) (pk_sub (by omega)) ?_
                  refine g_istore [(0, .ref o), (1, .int (nI wd)), (2, .int (nI js)), (3, .int tr), (4, .int (nI i)), (5, .int (nI (1 - (((rvA c wd (some js) none wi i) (c ((6 + (3 * (i - (c 0)))) + 1))) &&& ((rvA c wd (some js) none wi i) (c ((6 + (3 * (i - (c 0)))) + 2))))))), (6, .int (nI (6 + (3 * (i - (c 0)))))), (7, .int (nI ((rvA c wd (some js) none wi i) (c ((6 + (3 * (i - (c 0)))) + 1))))), (8, .int (nI ((rvA c wd (some js) none wi i) (c ((6 + (3 * (i - (c 0)))) + 2))))), (9, .int (nI (c (6 + (3 * (i - (c 0))))))), (10, .int (nI (((rvA c wd (some js) none wi i) (c ((6 + (3 * (i - (c 0)))) + 1))) &&& ((rvA c wd (some js) none wi i) (c ((6 + (3 * (i - (c 0)))) + 2))))))] [1, 2, 3, 4, 5, 0, 6, 7, 8, 9, 10] (hd := dX7_lets_141) (C := hX) (by decide) rfl ?_
                  refine g_aload_n 0 (hd := dX7_lets_143) (C := hX) rfl rfl ?_
                  refine g_get (hd := dX7_lets_144) (C := hX) 0 8 rfl rfl in_X7_lets_7 (by decide) (by decide +kernel) rfl ?_
                  refine g_iload 4 (hd := dX7_lets_147) (C := hX) rfl ?_
                  refine g_iload 4 (hd := dX7_lets_149) (C := hX) rfl ?_
                  refine g_iload 5 (hd := dX7_lets_151) (C := hX) rfl ?_
                  refine g_iload_n 2 (hd := dX7_lets_153) (C := hX) rfl rfl ?_
                  refine g_iload_n 3 (hd := dX7_lets_154) (C := hX) rfl rfl ?_
                  refine g_callS (rest := [.int (nI i), .ref oi]) hX (c_X7_stuckAs l D cC cI cJ cO i (1 - (((rvA c wd (some js) none wi i) (c ((6 + (3 * (i - (c 0)))) + 1))) &&& ((rvA c wd (some js) none wi i) (c ((6 + (3 * (i - (c 0)))) + 2))))) (nI js) tr (some js) none (by first | exact so_n hs0 | exact so_s hjs) (by first | exact so_n ht0 | exact so_s hjt) (by omega)) ok_X7_stuckAs (fun _ => rfl) (hd := dX7_lets_155) gX7_lets_X7_stuckAs ⟨by decide, by decide⟩ rfl (Nat.le_of_ble_eq_true rfl) ⟨Nat.zero_le _, Nat.zero_le _⟩ [] (by decide) rfl rfl ?_
                  intro r_155 e_155
                  subst e_155
                  show GW X [(o, .inr (7, [.int (nI len), .ref ot, .ref on, .ref od, .ref ow, .int (nI ch), .int (nI va), .int (nI en), .ref oi, .ref oe, .ref op, .long aE, .long aP, .long lt])), (ot, .inl (cI, 200, .inl (fun j_ => nI (T j_)))), (on, .inl (cI, 78, .inl (fun j_ => nI (c j_)))), (od, .inl (cI, 78, .inl (fun j_ => nI (rd j_)))), (ow, .inl (cI, 468, .inl (fun j_ => nI (ww j_)))), (oi, .inl (cI, 32, .inl (fun j_ => nI ((rvA c wd (some js) none wi i) j_)))), (oe, .inl (cJ, 256, .inr (.inl EX))), (op, .inl (cJ, 256, .inr (.inl PA)))] [(0, .ref o), (1, .int (nI wd)), (2, .int (nI js)), (3, .int tr), (4, .int (nI i)), (5, .int (nI (1 - (((rvA c wd (some js) none wi i) (c ((6 + (3 * (i - (c 0)))) + 1))) &&& ((rvA c wd (some js) none wi i) (c ((6 + (3 * (i - (c 0)))) + 2))))))), (6, .int (nI (6 + (3 * (i - (c 0)))))), (7, .int (nI ((rvA c wd (some js) none wi i) (c ((6 + (3 * (i - (c 0)))) + 1))))), (8, .int (nI ((rvA c wd (some js) none wi i) (c ((6 + (3 * (i - (c 0)))) + 2))))), (9, .int (nI (c (6 + (3 * (i - (c 0))))))), (10, .int (nI (((rvA c wd (some js) none wi i) (c ((6 + (3 * (i - (c 0)))) + 1))) &&& ((rvA c wd (some js) none wi i) (c ((6 + (3 * (i - (c 0)))) + 2))))))] [.int (nI (saS i (1 - (((rvA c wd (some js) none wi i) (c ((6 + (3 * (i - (c 0)))) + 1))) &&& ((rvA c wd (some js) none wi i) (c ((6 + (3 * (i - (c 0)))) + 2))))) (some js) none)), .int (nI i), .ref oi] 158 0 0
                  refine g_iast (hd := dX7_lets_158) (C := hX) 5 1 [(o, .inr (7, [.int (nI len), .ref ot, .ref on, .ref od, .ref ow, .int (nI ch), .int (nI va), .int (nI en), .ref oi, .ref oe, .ref op, .long aE, .long aP, .long lt])), (ot, .inl (cI, 200, .inl (fun j_ => nI (T j_)))), (on, .inl (cI, 78, .inl (fun j_ => nI (c j_)))), (od, .inl (cI, 78, .inl (fun j_ => nI (rd j_)))), (ow, .inl (cI, 468, .inl (fun j_ => nI (ww j_)))), (oi, .inl (cI, 32, .inl (fun j_ => nI ((nup (rvA c wd (some js) none wi i) i (saS i (1 - (((rvA c wd (some js) none wi i) (c ((6 + (3 * (i - (c 0)))) + 1))) &&& ((rvA c wd (some js) none wi i) (c ((6 + (3 * (i - (c 0)))) + 2))))) (some js) none)) j_)))), (oe, .inl (cJ, 256, .inr (.inl EX))), (op, .inl (cJ, 256, .inr (.inl PA)))] rfl rfl (by omega) (by decide) (by rw [nup_I]; rfl) ?_
                  refine g_iinc (v := (nI (i + 1))) 4 [(0, .ref o), (1, .int (nI wd)), (2, .int (nI js)), (3, .int tr), (4, .int (nI (i + 1))), (5, .int (nI (1 - (((rvA c wd (some js) none wi i) (c ((6 + (3 * (i - (c 0)))) + 1))) &&& ((rvA c wd (some js) none wi i) (c ((6 + (3 * (i - (c 0)))) + 2))))))), (6, .int (nI (6 + (3 * (i - (c 0)))))), (7, .int (nI ((rvA c wd (some js) none wi i) (c ((6 + (3 * (i - (c 0)))) + 1))))), (8, .int (nI ((rvA c wd (some js) none wi i) (c ((6 + (3 * (i - (c 0)))) + 2))))), (9, .int (nI (c (6 + (3 * (i - (c 0))))))), (10, .int (nI (((rvA c wd (some js) none wi i) (c ((6 + (3 * (i - (c 0)))) + 1))) &&& ((rvA c wd (some js) none wi i) (c ((6 + (3 * (i - (c 0)))) + 2))))))] [1, 2, 3, 4, 0, 5, 6, 7, 8, 9, 10] (hd := dX7_lets_159) (C := hX) rfl (nI_1 _) (by decide) rfl ?_
                  refine g_goto 3 (hd := dX7_lets_162) (C := hX) (by decide) ?_
                  refine g_w [(o, .inr (7, [.int (nI len), .ref ot, .ref on, .ref od, .ref ow, .int (nI ch), .int (nI va), .int (nI en), .ref oi, .ref oe, .ref op, .long aE, .long aP, .long lt])), (ot, .inl (cI, 200, .inl (fun j_ => nI (T j_)))), (on, .inl (cI, 78, .inl (fun j_ => nI (c j_)))), (od, .inl (cI, 78, .inl (fun j_ => nI (rd j_)))), (ow, .inl (cI, 468, .inl (fun j_ => nI (ww j_)))), (oi, .inl (cI, 32, .inl (fun j_ => nI ((rvA c wd (some js) none wi (i + 1)) j_)))), (oe, .inl (cJ, 256, .inr (.inl EX))), (op, .inl (cJ, 256, .inr (.inl PA)))] (by simp only [rvA, rvX]; rw [if_neg (Nat.not_lt.mpr c_28)]; unfold gvN; rw [if_neg (Nat.not_lt.mpr c_129), if_pos c_92]) ?_
                  refine g_lv [(0, .ref o), (1, .int (nI wd)), (2, .int (nI js)), (3, .int tr), (4, .int (nI (i + 1)))] [0, 1, 2, 3, 4] rfl ?_
                  exact ih_3 (i + 1) (by omega) (by omega)
                · refine g_iload 10 (hd := dX7_lets_132) (C := hX) rfl ?_
                  refine g_goto 141 (hd := dX7_lets_134) (C := hX) (by decide) ?_
                  refine g_istore [(0, .ref o), (1, .int (nI wd)), (2, .int (nI js)), (3, .int tr), (4, .int (nI i)), (5, .int (nI (((rvA c wd (some js) none wi i) (c ((6 + (3 * (i - (c 0)))) + 1))) &&& ((rvA c wd (some js) none wi i) (c ((6 + (3 * (i - (c 0)))) + 2)))))), (6, .int (nI (6 + (3 * (i - (c 0)))))), (7, .int (nI ((rvA c wd (some js) none wi i) (c ((6 + (3 * (i - (c 0)))) + 1))))), (8, .int (nI ((rvA c wd (some js) none wi i) (c ((6 + (3 * (i - (c 0)))) + 2))))), (9, .int (nI (c (6 + (3 * (i - (c 0))))))), (10, .int (nI (((rvA c wd (some js) none wi i) (c ((6 + (3 * (i - (c 0)))) + 1))) &&& ((rvA c wd (some js) none wi i) (c ((6 + (3 * (i - (c 0)))) + 2))))))] [1, 2, 3, 4, 5, 0, 6, 7, 8, 9, 10] (hd := dX7_lets_141) (C := hX) (by decide) rfl ?_
                  refine g_aload_n 0 (hd := dX7_lets_143) (C := hX) rfl rfl ?_
                  refine g_get (hd := dX7_lets_144) (C := hX) 0 8 rfl rfl in_X7_lets_7 (by decide) (by decide +kernel) rfl ?_
                  refine g_iload 4 (hd := dX7_lets_147) (C := hX) rfl ?_
                  refine g_iload 4 (hd := dX7_lets_149) (C := hX) rfl ?_
                  refine g_iload 5 (hd := dX7_lets_151) (C := hX) rfl ?_
                  refine g_iload_n 2 (hd := dX7_lets_153) (C := hX) rfl rfl ?_
                  refine g_iload_n 3 (hd := dX7_lets_154) (C := hX) rfl rfl ?_
                  refine g_callS (rest := [.int (nI i), .ref oi]) hX (c_X7_stuckAs l D cC cI cJ cO i (((rvA c wd (some js) none wi i) (c ((6 + (3 * (i - (c 0)))) + 1))) &&& ((rvA c wd (some js) none wi i) (c ((6 + (3 * (i - (c 0)))) + 2)))) (nI js) tr (some js) none (by first | exact so_n hs0 | exact so_s hjs) (by first | exact so_n ht0 | exact so_s hjt) (by omega)) ok_X7_stuckAs (fun _ => rfl) (hd := dX7_lets_155) gX7_lets_X7_stuckAs ⟨by decide, by decide⟩ rfl (Nat.le_of_ble_eq_true rfl) ⟨Nat.zero_le _, Nat.zero_le _⟩ [] (by decide) rfl rfl ?_
                  intro r_155 e_155
                  subst e_155
                  show GW X [(o, .inr (7, [.int (nI len), .ref ot, .ref on, .ref od, .ref ow, .int (nI ch), .int (nI va), .int (nI en), .ref oi, .ref oe, .ref op, .long aE, .long aP, .long lt])), (ot, .inl (cI, 200, .inl (fun j_ => nI (T j_)))), (on, .inl (cI, 78, .inl (fun j_ => nI (c j_)))), (od, .inl (cI, 78, .inl (fun j_ => nI (rd j_)))), (ow, .inl (cI, 468, .inl (fun j_ => nI (ww j_)))), (oi, .inl (cI, 32, .inl (fun j_ => nI ((rvA c wd (some js) none wi i) j_)))), (oe, .inl (cJ, 256, .inr (.inl EX))), (op, .inl (cJ, 256, .inr (.inl PA)))] [(0, .ref o), (1, .int (nI wd)), (2, .int (nI js)), (3, .int tr), (4, .int (nI i)), (5, .int (nI (((rvA c wd (some js) none wi i) (c ((6 + (3 * (i - (c 0)))) + 1))) &&& ((rvA c wd (some js) none wi i) (c ((6 + (3 * (i - (c 0)))) + 2)))))), (6, .int (nI (6 + (3 * (i - (c 0)))))), (7, .int (nI ((rvA c wd (some js) none wi i) (c ((6 + (3 * (i - (c 0)))) + 1))))), (8, .int (nI ((rvA c wd (some js) none wi i) (c ((6 + (3 * (i - (c 0)))) + 2))))), (9, .int (nI (c (6 + (3 * (i - (c 0))))))), (10, .int (nI (((rvA c wd (some js) none wi i) (c ((6 + (3 * (i - (c 0)))) + 1))) &&& ((rvA c wd (some js) none wi i) (c ((6 + (3 * (i - (c 0)))) + 2))))))] [.int (nI (saS i (((rvA c wd (some js) none wi i) (c ((6 + (3 * (i - (c 0)))) + 1))) &&& ((rvA c wd (some js) none wi i) (c ((6 + (3 * (i - (c 0)))) + 2)))) (some js) none)), .int (nI i), .ref oi] 158 0 0
                  refine g_iast (hd := dX7_lets_158) (C := hX) 5 1 [(o, .inr (7, [.int (nI len), .ref ot, .ref on, .ref od, .ref ow, .int (nI ch), .int (nI va), .int (nI en), .ref oi, .ref oe, .ref op, .long aE, .long aP, .long lt])), (ot, .inl (cI, 200, .inl (fun j_ => nI (T j_)))), (on, .inl (cI, 78, .inl (fun j_ => nI (c j_)))), (od, .inl (cI, 78, .inl (fun j_ => nI (rd j_)))), (ow, .inl (cI, 468, .inl (fun j_ => nI (ww j_)))), (oi, .inl (cI, 32, .inl (fun j_ => nI ((nup (rvA c wd (some js) none wi i) i (saS i (((rvA c wd (some js) none wi i) (c ((6 + (3 * (i - (c 0)))) + 1))) &&& ((rvA c wd (some js) none wi i) (c ((6 + (3 * (i - (c 0)))) + 2)))) (some js) none)) j_)))), (oe, .inl (cJ, 256, .inr (.inl EX))), (op, .inl (cJ, 256, .inr (.inl PA)))] rfl rfl (by omega) (by decide) (by rw [nup_I]; rfl) ?_
                  refine g_iinc (v := (nI (i + 1))) 4 [(0, .ref o), (1, .int (nI wd)), (2, .int (nI js)), (3, .int tr), (4, .int (nI (i + 1))), (5, .int (nI (((rvA c wd (some js) none wi i) (c ((6 + (3 * (i - (c 0)))) + 1))) &&& ((rvA c wd (some js) none wi i) (c ((6 + (3 * (i - (c 0)))) + 2)))))), (6, .int (nI (6 + (3 * (i - (c 0)))))), (7, .int (nI ((rvA c wd (some js) none wi i) (c ((6 + (3 * (i - (c 0)))) + 1))))), (8, .int (nI ((rvA c wd (some js) none wi i) (c ((6 + (3 * (i - (c 0)))) + 2))))), (9, .int (nI (c (6 + (3 * (i - (c 0))))))), (10, .int (nI (((rvA c wd (some js) none wi i) (c ((6 + (3 * (i - (c 0)))) + 1))) &&& ((rvA c wd (some js) none wi i) (c ((6 + (3 * (i - (c 0)))) + 2))))))] [1, 2, 3, 4, 0, 5, 6, 7, 8, 9, 10] (hd := dX7_lets_159) (C := hX) rfl (nI_1 _) (by decide) rfl ?_
                  refine g_goto 3 (hd := dX7_lets_162) (C := hX) (by decide) ?_
                  refine g_w [(o, .inr (7, [.int (nI len), .ref ot, .ref on, .ref od, .ref ow, .int (nI ch), .int (nI va), .int (nI en), .ref oi, .ref oe, .ref op, .long aE, .long aP, .long lt])), (ot, .inl (cI, 200, .inl (fun j_ => nI (T j_)))), (on, .inl (cI, 78, .inl (fun j_ => nI (c j_)))), (od, .inl (cI, 78, .inl (fun j_ => nI (rd j_)))), (ow, .inl (cI, 468, .inl (fun j_ => nI (ww j_)))), (oi, .inl (cI, 32, .inl (fun j_ => nI ((rvA c wd (some js) none wi (i + 1)) j_)))), (oe, .inl (cJ, 256, .inr (.inl EX))), (op, .inl (cJ, 256, .inr (.inl PA)))] (by simp only [rvA, rvX]; rw [if_neg (Nat.not_lt.mpr c_28)]; unfold gvN; rw [if_pos c_129, if_pos c_92]) ?_
                  refine g_lv [(0, .ref o), (1, .int (nI wd)), (2, .int (nI js)), (3, .int tr), (4, .int (nI (i + 1)))] [0, 1, 2, 3, 4] rfl ?_
                  exact ih_3 (i + 1) (by omega) (by omega)
      refine g_w [(o, .inr (7, [.int (nI len), .ref ot, .ref on, .ref od, .ref ow, .int (nI ch), .int (nI va), .int (nI en), .ref oi, .ref oe, .ref op, .long aE, .long aP, .long lt])), (ot, .inl (cI, 200, .inl (fun j_ => nI (T j_)))), (on, .inl (cI, 78, .inl (fun j_ => nI (c j_)))), (od, .inl (cI, 78, .inl (fun j_ => nI (rd j_)))), (ow, .inl (cI, 468, .inl (fun j_ => nI (ww j_)))), (oi, .inl (cI, 32, .inl (fun j_ => nI ((rvA c wd (some js) none wi 0) j_)))), (oe, .inl (cJ, 256, .inr (.inl EX))), (op, .inl (cJ, 256, .inr (.inl PA)))] rfl ?_
      exact L_3 _ 0 (Nat.lt_succ_self _) (Nat.zero_le _)
    · refine g_iconst (v := nI 0) hX dX7_lets_0 (by decide) ?_
      refine g_istore [(0, .ref o), (1, .int (nI wd)), (2, .int (nI js)), (3, .int (nI jt)), (4, .int (nI 0))] [1, 2, 3, 4, 0] (hd := dX7_lets_1) (C := hX) (by decide) rfl ?_
      have L_3 : ∀ (n_3 : Nat) (i : Nat), c 0 + c 1 - i < n_3 → (i ≤ c 0 + c 1) → GW X [(o, .inr (7, [.int (nI len), .ref ot, .ref on, .ref od, .ref ow, .int (nI ch), .int (nI va), .int (nI en), .ref oi, .ref oe, .ref op, .long aE, .long aP, .long lt])), (ot, .inl (cI, 200, .inl (fun j_ => nI (T j_)))), (on, .inl (cI, 78, .inl (fun j_ => nI (c j_)))), (od, .inl (cI, 78, .inl (fun j_ => nI (rd j_)))), (ow, .inl (cI, 468, .inl (fun j_ => nI (ww j_)))), (oi, .inl (cI, 32, .inl (fun j_ => nI ((rvA c wd (some js) (some jt) wi i) j_)))), (oe, .inl (cJ, 256, .inr (.inl EX))), (op, .inl (cJ, 256, .inr (.inl PA)))] [(0, .ref o), (1, .int (nI wd)), (2, .int (nI js)), (3, .int (nI jt)), (4, .int (nI i))] [] 3 0 0 := by
        intro n_3
        induction n_3 with
        | zero => intro i hm_3; exact absurd hm_3 (Nat.not_lt_zero _)
        | succ n_3 ih_3 =>
          intro i hm_3 hiL
          refine g_iload 4 (hd := dX7_lets_3) (C := hX) rfl ?_
          refine g_aload_n 0 (hd := dX7_lets_5) (C := hX) rfl rfl ?_
          refine g_callVs (rest := [.int (nI i)]) hX (c_X7_wires l D cC cI cJ cO o ot on od ow oi oe op len ch va en aE aP lt T c rd ww (rvA c wd (some js) (some jt) wi i) EX PA) ok_X7_wires rfl 0 rfl rfl (hd := dX7_lets_6) gX7_lets_X7_wires ⟨by decide, by decide⟩ rfl (Nat.le_of_ble_eq_true rfl) ⟨Nat.zero_le _, Nat.zero_le _⟩ [0, 1, 2, 3, 4, 5, 6, 7] (by decide) rfl rfl ?_
          intro r_6 e_6
          subst e_6
          show GW X [(o, .inr (7, [.int (nI len), .ref ot, .ref on, .ref od, .ref ow, .int (nI ch), .int (nI va), .int (nI en), .ref oi, .ref oe, .ref op, .long aE, .long aP, .long lt])), (ot, .inl (cI, 200, .inl (fun j_ => nI (T j_)))), (on, .inl (cI, 78, .inl (fun j_ => nI (c j_)))), (od, .inl (cI, 78, .inl (fun j_ => nI (rd j_)))), (ow, .inl (cI, 468, .inl (fun j_ => nI (ww j_)))), (oi, .inl (cI, 32, .inl (fun j_ => nI ((rvA c wd (some js) (some jt) wi i) j_)))), (oe, .inl (cJ, 256, .inr (.inl EX))), (op, .inl (cJ, 256, .inr (.inl PA)))] [(0, .ref o), (1, .int (nI wd)), (2, .int (nI js)), (3, .int (nI jt)), (4, .int (nI i))] [.int (nI (c 0 + c 1)), .int (nI i)] 9 0 0
          refine g_icmp_geN 165 (hd := dX7_lets_9) (C := hX) (by decide) (by omega) (by omega) (fun c_9 => ?_) (fun c_9 => ?_)
          · refine g_iconst (v := nI 2) hX dX7_lets_165 (by decide) ?_
            refine g_aload_n 0 (hd := dX7_lets_166) (C := hX) rfl rfl ?_
            refine g_get (hd := dX7_lets_167) (C := hX) 0 8 rfl rfl in_X7_lets_7 (by decide) (by decide +kernel) rfl ?_
            refine g_aload_n 0 (hd := dX7_lets_170) (C := hX) rfl rfl ?_
            refine g_get (hd := dX7_lets_171) (C := hX) 0 2 rfl rfl in_X7_lets_7 (by decide) (by decide +kernel) rfl ?_
            refine g_iconst (v := nI 2) hX dX7_lets_174 (by decide) ?_
            refine g_iald (hd := dX7_lets_175) (C := hX) 2 1 rfl rfl (by omega) (by decide) ?_
            refine g_iald (hd := dX7_lets_176) (C := hX) 5 1 rfl rfl (by omega) (by decide) ?_
            refine g_imul hX dX7_lets_177 ?_
            refine g_top (y := (nI (2 * ((rvA c wd (some js) (some jt) wi i) (c 2))))) (pk_mul _ _) ?_
            refine g_aload_n 0 (hd := dX7_lets_178) (C := hX) rfl rfl ?_
            refine g_get (hd := dX7_lets_179) (C := hX) 0 8 rfl rfl in_X7_lets_7 (by decide) (by decide +kernel) rfl ?_
            refine g_aload_n 0 (hd := dX7_lets_182) (C := hX) rfl rfl ?_
            refine g_get (hd := dX7_lets_183) (C := hX) 0 2 rfl rfl in_X7_lets_7 (by decide) (by decide +kernel) rfl ?_
            refine g_iconst (v := nI 3) hX dX7_lets_186 (by decide) ?_
            refine g_iald (hd := dX7_lets_187) (C := hX) 2 1 rfl rfl (by omega) (by decide) ?_
            refine g_iald (hd := dX7_lets_188) (C := hX) 5 1 rfl rfl (by omega) (by decide) ?_
            refine g_iadd hX dX7_lets_189 ?_
            refine g_top (y := (nI ((2 * ((rvA c wd (some js) (some jt) wi i) (c 2))) + ((rvA c wd (some js) (some jt) wi i) (c 3))))) (nI_add _ _) ?_
            refine g_w [(o, .inr (7, [.int (nI len), .ref ot, .ref on, .ref od, .ref ow, .int (nI ch), .int (nI va), .int (nI en), .ref oi, .ref oe, .ref op, .long aE, .long aP, .long lt])), (ot, .inl (cI, 200, .inl (fun j_ => nI (T j_)))), (on, .inl (cI, 78, .inl (fun j_ => nI (c j_)))), (od, .inl (cI, 78, .inl (fun j_ => nI (rd j_)))), (ow, .inl (cI, 468, .inl (fun j_ => nI (ww j_)))), (oi, .inl (cI, 32, .inl (fun j_ => nI ((rvA c wd (some js) (some jt) wi (c 0 + c 1)) j_)))), (oe, .inl (cJ, 256, .inr (.inl EX))), (op, .inl (cJ, 256, .inr (.inl PA)))] (by rw [show i = c 0 + c 1 from by omega]) ?_
            exact (hret (nI ((2 * ((rvA c wd (some js) (some jt) wi i) (c 2))) + ((rvA c wd (some js) (some jt) wi i) (c 3)))) _ _ (by rw [show i = c 0 + c 1 from by omega])).2.1 _ rfl rfl dX7_lets_190
          · refine g_iload_n 1 (hd := dX7_lets_12) (C := hX) rfl rfl ?_
            refine g_iload 4 (hd := dX7_lets_13) (C := hX) rfl ?_
            refine g_ishr hX dX7_lets_15 ?_
            refine g_top (y := (nI (wd / 2 ^ i))) (gl_shr (by omega) (by omega)) ?_
            refine g_iconst (v := nI 1) hX dX7_lets_16 (by decide) ?_
            refine g_iand hX dX7_lets_17 ?_
            refine g_top (y := (nI (wd / 2 ^ i % 2))) (by rw [nx_and, Nat.and_one_is_mod]) ?_
            refine g_istore [(0, .ref o), (1, .int (nI wd)), (2, .int (nI js)), (3, .int (nI jt)), (4, .int (nI i)), (5, .int (nI (wd / 2 ^ i % 2)))] [1, 2, 3, 4, 5, 0] (hd := dX7_lets_18) (C := hX) (by decide) rfl ?_
            refine g_iload 4 (hd := dX7_lets_20) (C := hX) rfl ?_
            refine g_aload_n 0 (hd := dX7_lets_22) (C := hX) rfl rfl ?_
            refine g_get (hd := dX7_lets_23) (C := hX) 0 2 rfl rfl in_X7_lets_7 (by decide) (by decide +kernel) rfl ?_
            refine g_iconst (v := nI 0) hX dX7_lets_26 (by decide) ?_
            refine g_iald (hd := dX7_lets_27) (C := hX) 2 1 rfl rfl (by omega) (by decide) ?_
            refine g_icmp_ltN 143 (hd := dX7_lets_28) (C := hX) (by decide) (by omega) (by omega) (fun c_28 => ?_) (fun c_28 => ?_)
            · refine g_aload_n 0 (hd := dX7_lets_143) (C := hX) rfl rfl ?_
              refine g_get (hd := dX7_lets_144) (C := hX) 0 8 rfl rfl in_X7_lets_7 (by decide) (by decide +kernel) rfl ?_
              refine g_iload 4 (hd := dX7_lets_147) (C := hX) rfl ?_
              refine g_iload 4 (hd := dX7_lets_149) (C := hX) rfl ?_
              refine g_iload 5 (hd := dX7_lets_151) (C := hX) rfl ?_
              refine g_iload_n 2 (hd := dX7_lets_153) (C := hX) rfl rfl ?_
              refine g_iload_n 3 (hd := dX7_lets_154) (C := hX) rfl rfl ?_
              refine g_callS (rest := [.int (nI i), .ref oi]) hX (c_X7_stuckAs l D cC cI cJ cO i (wd / 2 ^ i % 2) (nI js) (nI jt) (some js) (some jt) (by first | exact so_n hs0 | exact so_s hjs) (by first | exact so_n ht0 | exact so_s hjt) (by omega)) ok_X7_stuckAs (fun _ => rfl) (hd := dX7_lets_155) gX7_lets_X7_stuckAs ⟨by decide, by decide⟩ rfl (Nat.le_of_ble_eq_true rfl) ⟨Nat.zero_le _, Nat.zero_le _⟩ [] (by decide) rfl rfl ?_
              intro r_155 e_155
              subst e_155
              show GW X [(o, .inr (7, [.int (nI len), .ref ot, .ref on, .ref od, .ref ow, .int (nI ch), .int (nI va), .int (nI en), .ref oi, .ref oe, .ref op, .long aE, .long aP, .long lt])), (ot, .inl (cI, 200, .inl (fun j_ => nI (T j_)))), (on, .inl (cI, 78, .inl (fun j_ => nI (c j_)))), (od, .inl (cI, 78, .inl (fun j_ => nI (rd j_)))), (ow, .inl (cI, 468, .inl (fun j_ => nI (ww j_)))), (oi, .inl (cI, 32, .inl (fun j_ => nI ((rvA c wd (some js) (some jt) wi i) j_)))), (oe, .inl (cJ, 256, .inr (.inl EX))), (op, .inl (cJ, 256, .inr (.inl PA)))] [(0, .ref o), (1, .int (nI wd)), (2, .int (nI js)), (3, .int (nI jt)), (4, .int (nI i)), (5, .int (nI (wd / 2 ^ i % 2)))] [.int (nI (saS i (wd / 2 ^ i % 2) (some js) (some jt))), .int (nI i), .ref oi] 158 0 0
              refine g_iast (hd := dX7_lets_158) (C := hX) 5 1 [(o, .inr (7, [.int (nI len), .ref ot, .ref on, .ref od, .ref ow, .int (nI ch), .int (nI va), .int (nI en), .ref oi, .ref oe, .ref op, .long aE, .long aP, .long lt])), (ot, .inl (cI, 200, .inl (fun j_ => nI (T j_)))), (on, .inl (cI, 78, .inl (fun j_ => nI (c j_)))), (od, .inl (cI, 78, .inl (fun j_ => nI (rd j_)))), (ow, .inl (cI, 468, .inl (fun j_ => nI (ww j_)))), (oi, .inl (cI, 32, .inl (fun j_ => nI ((nup (rvA c wd (some js) (some jt) wi i) i (saS i (wd / 2 ^ i % 2) (some js) (some jt))) j_)))), (oe, .inl (cJ, 256, .inr (.inl EX))), (op, .inl (cJ, 256, .inr (.inl PA)))] rfl rfl (by omega) (by decide) (by rw [nup_I]; rfl) ?_
              refine g_iinc (v := (nI (i + 1))) 4 [(0, .ref o), (1, .int (nI wd)), (2, .int (nI js)), (3, .int (nI jt)), (4, .int (nI (i + 1))), (5, .int (nI (wd / 2 ^ i % 2)))] [1, 2, 3, 4, 0, 5] (hd := dX7_lets_159) (C := hX) rfl (nI_1 _) (by decide) rfl ?_
              refine g_goto 3 (hd := dX7_lets_162) (C := hX) (by decide) ?_
              refine g_w [(o, .inr (7, [.int (nI len), .ref ot, .ref on, .ref od, .ref ow, .int (nI ch), .int (nI va), .int (nI en), .ref oi, .ref oe, .ref op, .long aE, .long aP, .long lt])), (ot, .inl (cI, 200, .inl (fun j_ => nI (T j_)))), (on, .inl (cI, 78, .inl (fun j_ => nI (c j_)))), (od, .inl (cI, 78, .inl (fun j_ => nI (rd j_)))), (ow, .inl (cI, 468, .inl (fun j_ => nI (ww j_)))), (oi, .inl (cI, 32, .inl (fun j_ => nI ((rvA c wd (some js) (some jt) wi (i + 1)) j_)))), (oe, .inl (cJ, 256, .inr (.inl EX))), (op, .inl (cJ, 256, .inr (.inl PA)))] (by simp only [rvA, rvX]; rw [if_pos c_28]) ?_
              refine g_lv [(0, .ref o), (1, .int (nI wd)), (2, .int (nI js)), (3, .int (nI jt)), (4, .int (nI (i + 1)))] [0, 1, 2, 3, 4] rfl ?_
              exact ih_3 (i + 1) (by omega) (by omega)
            · have hq := hok.2.2.2.2.2.2 (i - c 0) (by omega)
              have hq1 : c (6 + 3 * (i - c 0) + 1) < i := by rw [show 6 + 3 * (i - c 0) + 1 = 7 + 3 * (i - c 0) from by omega]; omega
              have hq2 : c (6 + 3 * (i - c 0) + 2) < i := by rw [show 6 + 3 * (i - c 0) + 2 = 8 + 3 * (i - c 0) from by omega]; omega
              refine g_bipush (v := nI 6) hX dX7_lets_31 (by decide) ?_
              refine g_iconst (v := nI 3) hX dX7_lets_33 (by decide) ?_
              refine g_iload 4 (hd := dX7_lets_34) (C := hX) rfl ?_
              refine g_aload_n 0 (hd := dX7_lets_36) (C := hX) rfl rfl ?_
              refine g_get (hd := dX7_lets_37) (C := hX) 0 2 rfl rfl in_X7_lets_7 (by decide) (by decide +kernel) rfl ?_
              refine g_iconst (v := nI 0) hX dX7_lets_40 (by decide) ?_
              refine g_iald (hd := dX7_lets_41) (C := hX) 2 1 rfl rfl (by omega) (by decide) ?_
              refine g_isub hX dX7_lets_42 ?_
              refine g_top (y := (nI (i - (c 0)))) (pk_sub (by omega)) ?_
              refine g_imul hX dX7_lets_43 ?_
              refine g_top (y := (nI (3 * (i - (c 0))))) (pk_mul _ _) ?_
              refine g_iadd hX dX7_lets_44 ?_
              refine g_top (y := (nI (6 + (3 * (i - (c 0)))))) (nI_add _ _) ?_
              refine g_istore [(0, .ref o), (1, .int (nI wd)), (2, .int (nI js)), (3, .int (nI jt)), (4, .int (nI i)), (5, .int (nI (wd / 2 ^ i % 2))), (6, .int (nI (6 + (3 * (i - (c 0))))))] [1, 2, 3, 4, 5, 6, 0] (hd := dX7_lets_45) (C := hX) (by decide) rfl ?_
              refine g_aload_n 0 (hd := dX7_lets_47) (C := hX) rfl rfl ?_
              refine g_get (hd := dX7_lets_48) (C := hX) 0 8 rfl rfl in_X7_lets_7 (by decide) (by decide +kernel) rfl ?_
              refine g_aload_n 0 (hd := dX7_lets_51) (C := hX) rfl rfl ?_
              refine g_get (hd := dX7_lets_52) (C := hX) 0 2 rfl rfl in_X7_lets_7 (by decide) (by decide +kernel) rfl ?_
              refine g_iload 6 (hd := dX7_lets_55) (C := hX) rfl ?_
              refine g_iconst (v := nI 1) hX dX7_lets_57 (by decide) ?_
              refine g_iadd hX dX7_lets_58 ?_
              refine g_top (y := (nI ((6 + (3 * (i - (c 0)))) + 1))) (nI_add _ _) ?_
              refine g_iald (hd := dX7_lets_59) (C := hX) 2 1 rfl rfl (by omega) (by decide) ?_
              refine g_iald (hd := dX7_lets_60) (C := hX) 5 1 rfl rfl (by omega) (by decide) ?_
              refine g_istore [(0, .ref o), (1, .int (nI wd)), (2, .int (nI js)), (3, .int (nI jt)), (4, .int (nI i)), (5, .int (nI (wd / 2 ^ i % 2))), (6, .int (nI (6 + (3 * (i - (c 0)))))), (7, .int (nI ((rvA c wd (some js) (some jt) wi i) (c ((6 + (3 * (i - (c 0)))) + 1)))))] [1, 2, 3, 4, 5, 6, 7, 0] (hd := dX7_lets_61) (C := hX) (by decide) rfl ?_
              refine g_aload_n 0 (hd := dX7_lets_63) (C := hX) rfl rfl ?_
              refine g_get (hd := dX7_lets_64) (C := hX) 0 8 rfl rfl in_X7_lets_7 (by decide) (by decide +kernel) rfl ?_
              refine g_aload_n 0 (hd := dX7_lets_67) (C := hX) rfl rfl ?_
              refine g_get (hd := dX7_lets_68) (C := hX) 0 2 rfl rfl in_X7_lets_7 (by decide) (by decide +kernel) rfl ?_
              refine g_iload 6 (hd := dX7_lets_71) (C := hX) rfl ?_
              refine g_iconst (v := nI 2) hX dX7_lets_73 (by decide) ?_
              refine g_iadd hX dX7_lets_74 ?_
              refine g_top (y := (nI ((6 + (3 * (i - (c 0)))) + 2))) (nI_add _ _) ?_
              refine g_iald (hd := dX7_lets_75) (C := hX) 2 1 rfl rfl (by omega) (by decide) ?_
              refine g_iald (hd := dX7_lets_76) (C := hX) 5 1 rfl rfl (by omega) (by decide) ?_
              refine g_istore [(0, .ref o), (1, .int (nI wd)), (2, .int (nI js)), (3, .int (nI jt)), (4, .int (nI i)), (5, .int (nI (wd / 2 ^ i % 2))), (6, .int (nI (6 + (3 * (i - (c 0)))))), (7, .int (nI ((rvA c wd (some js) (some jt) wi i) (c ((6 + (3 * (i - (c 0)))) + 1))))), (8, .int (nI ((rvA c wd (some js) (some jt) wi i) (c ((6 + (3 * (i - (c 0)))) + 2)))))] [1, 2, 3, 4, 5, 6, 7, 8, 0] (hd := dX7_lets_77) (C := hX) (by decide) rfl ?_
              refine g_aload_n 0 (hd := dX7_lets_79) (C := hX) rfl rfl ?_
              refine g_get (hd := dX7_lets_80) (C := hX) 0 2 rfl rfl in_X7_lets_7 (by decide) (by decide +kernel) rfl ?_
              refine g_iload 6 (hd := dX7_lets_83) (C := hX) rfl ?_
              refine g_iald (hd := dX7_lets_85) (C := hX) 2 1 rfl rfl (by omega) (by decide) ?_
              refine g_istore [(0, .ref o), (1, .int (nI wd)), (2, .int (nI js)), (3, .int (nI jt)), (4, .int (nI i)), (5, .int (nI (wd / 2 ^ i % 2))), (6, .int (nI (6 + (3 * (i - (c 0)))))), (7, .int (nI ((rvA c wd (some js) (some jt) wi i) (c ((6 + (3 * (i - (c 0)))) + 1))))), (8, .int (nI ((rvA c wd (some js) (some jt) wi i) (c ((6 + (3 * (i - (c 0)))) + 2))))), (9, .int (nI (c (6 + (3 * (i - (c 0)))))))] [1, 2, 3, 4, 5, 6, 7, 8, 9, 0] (hd := dX7_lets_86) (C := hX) (by decide) rfl ?_
              refine g_iload 9 (hd := dX7_lets_88) (C := hX) rfl ?_
              refine g_iconst (v := nI 3) hX dX7_lets_90 (by decide) ?_
              refine g_irem hX dX7_lets_91 (by decide) ?_
              refine g_top (y := (nI (c (6 + (3 * (i - (c 0)))) % 3))) (pk_rem (by omega) (by omega) (by omega)) ?_
              refine g_if_neN 103 (hd := dX7_lets_92) (C := hX) (by decide) (by omega) (fun c_92 => ?_) (fun c_92 => ?_)
              · refine g_iload 9 (hd := dX7_lets_103) (C := hX) rfl ?_
                refine g_iconst (v := nI 3) hX dX7_lets_105 (by decide) ?_
                refine g_irem hX dX7_lets_106 (by decide) ?_
                refine g_top (y := (nI (c (6 + (3 * (i - (c 0)))) % 3))) (pk_rem (by omega) (by omega) (by omega)) ?_
                refine g_iconst (v := nI 1) hX dX7_lets_107 (by decide) ?_
                refine g_icmp_neN 119 (hd := dX7_lets_108) (C := hX) (by decide) (by omega) (by omega) (fun c_108 => ?_) (fun c_108 => ?_)
                · refine g_iload 7 (hd := dX7_lets_119) (C := hX) rfl ?_
                  refine g_iload 8 (hd := dX7_lets_121) (C := hX) rfl ?_
                  refine g_ixor hX dX7_lets_123 ?_
                  refine g_top (y := (nI (((rvA c wd (some js) (some jt) wi i) (c ((6 + (3 * (i - (c 0)))) + 1))) ^^^ ((rvA c wd (some js) (some jt) wi i) (c ((6 + (3 * (i - (c 0)))) + 2)))))) (nx_xor _ _) ?_
                  refine g_istore [(0, .ref o), (1, .int (nI wd)), (2, .int (nI js)), (3, .int (nI jt)), (4, .int (nI i)), (5, .int (nI (wd / 2 ^ i % 2))), (6, .int (nI (6 + (3 * (i - (c 0)))))), (7, .int (nI ((rvA c wd (some js) (some jt) wi i) (c ((6 + (3 * (i - (c 0)))) + 1))))), (8, .int (nI ((rvA c wd (some js) (some jt) wi i) (c ((6 + (3 * (i - (c 0)))) + 2))))), (9, .int (nI (c (6 + (3 * (i - (c 0))))))), (10, .int (nI (((rvA c wd (some js) (some jt) wi i) (c ((6 + (3 * (i - (c 0)))) + 1))) ^^^ ((rvA c wd (some js) (some jt) wi i) (c ((6 + (3 * (i - (c 0)))) + 2))))))] [1, 2, 3, 4, 5, 6, 7, 8, 9, 10, 0] (hd := dX7_lets_124) (C := hX) (by decide) rfl ?_
                  refine g_iload 9 (hd := dX7_lets_126) (C := hX) rfl ?_
                  refine g_iconst (v := nI 3) hX dX7_lets_128 (by decide) ?_
                  refine g_icmp_geN 137 (hd := dX7_lets_129) (C := hX) (by decide) (by omega) (by omega) (fun c_129 => ?_) (fun c_129 => ?_)
                  · have b9 := rv_le hok wd (some js) (some jt) wi i hiL
                    have b8 := bit2 _ (Nat.lt_succ_of_le (b9 _ hq1)) _ (Nat.lt_succ_of_le (b9 _ hq2))
                    refine g_iconst (v := nI 1) hX dX7_lets_137 (by decide) ?_
                    refine g_iload 10 (hd := dX7_lets_138) (C := hX) rfl ?_
                    refine g_isub hX dX7_lets_140 ?_
                    refine g_top (y := (nI (1 - (((rvA c wd (some js) (some jt) wi i) (c ((6 + (3 * (i - (c 0)))) + 1))) ^^^ ((rvA c wd (some js) (some jt) wi i) (c ((6 + (3 * (i - (c 0)))) + 2))))))) (pk_sub (by omega)) ?_
                    refine g_istore [(0, .ref o), (1, .int (nI wd)), (2, .int (nI js)), (3, .int (nI jt)), (4, .int (nI i)), (5, .int (nI (1 - (((rvA c wd (some js) (some jt) wi i) (c ((6 + (3 * (i - (c 0)))) + 1))) ^^^ ((rvA c wd (some js) (some jt) wi i) (c ((6 + (3 * (i - (c 0)))) + 2))))))), (6, .int (nI (6 + (3 * (i - (c 0)))))), (7, .int (nI ((rvA c wd (some js) (some jt) wi i) (c ((6 + (3 * (i - (c 0)))) + 1))))), (8, .int (nI ((rvA c wd (some js) (some jt) wi i) (c ((6 + (3 * (i - (c 0)))) + 2))))), (9, .int (nI (c (6 + (3 * (i - (c 0))))))), (10, .int (nI (((rvA c wd (some js) (some jt) wi i) (c ((6 + (3 * (i - (c 0)))) + 1))) ^^^ ((rvA c wd (some js) (some jt) wi i) (c ((6 + (3 * (i - (c 0)))) + 2))))))] [1, 2, 3, 4, 5, 0, 6, 7, 8, 9, 10] (hd := dX7_lets_141) (C := hX) (by decide) rfl ?_
                    refine g_aload_n 0 (hd := dX7_lets_143) (C := hX) rfl rfl ?_
                    refine g_get (hd := dX7_lets_144) (C := hX) 0 8 rfl rfl in_X7_lets_7 (by decide) (by decide +kernel) rfl ?_
                    refine g_iload 4 (hd := dX7_lets_147) (C := hX) rfl ?_
                    refine g_iload 4 (hd := dX7_lets_149) (C := hX) rfl ?_
                    refine g_iload 5 (hd := dX7_lets_151) (C := hX) rfl ?_
                    refine g_iload_n 2 (hd := dX7_lets_153) (C := hX) rfl rfl ?_
                    refine g_iload_n 3 (hd := dX7_lets_154) (C := hX) rfl rfl ?_
                    refine g_callS (rest := [.int (nI i), .ref oi]) hX (c_X7_stuckAs l D cC cI cJ cO i (1 - (((rvA c wd (some js) (some jt) wi i) (c ((6 + (3 * (i - (c 0)))) + 1))) ^^^ ((rvA c wd (some js) (some jt) wi i) (c ((6 + (3 * (i - (c 0)))) + 2))))) (nI js) (nI jt) (some js) (some jt) (by first | exact so_n hs0 | exact so_s hjs) (by first | exact so_n ht0 | exact so_s hjt) (by omega)) ok_X7_stuckAs (fun _ => rfl) (hd := dX7_lets_155) gX7_lets_X7_stuckAs ⟨by decide, by decide⟩ rfl (Nat.le_of_ble_eq_true rfl) ⟨Nat.zero_le _, Nat.zero_le _⟩ [] (by decide) rfl rfl ?_
                    intro r_155 e_155
                    subst e_155
                    show GW X [(o, .inr (7, [.int (nI len), .ref ot, .ref on, .ref od, .ref ow, .int (nI ch), .int (nI va), .int (nI en), .ref oi, .ref oe, .ref op, .long aE, .long aP, .long lt])), (ot, .inl (cI, 200, .inl (fun j_ => nI (T j_)))), (on, .inl (cI, 78, .inl (fun j_ => nI (c j_)))), (od, .inl (cI, 78, .inl (fun j_ => nI (rd j_)))), (ow, .inl (cI, 468, .inl (fun j_ => nI (ww j_)))), (oi, .inl (cI, 32, .inl (fun j_ => nI ((rvA c wd (some js) (some jt) wi i) j_)))), (oe, .inl (cJ, 256, .inr (.inl EX))), (op, .inl (cJ, 256, .inr (.inl PA)))] [(0, .ref o), (1, .int (nI wd)), (2, .int (nI js)), (3, .int (nI jt)), (4, .int (nI i)), (5, .int (nI (1 - (((rvA c wd (some js) (some jt) wi i) (c ((6 + (3 * (i - (c 0)))) + 1))) ^^^ ((rvA c wd (some js) (some jt) wi i) (c ((6 + (3 * (i - (c 0)))) + 2))))))), (6, .int (nI (6 + (3 * (i - (c 0)))))), (7, .int (nI ((rvA c wd (some js) (some jt) wi i) (c ((6 + (3 * (i - (c 0)))) + 1))))), (8, .int (nI ((rvA c wd (some js) (some jt) wi i) (c ((6 + (3 * (i - (c 0)))) + 2))))), (9, .int (nI (c (6 + (3 * (i - (c 0))))))), (10, .int (nI (((rvA c wd (some js) (some jt) wi i) (c ((6 + (3 * (i - (c 0)))) + 1))) ^^^ ((rvA c wd (some js) (some jt) wi i) (c ((6 + (3 * (i - (c 0)))) + 2))))))] [.int (nI (saS i (1 - (((rvA c wd (some js) (some jt) wi i) (c ((6 + (3 * (i - (c 0)))) + 1))) ^^^ ((rvA c wd (some js) (some jt) wi i) (c ((6 + (3 * (i - (c 0)))) + 2))))) (some js) (some jt))), .int (nI i), .ref oi] 158 0 0
                    refine g_iast (hd := dX7_lets_158) (C := hX) 5 1 [(o, .inr (7, [.int (nI len), .ref ot, .ref on, .ref od, .ref ow, .int (nI ch), .int (nI va), .int (nI en), .ref oi, .ref oe, .ref op, .long aE, .long aP, .long lt])), (ot, .inl (cI, 200, .inl (fun j_ => nI (T j_)))), (on, .inl (cI, 78, .inl (fun j_ => nI (c j_)))), (od, .inl (cI, 78, .inl (fun j_ => nI (rd j_)))), (ow, .inl (cI, 468, .inl (fun j_ => nI (ww j_)))), (oi, .inl (cI, 32, .inl (fun j_ => nI ((nup (rvA c wd (some js) (some jt) wi i) i (saS i (1 - (((rvA c wd (some js) (some jt) wi i) (c ((6 + (3 * (i - (c 0)))) + 1))) ^^^ ((rvA c wd (some js) (some jt) wi i) (c ((6 + (3 * (i - (c 0)))) + 2))))) (some js) (some jt))) j_)))), (oe, .inl (cJ, 256, .inr (.inl EX))), (op, .inl (cJ, 256, .inr (.inl PA)))] rfl rfl (by omega) (by decide) (by rw [nup_I]; rfl) ?_
                    refine g_iinc (v := (nI (i + 1))) 4 [(0, .ref o), (1, .int (nI wd)), (2, .int (nI js)), (3, .int (nI jt)), (4, .int (nI (i + 1))), (5, .int (nI (1 - (((rvA c wd (some js) (some jt) wi i) (c ((6 + (3 * (i - (c 0)))) + 1))) ^^^ ((rvA c wd (some js) (some jt) wi i) (c ((6 + (3 * (i - (c 0)))) + 2))))))), (6, .int (nI (6 + (3 * (i - (c 0)))))), (7, .int (nI ((rvA c wd (some js) (some jt) wi i) (c ((6 + (3 * (i - (c 0)))) + 1))))), (8, .int (nI ((rvA c wd (some js) (some jt) wi i) (c ((6 + (3 * (i - (c 0)))) + 2))))), (9, .int (nI (c (6 + (3 * (i - (c 0))))))), (10, .int (nI (((rvA c wd (some js) (some jt) wi i) (c ((6 + (3 * (i - (c 0)))) + 1))) ^^^ ((rvA c wd (some js) (some jt) wi i) (c ((6 + (3 * (i - (c 0)))) + 2))))))] [1, 2, 3, 4, 0, 5, 6, 7, 8, 9, 10] (hd := dX7_lets_159) (C := hX) rfl (nI_1 _) (by decide) rfl ?_
                    refine g_goto 3 (hd := dX7_lets_162) (C := hX) (by decide) ?_
                    refine g_w [(o, .inr (7, [.int (nI len), .ref ot, .ref on, .ref od, .ref ow, .int (nI ch), .int (nI va), .int (nI en), .ref oi, .ref oe, .ref op, .long aE, .long aP, .long lt])), (ot, .inl (cI, 200, .inl (fun j_ => nI (T j_)))), (on, .inl (cI, 78, .inl (fun j_ => nI (c j_)))), (od, .inl (cI, 78, .inl (fun j_ => nI (rd j_)))), (ow, .inl (cI, 468, .inl (fun j_ => nI (ww j_)))), (oi, .inl (cI, 32, .inl (fun j_ => nI ((rvA c wd (some js) (some jt) wi (i + 1)) j_)))), (oe, .inl (cJ, 256, .inr (.inl EX))), (op, .inl (cJ, 256, .inr (.inl PA)))] (by simp only [rvA, rvX]; rw [if_neg (Nat.not_lt.mpr c_28)]; unfold gvN; rw [if_neg (Nat.not_lt.mpr c_129), if_neg c_92, if_neg c_108]) ?_
                    refine g_lv [(0, .ref o), (1, .int (nI wd)), (2, .int (nI js)), (3, .int (nI jt)), (4, .int (nI (i + 1)))] [0, 1, 2, 3, 4] rfl ?_
                    exact ih_3 (i + 1) (by omega) (by omega)
                  · refine g_iload 10 (hd := dX7_lets_132) (C := hX) rfl ?_
                    refine g_goto 141 (hd := dX7_lets_134) (C := hX) (by decide) ?_
                    refine g_istore [(0, .ref o), (1, .int (nI wd)), (2, .int (nI js)), (3, .int (nI jt)), (4, .int (nI i)), (5, .int (nI (((rvA c wd (some js) (some jt) wi i) (c ((6 + (3 * (i - (c 0)))) + 1))) ^^^ ((rvA c wd (some js) (some jt) wi i) (c ((6 + (3 * (i - (c 0)))) + 2)))))), (6, .int (nI (6 + (3 * (i - (c 0)))))), (7, .int (nI ((rvA c wd (some js) (some jt) wi i) (c ((6 + (3 * (i - (c 0)))) + 1))))), (8, .int (nI ((rvA c wd (some js) (some jt) wi i) (c ((6 + (3 * (i - (c 0)))) + 2))))), (9, .int (nI (c (6 + (3 * (i - (c 0))))))), (10, .int (nI (((rvA c wd (some js) (some jt) wi i) (c ((6 + (3 * (i - (c 0)))) + 1))) ^^^ ((rvA c wd (some js) (some jt) wi i) (c ((6 + (3 * (i - (c 0)))) + 2))))))] [1, 2, 3, 4, 5, 0, 6, 7, 8, 9, 10] (hd := dX7_lets_141) (C := hX) (by decide) rfl ?_
                    refine g_aload_n 0 (hd := dX7_lets_143) (C := hX) rfl rfl ?_
                    refine g_get (hd := dX7_lets_144) (C := hX) 0 8 rfl rfl in_X7_lets_7 (by decide) (by decide +kernel) rfl ?_
                    refine g_iload 4 (hd := dX7_lets_147) (C := hX) rfl ?_
                    refine g_iload 4 (hd := dX7_lets_149) (C := hX) rfl ?_
                    refine g_iload 5 (hd := dX7_lets_151) (C := hX) rfl ?_
                    refine g_iload_n 2 (hd := dX7_lets_153) (C := hX) rfl rfl ?_
                    refine g_iload_n 3 (hd := dX7_lets_154) (C := hX) rfl rfl ?_
                    refine g_callS (rest := [.int (nI i), .ref oi]) hX (c_X7_stuckAs l D cC cI cJ cO i (((rvA c wd (some js) (some jt) wi i) (c ((6 + (3 * (i - (c 0)))) + 1))) ^^^ ((rvA c wd (some js) (some jt) wi i) (c ((6 + (3 * (i - (c 0)))) + 2)))) (nI js) (nI jt) (some js) (some jt) (by first | exact so_n hs0 | exact so_s hjs) (by first | exact so_n ht0 | exact so_s hjt) (by omega)) ok_X7_stuckAs (fun _ => rfl) (hd := dX7_lets_155) gX7_lets_X7_stuckAs ⟨by decide, by decide⟩ rfl (Nat.le_of_ble_eq_true rfl) ⟨Nat.zero_le _, Nat.zero_le _⟩ [] (by decide) rfl rfl ?_
                    intro r_155 e_155
                    subst e_155
                    show GW X [(o, .inr (7, [.int (nI len), .ref ot, .ref on, .ref od, .ref ow, .int (nI ch), .int (nI va), .int (nI en), .ref oi, .ref oe, .ref op, .long aE, .long aP, .long lt])), (ot, .inl (cI, 200, .inl (fun j_ => nI (T j_)))), (on, .inl (cI, 78, .inl (fun j_ => nI (c j_)))), (od, .inl (cI, 78, .inl (fun j_ => nI (rd j_)))), (ow, .inl (cI, 468, .inl (fun j_ => nI (ww j_)))), (oi, .inl (cI, 32, .inl (fun j_ => nI ((rvA c wd (some js) (some jt) wi i) j_)))), (oe, .inl (cJ, 256, .inr (.inl EX))), (op, .inl (cJ, 256, .inr (.inl PA)))] [(0, .ref o), (1, .int (nI wd)), (2, .int (nI js)), (3, .int (nI jt)), (4, .int (nI i)), (5, .int (nI (((rvA c wd (some js) (some jt) wi i) (c ((6 + (3 * (i - (c 0)))) + 1))) ^^^ ((rvA c wd (some js) (some jt) wi i) (c ((6 + (3 * (i - (c 0)))) + 2)))))), (6, .int (nI (6 + (3 * (i - (c 0)))))), (7, .int (nI ((rvA c wd (some js) (some jt) wi i) (c ((6 + (3 * (i - (c 0)))) + 1))))), (8, .int (nI ((rvA c wd (some js) (some jt) wi i) (c ((6 + (3 * (i - (c 0)))) + 2))))), (9, .int (nI (c (6 + (3 * (i - (c 0))))))), (10, .int (nI (((rvA c wd (some js) (some jt) wi i) (c ((6 + (3 * (i - (c 0)))) + 1))) ^^^ ((rvA c wd (some js) (some jt) wi i) (c ((6 + (3 * (i - (c 0)))) + 2))))))] [.int (nI (saS i (((rvA c wd (some js) (some jt) wi i) (c ((6 + (3 * (i - (c 0)))) + 1))) ^^^ ((rvA c wd (some js) (some jt) wi i) (c ((6 + (3 * (i - (c 0)))) + 2)))) (some js) (some jt))), .int (nI i), .ref oi] 158 0 0
                    refine g_iast (hd := dX7_lets_158) (C := hX) 5 1 [(o, .inr (7, [.int (nI len), .ref ot, .ref on, .ref od, .ref ow, .int (nI ch), .int (nI va), .int (nI en), .ref oi, .ref oe, .ref op, .long aE, .long aP, .long lt])), (ot, .inl (cI, 200, .inl (fun j_ => nI (T j_)))), (on, .inl (cI, 78, .inl (fun j_ => nI (c j_)))), (od, .inl (cI, 78, .inl (fun j_ => nI (rd j_)))), (ow, .inl (cI, 468, .inl (fun j_ => nI (ww j_)))), (oi, .inl (cI, 32, .inl (fun j_ => nI ((nup (rvA c wd (some js) (some jt) wi i) i (saS i (((rvA c wd (some js) (some jt) wi i) (c ((6 + (3 * (i - (c 0)))) + 1))) ^^^ ((rvA c wd (some js) (some jt) wi i) (c ((6 + (3 * (i - (c 0)))) + 2)))) (some js) (some jt))) j_)))), (oe, .inl (cJ, 256, .inr (.inl EX))), (op, .inl (cJ, 256, .inr (.inl PA)))] rfl rfl (by omega) (by decide) (by rw [nup_I]; rfl) ?_
                    refine g_iinc (v := (nI (i + 1))) 4 [(0, .ref o), (1, .int (nI wd)), (2, .int (nI js)), (3, .int (nI jt)), (4, .int (nI (i + 1))), (5, .int (nI (((rvA c wd (some js) (some jt) wi i) (c ((6 + (3 * (i - (c 0)))) + 1))) ^^^ ((rvA c wd (some js) (some jt) wi i) (c ((6 + (3 * (i - (c 0)))) + 2)))))), (6, .int (nI (6 + (3 * (i - (c 0)))))), (7, .int (nI ((rvA c wd (some js) (some jt) wi i) (c ((6 + (3 * (i - (c 0)))) + 1))))), (8, .int (nI ((rvA c wd (some js) (some jt) wi i) (c ((6 + (3 * (i - (c 0)))) + 2))))), (9, .int (nI (c (6 + (3 * (i - (c 0))))))), (10, .int (nI (((rvA c wd (some js) (some jt) wi i) (c ((6 + (3 * (i - (c 0)))) + 1))) ^^^ ((rvA c wd (some js) (some jt) wi i) (c ((6 + (3 * (i - (c 0)))) + 2))))))] [1, 2, 3, 4, 0, 5, 6, 7, 8, 9, 10] (hd := dX7_lets_159) (C := hX) rfl (nI_1 _) (by decide) rfl ?_
                    refine g_goto 3 (hd := dX7_lets_162) (C := hX) (by decide) ?_
                    refine g_w [(o, .inr (7, [.int (nI len), .ref ot, .ref on, .ref od, .ref ow, .int (nI ch), .int (nI va), .int (nI en), .ref oi, .ref oe, .ref op, .long aE, .long aP, .long lt])), (ot, .inl (cI, 200, .inl (fun j_ => nI (T j_)))), (on, .inl (cI, 78, .inl (fun j_ => nI (c j_)))), (od, .inl (cI, 78, .inl (fun j_ => nI (rd j_)))), (ow, .inl (cI, 468, .inl (fun j_ => nI (ww j_)))), (oi, .inl (cI, 32, .inl (fun j_ => nI ((rvA c wd (some js) (some jt) wi (i + 1)) j_)))), (oe, .inl (cJ, 256, .inr (.inl EX))), (op, .inl (cJ, 256, .inr (.inl PA)))] (by simp only [rvA, rvX]; rw [if_neg (Nat.not_lt.mpr c_28)]; unfold gvN; rw [if_pos c_129, if_neg c_92, if_neg c_108]) ?_
                    refine g_lv [(0, .ref o), (1, .int (nI wd)), (2, .int (nI js)), (3, .int (nI jt)), (4, .int (nI (i + 1)))] [0, 1, 2, 3, 4] rfl ?_
                    exact ih_3 (i + 1) (by omega) (by omega)
                · refine g_iload 7 (hd := dX7_lets_111) (C := hX) rfl ?_
                  refine g_iload 8 (hd := dX7_lets_113) (C := hX) rfl ?_
                  refine g_ior hX dX7_lets_115 ?_
                  refine g_top (y := (nI (((rvA c wd (some js) (some jt) wi i) (c ((6 + (3 * (i - (c 0)))) + 1))) ||| ((rvA c wd (some js) (some jt) wi i) (c ((6 + (3 * (i - (c 0)))) + 2)))))) (fa_or _ _) ?_
                  refine g_goto 124 (hd := dX7_lets_116) (C := hX) (by decide) ?_
                  refine g_istore [(0, .ref o), (1, .int (nI wd)), (2, .int (nI js)), (3, .int (nI jt)), (4, .int (nI i)), (5, .int (nI (wd / 2 ^ i % 2))), (6, .int (nI (6 + (3 * (i - (c 0)))))), (7, .int (nI ((rvA c wd (some js) (some jt) wi i) (c ((6 + (3 * (i - (c 0)))) + 1))))), (8, .int (nI ((rvA c wd (some js) (some jt) wi i) (c ((6 + (3 * (i - (c 0)))) + 2))))), (9, .int (nI (c (6 + (3 * (i - (c 0))))))), (10, .int (nI (((rvA c wd (some js) (some jt) wi i) (c ((6 + (3 * (i - (c 0)))) + 1))) ||| ((rvA c wd (some js) (some jt) wi i) (c ((6 + (3 * (i - (c 0)))) + 2))))))] [1, 2, 3, 4, 5, 6, 7, 8, 9, 10, 0] (hd := dX7_lets_124) (C := hX) (by decide) rfl ?_
                  refine g_iload 9 (hd := dX7_lets_126) (C := hX) rfl ?_
                  refine g_iconst (v := nI 3) hX dX7_lets_128 (by decide) ?_
                  refine g_icmp_geN 137 (hd := dX7_lets_129) (C := hX) (by decide) (by omega) (by omega) (fun c_129 => ?_) (fun c_129 => ?_)
                  · have b9 := rv_le hok wd (some js) (some jt) wi i hiL
                    have b8 := bit2 _ (Nat.lt_succ_of_le (b9 _ hq1)) _ (Nat.lt_succ_of_le (b9 _ hq2))
                    refine g_iconst (v := nI 1) hX dX7_lets_137 (by decide) ?_
                    refine g_iload 10 (hd := dX7_lets_138) (C := hX) rfl ?_
                    refine g_isub hX dX7_lets_140 ?_
                    refine g_top (y := (nI (1 - (((rvA c wd (some js) (some jt) wi i) (c ((6 + (3 * (i - (c 0)))) + 1))) ||| ((rvA c wd (some js) (some jt) wi i) (c ((6 + (3 * (i - (c 0)))) + 2))))))) (pk_sub (by omega)) ?_
                    refine g_istore [(0, .ref o), (1, .int (nI wd)), (2, .int (nI js)), (3, .int (nI jt)), (4, .int (nI i)), (5, .int (nI (1 - (((rvA c wd (some js) (some jt) wi i) (c ((6 + (3 * (i - (c 0)))) + 1))) ||| ((rvA c wd (some js) (some jt) wi i) (c ((6 + (3 * (i - (c 0)))) + 2))))))), (6, .int (nI (6 + (3 * (i - (c 0)))))), (7, .int (nI ((rvA c wd (some js) (some jt) wi i) (c ((6 + (3 * (i - (c 0)))) + 1))))), (8, .int (nI ((rvA c wd (some js) (some jt) wi i) (c ((6 + (3 * (i - (c 0)))) + 2))))), (9, .int (nI (c (6 + (3 * (i - (c 0))))))), (10, .int (nI (((rvA c wd (some js) (some jt) wi i) (c ((6 + (3 * (i - (c 0)))) + 1))) ||| ((rvA c wd (some js) (some jt) wi i) (c ((6 + (3 * (i - (c 0)))) + 2))))))] [1, 2, 3, 4, 5, 0, 6, 7, 8, 9, 10] (hd := dX7_lets_141) (C := hX) (by decide) rfl ?_
                    refine g_aload_n 0 (hd := dX7_lets_143) (C := hX) rfl rfl ?_
                    refine g_get (hd := dX7_lets_144) (C := hX) 0 8 rfl rfl in_X7_lets_7 (by decide) (by decide +kernel) rfl ?_
                    refine g_iload 4 (hd := dX7_lets_147) (C := hX) rfl ?_
                    refine g_iload 4 (hd := dX7_lets_149) (C := hX) rfl ?_
                    refine g_iload 5 (hd := dX7_lets_151) (C := hX) rfl ?_
                    refine g_iload_n 2 (hd := dX7_lets_153) (C := hX) rfl rfl ?_
                    refine g_iload_n 3 (hd := dX7_lets_154) (C := hX) rfl rfl ?_
                    refine g_callS (rest := [.int (nI i), .ref oi]) hX (c_X7_stuckAs l D cC cI cJ cO i (1 - (((rvA c wd (some js) (some jt) wi i) (c ((6 + (3 * (i - (c 0)))) + 1))) ||| ((rvA c wd (some js) (some jt) wi i) (c ((6 + (3 * (i - (c 0)))) + 2))))) (nI js) (nI jt) (some js) (some jt) (by first | exact so_n hs0 | exact so_s hjs) (by first | exact so_n ht0 | exact so_s hjt) (by omega)) ok_X7_stuckAs (fun _ => rfl) (hd := dX7_lets_155) gX7_lets_X7_stuckAs ⟨by decide, by decide⟩ rfl (Nat.le_of_ble_eq_true rfl) ⟨Nat.zero_le _, Nat.zero_le _⟩ [] (by decide) rfl rfl ?_
                    intro r_155 e_155
                    subst e_155
                    show GW X [(o, .inr (7, [.int (nI len), .ref ot, .ref on, .ref od, .ref ow, .int (nI ch), .int (nI va), .int (nI en), .ref oi, .ref oe, .ref op, .long aE, .long aP, .long lt])), (ot, .inl (cI, 200, .inl (fun j_ => nI (T j_)))), (on, .inl (cI, 78, .inl (fun j_ => nI (c j_)))), (od, .inl (cI, 78, .inl (fun j_ => nI (rd j_)))), (ow, .inl (cI, 468, .inl (fun j_ => nI (ww j_)))), (oi, .inl (cI, 32, .inl (fun j_ => nI ((rvA c wd (some js) (some jt) wi i) j_)))), (oe, .inl (cJ, 256, .inr (.inl EX))), (op, .inl (cJ, 256, .inr (.inl PA)))] [(0, .ref o), (1, .int (nI wd)), (2, .int (nI js)), (3, .int (nI jt)), (4, .int (nI i)), (5, .int (nI (1 - (((rvA c wd (some js) (some jt) wi i) (c ((6 + (3 * (i - (c 0)))) + 1))) ||| ((rvA c wd (some js) (some jt) wi i) (c ((6 + (3 * (i - (c 0)))) + 2))))))), (6, .int (nI (6 + (3 * (i - (c 0)))))), (7, .int (nI ((rvA c wd (some js) (some jt) wi i) (c ((6 + (3 * (i - (c 0)))) + 1))))), (8, .int (nI ((rvA c wd (some js) (some jt) wi i) (c ((6 + (3 * (i - (c 0)))) + 2))))), (9, .int (nI (c (6 + (3 * (i - (c 0))))))), (10, .int (nI (((rvA c wd (some js) (some jt) wi i) (c ((6 + (3 * (i - (c 0)))) + 1))) ||| ((rvA c wd (some js) (some jt) wi i) (c ((6 + (3 * (i - (c 0)))) + 2))))))] [.int (nI (saS i (1 - (((rvA c wd (some js) (some jt) wi i) (c ((6 + (3 * (i - (c 0)))) + 1))) ||| ((rvA c wd (some js) (some jt) wi i) (c ((6 + (3 * (i - (c 0)))) + 2))))) (some js) (some jt))), .int (nI i), .ref oi] 158 0 0
                    refine g_iast (hd := dX7_lets_158) (C := hX) 5 1 [(o, .inr (7, [.int (nI len), .ref ot, .ref on, .ref od, .ref ow, .int (nI ch), .int (nI va), .int (nI en), .ref oi, .ref oe, .ref op, .long aE, .long aP, .long lt])), (ot, .inl (cI, 200, .inl (fun j_ => nI (T j_)))), (on, .inl (cI, 78, .inl (fun j_ => nI (c j_)))), (od, .inl (cI, 78, .inl (fun j_ => nI (rd j_)))), (ow, .inl (cI, 468, .inl (fun j_ => nI (ww j_)))), (oi, .inl (cI, 32, .inl (fun j_ => nI ((nup (rvA c wd (some js) (some jt) wi i) i (saS i (1 - (((rvA c wd (some js) (some jt) wi i) (c ((6 + (3 * (i - (c 0)))) + 1))) ||| ((rvA c wd (some js) (some jt) wi i) (c ((6 + (3 * (i - (c 0)))) + 2))))) (some js) (some jt))) j_)))), (oe, .inl (cJ, 256, .inr (.inl EX))), (op, .inl (cJ, 256, .inr (.inl PA)))] rfl rfl (by omega) (by decide) (by rw [nup_I]; rfl) ?_
                    refine g_iinc (v := (nI (i + 1))) 4 [(0, .ref o), (1, .int (nI wd)), (2, .int (nI js)), (3, .int (nI jt)), (4, .int (nI (i + 1))), (5, .int (nI (1 - (((rvA c wd (some js) (some jt) wi i) (c ((6 + (3 * (i - (c 0)))) + 1))) ||| ((rvA c wd (some js) (some jt) wi i) (c ((6 + (3 * (i - (c 0)))) + 2))))))), (6, .int (nI (6 + (3 * (i - (c 0)))))), (7, .int (nI ((rvA c wd (some js) (some jt) wi i) (c ((6 + (3 * (i - (c 0)))) + 1))))), (8, .int (nI ((rvA c wd (some js) (some jt) wi i) (c ((6 + (3 * (i - (c 0)))) + 2))))), (9, .int (nI (c (6 + (3 * (i - (c 0))))))), (10, .int (nI (((rvA c wd (some js) (some jt) wi i) (c ((6 + (3 * (i - (c 0)))) + 1))) ||| ((rvA c wd (some js) (some jt) wi i) (c ((6 + (3 * (i - (c 0)))) + 2))))))] [1, 2, 3, 4, 0, 5, 6, 7, 8, 9, 10] (hd := dX7_lets_159) (C := hX) rfl (nI_1 _) (by decide) rfl ?_
                    refine g_goto 3 (hd := dX7_lets_162) (C := hX) (by decide) ?_
                    refine g_w [(o, .inr (7, [.int (nI len), .ref ot, .ref on, .ref od, .ref ow, .int (nI ch), .int (nI va), .int (nI en), .ref oi, .ref oe, .ref op, .long aE, .long aP, .long lt])), (ot, .inl (cI, 200, .inl (fun j_ => nI (T j_)))), (on, .inl (cI, 78, .inl (fun j_ => nI (c j_)))), (od, .inl (cI, 78, .inl (fun j_ => nI (rd j_)))), (ow, .inl (cI, 468, .inl (fun j_ => nI (ww j_)))), (oi, .inl (cI, 32, .inl (fun j_ => nI ((rvA c wd (some js) (some jt) wi (i + 1)) j_)))), (oe, .inl (cJ, 256, .inr (.inl EX))), (op, .inl (cJ, 256, .inr (.inl PA)))] (by simp only [rvA, rvX]; rw [if_neg (Nat.not_lt.mpr c_28)]; unfold gvN; rw [if_neg (Nat.not_lt.mpr c_129), if_neg c_92, if_pos c_108]) ?_
                    refine g_lv [(0, .ref o), (1, .int (nI wd)), (2, .int (nI js)), (3, .int (nI jt)), (4, .int (nI (i + 1)))] [0, 1, 2, 3, 4] rfl ?_
                    exact ih_3 (i + 1) (by omega) (by omega)
                  · refine g_iload 10 (hd := dX7_lets_132) (C := hX) rfl ?_
                    refine g_goto 141 (hd := dX7_lets_134) (C := hX) (by decide) ?_
                    refine g_istore [(0, .ref o), (1, .int (nI wd)), (2, .int (nI js)), (3, .int (nI jt)), (4, .int (nI i)), (5, .int (nI (((rvA c wd (some js) (some jt) wi i) (c ((6 + (3 * (i - (c 0)))) + 1))) ||| ((rvA c wd (some js) (some jt) wi i) (c ((6 + (3 * (i - (c 0)))) + 2)))))), (6, .int (nI (6 + (3 * (i - (c 0)))))), (7, .int (nI ((rvA c wd (some js) (some jt) wi i) (c ((6 + (3 * (i - (c 0)))) + 1))))), (8, .int (nI ((rvA c wd (some js) (some jt) wi i) (c ((6 + (3 * (i - (c 0)))) + 2))))), (9, .int (nI (c (6 + (3 * (i - (c 0))))))), (10, .int (nI (((rvA c wd (some js) (some jt) wi i) (c ((6 + (3 * (i - (c 0)))) + 1))) ||| ((rvA c wd (some js) (some jt) wi i) (c ((6 + (3 * (i - (c 0)))) + 2))))))] [1, 2, 3, 4, 5, 0, 6, 7, 8, 9, 10] (hd := dX7_lets_141) (C := hX) (by decide) rfl ?_
                    refine g_aload_n 0 (hd := dX7_lets_143) (C := hX) rfl rfl ?_
                    refine g_get (hd := dX7_lets_144) (C := hX) 0 8 rfl rfl in_X7_lets_7 (by decide) (by decide +kernel) rfl ?_
                    refine g_iload 4 (hd := dX7_lets_147) (C := hX) rfl ?_
                    refine g_iload 4 (hd := dX7_lets_149) (C := hX) rfl ?_
                    refine g_iload 5 (hd := dX7_lets_151) (C := hX) rfl ?_
                    refine g_iload_n 2 (hd := dX7_lets_153) (C := hX) rfl rfl ?_
                    refine g_iload_n 3 (hd := dX7_lets_154) (C := hX) rfl rfl ?_
                    refine g_callS (rest := [.int (nI i), .ref oi]) hX (c_X7_stuckAs l D cC cI cJ cO i (((rvA c wd (some js) (some jt) wi i) (c ((6 + (3 * (i - (c 0)))) + 1))) ||| ((rvA c wd (some js) (some jt) wi i) (c ((6 + (3 * (i - (c 0)))) + 2)))) (nI js) (nI jt) (some js) (some jt) (by first | exact so_n hs0 | exact so_s hjs) (by first | exact so_n ht0 | exact so_s hjt) (by omega)) ok_X7_stuckAs (fun _ => rfl) (hd := dX7_lets_155) gX7_lets_X7_stuckAs ⟨by decide, by decide⟩ rfl (Nat.le_of_ble_eq_true rfl) ⟨Nat.zero_le _, Nat.zero_le _⟩ [] (by decide) rfl rfl ?_
                    intro r_155 e_155
                    subst e_155
                    show GW X [(o, .inr (7, [.int (nI len), .ref ot, .ref on, .ref od, .ref ow, .int (nI ch), .int (nI va), .int (nI en), .ref oi, .ref oe, .ref op, .long aE, .long aP, .long lt])), (ot, .inl (cI, 200, .inl (fun j_ => nI (T j_)))), (on, .inl (cI, 78, .inl (fun j_ => nI (c j_)))), (od, .inl (cI, 78, .inl (fun j_ => nI (rd j_)))), (ow, .inl (cI, 468, .inl (fun j_ => nI (ww j_)))), (oi, .inl (cI, 32, .inl (fun j_ => nI ((rvA c wd (some js) (some jt) wi i) j_)))), (oe, .inl (cJ, 256, .inr (.inl EX))), (op, .inl (cJ, 256, .inr (.inl PA)))] [(0, .ref o), (1, .int (nI wd)), (2, .int (nI js)), (3, .int (nI jt)), (4, .int (nI i)), (5, .int (nI (((rvA c wd (some js) (some jt) wi i) (c ((6 + (3 * (i - (c 0)))) + 1))) ||| ((rvA c wd (some js) (some jt) wi i) (c ((6 + (3 * (i - (c 0)))) + 2)))))), (6, .int (nI (6 + (3 * (i - (c 0)))))), (7, .int (nI ((rvA c wd (some js) (some jt) wi i) (c ((6 + (3 * (i - (c 0)))) + 1))))), (8, .int (nI ((rvA c wd (some js) (some jt) wi i) (c ((6 + (3 * (i - (c 0)))) + 2))))), (9, .int (nI (c (6 + (3 * (i - (c 0))))))), (10, .int (nI (((rvA c wd (some js) (some jt) wi i) (c ((6 + (3 * (i - (c 0)))) + 1))) ||| ((rvA c wd (some js) (some jt) wi i) (c ((6 + (3 * (i - (c 0)))) + 2))))))] [.int (nI (saS i (((rvA c wd (some js) (some jt) wi i) (c ((6 + (3 * (i - (c 0)))) + 1))) ||| ((rvA c wd (some js) (some jt) wi i) (c ((6 + (3 * (i - (c 0)))) + 2)))) (some js) (some jt))), .int (nI i), .ref oi] 158 0 0
                    refine g_iast (hd := dX7_lets_158) (C := hX) 5 1 [(o, .inr (7, [.int (nI len), .ref ot, .ref on, .ref od, .ref ow, .int (nI ch), .int (nI va), .int (nI en), .ref oi, .ref oe, .ref op, .long aE, .long aP, .long lt])), (ot, .inl (cI, 200, .inl (fun j_ => nI (T j_)))), (on, .inl (cI, 78, .inl (fun j_ => nI (c j_)))), (od, .inl (cI, 78, .inl (fun j_ => nI (rd j_)))), (ow, .inl (cI, 468, .inl (fun j_ => nI (ww j_)))), (oi, .inl (cI, 32, .inl (fun j_ => nI ((nup (rvA c wd (some js) (some jt) wi i) i (saS i (((rvA c wd (some js) (some jt) wi i) (c ((6 + (3 * (i - (c 0)))) + 1))) ||| ((rvA c wd (some js) (some jt) wi i) (c ((6 + (3 * (i - (c 0)))) + 2)))) (some js) (some jt))) j_)))), (oe, .inl (cJ, 256, .inr (.inl EX))), (op, .inl (cJ, 256, .inr (.inl PA)))] rfl rfl (by omega) (by decide) (by rw [nup_I]; rfl) ?_
                    refine g_iinc (v := (nI (i + 1))) 4 [(0, .ref o), (1, .int (nI wd)), (2, .int (nI js)), (3, .int (nI jt)), (4, .int (nI (i + 1))), (5, .int (nI (((rvA c wd (some js) (some jt) wi i) (c ((6 + (3 * (i - (c 0)))) + 1))) ||| ((rvA c wd (some js) (some jt) wi i) (c ((6 + (3 * (i - (c 0)))) + 2)))))), (6, .int (nI (6 + (3 * (i - (c 0)))))), (7, .int (nI ((rvA c wd (some js) (some jt) wi i) (c ((6 + (3 * (i - (c 0)))) + 1))))), (8, .int (nI ((rvA c wd (some js) (some jt) wi i) (c ((6 + (3 * (i - (c 0)))) + 2))))), (9, .int (nI (c (6 + (3 * (i - (c 0))))))), (10, .int (nI (((rvA c wd (some js) (some jt) wi i) (c ((6 + (3 * (i - (c 0)))) + 1))) ||| ((rvA c wd (some js) (some jt) wi i) (c ((6 + (3 * (i - (c 0)))) + 2))))))] [1, 2, 3, 4, 0, 5, 6, 7, 8, 9, 10] (hd := dX7_lets_159) (C := hX) rfl (nI_1 _) (by decide) rfl ?_
                    refine g_goto 3 (hd := dX7_lets_162) (C := hX) (by decide) ?_
                    refine g_w [(o, .inr (7, [.int (nI len), .ref ot, .ref on, .ref od, .ref ow, .int (nI ch), .int (nI va), .int (nI en), .ref oi, .ref oe, .ref op, .long aE, .long aP, .long lt])), (ot, .inl (cI, 200, .inl (fun j_ => nI (T j_)))), (on, .inl (cI, 78, .inl (fun j_ => nI (c j_)))), (od, .inl (cI, 78, .inl (fun j_ => nI (rd j_)))), (ow, .inl (cI, 468, .inl (fun j_ => nI (ww j_)))), (oi, .inl (cI, 32, .inl (fun j_ => nI ((rvA c wd (some js) (some jt) wi (i + 1)) j_)))), (oe, .inl (cJ, 256, .inr (.inl EX))), (op, .inl (cJ, 256, .inr (.inl PA)))] (by simp only [rvA, rvX]; rw [if_neg (Nat.not_lt.mpr c_28)]; unfold gvN; rw [if_pos c_129, if_neg c_92, if_pos c_108]) ?_
                    refine g_lv [(0, .ref o), (1, .int (nI wd)), (2, .int (nI js)), (3, .int (nI jt)), (4, .int (nI (i + 1)))] [0, 1, 2, 3, 4] rfl ?_
                    exact ih_3 (i + 1) (by omega) (by omega)
              · refine g_iload 7 (hd := dX7_lets_95) (C := hX) rfl ?_
                refine g_iload 8 (hd := dX7_lets_97) (C := hX) rfl ?_
                refine g_iand hX dX7_lets_99 ?_
                refine g_top (y := (nI (((rvA c wd (some js) (some jt) wi i) (c ((6 + (3 * (i - (c 0)))) + 1))) &&& ((rvA c wd (some js) (some jt) wi i) (c ((6 + (3 * (i - (c 0)))) + 2)))))) (nx_and _ _) ?_
                refine g_goto 124 (hd := dX7_lets_100) (C := hX) (by decide) ?_
                refine g_istore [(0, .ref o), (1, .int (nI wd)), (2, .int (nI js)), (3, .int (nI jt)), (4, .int (nI i)), (5, .int (nI (wd / 2 ^ i % 2))), (6, .int (nI (6 + (3 * (i - (c 0)))))), (7, .int (nI ((rvA c wd (some js) (some jt) wi i) (c ((6 + (3 * (i - (c 0)))) + 1))))), (8, .int (nI ((rvA c wd (some js) (some jt) wi i) (c ((6 + (3 * (i - (c 0)))) + 2))))), (9, .int (nI (c (6 + (3 * (i - (c 0))))))), (10, .int (nI (((rvA c wd (some js) (some jt) wi i) (c ((6 + (3 * (i - (c 0)))) + 1))) &&& ((rvA c wd (some js) (some jt) wi i) (c ((6 + (3 * (i - (c 0)))) + 2))))))] [1, 2, 3, 4, 5, 6, 7, 8, 9, 10, 0] (hd := dX7_lets_124) (C := hX) (by decide) rfl ?_
                refine g_iload 9 (hd := dX7_lets_126) (C := hX) rfl ?_
                refine g_iconst (v := nI 3) hX dX7_lets_128 (by decide) ?_
                refine g_icmp_geN 137 (hd := dX7_lets_129) (C := hX) (by decide) (by omega) (by omega) (fun c_129 => ?_) (fun c_129 => ?_)
                · have b9 := rv_le hok wd (some js) (some jt) wi i hiL
                  have b8 := bit2 _ (Nat.lt_succ_of_le (b9 _ hq1)) _ (Nat.lt_succ_of_le (b9 _ hq2))
                  refine g_iconst (v := nI 1) hX dX7_lets_137 (by decide) ?_
                  refine g_iload 10 (hd := dX7_lets_138) (C := hX) rfl ?_
                  refine g_isub hX dX7_lets_140 ?_
                  refine g_top (y := (nI (1 - (((rvA c wd (some js) (some jt) wi i) (c ((6 + (3 * (i - (c 0)))) + 1))) &&& ((rvA c wd (some js) (some jt) wi i) (c ((6 + (3 * (i - (c 0)))) + 2))))))) (pk_sub (by omega)) ?_
                  refine g_istore [(0, .ref o), (1, .int (nI wd)), (2, .int (nI js)), (3, .int (nI jt)), (4, .int (nI i)), (5, .int (nI (1 - (((rvA c wd (some js) (some jt) wi i) (c ((6 + (3 * (i - (c 0)))) + 1))) &&& ((rvA c wd (some js) (some jt) wi i) (c ((6 + (3 * (i - (c 0)))) + 2))))))), (6, .int (nI (6 + (3 * (i - (c 0)))))), (7, .int (nI ((rvA c wd (some js) (some jt) wi i) (c ((6 + (3 * (i - (c 0)))) + 1))))), (8, .int (nI ((rvA c wd (some js) (some jt) wi i) (c ((6 + (3 * (i - (c 0)))) + 2))))), (9, .int (nI (c (6 + (3 * (i - (c 0))))))), (10, .int (nI (((rvA c wd (some js) (some jt) wi i) (c ((6 + (3 * (i - (c 0)))) + 1))) &&& ((rvA c wd (some js) (some jt) wi i) (c ((6 + (3 * (i - (c 0)))) + 2))))))] [1, 2, 3, 4, 5, 0, 6, 7, 8, 9, 10] (hd := dX7_lets_141) (C := hX) (by decide) rfl ?_
                  refine g_aload_n 0 (hd := dX7_lets_143) (C := hX) rfl rfl ?_
                  refine g_get (hd := dX7_lets_144) (C := hX) 0 8 rfl rfl in_X7_lets_7 (by decide) (by decide +kernel) rfl ?_
                  refine g_iload 4 (hd := dX7_lets_147) (C := hX) rfl ?_
                  refine g_iload 4 (hd := dX7_lets_149) (C := hX) rfl ?_
                  refine g_iload 5 (hd := dX7_lets_151) (C := hX) rfl ?_
                  refine g_iload_n 2 (hd := dX7_lets_153) (C := hX) rfl rfl ?_
                  refine g_iload_n 3 (hd := dX7_lets_154) (C := hX) rfl rfl ?_
                  refine g_callS (rest := [.int (nI i), .ref oi]) hX (c_X7_stuckAs l D cC cI cJ cO i (1 - (((rvA c wd (some js) (some jt) wi i) (c ((6 + (3 * (i - (c 0)))) + 1))) &&& ((rvA c wd (some js) (some jt) wi i) (c ((6 + (3 * (i - (c 0)))) + 2))))) (nI js) (nI jt) (some js) (some jt) (by first | exact so_n hs0 | exact so_s hjs) (by first | exact so_n ht0 | exact so_s hjt) (by omega)) ok_X7_stuckAs (fun _ => rfl) (hd := dX7_lets_155) gX7_lets_X7_stuckAs ⟨by decide, by decide⟩ rfl (Nat.le_of_ble_eq_true rfl) ⟨Nat.zero_le _, Nat.zero_le _⟩ [] (by decide) rfl rfl ?_
                  intro r_155 e_155
                  subst e_155
                  show GW X [(o, .inr (7, [.int (nI len), .ref ot, .ref on, .ref od, .ref ow, .int (nI ch), .int (nI va), .int (nI en), .ref oi, .ref oe, .ref op, .long aE, .long aP, .long lt])), (ot, .inl (cI, 200, .inl (fun j_ => nI (T j_)))), (on, .inl (cI, 78, .inl (fun j_ => nI (c j_)))), (od, .inl (cI, 78, .inl (fun j_ => nI (rd j_)))), (ow, .inl (cI, 468, .inl (fun j_ => nI (ww j_)))), (oi, .inl (cI, 32, .inl (fun j_ => nI ((rvA c wd (some js) (some jt) wi i) j_)))), (oe, .inl (cJ, 256, .inr (.inl EX))), (op, .inl (cJ, 256, .inr (.inl PA)))] [(0, .ref o), (1, .int (nI wd)), (2, .int (nI js)), (3, .int (nI jt)), (4, .int (nI i)), (5, .int (nI (1 - (((rvA c wd (some js) (some jt) wi i) (c ((6 + (3 * (i - (c 0)))) + 1))) &&& ((rvA c wd (some js) (some jt) wi i) (c ((6 + (3 * (i - (c 0)))) + 2))))))), (6, .int (nI (6 + (3 * (i - (c 0)))))), (7, .int (nI ((rvA c wd (some js) (some jt) wi i) (c ((6 + (3 * (i - (c 0)))) + 1))))), (8, .int (nI ((rvA c wd (some js) (some jt) wi i) (c ((6 + (3 * (i - (c 0)))) + 2))))), (9, .int (nI (c (6 + (3 * (i - (c 0))))))), (10, .int (nI (((rvA c wd (some js) (some jt) wi i) (c ((6 + (3 * (i - (c 0)))) + 1))) &&& ((rvA c wd (some js) (some jt) wi i) (c ((6 + (3 * (i - (c 0)))) + 2))))))] [.int (nI (saS i (1 - (((rvA c wd (some js) (some jt) wi i) (c ((6 + (3 * (i - (c 0)))) + 1))) &&& ((rvA c wd (some js) (some jt) wi i) (c ((6 + (3 * (i - (c 0)))) + 2))))) (some js) (some jt))), .int (nI i), .ref oi] 158 0 0
                  refine g_iast (hd := dX7_lets_158) (C := hX) 5 1 [(o, .inr (7, [.int (nI len), .ref ot, .ref on, .ref od, .ref ow, .int (nI ch), .int (nI va), .int (nI en), .ref oi, .ref oe, .ref op, .long aE, .long aP, .long lt])), (ot, .inl (cI, 200, .inl (fun j_ => nI (T j_)))), (on, .inl (cI, 78, .inl (fun j_ => nI (c j_)))), (od, .inl (cI, 78, .inl (fun j_ => nI (rd j_)))), (ow, .inl (cI, 468, .inl (fun j_ => nI (ww j_)))), (oi, .inl (cI, 32, .inl (fun j_ => nI ((nup (rvA c wd (some js) (some jt) wi i) i (saS i (1 - (((rvA c wd (some js) (some jt) wi i) (c ((6 + (3 * (i - (c 0)))) + 1))) &&& ((rvA c wd (some js) (some jt) wi i) (c ((6 + (3 * (i - (c 0)))) + 2))))) (some js) (some jt))) j_)))), (oe, .inl (cJ, 256, .inr (.inl EX))), (op, .inl (cJ, 256, .inr (.inl PA)))] rfl rfl (by omega) (by decide) (by rw [nup_I]; rfl) ?_
                  refine g_iinc (v := (nI (i + 1))) 4 [(0, .ref o), (1, .int (nI wd)), (2, .int (nI js)), (3, .int (nI jt)), (4, .int (nI (i + 1))), (5, .int (nI (1 - (((rvA c wd (some js) (some jt) wi i) (c ((6 + (3 * (i - (c 0)))) + 1))) &&& ((rvA c wd (some js) (some jt) wi i) (c ((6 + (3 * (i - (c 0)))) + 2))))))), (6, .int (nI (6 + (3 * (i - (c 0)))))), (7, .int (nI ((rvA c wd (some js) (some jt) wi i) (c ((6 + (3 * (i - (c 0)))) + 1))))), (8, .int (nI ((rvA c wd (some js) (some jt) wi i) (c ((6 + (3 * (i - (c 0)))) + 2))))), (9, .int (nI (c (6 + (3 * (i - (c 0))))))), (10, .int (nI (((rvA c wd (some js) (some jt) wi i) (c ((6 + (3 * (i - (c 0)))) + 1))) &&& ((rvA c wd (some js) (some jt) wi i) (c ((6 + (3 * (i - (c 0)))) + 2))))))] [1, 2, 3, 4, 0, 5, 6, 7, 8, 9, 10] (hd := dX7_lets_159) (C := hX) rfl (nI_1 _) (by decide) rfl ?_
                  refine g_goto 3 (hd := dX7_lets_162) (C := hX) (by decide) ?_
                  refine g_w [(o, .inr (7, [.int (nI len), .ref ot, .ref on, .ref od, .ref ow, .int (nI ch), .int (nI va), .int (nI en), .ref oi, .ref oe, .ref op, .long aE, .long aP, .long lt])), (ot, .inl (cI, 200, .inl (fun j_ => nI (T j_)))), (on, .inl (cI, 78, .inl (fun j_ => nI (c j_)))), (od, .inl (cI, 78, .inl (fun j_ => nI (rd j_)))), (ow, .inl (cI, 468, .inl (fun j_ => nI (ww j_)))), (oi, .inl (cI, 32, .inl (fun j_ => nI ((rvA c wd (some js) (some jt) wi (i + 1)) j_)))), (oe, .inl (cJ, 256, .inr (.inl EX))), (op, .inl (cJ, 256, .inr (.inl PA)))] (by simp only [rvA, rvX]; rw [if_neg (Nat.not_lt.mpr c_28)]; unfold gvN; rw [if_neg (Nat.not_lt.mpr c_129), if_pos c_92]) ?_
                  refine g_lv [(0, .ref o), (1, .int (nI wd)), (2, .int (nI js)), (3, .int (nI jt)), (4, .int (nI (i + 1)))] [0, 1, 2, 3, 4] rfl ?_
                  exact ih_3 (i + 1) (by omega) (by omega)
                · refine g_iload 10 (hd := dX7_lets_132) (C := hX) rfl ?_
                  refine g_goto 141 (hd := dX7_lets_134) (C := hX) (by decide) ?_
                  refine g_istore [(0, .ref o), (1, .int (nI wd)), (2, .int (nI js)), (3, .int (nI jt)), (4, .int (nI i)), (5, .int (nI (((rvA c wd (some js) (some jt) wi i) (c ((6 + (3 * (i - (c 0)))) + 1))) &&& ((rvA c wd (some js) (some jt) wi i) (c ((6 + (3 * (i - (c 0)))) + 2)))))), (6, .int (nI (6 + (3 * (i - (c 0)))))), (7, .int (nI ((rvA c wd (some js) (some jt) wi i) (c ((6 + (3 * (i - (c 0)))) + 1))))), (8, .int (nI ((rvA c wd (some js) (some jt) wi i) (c ((6 + (3 * (i - (c 0)))) + 2))))), (9, .int (nI (c (6 + (3 * (i - (c 0))))))), (10, .int (nI (((rvA c wd (some js) (some jt) wi i) (c ((6 + (3 * (i - (c 0)))) + 1))) &&& ((rvA c wd (some js) (some jt) wi i) (c ((6 + (3 * (i - (c 0)))) + 2))))))] [1, 2, 3, 4, 5, 0, 6, 7, 8, 9, 10] (hd := dX7_lets_141) (C := hX) (by decide) rfl ?_
                  refine g_aload_n 0 (hd := dX7_lets_143) (C := hX) rfl rfl ?_
                  refine g_get (hd := dX7_lets_144) (C := hX) 0 8 rfl rfl in_X7_lets_7 (by decide) (by decide +kernel) rfl ?_
                  refine g_iload 4 (hd := dX7_lets_147) (C := hX) rfl ?_
                  refine g_iload 4 (hd := dX7_lets_149) (C := hX) rfl ?_
                  refine g_iload 5 (hd := dX7_lets_151) (C := hX) rfl ?_
                  refine g_iload_n 2 (hd := dX7_lets_153) (C := hX) rfl rfl ?_
                  refine g_iload_n 3 (hd := dX7_lets_154) (C := hX) rfl rfl ?_
                  refine g_callS (rest := [.int (nI i), .ref oi]) hX (c_X7_stuckAs l D cC cI cJ cO i (((rvA c wd (some js) (some jt) wi i) (c ((6 + (3 * (i - (c 0)))) + 1))) &&& ((rvA c wd (some js) (some jt) wi i) (c ((6 + (3 * (i - (c 0)))) + 2)))) (nI js) (nI jt) (some js) (some jt) (by first | exact so_n hs0 | exact so_s hjs) (by first | exact so_n ht0 | exact so_s hjt) (by omega)) ok_X7_stuckAs (fun _ => rfl) (hd := dX7_lets_155) gX7_lets_X7_stuckAs ⟨by decide, by decide⟩ rfl (Nat.le_of_ble_eq_true rfl) ⟨Nat.zero_le _, Nat.zero_le _⟩ [] (by decide) rfl rfl ?_
                  intro r_155 e_155
                  subst e_155
                  show GW X [(o, .inr (7, [.int (nI len), .ref ot, .ref on, .ref od, .ref ow, .int (nI ch), .int (nI va), .int (nI en), .ref oi, .ref oe, .ref op, .long aE, .long aP, .long lt])), (ot, .inl (cI, 200, .inl (fun j_ => nI (T j_)))), (on, .inl (cI, 78, .inl (fun j_ => nI (c j_)))), (od, .inl (cI, 78, .inl (fun j_ => nI (rd j_)))), (ow, .inl (cI, 468, .inl (fun j_ => nI (ww j_)))), (oi, .inl (cI, 32, .inl (fun j_ => nI ((rvA c wd (some js) (some jt) wi i) j_)))), (oe, .inl (cJ, 256, .inr (.inl EX))), (op, .inl (cJ, 256, .inr (.inl PA)))] [(0, .ref o), (1, .int (nI wd)), (2, .int (nI js)), (3, .int (nI jt)), (4, .int (nI i)), (5, .int (nI (((rvA c wd (some js) (some jt) wi i) (c ((6 + (3 * (i - (c 0)))) + 1))) &&& ((rvA c wd (some js) (some jt) wi i) (c ((6 + (3 * (i - (c 0)))) + 2)))))), (6, .int (nI (6 + (3 * (i - (c 0)))))), (7, .int (nI ((rvA c wd (some js) (some jt) wi i) (c ((6 + (3 * (i - (c 0)))) + 1))))), (8, .int (nI ((rvA c wd (some js) (some jt) wi i) (c ((6 + (3 * (i - (c 0)))) + 2))))), (9, .int (nI (c (6 + (3 * (i - (c 0))))))), (10, .int (nI (((rvA c wd (some js) (some jt) wi i) (c ((6 + (3 * (i - (c 0)))) + 1))) &&& ((rvA c wd (some js) (some jt) wi i) (c ((6 + (3 * (i - (c 0)))) + 2))))))] [.int (nI (saS i (((rvA c wd (some js) (some jt) wi i) (c ((6 + (3 * (i - (c 0)))) + 1))) &&& ((rvA c wd (some js) (some jt) wi i) (c ((6 + (3 * (i - (c 0)))) + 2)))) (some js) (some jt))), .int (nI i), .ref oi] 158 0 0
                  refine g_iast (hd := dX7_lets_158) (C := hX) 5 1 [(o, .inr (7, [.int (nI len), .ref ot, .ref on, .ref od, .ref ow, .int (nI ch), .int (nI va), .int (nI en), .ref oi, .ref oe, .ref op, .long aE, .long aP, .long lt])), (ot, .inl (cI, 200, .inl (fun j_ => nI (T j_)))), (on, .inl (cI, 78, .inl (fun j_ => nI (c j_)))), (od, .inl (cI, 78, .inl (fun j_ => nI (rd j_)))), (ow, .inl (cI, 468, .inl (fun j_ => nI (ww j_)))), (oi, .inl (cI, 32, .inl (fun j_ => nI ((nup (rvA c wd (some js) (some jt) wi i) i (saS i (((rvA c wd (some js) (some jt) wi i) (c ((6 + (3 * (i - (c 0)))) + 1))) &&& ((rvA c wd (some js) (some jt) wi i) (c ((6 + (3 * (i - (c 0)))) + 2)))) (some js) (some jt))) j_)))), (oe, .inl (cJ, 256, .inr (.inl EX))), (op, .inl (cJ, 256, .inr (.inl PA)))] rfl rfl (by omega) (by decide) (by rw [nup_I]; rfl) ?_
                  refine g_iinc (v := (nI (i + 1))) 4 [(0, .ref o), (1, .int (nI wd)), (2, .int (nI js)), (3, .int (nI jt)), (4, .int (nI (i + 1))), (5, .int (nI (((rvA c wd (some js) (some jt) wi i) (c ((6 + (3 * (i - (c 0)))) + 1))) &&& ((rvA c wd (some js) (some jt) wi i) (c ((6 + (3 * (i - (c 0)))) + 2)))))), (6, .int (nI (6 + (3 * (i - (c 0)))))), (7, .int (nI ((rvA c wd (some js) (some jt) wi i) (c ((6 + (3 * (i - (c 0)))) + 1))))), (8, .int (nI ((rvA c wd (some js) (some jt) wi i) (c ((6 + (3 * (i - (c 0)))) + 2))))), (9, .int (nI (c (6 + (3 * (i - (c 0))))))), (10, .int (nI (((rvA c wd (some js) (some jt) wi i) (c ((6 + (3 * (i - (c 0)))) + 1))) &&& ((rvA c wd (some js) (some jt) wi i) (c ((6 + (3 * (i - (c 0)))) + 2))))))] [1, 2, 3, 4, 0, 5, 6, 7, 8, 9, 10] (hd := dX7_lets_159) (C := hX) rfl (nI_1 _) (by decide) rfl ?_
                  refine g_goto 3 (hd := dX7_lets_162) (C := hX) (by decide) ?_
                  refine g_w [(o, .inr (7, [.int (nI len), .ref ot, .ref on, .ref od, .ref ow, .int (nI ch), .int (nI va), .int (nI en), .ref oi, .ref oe, .ref op, .long aE, .long aP, .long lt])), (ot, .inl (cI, 200, .inl (fun j_ => nI (T j_)))), (on, .inl (cI, 78, .inl (fun j_ => nI (c j_)))), (od, .inl (cI, 78, .inl (fun j_ => nI (rd j_)))), (ow, .inl (cI, 468, .inl (fun j_ => nI (ww j_)))), (oi, .inl (cI, 32, .inl (fun j_ => nI ((rvA c wd (some js) (some jt) wi (i + 1)) j_)))), (oe, .inl (cJ, 256, .inr (.inl EX))), (op, .inl (cJ, 256, .inr (.inl PA)))] (by simp only [rvA, rvX]; rw [if_neg (Nat.not_lt.mpr c_28)]; unfold gvN; rw [if_pos c_129, if_pos c_92]) ?_
                  refine g_lv [(0, .ref o), (1, .int (nI wd)), (2, .int (nI js)), (3, .int (nI jt)), (4, .int (nI (i + 1)))] [0, 1, 2, 3, 4] rfl ?_
                  exact ih_3 (i + 1) (by omega) (by omega)
      refine g_w [(o, .inr (7, [.int (nI len), .ref ot, .ref on, .ref od, .ref ow, .int (nI ch), .int (nI va), .int (nI en), .ref oi, .ref oe, .ref op, .long aE, .long aP, .long lt])), (ot, .inl (cI, 200, .inl (fun j_ => nI (T j_)))), (on, .inl (cI, 78, .inl (fun j_ => nI (c j_)))), (od, .inl (cI, 78, .inl (fun j_ => nI (rd j_)))), (ow, .inl (cI, 468, .inl (fun j_ => nI (ww j_)))), (oi, .inl (cI, 32, .inl (fun j_ => nI ((rvA c wd (some js) (some jt) wi 0) j_)))), (oe, .inl (cJ, 256, .inr (.inl EX))), (op, .inl (cJ, 256, .inr (.inl PA)))] rfl ?_
      exact L_3 _ 0 (Nat.lt_succ_self _) (Nat.zero_le _)
