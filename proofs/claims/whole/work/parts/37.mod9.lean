/-! the reference's edits -/
def kw2 (f : Nat) (ww c : Nat → Nat) (ch : Nat) : Nat → Nat := if f = 1 then kwS ww c ch else ww
def edS (E : Int32 × Nat × (Nat → Nat)) (c : Nat → Nat) (ch : Nat) (ww : Nat → Nat) : Int32 × (Nat → Nat) × Nat × (Nat → Nat) := (E.1, E.2.2, kp2 E.2.1 ch, kw2 E.2.1 ww c ch)
theorem ed_0 (r : Int32) (c : Nat → Nat) (ch : Nat) (ww : Nat → Nat) : edS (r, 0, c) c ch ww = (r, c, ch, ww) := rfl
theorem ed_1 (r : Int32) (c c2 : Nat → Nat) (ch : Nat) (ww : Nat → Nat) : edS (r, 1, c2) c ch ww = (r, c2, kpK ch, kwS ww c ch) := rfl
theorem sg_nup (c : Nat → Nat) (g k x y : Nat) : nup (nup (nup c (6 + 3 * g) k) (6 + 3 * g + 1) x) (6 + 3 * g + 2) y = sgC c g k x y := by
  funext j; unfold nup sgC
  repeat' split
  all_goals first | rfl | omega
noncomputable def buR (c : Nat → Nat) (m : Int32) : Int32 × Nat × (Nat → Nat) := iP (∃ k, 1 ≤ k ∧ k ≤ 4 ∧ m = nI k) (nI (trC (clR c 78) (cl m) 1), 1, trC (clR c 78) (cl m)) ((-1), 0, c)
theorem bu_st (c : Nat → Nat) (m : Nat) : nup (nup (nup (clR c 78) 0 (2 * m)) 3 1) 4 3 = srC (scC (stC (clR c 78) (2 * m)) 3 0) 0 1 := by
  funext j
  by_cases h0 : j = 0
  · subst h0; rfl
  by_cases h1 : j = 1
  · subst h1; exact clR_at c 78 1 (by decide)
  by_cases h2 : j = 2
  · subst h2; exact clR_at c 78 2 (by decide)
  by_cases h3 : j = 3
  · subst h3; rfl
  by_cases h4 : j = 4
  · subst h4; rfl
  by_cases h5 : j = 5
  · subst h5; exact clR_at c 78 5 (by decide)
  rw [nup_ne h4, nup_ne h3, nup_ne h0]
  unfold srC scC stC
  rw [if_neg h2, if_neg h3, if_neg h4, if_neg h5, if_neg h0, if_neg (by omega)]
theorem ag_sr (b : Nat → Nat) (p q k x y : Nat) : agC (srC b p q) k x y = srC (agC b k x y) p q := by
  funext j
  unfold agC sgC srC
  repeat' split
  all_goals first | rfl | omega | (simp_all; done) | skip
theorem sr_sr (b : Nat → Nat) (p q x y : Nat) : nup (nup (srC b p q) 2 x) 3 y = srC b x y := by
  funext j; unfold nup srC
  repeat' split
  all_goals first | rfl | omega
/-- the tree so far, rails and all -/
def trR (B : Nat → Nat) (i : Nat) : Nat → Nat := srC (trS B i).1 (trS B i).2.1 (trS B i).2.2
theorem trR_s (B : Nat → Nat) (i : Nat) : nup (nup (agC (agC (agC (agC (agC (agC (trR B i) 0 (trR B i 2) (2 * (i + 1))) 0 (trR B i 3) (2 * (i + 1) + 1)) 1 (trR B i 0 + trR B i 1) (trR B i 0 + trR B i 1 + 1)) 0 (trR B i 2) (2 * (i + 1) + 1)) 0 (trR B i 3) (2 * (i + 1))) 1 (trR B i 0 + trR B i 1 + 3) (trR B i 0 + trR B i 1 + 4)) 2 (trR B i 0 + trR B i 1 + 2)) 3 (trR B i 0 + trR B i 1 + 5) = trR B (i + 1) := by
  have e2 : trR B i 2 = (trS B i).2.1 := rfl
  have e3 : trR B i 3 = (trS B i).2.2 := rfl
  have e0 : trR B i 0 = (trS B i).1 0 := rfl
  have e1 : trR B i 1 = (trS B i).1 1 := rfl
  rw [e2, e3, e0, e1]
  unfold trR
  rw [ag_sr, ag_sr, ag_sr, ag_sr, ag_sr, ag_sr, sr_sr]
  simp only [trS, crC, agC_0, agC_1]
  rw [show (trS B i).1 0 + ((trS B i).1 1 + 1 + 1 + 1) = (trS B i).1 0 + (trS B i).1 1 + 3 by omega, show (trS B i).1 0 + (trS B i).1 1 + 3 + 1 = (trS B i).1 0 + (trS B i).1 1 + 4 by omega, show (trS B i).1 0 + (trS B i).1 1 + 3 + 2 = (trS B i).1 0 + (trS B i).1 1 + 5 by omega]
theorem trR_1 (c : Nat → Nat) (m i : Nat) : trR (scC (stC (clR c 78) (2 * m)) 3 0) i 1 = 6 * i := by
  show (trS _ i).1 1 = _
  rw [trS_1]
  show 0 + 6 * i = _
  omega
theorem trR_0 (c : Nat → Nat) (m i : Nat) : trR (scC (stC (clR c 78) (2 * m)) 3 0) i 0 = 2 * m := trS_0 _ i

theorem in_X7_gate_7 : ∀ w ∈ wsX70, w ∈ wsX7_gate := fun _ h => List.mem_cons_of_mem _ (List.mem_append_right _ h)
theorem ok_X7_gate : gOK yX7_gate wsX7_gate ({ frames := 2, cells := 0, slots := 0, locals := 43 }) 7 4 := ⟨⟨_, _, _, rfl⟩, rfl, rfl, by decide, by decide, by decide +kernel⟩
set_option maxRecDepth 100000 in
set_option maxHeartbeats 4000000 in
theorem c_X7_gate (l : Launch) (D : va_G) (cC cI cJ cO : ClassId) (o : Nat) (ot : Nat) (on : Nat) (od : Nat) (ow : Nat) (oi : Nat) (oe : Nat) (op : Nat) (len : Nat) (ch : Nat) (va : Nat) (en : Nat) (aE : Int64) (aP : Int64) (lt : Int64) (T : Nat → Nat) (c : Nat → Nat) (rd : Nat → Nat) (ww : Nat → Nat) (wi : Nat → Nat) (EX : Nat → Int64) (PA : Nat → Int64) (g : Int32) (kd : Int32) (x : Int32) (y : Int32) (hok : okC c) (hch : ch ≤ 6) : CM (S := Int32 × (Nat → Nat) × Nat × (Nat → Nat)) l D (tyL cC cI cJ cO) yX7_gate wsX7_gate ({ frames := 2, cells := 0, slots := 0, locals := 43 }) [.ref o, .int g, .int kd, .int x, .int y] [(o, .inr (7, [.int (nI len), .ref ot, .ref on, .ref od, .ref ow, .int (nI ch), .int (nI va), .int (nI en), .ref oi, .ref oe, .ref op, .long aE, .long aP, .long lt])), (ot, .inl (cI, 200, .inl (fun j_ => nI (T j_)))), (on, .inl (cI, 78, .inl (fun j_ => nI (c j_)))), (od, .inl (cI, 78, .inl (fun j_ => nI (rd j_)))), (ow, .inl (cI, 468, .inl (fun j_ => nI (ww j_)))), (oi, .inl (cI, 32, .inl (fun j_ => nI (wi j_)))), (oe, .inl (cJ, 256, .inr (.inl EX))), (op, .inl (cJ, 256, .inr (.inl PA)))] (fun u => some (.int u.1)) (fun u => u = edS (gtS c g kd x y) c ch ww) (fun u_ => [(o, .inr (7, [.int (nI len), .ref ot, .ref on, .ref od, .ref ow, .int (nI u_.2.2.1), .int (nI va), .int (nI en), .ref oi, .ref oe, .ref op, .long aE, .long aP, .long lt])), (ot, .inl (cI, 200, .inl (fun j_ => nI (T j_)))), (on, .inl (cI, 78, .inl (fun j_ => nI (u_.2.1 j_)))), (od, .inl (cI, 78, .inl (fun j_ => nI (rd j_)))), (ow, .inl (cI, 468, .inl (fun j_ => nI (u_.2.2.2 j_)))), (oi, .inl (cI, 32, .inl (fun j_ => nI (wi j_)))), (oe, .inl (cJ, 256, .inr (.inl EX))), (op, .inl (cJ, 256, .inr (.inl PA)))]) := by
  refine CM_in (cc := cX7_gate) (maxL := 7) (ret := (some .int)) (by decide) rfl (Nat.le_of_ble_eq_true rfl) ?_
  intro X hX hret
  show GW X [(o, .inr (7, [.int (nI len), .ref ot, .ref on, .ref od, .ref ow, .int (nI ch), .int (nI va), .int (nI en), .ref oi, .ref oe, .ref op, .long aE, .long aP, .long lt])), (ot, .inl (cI, 200, .inl (fun j_ => nI (T j_)))), (on, .inl (cI, 78, .inl (fun j_ => nI (c j_)))), (od, .inl (cI, 78, .inl (fun j_ => nI (rd j_)))), (ow, .inl (cI, 468, .inl (fun j_ => nI (ww j_)))), (oi, .inl (cI, 32, .inl (fun j_ => nI (wi j_)))), (oe, .inl (cJ, 256, .inr (.inl EX))), (op, .inl (cJ, 256, .inr (.inl PA)))] [(0, .ref o), (1, .int g), (2, .int kd), (3, .int x), (4, .int y)] [] 0 0 0
  have b0 := hok.2.1
  have b1 := hok.2.2.1
  have hp2 := p2_8 b0
  have hcd := hok.2.2.2.2.2.1
  have g_2 := hok.2.2.2.1
  have g_3 := hok.2.2.2.2.1
  refine g_aload_n 0 (hd := dX7_gate_0) (C := hX) rfl rfl ?_
  refine g_iload_n 1 (hd := dX7_gate_1) (C := hX) rfl rfl ?_
  refine g_callVs (rest := []) hX (c_X7_isGate l D cC cI cJ cO o ot on od ow oi oe op len ch va en aE aP lt T c rd ww wi EX PA g b0 b1) ok_X7_isGate rfl 0 rfl rfl (hd := dX7_gate_2) gX7_gate_X7_isGate ⟨by decide, by decide⟩ rfl (Nat.le_of_ble_eq_true rfl) ⟨Nat.zero_le _, Nat.zero_le _⟩ [0, 1, 2, 3, 4, 5, 6, 7] (by decide) rfl rfl ?_
  intro r_2 e_2
  rcases e_2 with ⟨rfl, p_2⟩ | ⟨rfl, p_2⟩
  · show GW X [(o, .inr (7, [.int (nI len), .ref ot, .ref on, .ref od, .ref ow, .int (nI ch), .int (nI va), .int (nI en), .ref oi, .ref oe, .ref op, .long aE, .long aP, .long lt])), (ot, .inl (cI, 200, .inl (fun j_ => nI (T j_)))), (on, .inl (cI, 78, .inl (fun j_ => nI (c j_)))), (od, .inl (cI, 78, .inl (fun j_ => nI (rd j_)))), (ow, .inl (cI, 468, .inl (fun j_ => nI (ww j_)))), (oi, .inl (cI, 32, .inl (fun j_ => nI (wi j_)))), (oe, .inl (cJ, 256, .inr (.inl EX))), (op, .inl (cJ, 256, .inr (.inl PA)))] [(0, .ref o), (1, .int g), (2, .int kd), (3, .int x), (4, .int y)] [.int (nI 1)] 5 0 0
    refine g_if_eqN 54 (hd := dX7_gate_5) (C := hX) (by decide) (by decide) (fun c_5 => absurd c_5 (by decide)) (fun c_5 => ?_)
    obtain ⟨jg, hjg, rfl⟩ := vp_in_of p_2 (by omega)
    refine g_iload_n 2 (hd := dX7_gate_8) (C := hX) rfl rfl ?_
    refine g_iconst (v := nI 0) hX dX7_gate_9 (by decide) ?_
    refine g_iconst (v := nI 5) hX dX7_gate_10 (by decide) ?_
    refine g_callS (rest := []) hX (c_X7_isIn l D cC cI cJ cO kd (nI 0) (nI 5)) ok_X7_isIn (fun _ => rfl) (hd := dX7_gate_11) gX7_gate_X7_isIn ⟨by decide, by decide⟩ rfl (Nat.le_of_ble_eq_true rfl) ⟨Nat.zero_le _, Nat.zero_le _⟩ [] (by decide) rfl rfl ?_
    intro r_11 e_11
    rcases e_11 with ⟨rfl, p_11⟩ | ⟨rfl, p_11⟩
    · show GW X [(o, .inr (7, [.int (nI len), .ref ot, .ref on, .ref od, .ref ow, .int (nI ch), .int (nI va), .int (nI en), .ref oi, .ref oe, .ref op, .long aE, .long aP, .long lt])), (ot, .inl (cI, 200, .inl (fun j_ => nI (T j_)))), (on, .inl (cI, 78, .inl (fun j_ => nI (c j_)))), (od, .inl (cI, 78, .inl (fun j_ => nI (rd j_)))), (ow, .inl (cI, 468, .inl (fun j_ => nI (ww j_)))), (oi, .inl (cI, 32, .inl (fun j_ => nI (wi j_)))), (oe, .inl (cJ, 256, .inr (.inl EX))), (op, .inl (cJ, 256, .inr (.inl PA)))] [(0, .ref o), (1, .int (nI jg)), (2, .int kd), (3, .int x), (4, .int y)] [.int (nI 1)] 14 0 0
      refine g_if_eqN 54 (hd := dX7_gate_14) (C := hX) (by decide) (by decide) (fun c_14 => absurd c_14 (by decide)) (fun c_14 => ?_)
      refine g_iload_n 3 (hd := dX7_gate_17) (C := hX) rfl rfl ?_
      refine g_iconst (v := nI 0) hX dX7_gate_18 (by decide) ?_
      refine g_aload_n 0 (hd := dX7_gate_19) (C := hX) rfl rfl ?_
      refine g_get (hd := dX7_gate_20) (C := hX) 0 2 rfl rfl in_X7_gate_7 (by decide) (by decide +kernel) rfl ?_
      refine g_iconst (v := nI 0) hX dX7_gate_23 (by decide) ?_
      refine g_iald (hd := dX7_gate_24) (C := hX) 2 1 rfl rfl (by omega) (by decide) ?_
      refine g_iload_n 1 (hd := dX7_gate_25) (C := hX) rfl rfl ?_
      refine g_iadd hX dX7_gate_26 ?_
      refine g_top (y := (nI ((c 0) + jg))) (nI_add _ _) ?_
      refine g_iconst (v := nI 1) hX dX7_gate_27 (by decide) ?_
      refine g_isub hX dX7_gate_28 ?_
      refine g_callS (rest := []) hX (c_X7_isIn l D cC cI cJ cO x (nI 0) ((nI ((c 0) + jg)) - (nI 1))) ok_X7_isIn (fun _ => rfl) (hd := dX7_gate_29) gX7_gate_X7_isIn ⟨by decide, by decide⟩ rfl (Nat.le_of_ble_eq_true rfl) ⟨Nat.zero_le _, Nat.zero_le _⟩ [] (by decide) rfl rfl ?_
      intro r_29 e_29
      rcases e_29 with ⟨rfl, p_29⟩ | ⟨rfl, p_29⟩
      · show GW X [(o, .inr (7, [.int (nI len), .ref ot, .ref on, .ref od, .ref ow, .int (nI ch), .int (nI va), .int (nI en), .ref oi, .ref oe, .ref op, .long aE, .long aP, .long lt])), (ot, .inl (cI, 200, .inl (fun j_ => nI (T j_)))), (on, .inl (cI, 78, .inl (fun j_ => nI (c j_)))), (od, .inl (cI, 78, .inl (fun j_ => nI (rd j_)))), (ow, .inl (cI, 468, .inl (fun j_ => nI (ww j_)))), (oi, .inl (cI, 32, .inl (fun j_ => nI (wi j_)))), (oe, .inl (cJ, 256, .inr (.inl EX))), (op, .inl (cJ, 256, .inr (.inl PA)))] [(0, .ref o), (1, .int (nI jg)), (2, .int kd), (3, .int x), (4, .int y)] [.int (nI 1)] 32 0 0
        refine g_if_eqN 54 (hd := dX7_gate_32) (C := hX) (by decide) (by decide) (fun c_32 => absurd c_32 (by decide)) (fun c_32 => ?_)
        refine g_iload 4 (hd := dX7_gate_35) (C := hX) rfl ?_
        refine g_iconst (v := nI 0) hX dX7_gate_37 (by decide) ?_
        refine g_aload_n 0 (hd := dX7_gate_38) (C := hX) rfl rfl ?_
        refine g_get (hd := dX7_gate_39) (C := hX) 0 2 rfl rfl in_X7_gate_7 (by decide) (by decide +kernel) rfl ?_
        refine g_iconst (v := nI 0) hX dX7_gate_42 (by decide) ?_
        refine g_iald (hd := dX7_gate_43) (C := hX) 2 1 rfl rfl (by omega) (by decide) ?_
        refine g_iload_n 1 (hd := dX7_gate_44) (C := hX) rfl rfl ?_
        refine g_iadd hX dX7_gate_45 ?_
        refine g_top (y := (nI ((c 0) + jg))) (nI_add _ _) ?_
        refine g_iconst (v := nI 1) hX dX7_gate_46 (by decide) ?_
        refine g_isub hX dX7_gate_47 ?_
        refine g_callS (rest := []) hX (c_X7_isIn l D cC cI cJ cO y (nI 0) ((nI ((c 0) + jg)) - (nI 1))) ok_X7_isIn (fun _ => rfl) (hd := dX7_gate_48) gX7_gate_X7_isIn ⟨by decide, by decide⟩ rfl (Nat.le_of_ble_eq_true rfl) ⟨Nat.zero_le _, Nat.zero_le _⟩ [] (by decide) rfl rfl ?_
        intro r_48 e_48
        rcases e_48 with ⟨rfl, p_48⟩ | ⟨rfl, p_48⟩
        · show GW X [(o, .inr (7, [.int (nI len), .ref ot, .ref on, .ref od, .ref ow, .int (nI ch), .int (nI va), .int (nI en), .ref oi, .ref oe, .ref op, .long aE, .long aP, .long lt])), (ot, .inl (cI, 200, .inl (fun j_ => nI (T j_)))), (on, .inl (cI, 78, .inl (fun j_ => nI (c j_)))), (od, .inl (cI, 78, .inl (fun j_ => nI (rd j_)))), (ow, .inl (cI, 468, .inl (fun j_ => nI (ww j_)))), (oi, .inl (cI, 32, .inl (fun j_ => nI (wi j_)))), (oe, .inl (cJ, 256, .inr (.inl EX))), (op, .inl (cJ, 256, .inr (.inl PA)))] [(0, .ref o), (1, .int (nI jg)), (2, .int kd), (3, .int x), (4, .int y)] [.int (nI 1)] 51 0 0
          refine g_if_neN 56 (hd := dX7_gate_51) (C := hX) (by decide) (by decide) (fun c_51 => ?_) (fun c_51 => absurd c_51 (by decide))
          obtain ⟨jk, hjk, rfl⟩ := ii_nat (by decide) p_11
          have w3 := (ii_vp (by omega)).mp p_29
          have w4 := (ii_vp (by omega)).mp p_48
          obtain ⟨jx, hjx, rfl⟩ := vp_in_of w3 (by omega)
          obtain ⟨jy, hjy, rfl⟩ := vp_in_of w4 (by omega)
          have hq := hok.2.2.2.2.2.2 jg hjg
          have hq1 : c (6 + 3 * jg + 1) < c 0 + jg := by rw [show 6 + 3 * jg + 1 = 7 + 3 * jg from by omega]; exact hq.2.1
          have hq2 : c (6 + 3 * jg + 2) < c 0 + jg := by rw [show 6 + 3 * jg + 2 = 8 + 3 * jg from by omega]; exact hq.2.2
          refine g_bipush (v := nI 6) hX dX7_gate_56 (by decide) ?_
          refine g_iconst (v := nI 3) hX dX7_gate_58 (by decide) ?_
          refine g_iload_n 1 (hd := dX7_gate_59) (C := hX) rfl rfl ?_
          refine g_imul hX dX7_gate_60 ?_
          refine g_top (y := (nI (3 * jg))) (pk_mul _ _) ?_
          refine g_iadd hX dX7_gate_61 ?_
          refine g_top (y := (nI (6 + (3 * jg)))) (nI_add _ _) ?_
          refine g_istore [(0, .ref o), (1, .int (nI jg)), (2, .int (nI jk)), (3, .int (nI jx)), (4, .int (nI jy)), (5, .int (nI (6 + (3 * jg))))] [1, 2, 3, 4, 5, 0] (hd := dX7_gate_62) (C := hX) (by decide) rfl ?_
          refine g_aload_n 0 (hd := dX7_gate_64) (C := hX) rfl rfl ?_
          refine g_get (hd := dX7_gate_65) (C := hX) 0 2 rfl rfl in_X7_gate_7 (by decide) (by decide +kernel) rfl ?_
          refine g_iload 5 (hd := dX7_gate_68) (C := hX) rfl ?_
          refine g_iald (hd := dX7_gate_70) (C := hX) 2 1 rfl rfl (by omega) (by decide) ?_
          refine g_istore [(0, .ref o), (1, .int (nI jg)), (2, .int (nI jk)), (3, .int (nI jx)), (4, .int (nI jy)), (5, .int (nI (6 + (3 * jg)))), (6, .int (nI (c (6 + (3 * jg)))))] [1, 2, 3, 4, 5, 6, 0] (hd := dX7_gate_71) (C := hX) (by decide) rfl ?_
          refine g_iload 6 (hd := dX7_gate_73) (C := hX) rfl ?_
          refine g_iload_n 2 (hd := dX7_gate_75) (C := hX) rfl rfl ?_
          refine g_icmp_neN 109 (hd := dX7_gate_76) (C := hX) (by decide) (by omega) (by omega) (fun c_76 => ?_) (fun c_76 => ?_)
          · refine g_aload_n 0 (hd := dX7_gate_109) (C := hX) rfl rfl ?_
            refine g_callVp (rest := []) hX (c_X7_keeps l D cC cI cJ cO o ot on od ow oi oe op len ch va en aE aP lt T c rd ww wi EX PA hch) ok_X7_keeps rfl 0 rfl rfl (fun _ => rfl) (hd := dX7_gate_110) gX7_gate_X7_keeps ⟨by decide, by decide⟩ rfl (Nat.le_of_ble_eq_true rfl) ⟨Nat.zero_le _, Nat.zero_le _⟩ [] rfl rfl ?_
            intro _u110 _p110
            show GW X [(o, .inr (7, [.int (nI len), .ref ot, .ref on, .ref od, .ref ow, .int (nI (kpK ch)), .int (nI va), .int (nI en), .ref oi, .ref oe, .ref op, .long aE, .long aP, .long lt])), (ot, .inl (cI, 200, .inl (fun j_ => nI (T j_)))), (on, .inl (cI, 78, .inl (fun j_ => nI (c j_)))), (od, .inl (cI, 78, .inl (fun j_ => nI (rd j_)))), (ow, .inl (cI, 468, .inl (fun j_ => nI ((kwS ww c ch) j_)))), (oi, .inl (cI, 32, .inl (fun j_ => nI (wi j_)))), (oe, .inl (cJ, 256, .inr (.inl EX))), (op, .inl (cJ, 256, .inr (.inl PA)))] [(0, .ref o), (1, .int (nI jg)), (2, .int (nI jk)), (3, .int (nI jx)), (4, .int (nI jy)), (5, .int (nI (6 + (3 * jg)))), (6, .int (nI (c (6 + (3 * jg)))))] [] 113 0 0
            refine g_aload_n 0 (hd := dX7_gate_113) (C := hX) rfl rfl ?_
            refine g_get (hd := dX7_gate_114) (C := hX) 0 2 rfl rfl in_X7_gate_7 (by decide) (by decide +kernel) rfl ?_
            refine g_iload 5 (hd := dX7_gate_117) (C := hX) rfl ?_
            refine g_iload_n 2 (hd := dX7_gate_119) (C := hX) rfl rfl ?_
            refine g_iast (hd := dX7_gate_120) (C := hX) 2 1 [(o, .inr (7, [.int (nI len), .ref ot, .ref on, .ref od, .ref ow, .int (nI (kpK ch)), .int (nI va), .int (nI en), .ref oi, .ref oe, .ref op, .long aE, .long aP, .long lt])), (ot, .inl (cI, 200, .inl (fun j_ => nI (T j_)))), (on, .inl (cI, 78, .inl (fun j_ => nI ((nup c (6 + (3 * jg)) jk) j_)))), (od, .inl (cI, 78, .inl (fun j_ => nI (rd j_)))), (ow, .inl (cI, 468, .inl (fun j_ => nI ((kwS ww c ch) j_)))), (oi, .inl (cI, 32, .inl (fun j_ => nI (wi j_)))), (oe, .inl (cJ, 256, .inr (.inl EX))), (op, .inl (cJ, 256, .inr (.inl PA)))] rfl rfl (by omega) (by decide) (by rw [nup_I]; rfl) ?_
            refine g_aload_n 0 (hd := dX7_gate_121) (C := hX) rfl rfl ?_
            refine g_get (hd := dX7_gate_122) (C := hX) 0 2 rfl rfl in_X7_gate_7 (by decide) (by decide +kernel) rfl ?_
            refine g_iload 5 (hd := dX7_gate_125) (C := hX) rfl ?_
            refine g_iconst (v := nI 1) hX dX7_gate_127 (by decide) ?_
            refine g_iadd hX dX7_gate_128 ?_
            refine g_top (y := (nI ((6 + (3 * jg)) + 1))) (nI_add _ _) ?_
            refine g_iload_n 3 (hd := dX7_gate_129) (C := hX) rfl rfl ?_
            refine g_iast (hd := dX7_gate_130) (C := hX) 2 1 [(o, .inr (7, [.int (nI len), .ref ot, .ref on, .ref od, .ref ow, .int (nI (kpK ch)), .int (nI va), .int (nI en), .ref oi, .ref oe, .ref op, .long aE, .long aP, .long lt])), (ot, .inl (cI, 200, .inl (fun j_ => nI (T j_)))), (on, .inl (cI, 78, .inl (fun j_ => nI ((nup (nup c (6 + (3 * jg)) jk) ((6 + (3 * jg)) + 1) jx) j_)))), (od, .inl (cI, 78, .inl (fun j_ => nI (rd j_)))), (ow, .inl (cI, 468, .inl (fun j_ => nI ((kwS ww c ch) j_)))), (oi, .inl (cI, 32, .inl (fun j_ => nI (wi j_)))), (oe, .inl (cJ, 256, .inr (.inl EX))), (op, .inl (cJ, 256, .inr (.inl PA)))] rfl rfl (by omega) (by decide) (by rw [nup_I]; rfl) ?_
            refine g_aload_n 0 (hd := dX7_gate_131) (C := hX) rfl rfl ?_
            refine g_get (hd := dX7_gate_132) (C := hX) 0 2 rfl rfl in_X7_gate_7 (by decide) (by decide +kernel) rfl ?_
            refine g_iload 5 (hd := dX7_gate_135) (C := hX) rfl ?_
            refine g_iconst (v := nI 2) hX dX7_gate_137 (by decide) ?_
            refine g_iadd hX dX7_gate_138 ?_
            refine g_top (y := (nI ((6 + (3 * jg)) + 2))) (nI_add _ _) ?_
            refine g_iload 4 (hd := dX7_gate_139) (C := hX) rfl ?_
            refine g_iast (hd := dX7_gate_141) (C := hX) 2 1 [(o, .inr (7, [.int (nI len), .ref ot, .ref on, .ref od, .ref ow, .int (nI (kpK ch)), .int (nI va), .int (nI en), .ref oi, .ref oe, .ref op, .long aE, .long aP, .long lt])), (ot, .inl (cI, 200, .inl (fun j_ => nI (T j_)))), (on, .inl (cI, 78, .inl (fun j_ => nI ((nup (nup (nup c (6 + (3 * jg)) jk) ((6 + (3 * jg)) + 1) jx) ((6 + (3 * jg)) + 2) jy) j_)))), (od, .inl (cI, 78, .inl (fun j_ => nI (rd j_)))), (ow, .inl (cI, 468, .inl (fun j_ => nI ((kwS ww c ch) j_)))), (oi, .inl (cI, 32, .inl (fun j_ => nI (wi j_)))), (oe, .inl (cJ, 256, .inr (.inl EX))), (op, .inl (cJ, 256, .inr (.inl PA)))] rfl rfl (by omega) (by decide) (by rw [nup_I]; rfl) ?_
            refine g_iload 6 (hd := dX7_gate_142) (C := hX) rfl ?_
            exact (hret ((nI (c (6 + (3 * jg)))), nup (nup (nup c (6 + (3 * jg)) jk) ((6 + (3 * jg)) + 1) jx) ((6 + (3 * jg)) + 2) jy, kpK ch, (kwS ww c ch)) _ _ (by unfold gtS; rw [iP_y ⟨p_2, (ii_k (by decide)).mp p_11, by rw [cl_nI (by omega)]; exact w3, by rw [cl_nI (by omega)]; exact w4⟩, cl_nI (by omega), cl_nI (by omega), cl_nI (by omega), cl_nI (by omega), if_neg (fun z => c_76 z.1), ed_1, sg_nup])).2.1 _ rfl rfl dX7_gate_144
          · refine g_aload_n 0 (hd := dX7_gate_79) (C := hX) rfl rfl ?_
            refine g_get (hd := dX7_gate_80) (C := hX) 0 2 rfl rfl in_X7_gate_7 (by decide) (by decide +kernel) rfl ?_
            refine g_iload 5 (hd := dX7_gate_83) (C := hX) rfl ?_
            refine g_iconst (v := nI 1) hX dX7_gate_85 (by decide) ?_
            refine g_iadd hX dX7_gate_86 ?_
            refine g_top (y := (nI ((6 + (3 * jg)) + 1))) (nI_add _ _) ?_
            refine g_iald (hd := dX7_gate_87) (C := hX) 2 1 rfl rfl (by omega) (by decide) ?_
            refine g_iload_n 3 (hd := dX7_gate_88) (C := hX) rfl rfl ?_
            refine g_icmp_neN 109 (hd := dX7_gate_89) (C := hX) (by decide) (by omega) (by omega) (fun c_89 => ?_) (fun c_89 => ?_)
            · refine g_aload_n 0 (hd := dX7_gate_109) (C := hX) rfl rfl ?_
              refine g_callVp (rest := []) hX (c_X7_keeps l D cC cI cJ cO o ot on od ow oi oe op len ch va en aE aP lt T c rd ww wi EX PA hch) ok_X7_keeps rfl 0 rfl rfl (fun _ => rfl) (hd := dX7_gate_110) gX7_gate_X7_keeps ⟨by decide, by decide⟩ rfl (Nat.le_of_ble_eq_true rfl) ⟨Nat.zero_le _, Nat.zero_le _⟩ [] rfl rfl ?_
              intro _u110 _p110
              show GW X [(o, .inr (7, [.int (nI len), .ref ot, .ref on, .ref od, .ref ow, .int (nI (kpK ch)), .int (nI va), .int (nI en), .ref oi, .ref oe, .ref op, .long aE, .long aP, .long lt])), (ot, .inl (cI, 200, .inl (fun j_ => nI (T j_)))), (on, .inl (cI, 78, .inl (fun j_ => nI (c j_)))), (od, .inl (cI, 78, .inl (fun j_ => nI (rd j_)))), (ow, .inl (cI, 468, .inl (fun j_ => nI ((kwS ww c ch) j_)))), (oi, .inl (cI, 32, .inl (fun j_ => nI (wi j_)))), (oe, .inl (cJ, 256, .inr (.inl EX))), (op, .inl (cJ, 256, .inr (.inl PA)))] [(0, .ref o), (1, .int (nI jg)), (2, .int (nI jk)), (3, .int (nI jx)), (4, .int (nI jy)), (5, .int (nI (6 + (3 * jg)))), (6, .int (nI (c (6 + (3 * jg)))))] [] 113 0 0
              refine g_aload_n 0 (hd := dX7_gate_113) (C := hX) rfl rfl ?_
              refine g_get (hd := dX7_gate_114) (C := hX) 0 2 rfl rfl in_X7_gate_7 (by decide) (by decide +kernel) rfl ?_
              refine g_iload 5 (hd := dX7_gate_117) (C := hX) rfl ?_
              refine g_iload_n 2 (hd := dX7_gate_119) (C := hX) rfl rfl ?_
              refine g_iast (hd := dX7_gate_120) (C := hX) 2 1 [(o, .inr (7, [.int (nI len), .ref ot, .ref on, .ref od, .ref ow, .int (nI (kpK ch)), .int (nI va), .int (nI en), .ref oi, .ref oe, .ref op, .long aE, .long aP, .long lt])), (ot, .inl (cI, 200, .inl (fun j_ => nI (T j_)))), (on, .inl (cI, 78, .inl (fun j_ => nI ((nup c (6 + (3 * jg)) jk) j_)))), (od, .inl (cI, 78, .inl (fun j_ => nI (rd j_)))), (ow, .inl (cI, 468, .inl (fun j_ => nI ((kwS ww c ch) j_)))), (oi, .inl (cI, 32, .inl (fun j_ => nI (wi j_)))), (oe, .inl (cJ, 256, .inr (.inl EX))), (op, .inl (cJ, 256, .inr (.inl PA)))] rfl rfl (by omega) (by decide) (by rw [nup_I]; rfl) ?_
              refine g_aload_n 0 (hd := dX7_gate_121) (C := hX) rfl rfl ?_
              refine g_get (hd := dX7_gate_122) (C := hX) 0 2 rfl rfl in_X7_gate_7 (by decide) (by decide +kernel) rfl ?_
              refine g_iload 5 (hd := dX7_gate_125) (C := hX) rfl ?_
              refine g_iconst (v := nI 1) hX dX7_gate_127 (by decide) ?_
              refine g_iadd hX dX7_gate_128 ?_
              refine g_top (y := (nI ((6 + (3 * jg)) + 1))) (nI_add _ _) ?_
              refine g_iload_n 3 (hd := dX7_gate_129) (C := hX) rfl rfl ?_
              refine g_iast (hd := dX7_gate_130) (C := hX) 2 1 [(o, .inr (7, [.int (nI len), .ref ot, .ref on, .ref od, .ref ow, .int (nI (kpK ch)), .int (nI va), .int (nI en), .ref oi, .ref oe, .ref op, .long aE, .long aP, .long lt])), (ot, .inl (cI, 200, .inl (fun j_ => nI (T j_)))), (on, .inl (cI, 78, .inl (fun j_ => nI ((nup (nup c (6 + (3 * jg)) jk) ((6 + (3 * jg)) + 1) jx) j_)))), (od, .inl (cI, 78, .inl (fun j_ => nI (rd j_)))), (ow, .inl (cI, 468, .inl (fun j_ => nI ((kwS ww c ch) j_)))), (oi, .inl (cI, 32, .inl (fun j_ => nI (wi j_)))), (oe, .inl (cJ, 256, .inr (.inl EX))), (op, .inl (cJ, 256, .inr (.inl PA)))] rfl rfl (by omega) (by decide) (by rw [nup_I]; rfl) ?_
              refine g_aload_n 0 (hd := dX7_gate_131) (C := hX) rfl rfl ?_
              refine g_get (hd := dX7_gate_132) (C := hX) 0 2 rfl rfl in_X7_gate_7 (by decide) (by decide +kernel) rfl ?_
              refine g_iload 5 (hd := dX7_gate_135) (C := hX) rfl ?_
              refine g_iconst (v := nI 2) hX dX7_gate_137 (by decide) ?_
              refine g_iadd hX dX7_gate_138 ?_
              refine g_top (y := (nI ((6 + (3 * jg)) + 2))) (nI_add _ _) ?_
              refine g_iload 4 (hd := dX7_gate_139) (C := hX) rfl ?_
              refine g_iast (hd := dX7_gate_141) (C := hX) 2 1 [(o, .inr (7, [.int (nI len), .ref ot, .ref on, .ref od, .ref ow, .int (nI (kpK ch)), .int (nI va), .int (nI en), .ref oi, .ref oe, .ref op, .long aE, .long aP, .long lt])), (ot, .inl (cI, 200, .inl (fun j_ => nI (T j_)))), (on, .inl (cI, 78, .inl (fun j_ => nI ((nup (nup (nup c (6 + (3 * jg)) jk) ((6 + (3 * jg)) + 1) jx) ((6 + (3 * jg)) + 2) jy) j_)))), (od, .inl (cI, 78, .inl (fun j_ => nI (rd j_)))), (ow, .inl (cI, 468, .inl (fun j_ => nI ((kwS ww c ch) j_)))), (oi, .inl (cI, 32, .inl (fun j_ => nI (wi j_)))), (oe, .inl (cJ, 256, .inr (.inl EX))), (op, .inl (cJ, 256, .inr (.inl PA)))] rfl rfl (by omega) (by decide) (by rw [nup_I]; rfl) ?_
              refine g_iload 6 (hd := dX7_gate_142) (C := hX) rfl ?_
              exact (hret ((nI (c (6 + (3 * jg)))), nup (nup (nup c (6 + (3 * jg)) jk) ((6 + (3 * jg)) + 1) jx) ((6 + (3 * jg)) + 2) jy, kpK ch, (kwS ww c ch)) _ _ (by unfold gtS; rw [iP_y ⟨p_2, (ii_k (by decide)).mp p_11, by rw [cl_nI (by omega)]; exact w3, by rw [cl_nI (by omega)]; exact w4⟩, cl_nI (by omega), cl_nI (by omega), cl_nI (by omega), cl_nI (by omega), if_neg (fun z => c_89 (by have q := z.2.1; rw [show 7 + 3 * jg = 6 + 3 * jg + 1 from by omega] at q; exact q)), ed_1, sg_nup])).2.1 _ rfl rfl dX7_gate_144
            · refine g_aload_n 0 (hd := dX7_gate_92) (C := hX) rfl rfl ?_
              refine g_get (hd := dX7_gate_93) (C := hX) 0 2 rfl rfl in_X7_gate_7 (by decide) (by decide +kernel) rfl ?_
              refine g_iload 5 (hd := dX7_gate_96) (C := hX) rfl ?_
              refine g_iconst (v := nI 2) hX dX7_gate_98 (by decide) ?_
              refine g_iadd hX dX7_gate_99 ?_
              refine g_top (y := (nI ((6 + (3 * jg)) + 2))) (nI_add _ _) ?_
              refine g_iald (hd := dX7_gate_100) (C := hX) 2 1 rfl rfl (by omega) (by decide) ?_
              refine g_iload 4 (hd := dX7_gate_101) (C := hX) rfl ?_
              refine g_icmp_neN 109 (hd := dX7_gate_103) (C := hX) (by decide) (by omega) (by omega) (fun c_103 => ?_) (fun c_103 => ?_)
              · refine g_aload_n 0 (hd := dX7_gate_109) (C := hX) rfl rfl ?_
                refine g_callVp (rest := []) hX (c_X7_keeps l D cC cI cJ cO o ot on od ow oi oe op len ch va en aE aP lt T c rd ww wi EX PA hch) ok_X7_keeps rfl 0 rfl rfl (fun _ => rfl) (hd := dX7_gate_110) gX7_gate_X7_keeps ⟨by decide, by decide⟩ rfl (Nat.le_of_ble_eq_true rfl) ⟨Nat.zero_le _, Nat.zero_le _⟩ [] rfl rfl ?_
                intro _u110 _p110
                show GW X [(o, .inr (7, [.int (nI len), .ref ot, .ref on, .ref od, .ref ow, .int (nI (kpK ch)), .int (nI va), .int (nI en), .ref oi, .ref oe, .ref op, .long aE, .long aP, .long lt])), (ot, .inl (cI, 200, .inl (fun j_ => nI (T j_)))), (on, .inl (cI, 78, .inl (fun j_ => nI (c j_)))), (od, .inl (cI, 78, .inl (fun j_ => nI (rd j_)))), (ow, .inl (cI, 468, .inl (fun j_ => nI ((kwS ww c ch) j_)))), (oi, .inl (cI, 32, .inl (fun j_ => nI (wi j_)))), (oe, .inl (cJ, 256, .inr (.inl EX))), (op, .inl (cJ, 256, .inr (.inl PA)))] [(0, .ref o), (1, .int (nI jg)), (2, .int (nI jk)), (3, .int (nI jx)), (4, .int (nI jy)), (5, .int (nI (6 + (3 * jg)))), (6, .int (nI (c (6 + (3 * jg)))))] [] 113 0 0
                refine g_aload_n 0 (hd := dX7_gate_113) (C := hX) rfl rfl ?_
                refine g_get (hd := dX7_gate_114) (C := hX) 0 2 rfl rfl in_X7_gate_7 (by decide) (by decide +kernel) rfl ?_
                refine g_iload 5 (hd := dX7_gate_117) (C := hX) rfl ?_
                refine g_iload_n 2 (hd := dX7_gate_119) (C := hX) rfl rfl ?_
                refine g_iast (hd := dX7_gate_120) (C := hX) 2 1 [(o, .inr (7, [.int (nI len), .ref ot, .ref on, .ref od, .ref ow, .int (nI (kpK ch)), .int (nI va), .int (nI en), .ref oi, .ref oe, .ref op, .long aE, .long aP, .long lt])), (ot, .inl (cI, 200, .inl (fun j_ => nI (T j_)))), (on, .inl (cI, 78, .inl (fun j_ => nI ((nup c (6 + (3 * jg)) jk) j_)))), (od, .inl (cI, 78, .inl (fun j_ => nI (rd j_)))), (ow, .inl (cI, 468, .inl (fun j_ => nI ((kwS ww c ch) j_)))), (oi, .inl (cI, 32, .inl (fun j_ => nI (wi j_)))), (oe, .inl (cJ, 256, .inr (.inl EX))), (op, .inl (cJ, 256, .inr (.inl PA)))] rfl rfl (by omega) (by decide) (by rw [nup_I]; rfl) ?_
                refine g_aload_n 0 (hd := dX7_gate_121) (C := hX) rfl rfl ?_
                refine g_get (hd := dX7_gate_122) (C := hX) 0 2 rfl rfl in_X7_gate_7 (by decide) (by decide +kernel) rfl ?_
                refine g_iload 5 (hd := dX7_gate_125) (C := hX) rfl ?_
                refine g_iconst (v := nI 1) hX dX7_gate_127 (by decide) ?_
                refine g_iadd hX dX7_gate_128 ?_
                refine g_top (y := (nI ((6 + (3 * jg)) + 1))) (nI_add _ _) ?_
                refine g_iload_n 3 (hd := dX7_gate_129) (C := hX) rfl rfl ?_
                refine g_iast (hd := dX7_gate_130) (C := hX) 2 1 [(o, .inr (7, [.int (nI len), .ref ot, .ref on, .ref od, .ref ow, .int (nI (kpK ch)), .int (nI va), .int (nI en), .ref oi, .ref oe, .ref op, .long aE, .long aP, .long lt])), (ot, .inl (cI, 200, .inl (fun j_ => nI (T j_)))), (on, .inl (cI, 78, .inl (fun j_ => nI ((nup (nup c (6 + (3 * jg)) jk) ((6 + (3 * jg)) + 1) jx) j_)))), (od, .inl (cI, 78, .inl (fun j_ => nI (rd j_)))), (ow, .inl (cI, 468, .inl (fun j_ => nI ((kwS ww c ch) j_)))), (oi, .inl (cI, 32, .inl (fun j_ => nI (wi j_)))), (oe, .inl (cJ, 256, .inr (.inl EX))), (op, .inl (cJ, 256, .inr (.inl PA)))] rfl rfl (by omega) (by decide) (by rw [nup_I]; rfl) ?_
                refine g_aload_n 0 (hd := dX7_gate_131) (C := hX) rfl rfl ?_
                refine g_get (hd := dX7_gate_132) (C := hX) 0 2 rfl rfl in_X7_gate_7 (by decide) (by decide +kernel) rfl ?_
                refine g_iload 5 (hd := dX7_gate_135) (C := hX) rfl ?_
                refine g_iconst (v := nI 2) hX dX7_gate_137 (by decide) ?_
                refine g_iadd hX dX7_gate_138 ?_
                refine g_top (y := (nI ((6 + (3 * jg)) + 2))) (nI_add _ _) ?_
                refine g_iload 4 (hd := dX7_gate_139) (C := hX) rfl ?_
                refine g_iast (hd := dX7_gate_141) (C := hX) 2 1 [(o, .inr (7, [.int (nI len), .ref ot, .ref on, .ref od, .ref ow, .int (nI (kpK ch)), .int (nI va), .int (nI en), .ref oi, .ref oe, .ref op, .long aE, .long aP, .long lt])), (ot, .inl (cI, 200, .inl (fun j_ => nI (T j_)))), (on, .inl (cI, 78, .inl (fun j_ => nI ((nup (nup (nup c (6 + (3 * jg)) jk) ((6 + (3 * jg)) + 1) jx) ((6 + (3 * jg)) + 2) jy) j_)))), (od, .inl (cI, 78, .inl (fun j_ => nI (rd j_)))), (ow, .inl (cI, 468, .inl (fun j_ => nI ((kwS ww c ch) j_)))), (oi, .inl (cI, 32, .inl (fun j_ => nI (wi j_)))), (oe, .inl (cJ, 256, .inr (.inl EX))), (op, .inl (cJ, 256, .inr (.inl PA)))] rfl rfl (by omega) (by decide) (by rw [nup_I]; rfl) ?_
                refine g_iload 6 (hd := dX7_gate_142) (C := hX) rfl ?_
                exact (hret ((nI (c (6 + (3 * jg)))), nup (nup (nup c (6 + (3 * jg)) jk) ((6 + (3 * jg)) + 1) jx) ((6 + (3 * jg)) + 2) jy, kpK ch, (kwS ww c ch)) _ _ (by unfold gtS; rw [iP_y ⟨p_2, (ii_k (by decide)).mp p_11, by rw [cl_nI (by omega)]; exact w3, by rw [cl_nI (by omega)]; exact w4⟩, cl_nI (by omega), cl_nI (by omega), cl_nI (by omega), cl_nI (by omega), if_neg (fun z => c_103 (by have q := z.2.2; rw [show 8 + 3 * jg = 6 + 3 * jg + 2 from by omega] at q; exact q)), ed_1, sg_nup])).2.1 _ rfl rfl dX7_gate_144
              · refine g_bipush (v := (-2)) hX dX7_gate_106 (by decide) ?_
                exact (hret ((-2), c, ch, ww) _ _ (by unfold gtS; rw [iP_y ⟨p_2, (ii_k (by decide)).mp p_11, by rw [cl_nI (by omega)]; exact w3, by rw [cl_nI (by omega)]; exact w4⟩, cl_nI (by omega), cl_nI (by omega), cl_nI (by omega), cl_nI (by omega), if_pos ⟨c_76, by rw [show 7 + 3 * jg = 6 + 3 * jg + 1 from by omega]; exact c_89, by rw [show 8 + 3 * jg = 6 + 3 * jg + 2 from by omega]; exact c_103⟩]; rfl)).2.1 _ rfl rfl dX7_gate_108
        · show GW X [(o, .inr (7, [.int (nI len), .ref ot, .ref on, .ref od, .ref ow, .int (nI ch), .int (nI va), .int (nI en), .ref oi, .ref oe, .ref op, .long aE, .long aP, .long lt])), (ot, .inl (cI, 200, .inl (fun j_ => nI (T j_)))), (on, .inl (cI, 78, .inl (fun j_ => nI (c j_)))), (od, .inl (cI, 78, .inl (fun j_ => nI (rd j_)))), (ow, .inl (cI, 468, .inl (fun j_ => nI (ww j_)))), (oi, .inl (cI, 32, .inl (fun j_ => nI (wi j_)))), (oe, .inl (cJ, 256, .inr (.inl EX))), (op, .inl (cJ, 256, .inr (.inl PA)))] [(0, .ref o), (1, .int (nI jg)), (2, .int kd), (3, .int x), (4, .int y)] [.int (nI 0)] 51 0 0
          refine g_if_neN 56 (hd := dX7_gate_51) (C := hX) (by decide) (by decide) (fun c_51 => absurd c_51 (by decide)) (fun c_51 => ?_)
          refine g_iconst (v := (-1)) hX dX7_gate_54 (by decide) ?_
          exact (hret ((-1), c, ch, ww) _ _ (by rw [show gtS c (nI jg) kd x y = ((-1), 0, c) from iP_n (fun z => p_48 ((ii_vp (by omega)).mpr (by have q := z.2.2.2; rw [cl_nI (by omega)] at q; exact q)))]; rfl)).2.1 _ rfl rfl dX7_gate_55
      · show GW X [(o, .inr (7, [.int (nI len), .ref ot, .ref on, .ref od, .ref ow, .int (nI ch), .int (nI va), .int (nI en), .ref oi, .ref oe, .ref op, .long aE, .long aP, .long lt])), (ot, .inl (cI, 200, .inl (fun j_ => nI (T j_)))), (on, .inl (cI, 78, .inl (fun j_ => nI (c j_)))), (od, .inl (cI, 78, .inl (fun j_ => nI (rd j_)))), (ow, .inl (cI, 468, .inl (fun j_ => nI (ww j_)))), (oi, .inl (cI, 32, .inl (fun j_ => nI (wi j_)))), (oe, .inl (cJ, 256, .inr (.inl EX))), (op, .inl (cJ, 256, .inr (.inl PA)))] [(0, .ref o), (1, .int (nI jg)), (2, .int kd), (3, .int x), (4, .int y)] [.int (nI 0)] 32 0 0
        refine g_if_eqN 54 (hd := dX7_gate_32) (C := hX) (by decide) (by decide) (fun c_32 => ?_) (fun c_32 => absurd c_32 (by decide))
        refine g_iconst (v := (-1)) hX dX7_gate_54 (by decide) ?_
        exact (hret ((-1), c, ch, ww) _ _ (by rw [show gtS c (nI jg) kd x y = ((-1), 0, c) from iP_n (fun z => p_29 ((ii_vp (by omega)).mpr (by have q := z.2.2.1; rw [cl_nI (by omega)] at q; exact q)))]; rfl)).2.1 _ rfl rfl dX7_gate_55
    · show GW X [(o, .inr (7, [.int (nI len), .ref ot, .ref on, .ref od, .ref ow, .int (nI ch), .int (nI va), .int (nI en), .ref oi, .ref oe, .ref op, .long aE, .long aP, .long lt])), (ot, .inl (cI, 200, .inl (fun j_ => nI (T j_)))), (on, .inl (cI, 78, .inl (fun j_ => nI (c j_)))), (od, .inl (cI, 78, .inl (fun j_ => nI (rd j_)))), (ow, .inl (cI, 468, .inl (fun j_ => nI (ww j_)))), (oi, .inl (cI, 32, .inl (fun j_ => nI (wi j_)))), (oe, .inl (cJ, 256, .inr (.inl EX))), (op, .inl (cJ, 256, .inr (.inl PA)))] [(0, .ref o), (1, .int (nI jg)), (2, .int kd), (3, .int x), (4, .int y)] [.int (nI 0)] 14 0 0
      refine g_if_eqN 54 (hd := dX7_gate_14) (C := hX) (by decide) (by decide) (fun c_14 => ?_) (fun c_14 => absurd c_14 (by decide))
      refine g_iconst (v := (-1)) hX dX7_gate_54 (by decide) ?_
      exact (hret ((-1), c, ch, ww) _ _ (by rw [show gtS c (nI jg) kd x y = ((-1), 0, c) from iP_n (fun z => p_11 ((ii_k (by decide)).mpr z.2.1))]; rfl)).2.1 _ rfl rfl dX7_gate_55
  · show GW X [(o, .inr (7, [.int (nI len), .ref ot, .ref on, .ref od, .ref ow, .int (nI ch), .int (nI va), .int (nI en), .ref oi, .ref oe, .ref op, .long aE, .long aP, .long lt])), (ot, .inl (cI, 200, .inl (fun j_ => nI (T j_)))), (on, .inl (cI, 78, .inl (fun j_ => nI (c j_)))), (od, .inl (cI, 78, .inl (fun j_ => nI (rd j_)))), (ow, .inl (cI, 468, .inl (fun j_ => nI (ww j_)))), (oi, .inl (cI, 32, .inl (fun j_ => nI (wi j_)))), (oe, .inl (cJ, 256, .inr (.inl EX))), (op, .inl (cJ, 256, .inr (.inl PA)))] [(0, .ref o), (1, .int g), (2, .int kd), (3, .int x), (4, .int y)] [.int (nI 0)] 5 0 0
    refine g_if_eqN 54 (hd := dX7_gate_5) (C := hX) (by decide) (by decide) (fun c_5 => ?_) (fun c_5 => absurd c_5 (by decide))
    refine g_iconst (v := (-1)) hX dX7_gate_54 (by decide) ?_
    exact (hret ((-1), c, ch, ww) _ _ (by rw [show gtS c g kd x y = ((-1), 0, c) from iP_n (fun z => p_2 z.1)]; rfl)).2.1 _ rfl rfl dX7_gate_55

theorem in_X7_add_7 : ∀ w ∈ wsX70, w ∈ wsX7_add := fun _ h => List.mem_cons_of_mem _ (List.mem_append_right _ h)
theorem ok_X7_add : gOK yX7_add wsX7_add ({ frames := 2, cells := 0, slots := 0, locals := 43 }) 4 3 := ⟨⟨_, _, _, rfl⟩, rfl, rfl, by decide, by decide, by decide +kernel⟩
set_option maxRecDepth 100000 in
set_option maxHeartbeats 4000000 in
theorem c_X7_add (l : Launch) (D : va_G) (cC cI cJ cO : ClassId) (o : Nat) (ot : Nat) (on : Nat) (od : Nat) (ow : Nat) (oi : Nat) (oe : Nat) (op : Nat) (len : Nat) (ch : Nat) (va : Nat) (en : Nat) (aE : Int64) (aP : Int64) (lt : Int64) (T : Nat → Nat) (c : Nat → Nat) (rd : Nat → Nat) (ww : Nat → Nat) (wi : Nat → Nat) (EX : Nat → Int64) (PA : Nat → Int64) (kd : Int32) (x : Int32) (y : Int32) (hok : okC c) (hch : ch ≤ 6) : CM (S := Int32 × (Nat → Nat) × Nat × (Nat → Nat)) l D (tyL cC cI cJ cO) yX7_add wsX7_add ({ frames := 2, cells := 0, slots := 0, locals := 43 }) [.ref o, .int kd, .int x, .int y] [(o, .inr (7, [.int (nI len), .ref ot, .ref on, .ref od, .ref ow, .int (nI ch), .int (nI va), .int (nI en), .ref oi, .ref oe, .ref op, .long aE, .long aP, .long lt])), (ot, .inl (cI, 200, .inl (fun j_ => nI (T j_)))), (on, .inl (cI, 78, .inl (fun j_ => nI (c j_)))), (od, .inl (cI, 78, .inl (fun j_ => nI (rd j_)))), (ow, .inl (cI, 468, .inl (fun j_ => nI (ww j_)))), (oi, .inl (cI, 32, .inl (fun j_ => nI (wi j_)))), (oe, .inl (cJ, 256, .inr (.inl EX))), (op, .inl (cJ, 256, .inr (.inl PA)))] (fun u => some (.int u.1)) (fun u => u = edS (adS c kd x y) c ch ww) (fun u_ => [(o, .inr (7, [.int (nI len), .ref ot, .ref on, .ref od, .ref ow, .int (nI u_.2.2.1), .int (nI va), .int (nI en), .ref oi, .ref oe, .ref op, .long aE, .long aP, .long lt])), (ot, .inl (cI, 200, .inl (fun j_ => nI (T j_)))), (on, .inl (cI, 78, .inl (fun j_ => nI (u_.2.1 j_)))), (od, .inl (cI, 78, .inl (fun j_ => nI (rd j_)))), (ow, .inl (cI, 468, .inl (fun j_ => nI (u_.2.2.2 j_)))), (oi, .inl (cI, 32, .inl (fun j_ => nI (wi j_)))), (oe, .inl (cJ, 256, .inr (.inl EX))), (op, .inl (cJ, 256, .inr (.inl PA)))]) := by
  refine CM_in (cc := cX7_add) (maxL := 4) (ret := (some .int)) (by decide) rfl (Nat.le_of_ble_eq_true rfl) ?_
  intro X hX hret
  show GW X [(o, .inr (7, [.int (nI len), .ref ot, .ref on, .ref od, .ref ow, .int (nI ch), .int (nI va), .int (nI en), .ref oi, .ref oe, .ref op, .long aE, .long aP, .long lt])), (ot, .inl (cI, 200, .inl (fun j_ => nI (T j_)))), (on, .inl (cI, 78, .inl (fun j_ => nI (c j_)))), (od, .inl (cI, 78, .inl (fun j_ => nI (rd j_)))), (ow, .inl (cI, 468, .inl (fun j_ => nI (ww j_)))), (oi, .inl (cI, 32, .inl (fun j_ => nI (wi j_)))), (oe, .inl (cJ, 256, .inr (.inl EX))), (op, .inl (cJ, 256, .inr (.inl PA)))] [(0, .ref o), (1, .int kd), (2, .int x), (3, .int y)] [] 0 0 0
  have b0 := hok.2.1
  have b1 := hok.2.2.1
  have hp2 := p2_8 b0
  have hcd := hok.2.2.2.2.2.1
  have g_2 := hok.2.2.2.1
  have g_3 := hok.2.2.2.2.1
  refine g_iload_n 1 (hd := dX7_add_0) (C := hX) rfl rfl ?_
  refine g_iconst (v := nI 0) hX dX7_add_1 (by decide) ?_
  refine g_iconst (v := nI 5) hX dX7_add_2 (by decide) ?_
  refine g_callS (rest := []) hX (c_X7_isIn l D cC cI cJ cO kd (nI 0) (nI 5)) ok_X7_isIn (fun _ => rfl) (hd := dX7_add_3) gX7_add_X7_isIn ⟨by decide, by decide⟩ rfl (Nat.le_of_ble_eq_true rfl) ⟨Nat.zero_le _, Nat.zero_le _⟩ [] (by decide) rfl rfl ?_
  intro r_3 e_3
  rcases e_3 with ⟨rfl, p_3⟩ | ⟨rfl, p_3⟩
  · show GW X [(o, .inr (7, [.int (nI len), .ref ot, .ref on, .ref od, .ref ow, .int (nI ch), .int (nI va), .int (nI en), .ref oi, .ref oe, .ref op, .long aE, .long aP, .long lt])), (ot, .inl (cI, 200, .inl (fun j_ => nI (T j_)))), (on, .inl (cI, 78, .inl (fun j_ => nI (c j_)))), (od, .inl (cI, 78, .inl (fun j_ => nI (rd j_)))), (ow, .inl (cI, 468, .inl (fun j_ => nI (ww j_)))), (oi, .inl (cI, 32, .inl (fun j_ => nI (wi j_)))), (oe, .inl (cJ, 256, .inr (.inl EX))), (op, .inl (cJ, 256, .inr (.inl PA)))] [(0, .ref o), (1, .int kd), (2, .int x), (3, .int y)] [.int (nI 1)] 6 0 0
    refine g_if_eqN 25 (hd := dX7_add_6) (C := hX) (by decide) (by decide) (fun c_6 => absurd c_6 (by decide)) (fun c_6 => ?_)
    refine g_aload_n 0 (hd := dX7_add_9) (C := hX) rfl rfl ?_
    refine g_iload_n 2 (hd := dX7_add_10) (C := hX) rfl rfl ?_
    refine g_callVs (rest := []) hX (c_X7_isWire l D cC cI cJ cO o ot on od ow oi oe op len ch va en aE aP lt T c rd ww wi EX PA x b0 b1) ok_X7_isWire rfl 0 rfl rfl (hd := dX7_add_11) gX7_add_X7_isWire ⟨by decide, by decide⟩ rfl (Nat.le_of_ble_eq_true rfl) ⟨Nat.zero_le _, Nat.zero_le _⟩ [0, 1, 2, 3, 4, 5, 6, 7] (by decide) rfl rfl ?_
    intro r_11 e_11
    rcases e_11 with ⟨rfl, p_11⟩ | ⟨rfl, p_11⟩
    · show GW X [(o, .inr (7, [.int (nI len), .ref ot, .ref on, .ref od, .ref ow, .int (nI ch), .int (nI va), .int (nI en), .ref oi, .ref oe, .ref op, .long aE, .long aP, .long lt])), (ot, .inl (cI, 200, .inl (fun j_ => nI (T j_)))), (on, .inl (cI, 78, .inl (fun j_ => nI (c j_)))), (od, .inl (cI, 78, .inl (fun j_ => nI (rd j_)))), (ow, .inl (cI, 468, .inl (fun j_ => nI (ww j_)))), (oi, .inl (cI, 32, .inl (fun j_ => nI (wi j_)))), (oe, .inl (cJ, 256, .inr (.inl EX))), (op, .inl (cJ, 256, .inr (.inl PA)))] [(0, .ref o), (1, .int kd), (2, .int x), (3, .int y)] [.int (nI 1)] 14 0 0
      refine g_if_eqN 25 (hd := dX7_add_14) (C := hX) (by decide) (by decide) (fun c_14 => absurd c_14 (by decide)) (fun c_14 => ?_)
      refine g_aload_n 0 (hd := dX7_add_17) (C := hX) rfl rfl ?_
      refine g_iload_n 3 (hd := dX7_add_18) (C := hX) rfl rfl ?_
      refine g_callVs (rest := []) hX (c_X7_isWire l D cC cI cJ cO o ot on od ow oi oe op len ch va en aE aP lt T c rd ww wi EX PA y b0 b1) ok_X7_isWire rfl 0 rfl rfl (hd := dX7_add_19) gX7_add_X7_isWire ⟨by decide, by decide⟩ rfl (Nat.le_of_ble_eq_true rfl) ⟨Nat.zero_le _, Nat.zero_le _⟩ [0, 1, 2, 3, 4, 5, 6, 7] (by decide) rfl rfl ?_
      intro r_19 e_19
      rcases e_19 with ⟨rfl, p_19⟩ | ⟨rfl, p_19⟩
      · show GW X [(o, .inr (7, [.int (nI len), .ref ot, .ref on, .ref od, .ref ow, .int (nI ch), .int (nI va), .int (nI en), .ref oi, .ref oe, .ref op, .long aE, .long aP, .long lt])), (ot, .inl (cI, 200, .inl (fun j_ => nI (T j_)))), (on, .inl (cI, 78, .inl (fun j_ => nI (c j_)))), (od, .inl (cI, 78, .inl (fun j_ => nI (rd j_)))), (ow, .inl (cI, 468, .inl (fun j_ => nI (ww j_)))), (oi, .inl (cI, 32, .inl (fun j_ => nI (wi j_)))), (oe, .inl (cJ, 256, .inr (.inl EX))), (op, .inl (cJ, 256, .inr (.inl PA)))] [(0, .ref o), (1, .int kd), (2, .int x), (3, .int y)] [.int (nI 1)] 22 0 0
        refine g_if_neN 27 (hd := dX7_add_22) (C := hX) (by decide) (by decide) (fun c_22 => ?_) (fun c_22 => absurd c_22 (by decide))
        refine g_aload_n 0 (hd := dX7_add_27) (C := hX) rfl rfl ?_
        refine g_get (hd := dX7_add_28) (C := hX) 0 2 rfl rfl in_X7_add_7 (by decide) (by decide +kernel) rfl ?_
        refine g_iconst (v := nI 1) hX dX7_add_31 (by decide) ?_
        refine g_iald (hd := dX7_add_32) (C := hX) 2 1 rfl rfl (by omega) (by decide) ?_
        refine g_bipush (v := nI 24) hX dX7_add_33 (by decide) ?_
        refine g_icmp_neN 41 (hd := dX7_add_35) (C := hX) (by decide) (by omega) (by omega) (fun c_35 => ?_) (fun c_35 => ?_)
        · obtain ⟨jk, hjk, rfl⟩ := ii_nat (by decide) p_3
          obtain ⟨jx, hjx, rfl⟩ := vp_in_of p_11 (by omega)
          obtain ⟨jy, hjy, rfl⟩ := vp_in_of p_19 (by omega)
          refine g_aload_n 0 (hd := dX7_add_41) (C := hX) rfl rfl ?_
          refine g_callVp (rest := []) hX (c_X7_keeps l D cC cI cJ cO o ot on od ow oi oe op len ch va en aE aP lt T c rd ww wi EX PA hch) ok_X7_keeps rfl 0 rfl rfl (fun _ => rfl) (hd := dX7_add_42) gX7_add_X7_keeps ⟨by decide, by decide⟩ rfl (Nat.le_of_ble_eq_true rfl) ⟨Nat.zero_le _, Nat.zero_le _⟩ [] rfl rfl ?_
          intro _u42 _p42
          show GW X [(o, .inr (7, [.int (nI len), .ref ot, .ref on, .ref od, .ref ow, .int (nI (kpK ch)), .int (nI va), .int (nI en), .ref oi, .ref oe, .ref op, .long aE, .long aP, .long lt])), (ot, .inl (cI, 200, .inl (fun j_ => nI (T j_)))), (on, .inl (cI, 78, .inl (fun j_ => nI (c j_)))), (od, .inl (cI, 78, .inl (fun j_ => nI (rd j_)))), (ow, .inl (cI, 468, .inl (fun j_ => nI ((kwS ww c ch) j_)))), (oi, .inl (cI, 32, .inl (fun j_ => nI (wi j_)))), (oe, .inl (cJ, 256, .inr (.inl EX))), (op, .inl (cJ, 256, .inr (.inl PA)))] [(0, .ref o), (1, .int (nI jk)), (2, .int (nI jx)), (3, .int (nI jy))] [] 45 0 0
          refine g_aload_n 0 (hd := dX7_add_45) (C := hX) rfl rfl ?_
          refine g_get (hd := dX7_add_46) (C := hX) 0 2 rfl rfl in_X7_add_7 (by decide) (by decide +kernel) rfl ?_
          refine g_iload_n 1 (hd := dX7_add_49) (C := hX) rfl rfl ?_
          refine g_iload_n 2 (hd := dX7_add_50) (C := hX) rfl rfl ?_
          refine g_iload_n 3 (hd := dX7_add_51) (C := hX) rfl rfl ?_
          refine g_callS (rest := []) hX (c_X7_adds l D cC cI cJ cO on c jk jx jy (by omega)) ok_X7_adds (fun _ => rfl) (hd := dX7_add_52) gX7_add_X7_adds ⟨by decide, by decide⟩ rfl (Nat.le_of_ble_eq_true rfl) ⟨Nat.zero_le _, Nat.zero_le _⟩ [2] (by decide) rfl rfl ?_
          intro _u52 _p52
          show GW X [(o, .inr (7, [.int (nI len), .ref ot, .ref on, .ref od, .ref ow, .int (nI (kpK ch)), .int (nI va), .int (nI en), .ref oi, .ref oe, .ref op, .long aE, .long aP, .long lt])), (ot, .inl (cI, 200, .inl (fun j_ => nI (T j_)))), (on, .inl (cI, 78, .inl (fun j_ => nI ((agC c jk jx jy) j_)))), (od, .inl (cI, 78, .inl (fun j_ => nI (rd j_)))), (ow, .inl (cI, 468, .inl (fun j_ => nI ((kwS ww c ch) j_)))), (oi, .inl (cI, 32, .inl (fun j_ => nI (wi j_)))), (oe, .inl (cJ, 256, .inr (.inl EX))), (op, .inl (cJ, 256, .inr (.inl PA)))] [(0, .ref o), (1, .int (nI jk)), (2, .int (nI jx)), (3, .int (nI jy))] [] 55 0 0
          refine g_aload_n 0 (hd := dX7_add_55) (C := hX) rfl rfl ?_
          refine g_get (hd := dX7_add_56) (C := hX) 0 2 rfl rfl in_X7_add_7 (by decide) (by decide +kernel) rfl ?_
          refine g_iconst (v := nI 1) hX dX7_add_59 (by decide) ?_
          refine g_iald (hd := dX7_add_60) (C := hX) 2 1 rfl rfl (by omega) (by decide) ?_
          refine g_top (y := (nI (c 1 + 1))) rfl ?_
          refine g_iconst (v := nI 1) hX dX7_add_61 (by decide) ?_
          refine g_isub hX dX7_add_62 ?_
          refine g_top (y := (nI (c 1))) (sp1 (c 1)) ?_
          exact (hret ((nI (c 1)), (agC c jk jx jy), kpK ch, (kwS ww c ch)) _ _ (by unfold adS; rw [iP_y ⟨(ii_k (by decide)).mp p_3, p_11, p_19⟩, if_pos (by omega), cl_nI (by omega), cl_nI (by omega), cl_nI (by omega)]; rfl)).2.1 _ rfl rfl dX7_add_63
        · refine g_bipush (v := (-3)) hX dX7_add_38 (by decide) ?_
          exact (hret ((-3), c, ch, ww) _ _ (by unfold adS; rw [iP_y ⟨(ii_k (by decide)).mp p_3, p_11, p_19⟩, if_neg (by omega)]; rfl)).2.1 _ rfl rfl dX7_add_40
      · show GW X [(o, .inr (7, [.int (nI len), .ref ot, .ref on, .ref od, .ref ow, .int (nI ch), .int (nI va), .int (nI en), .ref oi, .ref oe, .ref op, .long aE, .long aP, .long lt])), (ot, .inl (cI, 200, .inl (fun j_ => nI (T j_)))), (on, .inl (cI, 78, .inl (fun j_ => nI (c j_)))), (od, .inl (cI, 78, .inl (fun j_ => nI (rd j_)))), (ow, .inl (cI, 468, .inl (fun j_ => nI (ww j_)))), (oi, .inl (cI, 32, .inl (fun j_ => nI (wi j_)))), (oe, .inl (cJ, 256, .inr (.inl EX))), (op, .inl (cJ, 256, .inr (.inl PA)))] [(0, .ref o), (1, .int kd), (2, .int x), (3, .int y)] [.int (nI 0)] 22 0 0
        refine g_if_neN 27 (hd := dX7_add_22) (C := hX) (by decide) (by decide) (fun c_22 => absurd c_22 (by decide)) (fun c_22 => ?_)
        refine g_iconst (v := (-1)) hX dX7_add_25 (by decide) ?_
        exact (hret ((-1), c, ch, ww) _ _ (by rw [show adS c kd x y = ((-1), 0, c) from iP_n (fun z => p_19 z.2.2)]; rfl)).2.1 _ rfl rfl dX7_add_26
    · show GW X [(o, .inr (7, [.int (nI len), .ref ot, .ref on, .ref od, .ref ow, .int (nI ch), .int (nI va), .int (nI en), .ref oi, .ref oe, .ref op, .long aE, .long aP, .long lt])), (ot, .inl (cI, 200, .inl (fun j_ => nI (T j_)))), (on, .inl (cI, 78, .inl (fun j_ => nI (c j_)))), (od, .inl (cI, 78, .inl (fun j_ => nI (rd j_)))), (ow, .inl (cI, 468, .inl (fun j_ => nI (ww j_)))), (oi, .inl (cI, 32, .inl (fun j_ => nI (wi j_)))), (oe, .inl (cJ, 256, .inr (.inl EX))), (op, .inl (cJ, 256, .inr (.inl PA)))] [(0, .ref o), (1, .int kd), (2, .int x), (3, .int y)] [.int (nI 0)] 14 0 0
      refine g_if_eqN 25 (hd := dX7_add_14) (C := hX) (by decide) (by decide) (fun c_14 => ?_) (fun c_14 => absurd c_14 (by decide))
      refine g_iconst (v := (-1)) hX dX7_add_25 (by decide) ?_
      exact (hret ((-1), c, ch, ww) _ _ (by rw [show adS c kd x y = ((-1), 0, c) from iP_n (fun z => p_11 z.2.1)]; rfl)).2.1 _ rfl rfl dX7_add_26
  · show GW X [(o, .inr (7, [.int (nI len), .ref ot, .ref on, .ref od, .ref ow, .int (nI ch), .int (nI va), .int (nI en), .ref oi, .ref oe, .ref op, .long aE, .long aP, .long lt])), (ot, .inl (cI, 200, .inl (fun j_ => nI (T j_)))), (on, .inl (cI, 78, .inl (fun j_ => nI (c j_)))), (od, .inl (cI, 78, .inl (fun j_ => nI (rd j_)))), (ow, .inl (cI, 468, .inl (fun j_ => nI (ww j_)))), (oi, .inl (cI, 32, .inl (fun j_ => nI (wi j_)))), (oe, .inl (cJ, 256, .inr (.inl EX))), (op, .inl (cJ, 256, .inr (.inl PA)))] [(0, .ref o), (1, .int kd), (2, .int x), (3, .int y)] [.int (nI 0)] 6 0 0
    refine g_if_eqN 25 (hd := dX7_add_6) (C := hX) (by decide) (by decide) (fun c_6 => ?_) (fun c_6 => absurd c_6 (by decide))
    refine g_iconst (v := (-1)) hX dX7_add_25 (by decide) ?_
    exact (hret ((-1), c, ch, ww) _ _ (by rw [show adS c kd x y = ((-1), 0, c) from iP_n (fun z => p_3 ((ii_k (by decide)).mpr z.1))]; rfl)).2.1 _ rfl rfl dX7_add_26

theorem in_X7_rails_7 : ∀ w ∈ wsX70, w ∈ wsX7_rails := fun _ h => List.mem_cons_of_mem _ (List.mem_append_right _ h)
theorem ok_X7_rails : gOK yX7_rails wsX7_rails ({ frames := 2, cells := 0, slots := 0, locals := 43 }) 4 2 := ⟨⟨_, _, _, rfl⟩, rfl, rfl, by decide, by decide, by decide +kernel⟩
set_option maxRecDepth 100000 in
set_option maxHeartbeats 4000000 in
theorem c_X7_rails (l : Launch) (D : va_G) (cC cI cJ cO : ClassId) (o : Nat) (ot : Nat) (on : Nat) (od : Nat) (ow : Nat) (oi : Nat) (oe : Nat) (op : Nat) (len : Nat) (ch : Nat) (va : Nat) (en : Nat) (aE : Int64) (aP : Int64) (lt : Int64) (T : Nat → Nat) (c : Nat → Nat) (rd : Nat → Nat) (ww : Nat → Nat) (wi : Nat → Nat) (EX : Nat → Int64) (PA : Nat → Int64) (p : Int32) (q : Int32) (hok : okC c) (hch : ch ≤ 6) : CM (S := Int32 × (Nat → Nat) × Nat × (Nat → Nat)) l D (tyL cC cI cJ cO) yX7_rails wsX7_rails ({ frames := 2, cells := 0, slots := 0, locals := 43 }) [.ref o, .int p, .int q] [(o, .inr (7, [.int (nI len), .ref ot, .ref on, .ref od, .ref ow, .int (nI ch), .int (nI va), .int (nI en), .ref oi, .ref oe, .ref op, .long aE, .long aP, .long lt])), (ot, .inl (cI, 200, .inl (fun j_ => nI (T j_)))), (on, .inl (cI, 78, .inl (fun j_ => nI (c j_)))), (od, .inl (cI, 78, .inl (fun j_ => nI (rd j_)))), (ow, .inl (cI, 468, .inl (fun j_ => nI (ww j_)))), (oi, .inl (cI, 32, .inl (fun j_ => nI (wi j_)))), (oe, .inl (cJ, 256, .inr (.inl EX))), (op, .inl (cJ, 256, .inr (.inl PA)))] (fun u => some (.int u.1)) (fun u => u = edS (rlS c p q) c ch ww) (fun u_ => [(o, .inr (7, [.int (nI len), .ref ot, .ref on, .ref od, .ref ow, .int (nI u_.2.2.1), .int (nI va), .int (nI en), .ref oi, .ref oe, .ref op, .long aE, .long aP, .long lt])), (ot, .inl (cI, 200, .inl (fun j_ => nI (T j_)))), (on, .inl (cI, 78, .inl (fun j_ => nI (u_.2.1 j_)))), (od, .inl (cI, 78, .inl (fun j_ => nI (rd j_)))), (ow, .inl (cI, 468, .inl (fun j_ => nI (u_.2.2.2 j_)))), (oi, .inl (cI, 32, .inl (fun j_ => nI (wi j_)))), (oe, .inl (cJ, 256, .inr (.inl EX))), (op, .inl (cJ, 256, .inr (.inl PA)))]) := by
  refine CM_in (cc := cX7_rails) (maxL := 4) (ret := (some .int)) (by decide) rfl (Nat.le_of_ble_eq_true rfl) ?_
  intro X hX hret
  show GW X [(o, .inr (7, [.int (nI len), .ref ot, .ref on, .ref od, .ref ow, .int (nI ch), .int (nI va), .int (nI en), .ref oi, .ref oe, .ref op, .long aE, .long aP, .long lt])), (ot, .inl (cI, 200, .inl (fun j_ => nI (T j_)))), (on, .inl (cI, 78, .inl (fun j_ => nI (c j_)))), (od, .inl (cI, 78, .inl (fun j_ => nI (rd j_)))), (ow, .inl (cI, 468, .inl (fun j_ => nI (ww j_)))), (oi, .inl (cI, 32, .inl (fun j_ => nI (wi j_)))), (oe, .inl (cJ, 256, .inr (.inl EX))), (op, .inl (cJ, 256, .inr (.inl PA)))] [(0, .ref o), (1, .int p), (2, .int q)] [] 0 0 0
  have b0 := hok.2.1
  have b1 := hok.2.2.1
  have hp2 := p2_8 b0
  have hcd := hok.2.2.2.2.2.1
  have g_2 := hok.2.2.2.1
  have g_3 := hok.2.2.2.2.1
  refine g_aload_n 0 (hd := dX7_rails_0) (C := hX) rfl rfl ?_
  refine g_iload_n 1 (hd := dX7_rails_1) (C := hX) rfl rfl ?_
  refine g_callVs (rest := []) hX (c_X7_isWire l D cC cI cJ cO o ot on od ow oi oe op len ch va en aE aP lt T c rd ww wi EX PA p b0 b1) ok_X7_isWire rfl 0 rfl rfl (hd := dX7_rails_2) gX7_rails_X7_isWire ⟨by decide, by decide⟩ rfl (Nat.le_of_ble_eq_true rfl) ⟨Nat.zero_le _, Nat.zero_le _⟩ [0, 1, 2, 3, 4, 5, 6, 7] (by decide) rfl rfl ?_
  intro r_2 e_2
  rcases e_2 with ⟨rfl, p_2⟩ | ⟨rfl, p_2⟩
  · show GW X [(o, .inr (7, [.int (nI len), .ref ot, .ref on, .ref od, .ref ow, .int (nI ch), .int (nI va), .int (nI en), .ref oi, .ref oe, .ref op, .long aE, .long aP, .long lt])), (ot, .inl (cI, 200, .inl (fun j_ => nI (T j_)))), (on, .inl (cI, 78, .inl (fun j_ => nI (c j_)))), (od, .inl (cI, 78, .inl (fun j_ => nI (rd j_)))), (ow, .inl (cI, 468, .inl (fun j_ => nI (ww j_)))), (oi, .inl (cI, 32, .inl (fun j_ => nI (wi j_)))), (oe, .inl (cJ, 256, .inr (.inl EX))), (op, .inl (cJ, 256, .inr (.inl PA)))] [(0, .ref o), (1, .int p), (2, .int q)] [.int (nI 1)] 5 0 0
    refine g_if_eqN 16 (hd := dX7_rails_5) (C := hX) (by decide) (by decide) (fun c_5 => absurd c_5 (by decide)) (fun c_5 => ?_)
    refine g_aload_n 0 (hd := dX7_rails_8) (C := hX) rfl rfl ?_
    refine g_iload_n 2 (hd := dX7_rails_9) (C := hX) rfl rfl ?_
    refine g_callVs (rest := []) hX (c_X7_isWire l D cC cI cJ cO o ot on od ow oi oe op len ch va en aE aP lt T c rd ww wi EX PA q b0 b1) ok_X7_isWire rfl 0 rfl rfl (hd := dX7_rails_10) gX7_rails_X7_isWire ⟨by decide, by decide⟩ rfl (Nat.le_of_ble_eq_true rfl) ⟨Nat.zero_le _, Nat.zero_le _⟩ [0, 1, 2, 3, 4, 5, 6, 7] (by decide) rfl rfl ?_
    intro r_10 e_10
    rcases e_10 with ⟨rfl, p_10⟩ | ⟨rfl, p_10⟩
    · show GW X [(o, .inr (7, [.int (nI len), .ref ot, .ref on, .ref od, .ref ow, .int (nI ch), .int (nI va), .int (nI en), .ref oi, .ref oe, .ref op, .long aE, .long aP, .long lt])), (ot, .inl (cI, 200, .inl (fun j_ => nI (T j_)))), (on, .inl (cI, 78, .inl (fun j_ => nI (c j_)))), (od, .inl (cI, 78, .inl (fun j_ => nI (rd j_)))), (ow, .inl (cI, 468, .inl (fun j_ => nI (ww j_)))), (oi, .inl (cI, 32, .inl (fun j_ => nI (wi j_)))), (oe, .inl (cJ, 256, .inr (.inl EX))), (op, .inl (cJ, 256, .inr (.inl PA)))] [(0, .ref o), (1, .int p), (2, .int q)] [.int (nI 1)] 13 0 0
      refine g_if_neN 18 (hd := dX7_rails_13) (C := hX) (by decide) (by decide) (fun c_13 => ?_) (fun c_13 => absurd c_13 (by decide))
      obtain ⟨jp, hjp, rfl⟩ := vp_in_of p_2 (by omega)
      obtain ⟨jq, hjq, rfl⟩ := vp_in_of p_10 (by omega)
      refine g_bipush (v := nI 100) hX dX7_rails_18 (by decide) ?_
      refine g_aload_n 0 (hd := dX7_rails_20) (C := hX) rfl rfl ?_
      refine g_get (hd := dX7_rails_21) (C := hX) 0 2 rfl rfl in_X7_rails_7 (by decide) (by decide +kernel) rfl ?_
      refine g_iconst (v := nI 2) hX dX7_rails_24 (by decide) ?_
      refine g_iald (hd := dX7_rails_25) (C := hX) 2 1 rfl rfl (by omega) (by decide) ?_
      refine g_imul hX dX7_rails_26 ?_
      refine g_top (y := (nI (100 * (c 2)))) (pk_mul _ _) ?_
      refine g_aload_n 0 (hd := dX7_rails_27) (C := hX) rfl rfl ?_
      refine g_get (hd := dX7_rails_28) (C := hX) 0 2 rfl rfl in_X7_rails_7 (by decide) (by decide +kernel) rfl ?_
      refine g_iconst (v := nI 3) hX dX7_rails_31 (by decide) ?_
      refine g_iald (hd := dX7_rails_32) (C := hX) 2 1 rfl rfl (by omega) (by decide) ?_
      refine g_iadd hX dX7_rails_33 ?_
      refine g_top (y := (nI ((100 * (c 2)) + (c 3)))) (nI_add _ _) ?_
      refine g_istore_n [(0, .ref o), (1, .int (nI jp)), (2, .int (nI jq)), (3, .int (nI ((100 * (c 2)) + (c 3))))] [1, 2, 3, 0] (hd := dX7_rails_34) (C := hX) rfl (by decide) rfl ?_
      refine g_iload_n 3 (hd := dX7_rails_35) (C := hX) rfl rfl ?_
      refine g_bipush (v := nI 100) hX dX7_rails_36 (by decide) ?_
      refine g_iload_n 1 (hd := dX7_rails_38) (C := hX) rfl rfl ?_
      refine g_imul hX dX7_rails_39 ?_
      refine g_top (y := (nI (100 * jp))) (pk_mul _ _) ?_
      refine g_iload_n 2 (hd := dX7_rails_40) (C := hX) rfl rfl ?_
      refine g_iadd hX dX7_rails_41 ?_
      refine g_top (y := (nI ((100 * jp) + jq))) (nI_add _ _) ?_
      refine g_icmp_neN 48 (hd := dX7_rails_42) (C := hX) (by decide) (by omega) (by omega) (fun c_42 => ?_) (fun c_42 => ?_)
      · refine g_aload_n 0 (hd := dX7_rails_48) (C := hX) rfl rfl ?_
        refine g_callVp (rest := []) hX (c_X7_keeps l D cC cI cJ cO o ot on od ow oi oe op len ch va en aE aP lt T c rd ww wi EX PA hch) ok_X7_keeps rfl 0 rfl rfl (fun _ => rfl) (hd := dX7_rails_49) gX7_rails_X7_keeps ⟨by decide, by decide⟩ rfl (Nat.le_of_ble_eq_true rfl) ⟨Nat.zero_le _, Nat.zero_le _⟩ [] rfl rfl ?_
        intro _u49 _p49
        show GW X [(o, .inr (7, [.int (nI len), .ref ot, .ref on, .ref od, .ref ow, .int (nI (kpK ch)), .int (nI va), .int (nI en), .ref oi, .ref oe, .ref op, .long aE, .long aP, .long lt])), (ot, .inl (cI, 200, .inl (fun j_ => nI (T j_)))), (on, .inl (cI, 78, .inl (fun j_ => nI (c j_)))), (od, .inl (cI, 78, .inl (fun j_ => nI (rd j_)))), (ow, .inl (cI, 468, .inl (fun j_ => nI ((kwS ww c ch) j_)))), (oi, .inl (cI, 32, .inl (fun j_ => nI (wi j_)))), (oe, .inl (cJ, 256, .inr (.inl EX))), (op, .inl (cJ, 256, .inr (.inl PA)))] [(0, .ref o), (1, .int (nI jp)), (2, .int (nI jq)), (3, .int (nI ((100 * (c 2)) + (c 3))))] [] 52 0 0
        refine g_aload_n 0 (hd := dX7_rails_52) (C := hX) rfl rfl ?_
        refine g_get (hd := dX7_rails_53) (C := hX) 0 2 rfl rfl in_X7_rails_7 (by decide) (by decide +kernel) rfl ?_
        refine g_iconst (v := nI 2) hX dX7_rails_56 (by decide) ?_
        refine g_iload_n 1 (hd := dX7_rails_57) (C := hX) rfl rfl ?_
        refine g_iast (hd := dX7_rails_58) (C := hX) 2 1 [(o, .inr (7, [.int (nI len), .ref ot, .ref on, .ref od, .ref ow, .int (nI (kpK ch)), .int (nI va), .int (nI en), .ref oi, .ref oe, .ref op, .long aE, .long aP, .long lt])), (ot, .inl (cI, 200, .inl (fun j_ => nI (T j_)))), (on, .inl (cI, 78, .inl (fun j_ => nI ((nup c 2 jp) j_)))), (od, .inl (cI, 78, .inl (fun j_ => nI (rd j_)))), (ow, .inl (cI, 468, .inl (fun j_ => nI ((kwS ww c ch) j_)))), (oi, .inl (cI, 32, .inl (fun j_ => nI (wi j_)))), (oe, .inl (cJ, 256, .inr (.inl EX))), (op, .inl (cJ, 256, .inr (.inl PA)))] rfl rfl (by omega) (by decide) (by rw [nup_I]; rfl) ?_
        refine g_aload_n 0 (hd := dX7_rails_59) (C := hX) rfl rfl ?_
        refine g_get (hd := dX7_rails_60) (C := hX) 0 2 rfl rfl in_X7_rails_7 (by decide) (by decide +kernel) rfl ?_
        refine g_iconst (v := nI 3) hX dX7_rails_63 (by decide) ?_
        refine g_iload_n 2 (hd := dX7_rails_64) (C := hX) rfl rfl ?_
        refine g_iast (hd := dX7_rails_65) (C := hX) 2 1 [(o, .inr (7, [.int (nI len), .ref ot, .ref on, .ref od, .ref ow, .int (nI (kpK ch)), .int (nI va), .int (nI en), .ref oi, .ref oe, .ref op, .long aE, .long aP, .long lt])), (ot, .inl (cI, 200, .inl (fun j_ => nI (T j_)))), (on, .inl (cI, 78, .inl (fun j_ => nI ((nup (nup c 2 jp) 3 jq) j_)))), (od, .inl (cI, 78, .inl (fun j_ => nI (rd j_)))), (ow, .inl (cI, 468, .inl (fun j_ => nI ((kwS ww c ch) j_)))), (oi, .inl (cI, 32, .inl (fun j_ => nI (wi j_)))), (oe, .inl (cJ, 256, .inr (.inl EX))), (op, .inl (cJ, 256, .inr (.inl PA)))] rfl rfl (by omega) (by decide) (by rw [nup_I]; rfl) ?_
        refine g_iload_n 3 (hd := dX7_rails_66) (C := hX) rfl rfl ?_
        exact (hret ((nI ((100 * (c 2)) + (c 3))), nup (nup c 2 jp) 3 jq, kpK ch, (kwS ww c ch)) _ _ (by unfold rlS; rw [iP_y ⟨p_2, p_10⟩, cl_nI (by omega), cl_nI (by omega), if_neg (fun z => c_42 (by rw [z.1, z.2])), ed_1, pr_r])).2.1 _ rfl rfl dX7_rails_67
      · refine g_bipush (v := (-2)) hX dX7_rails_45 (by decide) ?_
        exact (hret ((-2), c, ch, ww) _ _ (by unfold rlS; rw [iP_y ⟨p_2, p_10⟩, cl_nI (by omega), cl_nI (by omega), if_pos ⟨by omega, by omega⟩]; rfl)).2.1 _ rfl rfl dX7_rails_47
    · show GW X [(o, .inr (7, [.int (nI len), .ref ot, .ref on, .ref od, .ref ow, .int (nI ch), .int (nI va), .int (nI en), .ref oi, .ref oe, .ref op, .long aE, .long aP, .long lt])), (ot, .inl (cI, 200, .inl (fun j_ => nI (T j_)))), (on, .inl (cI, 78, .inl (fun j_ => nI (c j_)))), (od, .inl (cI, 78, .inl (fun j_ => nI (rd j_)))), (ow, .inl (cI, 468, .inl (fun j_ => nI (ww j_)))), (oi, .inl (cI, 32, .inl (fun j_ => nI (wi j_)))), (oe, .inl (cJ, 256, .inr (.inl EX))), (op, .inl (cJ, 256, .inr (.inl PA)))] [(0, .ref o), (1, .int p), (2, .int q)] [.int (nI 0)] 13 0 0
      refine g_if_neN 18 (hd := dX7_rails_13) (C := hX) (by decide) (by decide) (fun c_13 => absurd c_13 (by decide)) (fun c_13 => ?_)
      refine g_iconst (v := (-1)) hX dX7_rails_16 (by decide) ?_
      exact (hret ((-1), c, ch, ww) _ _ (by rw [show rlS c p q = ((-1), 0, c) from iP_n (fun z => p_10 z.2)]; rfl)).2.1 _ rfl rfl dX7_rails_17
  · show GW X [(o, .inr (7, [.int (nI len), .ref ot, .ref on, .ref od, .ref ow, .int (nI ch), .int (nI va), .int (nI en), .ref oi, .ref oe, .ref op, .long aE, .long aP, .long lt])), (ot, .inl (cI, 200, .inl (fun j_ => nI (T j_)))), (on, .inl (cI, 78, .inl (fun j_ => nI (c j_)))), (od, .inl (cI, 78, .inl (fun j_ => nI (rd j_)))), (ow, .inl (cI, 468, .inl (fun j_ => nI (ww j_)))), (oi, .inl (cI, 32, .inl (fun j_ => nI (wi j_)))), (oe, .inl (cJ, 256, .inr (.inl EX))), (op, .inl (cJ, 256, .inr (.inl PA)))] [(0, .ref o), (1, .int p), (2, .int q)] [.int (nI 0)] 5 0 0
    refine g_if_eqN 16 (hd := dX7_rails_5) (C := hX) (by decide) (by decide) (fun c_5 => ?_) (fun c_5 => absurd c_5 (by decide))
    refine g_iconst (v := (-1)) hX dX7_rails_16 (by decide) ?_
    exact (hret ((-1), c, ch, ww) _ _ (by rw [show rlS c p q = ((-1), 0, c) from iP_n (fun z => p_2 z.1)]; rfl)).2.1 _ rfl rfl dX7_rails_17

theorem in_X7_code_7 : ∀ w ∈ wsX70, w ∈ wsX7_code := fun _ h => List.mem_cons_of_mem _ (List.mem_append_right _ h)
theorem ok_X7_code : gOK yX7_code wsX7_code ({ frames := 3, cells := 0, slots := 0, locals := 70 }) 3 2 := ⟨⟨_, _, _, rfl⟩, rfl, rfl, by decide, by decide, by decide +kernel⟩
set_option maxRecDepth 100000 in
set_option maxHeartbeats 4000000 in
theorem c_X7_code (l : Launch) (D : va_G) (cC cI cJ cO : ClassId) (o : Nat) (ot : Nat) (on : Nat) (od : Nat) (ow : Nat) (oi : Nat) (oe : Nat) (op : Nat) (len : Nat) (ch : Nat) (va : Nat) (en : Nat) (aE : Int64) (aP : Int64) (lt : Int64) (T : Nat → Nat) (c : Nat → Nat) (rd : Nat → Nat) (ww : Nat → Nat) (wi : Nat → Nat) (EX : Nat → Int64) (PA : Nat → Int64) (kd : Int32) (nm : Int32) (hok : okC c) (hch : ch ≤ 6) : CM (S := Int32 × (Nat → Nat) × Nat × (Nat → Nat)) l D (tyL cC cI cJ cO) yX7_code wsX7_code ({ frames := 3, cells := 0, slots := 0, locals := 70 }) [.ref o, .int kd, .int nm] [(o, .inr (7, [.int (nI len), .ref ot, .ref on, .ref od, .ref ow, .int (nI ch), .int (nI va), .int (nI en), .ref oi, .ref oe, .ref op, .long aE, .long aP, .long lt])), (ot, .inl (cI, 200, .inl (fun j_ => nI (T j_)))), (on, .inl (cI, 78, .inl (fun j_ => nI (c j_)))), (od, .inl (cI, 78, .inl (fun j_ => nI (rd j_)))), (ow, .inl (cI, 468, .inl (fun j_ => nI (ww j_)))), (oi, .inl (cI, 32, .inl (fun j_ => nI (wi j_)))), (oe, .inl (cJ, 256, .inr (.inl EX))), (op, .inl (cJ, 256, .inr (.inl PA)))] (fun u => some (.int u.1)) (fun u => u = edS (coS c kd nm) c ch ww) (fun u_ => [(o, .inr (7, [.int (nI len), .ref ot, .ref on, .ref od, .ref ow, .int (nI u_.2.2.1), .int (nI va), .int (nI en), .ref oi, .ref oe, .ref op, .long aE, .long aP, .long lt])), (ot, .inl (cI, 200, .inl (fun j_ => nI (T j_)))), (on, .inl (cI, 78, .inl (fun j_ => nI (u_.2.1 j_)))), (od, .inl (cI, 78, .inl (fun j_ => nI (rd j_)))), (ow, .inl (cI, 468, .inl (fun j_ => nI (u_.2.2.2 j_)))), (oi, .inl (cI, 32, .inl (fun j_ => nI (wi j_)))), (oe, .inl (cJ, 256, .inr (.inl EX))), (op, .inl (cJ, 256, .inr (.inl PA)))]) := by
  refine CM_in (cc := cX7_code) (maxL := 3) (ret := (some .int)) (by decide) rfl (Nat.le_of_ble_eq_true rfl) ?_
  intro X hX hret
  show GW X [(o, .inr (7, [.int (nI len), .ref ot, .ref on, .ref od, .ref ow, .int (nI ch), .int (nI va), .int (nI en), .ref oi, .ref oe, .ref op, .long aE, .long aP, .long lt])), (ot, .inl (cI, 200, .inl (fun j_ => nI (T j_)))), (on, .inl (cI, 78, .inl (fun j_ => nI (c j_)))), (od, .inl (cI, 78, .inl (fun j_ => nI (rd j_)))), (ow, .inl (cI, 468, .inl (fun j_ => nI (ww j_)))), (oi, .inl (cI, 32, .inl (fun j_ => nI (wi j_)))), (oe, .inl (cJ, 256, .inr (.inl EX))), (op, .inl (cJ, 256, .inr (.inl PA)))] [(0, .ref o), (1, .int kd), (2, .int nm)] [] 0 0 0
  have b0 := hok.2.1
  have b1 := hok.2.2.1
  have hp2 := p2_8 b0
  have hcd := hok.2.2.2.2.2.1
  have g_2 := hok.2.2.2.1
  have g_3 := hok.2.2.2.2.1
  refine g_aload_n 0 (hd := dX7_code_0) (C := hX) rfl rfl ?_
  refine g_get (hd := dX7_code_1) (C := hX) 0 2 rfl rfl in_X7_code_7 (by decide) (by decide +kernel) rfl ?_
  refine g_iconst (v := nI 0) hX dX7_code_4 (by decide) ?_
  refine g_iald (hd := dX7_code_5) (C := hX) 2 1 rfl rfl (by omega) (by decide) ?_
  refine g_iload_n 1 (hd := dX7_code_6) (C := hX) rfl rfl ?_
  refine g_iload_n 2 (hd := dX7_code_7) (C := hX) rfl rfl ?_
  refine g_callS (rest := []) hX (c_X7_canBe l D cC cI cJ cO (c 0) kd nm (by omega)) ok_X7_canBe (fun _ => rfl) (hd := dX7_code_8) gX7_code_X7_canBe ⟨by decide, by decide⟩ rfl (Nat.le_of_ble_eq_true rfl) ⟨Nat.zero_le _, Nat.zero_le _⟩ [] (by decide) rfl rfl ?_
  intro r_8 e_8
  rcases e_8 with ⟨rfl, p_8⟩ | ⟨rfl, p_8⟩
  · show GW X [(o, .inr (7, [.int (nI len), .ref ot, .ref on, .ref od, .ref ow, .int (nI ch), .int (nI va), .int (nI en), .ref oi, .ref oe, .ref op, .long aE, .long aP, .long lt])), (ot, .inl (cI, 200, .inl (fun j_ => nI (T j_)))), (on, .inl (cI, 78, .inl (fun j_ => nI (c j_)))), (od, .inl (cI, 78, .inl (fun j_ => nI (rd j_)))), (ow, .inl (cI, 468, .inl (fun j_ => nI (ww j_)))), (oi, .inl (cI, 32, .inl (fun j_ => nI (wi j_)))), (oe, .inl (cJ, 256, .inr (.inl EX))), (op, .inl (cJ, 256, .inr (.inl PA)))] [(0, .ref o), (1, .int kd), (2, .int nm)] [.int (nI 1)] 11 0 0
    refine g_if_neN 16 (hd := dX7_code_11) (C := hX) (by decide) (by decide) (fun c_11 => ?_) (fun c_11 => absurd c_11 (by decide))
    obtain ⟨jk, jn, hjk, hjn, rfl, rfl, hc9⟩ := cd_nat p_8 (by omega)
    have hc4 : c 4 ≤ 3 ∧ c 5 ≤ 8 := by rcases hcd with h | h | h | h <;> omega
    refine g_aload_n 0 (hd := dX7_code_16) (C := hX) rfl rfl ?_
    refine g_get (hd := dX7_code_17) (C := hX) 0 2 rfl rfl in_X7_code_7 (by decide) (by decide +kernel) rfl ?_
    refine g_iconst (v := nI 4) hX dX7_code_20 (by decide) ?_
    refine g_iald (hd := dX7_code_21) (C := hX) 2 1 rfl rfl (by omega) (by decide) ?_
    refine g_iload_n 1 (hd := dX7_code_22) (C := hX) rfl rfl ?_
    refine g_icmp_neN 39 (hd := dX7_code_23) (C := hX) (by decide) (by omega) (by omega) (fun c_23 => ?_) (fun c_23 => ?_)
    · refine g_aload_n 0 (hd := dX7_code_39) (C := hX) rfl rfl ?_
      refine g_callVp (rest := []) hX (c_X7_keeps l D cC cI cJ cO o ot on od ow oi oe op len ch va en aE aP lt T c rd ww wi EX PA hch) ok_X7_keeps rfl 0 rfl rfl (fun _ => rfl) (hd := dX7_code_40) gX7_code_X7_keeps ⟨by decide, by decide⟩ rfl (Nat.le_of_ble_eq_true rfl) ⟨Nat.zero_le _, Nat.zero_le _⟩ [] rfl rfl ?_
      intro _u40 _p40
      show GW X [(o, .inr (7, [.int (nI len), .ref ot, .ref on, .ref od, .ref ow, .int (nI (kpK ch)), .int (nI va), .int (nI en), .ref oi, .ref oe, .ref op, .long aE, .long aP, .long lt])), (ot, .inl (cI, 200, .inl (fun j_ => nI (T j_)))), (on, .inl (cI, 78, .inl (fun j_ => nI (c j_)))), (od, .inl (cI, 78, .inl (fun j_ => nI (rd j_)))), (ow, .inl (cI, 468, .inl (fun j_ => nI ((kwS ww c ch) j_)))), (oi, .inl (cI, 32, .inl (fun j_ => nI (wi j_)))), (oe, .inl (cJ, 256, .inr (.inl EX))), (op, .inl (cJ, 256, .inr (.inl PA)))] [(0, .ref o), (1, .int (nI jk)), (2, .int (nI jn))] [] 43 0 0
      refine g_aload_n 0 (hd := dX7_code_43) (C := hX) rfl rfl ?_
      refine g_get (hd := dX7_code_44) (C := hX) 0 2 rfl rfl in_X7_code_7 (by decide) (by decide +kernel) rfl ?_
      refine g_iconst (v := nI 4) hX dX7_code_47 (by decide) ?_
      refine g_iload_n 1 (hd := dX7_code_48) (C := hX) rfl rfl ?_
      refine g_iast (hd := dX7_code_49) (C := hX) 2 1 [(o, .inr (7, [.int (nI len), .ref ot, .ref on, .ref od, .ref ow, .int (nI (kpK ch)), .int (nI va), .int (nI en), .ref oi, .ref oe, .ref op, .long aE, .long aP, .long lt])), (ot, .inl (cI, 200, .inl (fun j_ => nI (T j_)))), (on, .inl (cI, 78, .inl (fun j_ => nI ((nup c 4 jk) j_)))), (od, .inl (cI, 78, .inl (fun j_ => nI (rd j_)))), (ow, .inl (cI, 468, .inl (fun j_ => nI ((kwS ww c ch) j_)))), (oi, .inl (cI, 32, .inl (fun j_ => nI (wi j_)))), (oe, .inl (cJ, 256, .inr (.inl EX))), (op, .inl (cJ, 256, .inr (.inl PA)))] rfl rfl (by omega) (by decide) (by rw [nup_I]; rfl) ?_
      refine g_aload_n 0 (hd := dX7_code_50) (C := hX) rfl rfl ?_
      refine g_get (hd := dX7_code_51) (C := hX) 0 2 rfl rfl in_X7_code_7 (by decide) (by decide +kernel) rfl ?_
      refine g_iconst (v := nI 5) hX dX7_code_54 (by decide) ?_
      refine g_iload_n 2 (hd := dX7_code_55) (C := hX) rfl rfl ?_
      refine g_iast (hd := dX7_code_56) (C := hX) 2 1 [(o, .inr (7, [.int (nI len), .ref ot, .ref on, .ref od, .ref ow, .int (nI (kpK ch)), .int (nI va), .int (nI en), .ref oi, .ref oe, .ref op, .long aE, .long aP, .long lt])), (ot, .inl (cI, 200, .inl (fun j_ => nI (T j_)))), (on, .inl (cI, 78, .inl (fun j_ => nI ((nup (nup c 4 jk) 5 jn) j_)))), (od, .inl (cI, 78, .inl (fun j_ => nI (rd j_)))), (ow, .inl (cI, 468, .inl (fun j_ => nI ((kwS ww c ch) j_)))), (oi, .inl (cI, 32, .inl (fun j_ => nI (wi j_)))), (oe, .inl (cJ, 256, .inr (.inl EX))), (op, .inl (cJ, 256, .inr (.inl PA)))] rfl rfl (by omega) (by decide) (by rw [nup_I]; rfl) ?_
      refine g_w [(o, .inr (7, [.int (nI len), .ref ot, .ref on, .ref od, .ref ow, .int (nI (kpK ch)), .int (nI va), .int (nI en), .ref oi, .ref oe, .ref op, .long aE, .long aP, .long lt])), (ot, .inl (cI, 200, .inl (fun j_ => nI (T j_)))), (on, .inl (cI, 78, .inl (fun j_ => nI ((scC c jk jn) j_)))), (od, .inl (cI, 78, .inl (fun j_ => nI (rd j_)))), (ow, .inl (cI, 468, .inl (fun j_ => nI ((kwS ww c ch) j_)))), (oi, .inl (cI, 32, .inl (fun j_ => nI (wi j_)))), (oe, .inl (cJ, 256, .inr (.inl EX))), (op, .inl (cJ, 256, .inr (.inl PA)))] (by rw [pr_c]) ?_
      refine g_aload_n 0 (hd := dX7_code_57) (C := hX) rfl rfl ?_
      refine g_callVs (rest := []) hX (c_X7_words l D cC cI cJ cO o ot on od ow oi oe op len (kpK ch) va en aE aP lt T (scC c jk jn) rd (kwS ww c ch) wi EX PA (okC_sc hok hc9)) ok_X7_words rfl 0 rfl rfl (hd := dX7_code_58) gX7_code_X7_words ⟨by decide, by decide⟩ rfl (Nat.le_of_ble_eq_true rfl) ⟨Nat.zero_le _, Nat.zero_le _⟩ [0, 1, 2, 3, 4, 5, 6, 7] (by decide) rfl rfl ?_
      intro r_58 e_58
      subst e_58
      show GW X [(o, .inr (7, [.int (nI len), .ref ot, .ref on, .ref od, .ref ow, .int (nI (kpK ch)), .int (nI va), .int (nI en), .ref oi, .ref oe, .ref op, .long aE, .long aP, .long lt])), (ot, .inl (cI, 200, .inl (fun j_ => nI (T j_)))), (on, .inl (cI, 78, .inl (fun j_ => nI ((scC c jk jn) j_)))), (od, .inl (cI, 78, .inl (fun j_ => nI (rd j_)))), (ow, .inl (cI, 468, .inl (fun j_ => nI ((kwS ww c ch) j_)))), (oi, .inl (cI, 32, .inl (fun j_ => nI (wi j_)))), (oe, .inl (cJ, 256, .inr (.inl EX))), (op, .inl (cJ, 256, .inr (.inl PA)))] [(0, .ref o), (1, .int (nI jk)), (2, .int (nI jn))] [.int (nI (fb_ct (inB (scC c jk jn)) (2 ^ (scC c jk jn) 0)))] 61 0 0
      exact (hret ((nI (fb_ct (inB (scC c jk jn)) (2 ^ (scC c jk jn) 0))), (scC c jk jn), kpK ch, (kwS ww c ch)) _ _ (by unfold coS; rw [iP_y p_8, cl_nI (by omega), cl_nI (by omega), if_neg (fun z => c_23 z.1)]; rfl)).2.1 _ rfl rfl dX7_code_61
    · refine g_aload_n 0 (hd := dX7_code_26) (C := hX) rfl rfl ?_
      refine g_get (hd := dX7_code_27) (C := hX) 0 2 rfl rfl in_X7_code_7 (by decide) (by decide +kernel) rfl ?_
      refine g_iconst (v := nI 5) hX dX7_code_30 (by decide) ?_
      refine g_iald (hd := dX7_code_31) (C := hX) 2 1 rfl rfl (by omega) (by decide) ?_
      refine g_iload_n 2 (hd := dX7_code_32) (C := hX) rfl rfl ?_
      refine g_icmp_neN 39 (hd := dX7_code_33) (C := hX) (by decide) (by omega) (by omega) (fun c_33 => ?_) (fun c_33 => ?_)
      · refine g_aload_n 0 (hd := dX7_code_39) (C := hX) rfl rfl ?_
        refine g_callVp (rest := []) hX (c_X7_keeps l D cC cI cJ cO o ot on od ow oi oe op len ch va en aE aP lt T c rd ww wi EX PA hch) ok_X7_keeps rfl 0 rfl rfl (fun _ => rfl) (hd := dX7_code_40) gX7_code_X7_keeps ⟨by decide, by decide⟩ rfl (Nat.le_of_ble_eq_true rfl) ⟨Nat.zero_le _, Nat.zero_le _⟩ [] rfl rfl ?_
        intro _u40 _p40
        show GW X [(o, .inr (7, [.int (nI len), .ref ot, .ref on, .ref od, .ref ow, .int (nI (kpK ch)), .int (nI va), .int (nI en), .ref oi, .ref oe, .ref op, .long aE, .long aP, .long lt])), (ot, .inl (cI, 200, .inl (fun j_ => nI (T j_)))), (on, .inl (cI, 78, .inl (fun j_ => nI (c j_)))), (od, .inl (cI, 78, .inl (fun j_ => nI (rd j_)))), (ow, .inl (cI, 468, .inl (fun j_ => nI ((kwS ww c ch) j_)))), (oi, .inl (cI, 32, .inl (fun j_ => nI (wi j_)))), (oe, .inl (cJ, 256, .inr (.inl EX))), (op, .inl (cJ, 256, .inr (.inl PA)))] [(0, .ref o), (1, .int (nI jk)), (2, .int (nI jn))] [] 43 0 0
        refine g_aload_n 0 (hd := dX7_code_43) (C := hX) rfl rfl ?_
        refine g_get (hd := dX7_code_44) (C := hX) 0 2 rfl rfl in_X7_code_7 (by decide) (by decide +kernel) rfl ?_
        refine g_iconst (v := nI 4) hX dX7_code_47 (by decide) ?_
        refine g_iload_n 1 (hd := dX7_code_48) (C := hX) rfl rfl ?_
        refine g_iast (hd := dX7_code_49) (C := hX) 2 1 [(o, .inr (7, [.int (nI len), .ref ot, .ref on, .ref od, .ref ow, .int (nI (kpK ch)), .int (nI va), .int (nI en), .ref oi, .ref oe, .ref op, .long aE, .long aP, .long lt])), (ot, .inl (cI, 200, .inl (fun j_ => nI (T j_)))), (on, .inl (cI, 78, .inl (fun j_ => nI ((nup c 4 jk) j_)))), (od, .inl (cI, 78, .inl (fun j_ => nI (rd j_)))), (ow, .inl (cI, 468, .inl (fun j_ => nI ((kwS ww c ch) j_)))), (oi, .inl (cI, 32, .inl (fun j_ => nI (wi j_)))), (oe, .inl (cJ, 256, .inr (.inl EX))), (op, .inl (cJ, 256, .inr (.inl PA)))] rfl rfl (by omega) (by decide) (by rw [nup_I]; rfl) ?_
        refine g_aload_n 0 (hd := dX7_code_50) (C := hX) rfl rfl ?_
        refine g_get (hd := dX7_code_51) (C := hX) 0 2 rfl rfl in_X7_code_7 (by decide) (by decide +kernel) rfl ?_
        refine g_iconst (v := nI 5) hX dX7_code_54 (by decide) ?_
        refine g_iload_n 2 (hd := dX7_code_55) (C := hX) rfl rfl ?_
        refine g_iast (hd := dX7_code_56) (C := hX) 2 1 [(o, .inr (7, [.int (nI len), .ref ot, .ref on, .ref od, .ref ow, .int (nI (kpK ch)), .int (nI va), .int (nI en), .ref oi, .ref oe, .ref op, .long aE, .long aP, .long lt])), (ot, .inl (cI, 200, .inl (fun j_ => nI (T j_)))), (on, .inl (cI, 78, .inl (fun j_ => nI ((nup (nup c 4 jk) 5 jn) j_)))), (od, .inl (cI, 78, .inl (fun j_ => nI (rd j_)))), (ow, .inl (cI, 468, .inl (fun j_ => nI ((kwS ww c ch) j_)))), (oi, .inl (cI, 32, .inl (fun j_ => nI (wi j_)))), (oe, .inl (cJ, 256, .inr (.inl EX))), (op, .inl (cJ, 256, .inr (.inl PA)))] rfl rfl (by omega) (by decide) (by rw [nup_I]; rfl) ?_
        refine g_w [(o, .inr (7, [.int (nI len), .ref ot, .ref on, .ref od, .ref ow, .int (nI (kpK ch)), .int (nI va), .int (nI en), .ref oi, .ref oe, .ref op, .long aE, .long aP, .long lt])), (ot, .inl (cI, 200, .inl (fun j_ => nI (T j_)))), (on, .inl (cI, 78, .inl (fun j_ => nI ((scC c jk jn) j_)))), (od, .inl (cI, 78, .inl (fun j_ => nI (rd j_)))), (ow, .inl (cI, 468, .inl (fun j_ => nI ((kwS ww c ch) j_)))), (oi, .inl (cI, 32, .inl (fun j_ => nI (wi j_)))), (oe, .inl (cJ, 256, .inr (.inl EX))), (op, .inl (cJ, 256, .inr (.inl PA)))] (by rw [pr_c]) ?_
        refine g_aload_n 0 (hd := dX7_code_57) (C := hX) rfl rfl ?_
        refine g_callVs (rest := []) hX (c_X7_words l D cC cI cJ cO o ot on od ow oi oe op len (kpK ch) va en aE aP lt T (scC c jk jn) rd (kwS ww c ch) wi EX PA (okC_sc hok hc9)) ok_X7_words rfl 0 rfl rfl (hd := dX7_code_58) gX7_code_X7_words ⟨by decide, by decide⟩ rfl (Nat.le_of_ble_eq_true rfl) ⟨Nat.zero_le _, Nat.zero_le _⟩ [0, 1, 2, 3, 4, 5, 6, 7] (by decide) rfl rfl ?_
        intro r_58 e_58
        subst e_58
        show GW X [(o, .inr (7, [.int (nI len), .ref ot, .ref on, .ref od, .ref ow, .int (nI (kpK ch)), .int (nI va), .int (nI en), .ref oi, .ref oe, .ref op, .long aE, .long aP, .long lt])), (ot, .inl (cI, 200, .inl (fun j_ => nI (T j_)))), (on, .inl (cI, 78, .inl (fun j_ => nI ((scC c jk jn) j_)))), (od, .inl (cI, 78, .inl (fun j_ => nI (rd j_)))), (ow, .inl (cI, 468, .inl (fun j_ => nI ((kwS ww c ch) j_)))), (oi, .inl (cI, 32, .inl (fun j_ => nI (wi j_)))), (oe, .inl (cJ, 256, .inr (.inl EX))), (op, .inl (cJ, 256, .inr (.inl PA)))] [(0, .ref o), (1, .int (nI jk)), (2, .int (nI jn))] [.int (nI (fb_ct (inB (scC c jk jn)) (2 ^ (scC c jk jn) 0)))] 61 0 0
        exact (hret ((nI (fb_ct (inB (scC c jk jn)) (2 ^ (scC c jk jn) 0))), (scC c jk jn), kpK ch, (kwS ww c ch)) _ _ (by unfold coS; rw [iP_y p_8, cl_nI (by omega), cl_nI (by omega), if_neg (fun z => c_33 z.2)]; rfl)).2.1 _ rfl rfl dX7_code_61
      · refine g_bipush (v := (-2)) hX dX7_code_36 (by decide) ?_
        exact (hret ((-2), c, ch, ww) _ _ (by unfold coS; rw [iP_y p_8, cl_nI (by omega), cl_nI (by omega), if_pos ⟨c_23, c_33⟩]; rfl)).2.1 _ rfl rfl dX7_code_38
  · show GW X [(o, .inr (7, [.int (nI len), .ref ot, .ref on, .ref od, .ref ow, .int (nI ch), .int (nI va), .int (nI en), .ref oi, .ref oe, .ref op, .long aE, .long aP, .long lt])), (ot, .inl (cI, 200, .inl (fun j_ => nI (T j_)))), (on, .inl (cI, 78, .inl (fun j_ => nI (c j_)))), (od, .inl (cI, 78, .inl (fun j_ => nI (rd j_)))), (ow, .inl (cI, 468, .inl (fun j_ => nI (ww j_)))), (oi, .inl (cI, 32, .inl (fun j_ => nI (wi j_)))), (oe, .inl (cJ, 256, .inr (.inl EX))), (op, .inl (cJ, 256, .inr (.inl PA)))] [(0, .ref o), (1, .int kd), (2, .int nm)] [.int (nI 0)] 11 0 0
    refine g_if_neN 16 (hd := dX7_code_11) (C := hX) (by decide) (by decide) (fun c_11 => absurd c_11 (by decide)) (fun c_11 => ?_)
    refine g_iconst (v := (-1)) hX dX7_code_14 (by decide) ?_
    exact (hret ((-1), c, ch, ww) _ _ (by rw [show coS c kd nm = ((-1), 0, c) from iP_n p_8]; rfl)).2.1 _ rfl rfl dX7_code_15

theorem in_X7_build_7 : ∀ w ∈ wsX70, w ∈ wsX7_build := fun _ h => List.mem_cons_of_mem _ (List.mem_append_right _ h)
theorem ok_X7_build : gOK yX7_build wsX7_build ({ frames := 1, cells := 0, slots := 0, locals := 24 }) 6 1 := ⟨⟨_, _, _, rfl⟩, rfl, rfl, by decide, by decide, by decide +kernel⟩
set_option maxRecDepth 100000 in
set_option maxHeartbeats 4000000 in
theorem c_X7_build (l : Launch) (D : va_G) (cC cI cJ cO : ClassId) (o : Nat) (ot : Nat) (on : Nat) (od : Nat) (ow : Nat) (oi : Nat) (oe : Nat) (op : Nat) (len : Nat) (ch : Nat) (va : Nat) (en : Nat) (aE : Int64) (aP : Int64) (lt : Int64) (T : Nat → Nat) (c : Nat → Nat) (rd : Nat → Nat) (ww : Nat → Nat) (wi : Nat → Nat) (EX : Nat → Int64) (PA : Nat → Int64) (m : Int32) (hok : okC c) (hch : ch ≤ 6) : CM (S := Int32 × (Nat → Nat) × Nat × (Nat → Nat)) l D (tyL cC cI cJ cO) yX7_build wsX7_build ({ frames := 1, cells := 0, slots := 0, locals := 24 }) [.ref o, .int m] [(o, .inr (7, [.int (nI len), .ref ot, .ref on, .ref od, .ref ow, .int (nI ch), .int (nI va), .int (nI en), .ref oi, .ref oe, .ref op, .long aE, .long aP, .long lt])), (ot, .inl (cI, 200, .inl (fun j_ => nI (T j_)))), (on, .inl (cI, 78, .inl (fun j_ => nI (c j_)))), (od, .inl (cI, 78, .inl (fun j_ => nI (rd j_)))), (ow, .inl (cI, 468, .inl (fun j_ => nI (ww j_)))), (oi, .inl (cI, 32, .inl (fun j_ => nI (wi j_)))), (oe, .inl (cJ, 256, .inr (.inl EX))), (op, .inl (cJ, 256, .inr (.inl PA)))] (fun u => some (.int u.1)) (fun u => u = edS (buR c m) c ch ww) (fun u_ => [(o, .inr (7, [.int (nI len), .ref ot, .ref on, .ref od, .ref ow, .int (nI u_.2.2.1), .int (nI va), .int (nI en), .ref oi, .ref oe, .ref op, .long aE, .long aP, .long lt])), (ot, .inl (cI, 200, .inl (fun j_ => nI (T j_)))), (on, .inl (cI, 78, .inl (fun j_ => nI (u_.2.1 j_)))), (od, .inl (cI, 78, .inl (fun j_ => nI (rd j_)))), (ow, .inl (cI, 468, .inl (fun j_ => nI (u_.2.2.2 j_)))), (oi, .inl (cI, 32, .inl (fun j_ => nI (wi j_)))), (oe, .inl (cJ, 256, .inr (.inl EX))), (op, .inl (cJ, 256, .inr (.inl PA)))]) := by
  refine CM_in (cc := cX7_build) (maxL := 6) (ret := (some .int)) (by decide) rfl (Nat.le_of_ble_eq_true rfl) ?_
  intro X hX hret
  show GW X [(o, .inr (7, [.int (nI len), .ref ot, .ref on, .ref od, .ref ow, .int (nI ch), .int (nI va), .int (nI en), .ref oi, .ref oe, .ref op, .long aE, .long aP, .long lt])), (ot, .inl (cI, 200, .inl (fun j_ => nI (T j_)))), (on, .inl (cI, 78, .inl (fun j_ => nI (c j_)))), (od, .inl (cI, 78, .inl (fun j_ => nI (rd j_)))), (ow, .inl (cI, 468, .inl (fun j_ => nI (ww j_)))), (oi, .inl (cI, 32, .inl (fun j_ => nI (wi j_)))), (oe, .inl (cJ, 256, .inr (.inl EX))), (op, .inl (cJ, 256, .inr (.inl PA)))] [(0, .ref o), (1, .int m)] [] 0 0 0
  have b0 := hok.2.1
  have b1 := hok.2.2.1
  have hp2 := p2_8 b0
  have hcd := hok.2.2.2.2.2.1
  have g_2 := hok.2.2.2.1
  have g_3 := hok.2.2.2.2.1
  refine g_iload_n 1 (hd := dX7_build_0) (C := hX) rfl rfl ?_
  refine g_iconst (v := nI 1) hX dX7_build_1 (by decide) ?_
  refine g_iconst (v := nI 4) hX dX7_build_2 (by decide) ?_
  refine g_callS (rest := []) hX (c_X7_isIn l D cC cI cJ cO m (nI 1) (nI 4)) ok_X7_isIn (fun _ => rfl) (hd := dX7_build_3) gX7_build_X7_isIn ⟨by decide, by decide⟩ rfl (Nat.le_of_ble_eq_true rfl) ⟨Nat.zero_le _, Nat.zero_le _⟩ [] (by decide) rfl rfl ?_
  intro r_3 e_3
  rcases e_3 with ⟨rfl, p_3⟩ | ⟨rfl, p_3⟩
  · show GW X [(o, .inr (7, [.int (nI len), .ref ot, .ref on, .ref od, .ref ow, .int (nI ch), .int (nI va), .int (nI en), .ref oi, .ref oe, .ref op, .long aE, .long aP, .long lt])), (ot, .inl (cI, 200, .inl (fun j_ => nI (T j_)))), (on, .inl (cI, 78, .inl (fun j_ => nI (c j_)))), (od, .inl (cI, 78, .inl (fun j_ => nI (rd j_)))), (ow, .inl (cI, 468, .inl (fun j_ => nI (ww j_)))), (oi, .inl (cI, 32, .inl (fun j_ => nI (wi j_)))), (oe, .inl (cJ, 256, .inr (.inl EX))), (op, .inl (cJ, 256, .inr (.inl PA)))] [(0, .ref o), (1, .int m)] [.int (nI 1)] 6 0 0
    refine g_if_neN 11 (hd := dX7_build_6) (C := hX) (by decide) (by decide) (fun c_6 => ?_) (fun c_6 => absurd c_6 (by decide))
    obtain ⟨jm, hjm1, hjm, rfl⟩ := gl_rng (by omega) (by omega) (fun z => nlt_of p_3.1 z) p_3.2
    refine g_aload_n 0 (hd := dX7_build_11) (C := hX) rfl rfl ?_
    refine g_callVp (rest := []) hX (c_X7_keeps l D cC cI cJ cO o ot on od ow oi oe op len ch va en aE aP lt T c rd ww wi EX PA hch) ok_X7_keeps rfl 0 rfl rfl (fun _ => rfl) (hd := dX7_build_12) gX7_build_X7_keeps ⟨by decide, by decide⟩ rfl (Nat.le_of_ble_eq_true rfl) ⟨Nat.zero_le _, Nat.zero_le _⟩ [] rfl rfl ?_
    intro _u12 _p12
    show GW X [(o, .inr (7, [.int (nI len), .ref ot, .ref on, .ref od, .ref ow, .int (nI (kpK ch)), .int (nI va), .int (nI en), .ref oi, .ref oe, .ref op, .long aE, .long aP, .long lt])), (ot, .inl (cI, 200, .inl (fun j_ => nI (T j_)))), (on, .inl (cI, 78, .inl (fun j_ => nI (c j_)))), (od, .inl (cI, 78, .inl (fun j_ => nI (rd j_)))), (ow, .inl (cI, 468, .inl (fun j_ => nI ((kwS ww c ch) j_)))), (oi, .inl (cI, 32, .inl (fun j_ => nI (wi j_)))), (oe, .inl (cJ, 256, .inr (.inl EX))), (op, .inl (cJ, 256, .inr (.inl PA)))] [(0, .ref o), (1, .int (nI jm))] [] 15 0 0
    refine g_iconst (v := nI 0) hX dX7_build_15 (by decide) ?_
    refine g_istore_n [(0, .ref o), (1, .int (nI jm)), (2, .int (nI 0))] [1, 2, 0] (hd := dX7_build_16) (C := hX) rfl (by decide) rfl ?_
    have L_17 : ∀ (n_17 : Nat) (i : Nat), 78 - i < n_17 → (i ≤ 78) → GW X [(o, .inr (7, [.int (nI len), .ref ot, .ref on, .ref od, .ref ow, .int (nI (kpK ch)), .int (nI va), .int (nI en), .ref oi, .ref oe, .ref op, .long aE, .long aP, .long lt])), (ot, .inl (cI, 200, .inl (fun j_ => nI (T j_)))), (on, .inl (cI, 78, .inl (fun j_ => nI ((clR c i) j_)))), (od, .inl (cI, 78, .inl (fun j_ => nI (rd j_)))), (ow, .inl (cI, 468, .inl (fun j_ => nI ((kwS ww c ch) j_)))), (oi, .inl (cI, 32, .inl (fun j_ => nI (wi j_)))), (oe, .inl (cJ, 256, .inr (.inl EX))), (op, .inl (cJ, 256, .inr (.inl PA)))] [(0, .ref o), (1, .int (nI jm)), (2, .int (nI i))] [] 17 0 0 := by
      intro n_17
      induction n_17 with
      | zero => intro i hm_17; exact absurd hm_17 (Nat.not_lt_zero _)
      | succ n_17 ih_17 =>
        intro i hm_17 hiL
        refine g_iload_n 2 (hd := dX7_build_17) (C := hX) rfl rfl ?_
        refine g_bipush (v := nI 78) hX dX7_build_18 (by decide) ?_
        refine g_icmp_geN 36 (hd := dX7_build_20) (C := hX) (by decide) (by omega) (by omega) (fun c_20 => ?_) (fun c_20 => ?_)
        · refine g_aload_n 0 (hd := dX7_build_36) (C := hX) rfl rfl ?_
          refine g_get (hd := dX7_build_37) (C := hX) 0 2 rfl rfl in_X7_build_7 (by decide) (by decide +kernel) rfl ?_
          refine g_iconst (v := nI 0) hX dX7_build_40 (by decide) ?_
          refine g_iconst (v := nI 2) hX dX7_build_41 (by decide) ?_
          refine g_iload_n 1 (hd := dX7_build_42) (C := hX) rfl rfl ?_
          refine g_imul hX dX7_build_43 ?_
          refine g_top (y := (nI (2 * jm))) (pk_mul _ _) ?_
          refine g_iast (hd := dX7_build_44) (C := hX) 2 1 [(o, .inr (7, [.int (nI len), .ref ot, .ref on, .ref od, .ref ow, .int (nI (kpK ch)), .int (nI va), .int (nI en), .ref oi, .ref oe, .ref op, .long aE, .long aP, .long lt])), (ot, .inl (cI, 200, .inl (fun j_ => nI (T j_)))), (on, .inl (cI, 78, .inl (fun j_ => nI ((nup (clR c i) 0 (2 * jm)) j_)))), (od, .inl (cI, 78, .inl (fun j_ => nI (rd j_)))), (ow, .inl (cI, 468, .inl (fun j_ => nI ((kwS ww c ch) j_)))), (oi, .inl (cI, 32, .inl (fun j_ => nI (wi j_)))), (oe, .inl (cJ, 256, .inr (.inl EX))), (op, .inl (cJ, 256, .inr (.inl PA)))] rfl rfl (by omega) (by decide) (by rw [nup_I]; rfl) ?_
          refine g_aload_n 0 (hd := dX7_build_45) (C := hX) rfl rfl ?_
          refine g_get (hd := dX7_build_46) (C := hX) 0 2 rfl rfl in_X7_build_7 (by decide) (by decide +kernel) rfl ?_
          refine g_iconst (v := nI 3) hX dX7_build_49 (by decide) ?_
          refine g_iconst (v := nI 1) hX dX7_build_50 (by decide) ?_
          refine g_iast (hd := dX7_build_51) (C := hX) 2 1 [(o, .inr (7, [.int (nI len), .ref ot, .ref on, .ref od, .ref ow, .int (nI (kpK ch)), .int (nI va), .int (nI en), .ref oi, .ref oe, .ref op, .long aE, .long aP, .long lt])), (ot, .inl (cI, 200, .inl (fun j_ => nI (T j_)))), (on, .inl (cI, 78, .inl (fun j_ => nI ((nup (nup (clR c i) 0 (2 * jm)) 3 1) j_)))), (od, .inl (cI, 78, .inl (fun j_ => nI (rd j_)))), (ow, .inl (cI, 468, .inl (fun j_ => nI ((kwS ww c ch) j_)))), (oi, .inl (cI, 32, .inl (fun j_ => nI (wi j_)))), (oe, .inl (cJ, 256, .inr (.inl EX))), (op, .inl (cJ, 256, .inr (.inl PA)))] rfl rfl (by omega) (by decide) (by rw [nup_I]; rfl) ?_
          refine g_aload_n 0 (hd := dX7_build_52) (C := hX) rfl rfl ?_
          refine g_get (hd := dX7_build_53) (C := hX) 0 2 rfl rfl in_X7_build_7 (by decide) (by decide +kernel) rfl ?_
          refine g_iconst (v := nI 4) hX dX7_build_56 (by decide) ?_
          refine g_iconst (v := nI 3) hX dX7_build_57 (by decide) ?_
          refine g_iast (hd := dX7_build_58) (C := hX) 2 1 [(o, .inr (7, [.int (nI len), .ref ot, .ref on, .ref od, .ref ow, .int (nI (kpK ch)), .int (nI va), .int (nI en), .ref oi, .ref oe, .ref op, .long aE, .long aP, .long lt])), (ot, .inl (cI, 200, .inl (fun j_ => nI (T j_)))), (on, .inl (cI, 78, .inl (fun j_ => nI ((nup (nup (nup (clR c i) 0 (2 * jm)) 3 1) 4 3) j_)))), (od, .inl (cI, 78, .inl (fun j_ => nI (rd j_)))), (ow, .inl (cI, 468, .inl (fun j_ => nI ((kwS ww c ch) j_)))), (oi, .inl (cI, 32, .inl (fun j_ => nI (wi j_)))), (oe, .inl (cJ, 256, .inr (.inl EX))), (op, .inl (cJ, 256, .inr (.inl PA)))] rfl rfl (by omega) (by decide) (by rw [nup_I]; rfl) ?_
          refine g_iconst (v := nI 1) hX dX7_build_59 (by decide) ?_
          refine g_istore_n [(0, .ref o), (1, .int (nI jm)), (2, .int (nI 1))] [1, 2, 0] (hd := dX7_build_60) (C := hX) rfl (by decide) rfl ?_
          have L_61 : ∀ (n_61 : Nat) (t : Nat), jm - t < n_61 → (t + 1 ≤ jm) → GW X [(o, .inr (7, [.int (nI len), .ref ot, .ref on, .ref od, .ref ow, .int (nI (kpK ch)), .int (nI va), .int (nI en), .ref oi, .ref oe, .ref op, .long aE, .long aP, .long lt])), (ot, .inl (cI, 200, .inl (fun j_ => nI (T j_)))), (on, .inl (cI, 78, .inl (fun j_ => nI ((trR (scC (stC (clR c 78) (2 * jm)) 3 0) t) j_)))), (od, .inl (cI, 78, .inl (fun j_ => nI (rd j_)))), (ow, .inl (cI, 468, .inl (fun j_ => nI ((kwS ww c ch) j_)))), (oi, .inl (cI, 32, .inl (fun j_ => nI (wi j_)))), (oe, .inl (cJ, 256, .inr (.inl EX))), (op, .inl (cJ, 256, .inr (.inl PA)))] [(0, .ref o), (1, .int (nI jm)), (2, .int (nI (t + 1)))] [] 61 0 0 := by
            intro n_61
            induction n_61 with
            | zero => intro t hm_61; exact absurd hm_61 (Nat.not_lt_zero _)
            | succ n_61 ih_61 =>
              intro t hm_61 htL
              refine g_iload_n 2 (hd := dX7_build_61) (C := hX) rfl rfl ?_
              refine g_iload_n 1 (hd := dX7_build_62) (C := hX) rfl rfl ?_
              refine g_icmp_geN 197 (hd := dX7_build_63) (C := hX) (by decide) (by omega) (by omega) (fun c_63 => ?_) (fun c_63 => ?_)
              · refine g_aload_n 0 (hd := dX7_build_197) (C := hX) rfl rfl ?_
                refine g_get (hd := dX7_build_198) (C := hX) 0 2 rfl rfl in_X7_build_7 (by decide) (by decide +kernel) rfl ?_
                refine g_iconst (v := nI 1) hX dX7_build_201 (by decide) ?_
                refine g_iald (hd := dX7_build_202) (C := hX) 2 1 rfl rfl (by omega) (by decide) ?_
                exact (hret ((nI ((trR (scC (stC (clR c 78) (2 * jm)) 3 0) t) 1)), (trR (scC (stC (clR c 78) (2 * jm)) 3 0) t), kpK ch, (kwS ww c ch)) _ _ (by unfold buR; rw [iP_y ⟨jm, hjm1, hjm, rfl⟩, cl_nI (by omega), ed_1, show t = jm - 1 from by omega]; rfl)).2.1 _ rfl rfl dX7_build_203
              · have q0 := trR_0 c jm t
                have q1 := trR_1 c jm t
                refine g_aload_n 0 (hd := dX7_build_66) (C := hX) rfl rfl ?_
                refine g_get (hd := dX7_build_67) (C := hX) 0 2 rfl rfl in_X7_build_7 (by decide) (by decide +kernel) rfl ?_
                refine g_iconst (v := nI 2) hX dX7_build_70 (by decide) ?_
                refine g_iald (hd := dX7_build_71) (C := hX) 2 1 rfl rfl (by omega) (by decide) ?_
                refine g_istore_n [(0, .ref o), (1, .int (nI jm)), (2, .int (nI (t + 1))), (3, .int (nI ((trR (scC (stC (clR c 78) (2 * jm)) 3 0) t) 2)))] [1, 2, 3, 0] (hd := dX7_build_72) (C := hX) rfl (by decide) rfl ?_
                refine g_aload_n 0 (hd := dX7_build_73) (C := hX) rfl rfl ?_
                refine g_get (hd := dX7_build_74) (C := hX) 0 2 rfl rfl in_X7_build_7 (by decide) (by decide +kernel) rfl ?_
                refine g_iconst (v := nI 3) hX dX7_build_77 (by decide) ?_
                refine g_iald (hd := dX7_build_78) (C := hX) 2 1 rfl rfl (by omega) (by decide) ?_
                refine g_istore [(0, .ref o), (1, .int (nI jm)), (2, .int (nI (t + 1))), (3, .int (nI ((trR (scC (stC (clR c 78) (2 * jm)) 3 0) t) 2))), (4, .int (nI ((trR (scC (stC (clR c 78) (2 * jm)) 3 0) t) 3)))] [1, 2, 3, 4, 0] (hd := dX7_build_79) (C := hX) (by decide) rfl ?_
                refine g_aload_n 0 (hd := dX7_build_81) (C := hX) rfl rfl ?_
                refine g_callVs (rest := []) hX (c_X7_wires l D cC cI cJ cO o ot on od ow oi oe op len (kpK ch) va en aE aP lt T (trR (scC (stC (clR c 78) (2 * jm)) 3 0) t) rd (kwS ww c ch) wi EX PA) ok_X7_wires rfl 0 rfl rfl (hd := dX7_build_82) gX7_build_X7_wires ⟨by decide, by decide⟩ rfl (Nat.le_of_ble_eq_true rfl) ⟨Nat.zero_le _, Nat.zero_le _⟩ [0, 1, 2, 3, 4, 5, 6, 7] (by decide) rfl rfl ?_
                intro r_82 e_82
                subst e_82
                show GW X [(o, .inr (7, [.int (nI len), .ref ot, .ref on, .ref od, .ref ow, .int (nI (kpK ch)), .int (nI va), .int (nI en), .ref oi, .ref oe, .ref op, .long aE, .long aP, .long lt])), (ot, .inl (cI, 200, .inl (fun j_ => nI (T j_)))), (on, .inl (cI, 78, .inl (fun j_ => nI ((trR (scC (stC (clR c 78) (2 * jm)) 3 0) t) j_)))), (od, .inl (cI, 78, .inl (fun j_ => nI (rd j_)))), (ow, .inl (cI, 468, .inl (fun j_ => nI ((kwS ww c ch) j_)))), (oi, .inl (cI, 32, .inl (fun j_ => nI (wi j_)))), (oe, .inl (cJ, 256, .inr (.inl EX))), (op, .inl (cJ, 256, .inr (.inl PA)))] [(0, .ref o), (1, .int (nI jm)), (2, .int (nI (t + 1))), (3, .int (nI ((trR (scC (stC (clR c 78) (2 * jm)) 3 0) t) 2))), (4, .int (nI ((trR (scC (stC (clR c 78) (2 * jm)) 3 0) t) 3)))] [.int (nI ((trR (scC (stC (clR c 78) (2 * jm)) 3 0) t) 0 + (trR (scC (stC (clR c 78) (2 * jm)) 3 0) t) 1))] 85 0 0
                refine g_istore [(0, .ref o), (1, .int (nI jm)), (2, .int (nI (t + 1))), (3, .int (nI ((trR (scC (stC (clR c 78) (2 * jm)) 3 0) t) 2))), (4, .int (nI ((trR (scC (stC (clR c 78) (2 * jm)) 3 0) t) 3))), (5, .int (nI ((trR (scC (stC (clR c 78) (2 * jm)) 3 0) t) 0 + (trR (scC (stC (clR c 78) (2 * jm)) 3 0) t) 1)))] [1, 2, 3, 4, 5, 0] (hd := dX7_build_85) (C := hX) (by decide) rfl ?_
                refine g_aload_n 0 (hd := dX7_build_87) (C := hX) rfl rfl ?_
                refine g_get (hd := dX7_build_88) (C := hX) 0 2 rfl rfl in_X7_build_7 (by decide) (by decide +kernel) rfl ?_
                refine g_iconst (v := nI 0) hX dX7_build_91 (by decide) ?_
                refine g_iload_n 3 (hd := dX7_build_92) (C := hX) rfl rfl ?_
                refine g_iconst (v := nI 2) hX dX7_build_93 (by decide) ?_
                refine g_iload_n 2 (hd := dX7_build_94) (C := hX) rfl rfl ?_
                refine g_imul hX dX7_build_95 ?_
                refine g_top (y := (nI (2 * (t + 1)))) (pk_mul _ _) ?_
                refine g_callS (rest := []) hX (c_X7_adds l D cC cI cJ cO on (trR (scC (stC (clR c 78) (2 * jm)) 3 0) t) 0 ((trR (scC (stC (clR c 78) (2 * jm)) 3 0) t) 2) (2 * (t + 1)) (by rw [trR_1]; omega)) ok_X7_adds (fun _ => rfl) (hd := dX7_build_96) gX7_build_X7_adds ⟨by decide, by decide⟩ rfl (Nat.le_of_ble_eq_true rfl) ⟨Nat.zero_le _, Nat.zero_le _⟩ [2] (by decide) rfl rfl ?_
                intro _u96 _p96
                show GW X [(o, .inr (7, [.int (nI len), .ref ot, .ref on, .ref od, .ref ow, .int (nI (kpK ch)), .int (nI va), .int (nI en), .ref oi, .ref oe, .ref op, .long aE, .long aP, .long lt])), (ot, .inl (cI, 200, .inl (fun j_ => nI (T j_)))), (on, .inl (cI, 78, .inl (fun j_ => nI ((agC (trR (scC (stC (clR c 78) (2 * jm)) 3 0) t) 0 ((trR (scC (stC (clR c 78) (2 * jm)) 3 0) t) 2) (2 * (t + 1))) j_)))), (od, .inl (cI, 78, .inl (fun j_ => nI (rd j_)))), (ow, .inl (cI, 468, .inl (fun j_ => nI ((kwS ww c ch) j_)))), (oi, .inl (cI, 32, .inl (fun j_ => nI (wi j_)))), (oe, .inl (cJ, 256, .inr (.inl EX))), (op, .inl (cJ, 256, .inr (.inl PA)))] [(0, .ref o), (1, .int (nI jm)), (2, .int (nI (t + 1))), (3, .int (nI ((trR (scC (stC (clR c 78) (2 * jm)) 3 0) t) 2))), (4, .int (nI ((trR (scC (stC (clR c 78) (2 * jm)) 3 0) t) 3))), (5, .int (nI ((trR (scC (stC (clR c 78) (2 * jm)) 3 0) t) 0 + (trR (scC (stC (clR c 78) (2 * jm)) 3 0) t) 1)))] [] 99 0 0
                refine g_aload_n 0 (hd := dX7_build_99) (C := hX) rfl rfl ?_
                refine g_get (hd := dX7_build_100) (C := hX) 0 2 rfl rfl in_X7_build_7 (by decide) (by decide +kernel) rfl ?_
                refine g_iconst (v := nI 0) hX dX7_build_103 (by decide) ?_
                refine g_iload 4 (hd := dX7_build_104) (C := hX) rfl ?_
                refine g_iconst (v := nI 2) hX dX7_build_106 (by decide) ?_
                refine g_iload_n 2 (hd := dX7_build_107) (C := hX) rfl rfl ?_
                refine g_imul hX dX7_build_108 ?_
                refine g_top (y := (nI (2 * (t + 1)))) (pk_mul _ _) ?_
                refine g_iconst (v := nI 1) hX dX7_build_109 (by decide) ?_
                refine g_iadd hX dX7_build_110 ?_
                refine g_top (y := (nI ((2 * (t + 1)) + 1))) (nI_add _ _) ?_
                refine g_callS (rest := []) hX (c_X7_adds l D cC cI cJ cO on (agC (trR (scC (stC (clR c 78) (2 * jm)) 3 0) t) 0 ((trR (scC (stC (clR c 78) (2 * jm)) 3 0) t) 2) (2 * (t + 1))) 0 ((trR (scC (stC (clR c 78) (2 * jm)) 3 0) t) 3) ((2 * (t + 1)) + 1) (by rw [agC_1, trR_1]; omega)) ok_X7_adds (fun _ => rfl) (hd := dX7_build_111) gX7_build_X7_adds ⟨by decide, by decide⟩ rfl (Nat.le_of_ble_eq_true rfl) ⟨Nat.zero_le _, Nat.zero_le _⟩ [2] (by decide) rfl rfl ?_
                intro _u111 _p111
                show GW X [(o, .inr (7, [.int (nI len), .ref ot, .ref on, .ref od, .ref ow, .int (nI (kpK ch)), .int (nI va), .int (nI en), .ref oi, .ref oe, .ref op, .long aE, .long aP, .long lt])), (ot, .inl (cI, 200, .inl (fun j_ => nI (T j_)))), (on, .inl (cI, 78, .inl (fun j_ => nI ((agC (agC (trR (scC (stC (clR c 78) (2 * jm)) 3 0) t) 0 ((trR (scC (stC (clR c 78) (2 * jm)) 3 0) t) 2) (2 * (t + 1))) 0 ((trR (scC (stC (clR c 78) (2 * jm)) 3 0) t) 3) ((2 * (t + 1)) + 1)) j_)))), (od, .inl (cI, 78, .inl (fun j_ => nI (rd j_)))), (ow, .inl (cI, 468, .inl (fun j_ => nI ((kwS ww c ch) j_)))), (oi, .inl (cI, 32, .inl (fun j_ => nI (wi j_)))), (oe, .inl (cJ, 256, .inr (.inl EX))), (op, .inl (cJ, 256, .inr (.inl PA)))] [(0, .ref o), (1, .int (nI jm)), (2, .int (nI (t + 1))), (3, .int (nI ((trR (scC (stC (clR c 78) (2 * jm)) 3 0) t) 2))), (4, .int (nI ((trR (scC (stC (clR c 78) (2 * jm)) 3 0) t) 3))), (5, .int (nI ((trR (scC (stC (clR c 78) (2 * jm)) 3 0) t) 0 + (trR (scC (stC (clR c 78) (2 * jm)) 3 0) t) 1)))] [] 114 0 0
                refine g_aload_n 0 (hd := dX7_build_114) (C := hX) rfl rfl ?_
                refine g_get (hd := dX7_build_115) (C := hX) 0 2 rfl rfl in_X7_build_7 (by decide) (by decide +kernel) rfl ?_
                refine g_iconst (v := nI 1) hX dX7_build_118 (by decide) ?_
                refine g_iload 5 (hd := dX7_build_119) (C := hX) rfl ?_
                refine g_iload 5 (hd := dX7_build_121) (C := hX) rfl ?_
                refine g_iconst (v := nI 1) hX dX7_build_123 (by decide) ?_
                refine g_iadd hX dX7_build_124 ?_
                refine g_top (y := (nI (((trR (scC (stC (clR c 78) (2 * jm)) 3 0) t) 0 + (trR (scC (stC (clR c 78) (2 * jm)) 3 0) t) 1) + 1))) (nI_add _ _) ?_
                refine g_callS (rest := []) hX (c_X7_adds l D cC cI cJ cO on (agC (agC (trR (scC (stC (clR c 78) (2 * jm)) 3 0) t) 0 ((trR (scC (stC (clR c 78) (2 * jm)) 3 0) t) 2) (2 * (t + 1))) 0 ((trR (scC (stC (clR c 78) (2 * jm)) 3 0) t) 3) ((2 * (t + 1)) + 1)) 1 ((trR (scC (stC (clR c 78) (2 * jm)) 3 0) t) 0 + (trR (scC (stC (clR c 78) (2 * jm)) 3 0) t) 1) (((trR (scC (stC (clR c 78) (2 * jm)) 3 0) t) 0 + (trR (scC (stC (clR c 78) (2 * jm)) 3 0) t) 1) + 1) (by rw [agC_1, agC_1, trR_1]; omega)) ok_X7_adds (fun _ => rfl) (hd := dX7_build_125) gX7_build_X7_adds ⟨by decide, by decide⟩ rfl (Nat.le_of_ble_eq_true rfl) ⟨Nat.zero_le _, Nat.zero_le _⟩ [2] (by decide) rfl rfl ?_
                intro _u125 _p125
                show GW X [(o, .inr (7, [.int (nI len), .ref ot, .ref on, .ref od, .ref ow, .int (nI (kpK ch)), .int (nI va), .int (nI en), .ref oi, .ref oe, .ref op, .long aE, .long aP, .long lt])), (ot, .inl (cI, 200, .inl (fun j_ => nI (T j_)))), (on, .inl (cI, 78, .inl (fun j_ => nI ((agC (agC (agC (trR (scC (stC (clR c 78) (2 * jm)) 3 0) t) 0 ((trR (scC (stC (clR c 78) (2 * jm)) 3 0) t) 2) (2 * (t + 1))) 0 ((trR (scC (stC (clR c 78) (2 * jm)) 3 0) t) 3) ((2 * (t + 1)) + 1)) 1 ((trR (scC (stC (clR c 78) (2 * jm)) 3 0) t) 0 + (trR (scC (stC (clR c 78) (2 * jm)) 3 0) t) 1) (((trR (scC (stC (clR c 78) (2 * jm)) 3 0) t) 0 + (trR (scC (stC (clR c 78) (2 * jm)) 3 0) t) 1) + 1)) j_)))), (od, .inl (cI, 78, .inl (fun j_ => nI (rd j_)))), (ow, .inl (cI, 468, .inl (fun j_ => nI ((kwS ww c ch) j_)))), (oi, .inl (cI, 32, .inl (fun j_ => nI (wi j_)))), (oe, .inl (cJ, 256, .inr (.inl EX))), (op, .inl (cJ, 256, .inr (.inl PA)))] [(0, .ref o), (1, .int (nI jm)), (2, .int (nI (t + 1))), (3, .int (nI ((trR (scC (stC (clR c 78) (2 * jm)) 3 0) t) 2))), (4, .int (nI ((trR (scC (stC (clR c 78) (2 * jm)) 3 0) t) 3))), (5, .int (nI ((trR (scC (stC (clR c 78) (2 * jm)) 3 0) t) 0 + (trR (scC (stC (clR c 78) (2 * jm)) 3 0) t) 1)))] [] 128 0 0
                refine g_aload_n 0 (hd := dX7_build_128) (C := hX) rfl rfl ?_
                refine g_get (hd := dX7_build_129) (C := hX) 0 2 rfl rfl in_X7_build_7 (by decide) (by decide +kernel) rfl ?_
                refine g_iconst (v := nI 0) hX dX7_build_132 (by decide) ?_
                refine g_iload_n 3 (hd := dX7_build_133) (C := hX) rfl rfl ?_
                refine g_iconst (v := nI 2) hX dX7_build_134 (by decide) ?_
                refine g_iload_n 2 (hd := dX7_build_135) (C := hX) rfl rfl ?_
                refine g_imul hX dX7_build_136 ?_
                refine g_top (y := (nI (2 * (t + 1)))) (pk_mul _ _) ?_
                refine g_iconst (v := nI 1) hX dX7_build_137 (by decide) ?_
                refine g_iadd hX dX7_build_138 ?_
                refine g_top (y := (nI ((2 * (t + 1)) + 1))) (nI_add _ _) ?_
                refine g_callS (rest := []) hX (c_X7_adds l D cC cI cJ cO on (agC (agC (agC (trR (scC (stC (clR c 78) (2 * jm)) 3 0) t) 0 ((trR (scC (stC (clR c 78) (2 * jm)) 3 0) t) 2) (2 * (t + 1))) 0 ((trR (scC (stC (clR c 78) (2 * jm)) 3 0) t) 3) ((2 * (t + 1)) + 1)) 1 ((trR (scC (stC (clR c 78) (2 * jm)) 3 0) t) 0 + (trR (scC (stC (clR c 78) (2 * jm)) 3 0) t) 1) (((trR (scC (stC (clR c 78) (2 * jm)) 3 0) t) 0 + (trR (scC (stC (clR c 78) (2 * jm)) 3 0) t) 1) + 1)) 0 ((trR (scC (stC (clR c 78) (2 * jm)) 3 0) t) 2) ((2 * (t + 1)) + 1) (by rw [agC_1, agC_1, agC_1, trR_1]; omega)) ok_X7_adds (fun _ => rfl) (hd := dX7_build_139) gX7_build_X7_adds ⟨by decide, by decide⟩ rfl (Nat.le_of_ble_eq_true rfl) ⟨Nat.zero_le _, Nat.zero_le _⟩ [2] (by decide) rfl rfl ?_
                intro _u139 _p139
                show GW X [(o, .inr (7, [.int (nI len), .ref ot, .ref on, .ref od, .ref ow, .int (nI (kpK ch)), .int (nI va), .int (nI en), .ref oi, .ref oe, .ref op, .long aE, .long aP, .long lt])), (ot, .inl (cI, 200, .inl (fun j_ => nI (T j_)))), (on, .inl (cI, 78, .inl (fun j_ => nI ((agC (agC (agC (agC (trR (scC (stC (clR c 78) (2 * jm)) 3 0) t) 0 ((trR (scC (stC (clR c 78) (2 * jm)) 3 0) t) 2) (2 * (t + 1))) 0 ((trR (scC (stC (clR c 78) (2 * jm)) 3 0) t) 3) ((2 * (t + 1)) + 1)) 1 ((trR (scC (stC (clR c 78) (2 * jm)) 3 0) t) 0 + (trR (scC (stC (clR c 78) (2 * jm)) 3 0) t) 1) (((trR (scC (stC (clR c 78) (2 * jm)) 3 0) t) 0 + (trR (scC (stC (clR c 78) (2 * jm)) 3 0) t) 1) + 1)) 0 ((trR (scC (stC (clR c 78) (2 * jm)) 3 0) t) 2) ((2 * (t + 1)) + 1)) j_)))), (od, .inl (cI, 78, .inl (fun j_ => nI (rd j_)))), (ow, .inl (cI, 468, .inl (fun j_ => nI ((kwS ww c ch) j_)))), (oi, .inl (cI, 32, .inl (fun j_ => nI (wi j_)))), (oe, .inl (cJ, 256, .inr (.inl EX))), (op, .inl (cJ, 256, .inr (.inl PA)))] [(0, .ref o), (1, .int (nI jm)), (2, .int (nI (t + 1))), (3, .int (nI ((trR (scC (stC (clR c 78) (2 * jm)) 3 0) t) 2))), (4, .int (nI ((trR (scC (stC (clR c 78) (2 * jm)) 3 0) t) 3))), (5, .int (nI ((trR (scC (stC (clR c 78) (2 * jm)) 3 0) t) 0 + (trR (scC (stC (clR c 78) (2 * jm)) 3 0) t) 1)))] [] 142 0 0
                refine g_aload_n 0 (hd := dX7_build_142) (C := hX) rfl rfl ?_
                refine g_get (hd := dX7_build_143) (C := hX) 0 2 rfl rfl in_X7_build_7 (by decide) (by decide +kernel) rfl ?_
                refine g_iconst (v := nI 0) hX dX7_build_146 (by decide) ?_
                refine g_iload 4 (hd := dX7_build_147) (C := hX) rfl ?_
                refine g_iconst (v := nI 2) hX dX7_build_149 (by decide) ?_
                refine g_iload_n 2 (hd := dX7_build_150) (C := hX) rfl rfl ?_
                refine g_imul hX dX7_build_151 ?_
                refine g_top (y := (nI (2 * (t + 1)))) (pk_mul _ _) ?_
                refine g_callS (rest := []) hX (c_X7_adds l D cC cI cJ cO on (agC (agC (agC (agC (trR (scC (stC (clR c 78) (2 * jm)) 3 0) t) 0 ((trR (scC (stC (clR c 78) (2 * jm)) 3 0) t) 2) (2 * (t + 1))) 0 ((trR (scC (stC (clR c 78) (2 * jm)) 3 0) t) 3) ((2 * (t + 1)) + 1)) 1 ((trR (scC (stC (clR c 78) (2 * jm)) 3 0) t) 0 + (trR (scC (stC (clR c 78) (2 * jm)) 3 0) t) 1) (((trR (scC (stC (clR c 78) (2 * jm)) 3 0) t) 0 + (trR (scC (stC (clR c 78) (2 * jm)) 3 0) t) 1) + 1)) 0 ((trR (scC (stC (clR c 78) (2 * jm)) 3 0) t) 2) ((2 * (t + 1)) + 1)) 0 ((trR (scC (stC (clR c 78) (2 * jm)) 3 0) t) 3) (2 * (t + 1)) (by rw [agC_1, agC_1, agC_1, agC_1, trR_1]; omega)) ok_X7_adds (fun _ => rfl) (hd := dX7_build_152) gX7_build_X7_adds ⟨by decide, by decide⟩ rfl (Nat.le_of_ble_eq_true rfl) ⟨Nat.zero_le _, Nat.zero_le _⟩ [2] (by decide) rfl rfl ?_
                intro _u152 _p152
                show GW X [(o, .inr (7, [.int (nI len), .ref ot, .ref on, .ref od, .ref ow, .int (nI (kpK ch)), .int (nI va), .int (nI en), .ref oi, .ref oe, .ref op, .long aE, .long aP, .long lt])), (ot, .inl (cI, 200, .inl (fun j_ => nI (T j_)))), (on, .inl (cI, 78, .inl (fun j_ => nI ((agC (agC (agC (agC (agC (trR (scC (stC (clR c 78) (2 * jm)) 3 0) t) 0 ((trR (scC (stC (clR c 78) (2 * jm)) 3 0) t) 2) (2 * (t + 1))) 0 ((trR (scC (stC (clR c 78) (2 * jm)) 3 0) t) 3) ((2 * (t + 1)) + 1)) 1 ((trR (scC (stC (clR c 78) (2 * jm)) 3 0) t) 0 + (trR (scC (stC (clR c 78) (2 * jm)) 3 0) t) 1) (((trR (scC (stC (clR c 78) (2 * jm)) 3 0) t) 0 + (trR (scC (stC (clR c 78) (2 * jm)) 3 0) t) 1) + 1)) 0 ((trR (scC (stC (clR c 78) (2 * jm)) 3 0) t) 2) ((2 * (t + 1)) + 1)) 0 ((trR (scC (stC (clR c 78) (2 * jm)) 3 0) t) 3) (2 * (t + 1))) j_)))), (od, .inl (cI, 78, .inl (fun j_ => nI (rd j_)))), (ow, .inl (cI, 468, .inl (fun j_ => nI ((kwS ww c ch) j_)))), (oi, .inl (cI, 32, .inl (fun j_ => nI (wi j_)))), (oe, .inl (cJ, 256, .inr (.inl EX))), (op, .inl (cJ, 256, .inr (.inl PA)))] [(0, .ref o), (1, .int (nI jm)), (2, .int (nI (t + 1))), (3, .int (nI ((trR (scC (stC (clR c 78) (2 * jm)) 3 0) t) 2))), (4, .int (nI ((trR (scC (stC (clR c 78) (2 * jm)) 3 0) t) 3))), (5, .int (nI ((trR (scC (stC (clR c 78) (2 * jm)) 3 0) t) 0 + (trR (scC (stC (clR c 78) (2 * jm)) 3 0) t) 1)))] [] 155 0 0
                refine g_aload_n 0 (hd := dX7_build_155) (C := hX) rfl rfl ?_
                refine g_get (hd := dX7_build_156) (C := hX) 0 2 rfl rfl in_X7_build_7 (by decide) (by decide +kernel) rfl ?_
                refine g_iconst (v := nI 1) hX dX7_build_159 (by decide) ?_
                refine g_iload 5 (hd := dX7_build_160) (C := hX) rfl ?_
                refine g_iconst (v := nI 3) hX dX7_build_162 (by decide) ?_
                refine g_iadd hX dX7_build_163 ?_
                refine g_top (y := (nI (((trR (scC (stC (clR c 78) (2 * jm)) 3 0) t) 0 + (trR (scC (stC (clR c 78) (2 * jm)) 3 0) t) 1) + 3))) (nI_add _ _) ?_
                refine g_iload 5 (hd := dX7_build_164) (C := hX) rfl ?_
                refine g_iconst (v := nI 4) hX dX7_build_166 (by decide) ?_
                refine g_iadd hX dX7_build_167 ?_
                refine g_top (y := (nI (((trR (scC (stC (clR c 78) (2 * jm)) 3 0) t) 0 + (trR (scC (stC (clR c 78) (2 * jm)) 3 0) t) 1) + 4))) (nI_add _ _) ?_
                refine g_callS (rest := []) hX (c_X7_adds l D cC cI cJ cO on (agC (agC (agC (agC (agC (trR (scC (stC (clR c 78) (2 * jm)) 3 0) t) 0 ((trR (scC (stC (clR c 78) (2 * jm)) 3 0) t) 2) (2 * (t + 1))) 0 ((trR (scC (stC (clR c 78) (2 * jm)) 3 0) t) 3) ((2 * (t + 1)) + 1)) 1 ((trR (scC (stC (clR c 78) (2 * jm)) 3 0) t) 0 + (trR (scC (stC (clR c 78) (2 * jm)) 3 0) t) 1) (((trR (scC (stC (clR c 78) (2 * jm)) 3 0) t) 0 + (trR (scC (stC (clR c 78) (2 * jm)) 3 0) t) 1) + 1)) 0 ((trR (scC (stC (clR c 78) (2 * jm)) 3 0) t) 2) ((2 * (t + 1)) + 1)) 0 ((trR (scC (stC (clR c 78) (2 * jm)) 3 0) t) 3) (2 * (t + 1))) 1 (((trR (scC (stC (clR c 78) (2 * jm)) 3 0) t) 0 + (trR (scC (stC (clR c 78) (2 * jm)) 3 0) t) 1) + 3) (((trR (scC (stC (clR c 78) (2 * jm)) 3 0) t) 0 + (trR (scC (stC (clR c 78) (2 * jm)) 3 0) t) 1) + 4) (by rw [agC_1, agC_1, agC_1, agC_1, agC_1, trR_1]; omega)) ok_X7_adds (fun _ => rfl) (hd := dX7_build_168) gX7_build_X7_adds ⟨by decide, by decide⟩ rfl (Nat.le_of_ble_eq_true rfl) ⟨Nat.zero_le _, Nat.zero_le _⟩ [2] (by decide) rfl rfl ?_
                intro _u168 _p168
                show GW X [(o, .inr (7, [.int (nI len), .ref ot, .ref on, .ref od, .ref ow, .int (nI (kpK ch)), .int (nI va), .int (nI en), .ref oi, .ref oe, .ref op, .long aE, .long aP, .long lt])), (ot, .inl (cI, 200, .inl (fun j_ => nI (T j_)))), (on, .inl (cI, 78, .inl (fun j_ => nI ((agC (agC (agC (agC (agC (agC (trR (scC (stC (clR c 78) (2 * jm)) 3 0) t) 0 ((trR (scC (stC (clR c 78) (2 * jm)) 3 0) t) 2) (2 * (t + 1))) 0 ((trR (scC (stC (clR c 78) (2 * jm)) 3 0) t) 3) ((2 * (t + 1)) + 1)) 1 ((trR (scC (stC (clR c 78) (2 * jm)) 3 0) t) 0 + (trR (scC (stC (clR c 78) (2 * jm)) 3 0) t) 1) (((trR (scC (stC (clR c 78) (2 * jm)) 3 0) t) 0 + (trR (scC (stC (clR c 78) (2 * jm)) 3 0) t) 1) + 1)) 0 ((trR (scC (stC (clR c 78) (2 * jm)) 3 0) t) 2) ((2 * (t + 1)) + 1)) 0 ((trR (scC (stC (clR c 78) (2 * jm)) 3 0) t) 3) (2 * (t + 1))) 1 (((trR (scC (stC (clR c 78) (2 * jm)) 3 0) t) 0 + (trR (scC (stC (clR c 78) (2 * jm)) 3 0) t) 1) + 3) (((trR (scC (stC (clR c 78) (2 * jm)) 3 0) t) 0 + (trR (scC (stC (clR c 78) (2 * jm)) 3 0) t) 1) + 4)) j_)))), (od, .inl (cI, 78, .inl (fun j_ => nI (rd j_)))), (ow, .inl (cI, 468, .inl (fun j_ => nI ((kwS ww c ch) j_)))), (oi, .inl (cI, 32, .inl (fun j_ => nI (wi j_)))), (oe, .inl (cJ, 256, .inr (.inl EX))), (op, .inl (cJ, 256, .inr (.inl PA)))] [(0, .ref o), (1, .int (nI jm)), (2, .int (nI (t + 1))), (3, .int (nI ((trR (scC (stC (clR c 78) (2 * jm)) 3 0) t) 2))), (4, .int (nI ((trR (scC (stC (clR c 78) (2 * jm)) 3 0) t) 3))), (5, .int (nI ((trR (scC (stC (clR c 78) (2 * jm)) 3 0) t) 0 + (trR (scC (stC (clR c 78) (2 * jm)) 3 0) t) 1)))] [] 171 0 0
                refine g_aload_n 0 (hd := dX7_build_171) (C := hX) rfl rfl ?_
                refine g_get (hd := dX7_build_172) (C := hX) 0 2 rfl rfl in_X7_build_7 (by decide) (by decide +kernel) rfl ?_
                refine g_iconst (v := nI 2) hX dX7_build_175 (by decide) ?_
                refine g_iload 5 (hd := dX7_build_176) (C := hX) rfl ?_
                refine g_iconst (v := nI 2) hX dX7_build_178 (by decide) ?_
                refine g_iadd hX dX7_build_179 ?_
                refine g_top (y := (nI (((trR (scC (stC (clR c 78) (2 * jm)) 3 0) t) 0 + (trR (scC (stC (clR c 78) (2 * jm)) 3 0) t) 1) + 2))) (nI_add _ _) ?_
                refine g_iast (hd := dX7_build_180) (C := hX) 2 1 [(o, .inr (7, [.int (nI len), .ref ot, .ref on, .ref od, .ref ow, .int (nI (kpK ch)), .int (nI va), .int (nI en), .ref oi, .ref oe, .ref op, .long aE, .long aP, .long lt])), (ot, .inl (cI, 200, .inl (fun j_ => nI (T j_)))), (on, .inl (cI, 78, .inl (fun j_ => nI ((nup (agC (agC (agC (agC (agC (agC (trR (scC (stC (clR c 78) (2 * jm)) 3 0) t) 0 ((trR (scC (stC (clR c 78) (2 * jm)) 3 0) t) 2) (2 * (t + 1))) 0 ((trR (scC (stC (clR c 78) (2 * jm)) 3 0) t) 3) ((2 * (t + 1)) + 1)) 1 ((trR (scC (stC (clR c 78) (2 * jm)) 3 0) t) 0 + (trR (scC (stC (clR c 78) (2 * jm)) 3 0) t) 1) (((trR (scC (stC (clR c 78) (2 * jm)) 3 0) t) 0 + (trR (scC (stC (clR c 78) (2 * jm)) 3 0) t) 1) + 1)) 0 ((trR (scC (stC (clR c 78) (2 * jm)) 3 0) t) 2) ((2 * (t + 1)) + 1)) 0 ((trR (scC (stC (clR c 78) (2 * jm)) 3 0) t) 3) (2 * (t + 1))) 1 (((trR (scC (stC (clR c 78) (2 * jm)) 3 0) t) 0 + (trR (scC (stC (clR c 78) (2 * jm)) 3 0) t) 1) + 3) (((trR (scC (stC (clR c 78) (2 * jm)) 3 0) t) 0 + (trR (scC (stC (clR c 78) (2 * jm)) 3 0) t) 1) + 4)) 2 (((trR (scC (stC (clR c 78) (2 * jm)) 3 0) t) 0 + (trR (scC (stC (clR c 78) (2 * jm)) 3 0) t) 1) + 2)) j_)))), (od, .inl (cI, 78, .inl (fun j_ => nI (rd j_)))), (ow, .inl (cI, 468, .inl (fun j_ => nI ((kwS ww c ch) j_)))), (oi, .inl (cI, 32, .inl (fun j_ => nI (wi j_)))), (oe, .inl (cJ, 256, .inr (.inl EX))), (op, .inl (cJ, 256, .inr (.inl PA)))] rfl rfl (by omega) (by decide) (by rw [nup_I]; rfl) ?_
                refine g_aload_n 0 (hd := dX7_build_181) (C := hX) rfl rfl ?_
                refine g_get (hd := dX7_build_182) (C := hX) 0 2 rfl rfl in_X7_build_7 (by decide) (by decide +kernel) rfl ?_
                refine g_iconst (v := nI 3) hX dX7_build_185 (by decide) ?_
                refine g_iload 5 (hd := dX7_build_186) (C := hX) rfl ?_
                refine g_iconst (v := nI 5) hX dX7_build_188 (by decide) ?_
                refine g_iadd hX dX7_build_189 ?_
                refine g_top (y := (nI (((trR (scC (stC (clR c 78) (2 * jm)) 3 0) t) 0 + (trR (scC (stC (clR c 78) (2 * jm)) 3 0) t) 1) + 5))) (nI_add _ _) ?_
                refine g_iast (hd := dX7_build_190) (C := hX) 2 1 [(o, .inr (7, [.int (nI len), .ref ot, .ref on, .ref od, .ref ow, .int (nI (kpK ch)), .int (nI va), .int (nI en), .ref oi, .ref oe, .ref op, .long aE, .long aP, .long lt])), (ot, .inl (cI, 200, .inl (fun j_ => nI (T j_)))), (on, .inl (cI, 78, .inl (fun j_ => nI ((nup (nup (agC (agC (agC (agC (agC (agC (trR (scC (stC (clR c 78) (2 * jm)) 3 0) t) 0 ((trR (scC (stC (clR c 78) (2 * jm)) 3 0) t) 2) (2 * (t + 1))) 0 ((trR (scC (stC (clR c 78) (2 * jm)) 3 0) t) 3) ((2 * (t + 1)) + 1)) 1 ((trR (scC (stC (clR c 78) (2 * jm)) 3 0) t) 0 + (trR (scC (stC (clR c 78) (2 * jm)) 3 0) t) 1) (((trR (scC (stC (clR c 78) (2 * jm)) 3 0) t) 0 + (trR (scC (stC (clR c 78) (2 * jm)) 3 0) t) 1) + 1)) 0 ((trR (scC (stC (clR c 78) (2 * jm)) 3 0) t) 2) ((2 * (t + 1)) + 1)) 0 ((trR (scC (stC (clR c 78) (2 * jm)) 3 0) t) 3) (2 * (t + 1))) 1 (((trR (scC (stC (clR c 78) (2 * jm)) 3 0) t) 0 + (trR (scC (stC (clR c 78) (2 * jm)) 3 0) t) 1) + 3) (((trR (scC (stC (clR c 78) (2 * jm)) 3 0) t) 0 + (trR (scC (stC (clR c 78) (2 * jm)) 3 0) t) 1) + 4)) 2 (((trR (scC (stC (clR c 78) (2 * jm)) 3 0) t) 0 + (trR (scC (stC (clR c 78) (2 * jm)) 3 0) t) 1) + 2)) 3 (((trR (scC (stC (clR c 78) (2 * jm)) 3 0) t) 0 + (trR (scC (stC (clR c 78) (2 * jm)) 3 0) t) 1) + 5)) j_)))), (od, .inl (cI, 78, .inl (fun j_ => nI (rd j_)))), (ow, .inl (cI, 468, .inl (fun j_ => nI ((kwS ww c ch) j_)))), (oi, .inl (cI, 32, .inl (fun j_ => nI (wi j_)))), (oe, .inl (cJ, 256, .inr (.inl EX))), (op, .inl (cJ, 256, .inr (.inl PA)))] rfl rfl (by omega) (by decide) (by rw [nup_I]; rfl) ?_
                refine g_iinc (v := (nI (t + 1 + 1))) 2 [(0, .ref o), (1, .int (nI jm)), (2, .int (nI (t + 1 + 1))), (3, .int (nI ((trR (scC (stC (clR c 78) (2 * jm)) 3 0) t) 2))), (4, .int (nI ((trR (scC (stC (clR c 78) (2 * jm)) 3 0) t) 3))), (5, .int (nI ((trR (scC (stC (clR c 78) (2 * jm)) 3 0) t) 0 + (trR (scC (stC (clR c 78) (2 * jm)) 3 0) t) 1)))] [1, 2, 0, 3, 4, 5] (hd := dX7_build_191) (C := hX) rfl (nI_1 _) (by decide) rfl ?_
                refine g_goto 61 (hd := dX7_build_194) (C := hX) (by decide) ?_
                refine g_w [(o, .inr (7, [.int (nI len), .ref ot, .ref on, .ref od, .ref ow, .int (nI (kpK ch)), .int (nI va), .int (nI en), .ref oi, .ref oe, .ref op, .long aE, .long aP, .long lt])), (ot, .inl (cI, 200, .inl (fun j_ => nI (T j_)))), (on, .inl (cI, 78, .inl (fun j_ => nI ((trR (scC (stC (clR c 78) (2 * jm)) 3 0) (t + 1)) j_)))), (od, .inl (cI, 78, .inl (fun j_ => nI (rd j_)))), (ow, .inl (cI, 468, .inl (fun j_ => nI ((kwS ww c ch) j_)))), (oi, .inl (cI, 32, .inl (fun j_ => nI (wi j_)))), (oe, .inl (cJ, 256, .inr (.inl EX))), (op, .inl (cJ, 256, .inr (.inl PA)))] (by rw [trR_s]) ?_
                refine g_lv [(0, .ref o), (1, .int (nI jm)), (2, .int (nI (t + 1 + 1)))] [0, 1, 2] rfl ?_
                refine g_lve [(0, .ref o), (1, .int (nI jm)), (2, .int (nI ((t + 1) + 1)))] rfl ?_
                exact ih_61 (t + 1) (by omega) (by omega)
          refine g_w [(o, .inr (7, [.int (nI len), .ref ot, .ref on, .ref od, .ref ow, .int (nI (kpK ch)), .int (nI va), .int (nI en), .ref oi, .ref oe, .ref op, .long aE, .long aP, .long lt])), (ot, .inl (cI, 200, .inl (fun j_ => nI (T j_)))), (on, .inl (cI, 78, .inl (fun j_ => nI ((trR (scC (stC (clR c 78) (2 * jm)) 3 0) 0) j_)))), (od, .inl (cI, 78, .inl (fun j_ => nI (rd j_)))), (ow, .inl (cI, 468, .inl (fun j_ => nI ((kwS ww c ch) j_)))), (oi, .inl (cI, 32, .inl (fun j_ => nI (wi j_)))), (oe, .inl (cJ, 256, .inr (.inl EX))), (op, .inl (cJ, 256, .inr (.inl PA)))] (by rw [show i = 78 from by omega, bu_st]; rfl) ?_
          refine g_lve [(0, .ref o), (1, .int (nI jm)), (2, .int (nI (0 + 1)))] rfl ?_
          exact L_61 _ 0 (Nat.lt_succ_self _) (by omega)
        · refine g_aload_n 0 (hd := dX7_build_23) (C := hX) rfl rfl ?_
          refine g_get (hd := dX7_build_24) (C := hX) 0 2 rfl rfl in_X7_build_7 (by decide) (by decide +kernel) rfl ?_
          refine g_iload_n 2 (hd := dX7_build_27) (C := hX) rfl rfl ?_
          refine g_iconst (v := nI 0) hX dX7_build_28 (by decide) ?_
          refine g_iast (hd := dX7_build_29) (C := hX) 2 1 [(o, .inr (7, [.int (nI len), .ref ot, .ref on, .ref od, .ref ow, .int (nI (kpK ch)), .int (nI va), .int (nI en), .ref oi, .ref oe, .ref op, .long aE, .long aP, .long lt])), (ot, .inl (cI, 200, .inl (fun j_ => nI (T j_)))), (on, .inl (cI, 78, .inl (fun j_ => nI ((nup (clR c i) i 0) j_)))), (od, .inl (cI, 78, .inl (fun j_ => nI (rd j_)))), (ow, .inl (cI, 468, .inl (fun j_ => nI ((kwS ww c ch) j_)))), (oi, .inl (cI, 32, .inl (fun j_ => nI (wi j_)))), (oe, .inl (cJ, 256, .inr (.inl EX))), (op, .inl (cJ, 256, .inr (.inl PA)))] rfl rfl (by omega) (by decide) (by rw [nup_I]; rfl) ?_
          refine g_iinc (v := (nI (i + 1))) 2 [(0, .ref o), (1, .int (nI jm)), (2, .int (nI (i + 1)))] [1, 2, 0] (hd := dX7_build_30) (C := hX) rfl (nI_1 _) (by decide) rfl ?_
          refine g_goto 17 (hd := dX7_build_33) (C := hX) (by decide) ?_
          refine g_w [(o, .inr (7, [.int (nI len), .ref ot, .ref on, .ref od, .ref ow, .int (nI (kpK ch)), .int (nI va), .int (nI en), .ref oi, .ref oe, .ref op, .long aE, .long aP, .long lt])), (ot, .inl (cI, 200, .inl (fun j_ => nI (T j_)))), (on, .inl (cI, 78, .inl (fun j_ => nI ((clR c (i + 1)) j_)))), (od, .inl (cI, 78, .inl (fun j_ => nI (rd j_)))), (ow, .inl (cI, 468, .inl (fun j_ => nI ((kwS ww c ch) j_)))), (oi, .inl (cI, 32, .inl (fun j_ => nI (wi j_)))), (oe, .inl (cJ, 256, .inr (.inl EX))), (op, .inl (cJ, 256, .inr (.inl PA)))] rfl ?_
          exact ih_17 (i + 1) (by omega) (by omega)
    refine g_w [(o, .inr (7, [.int (nI len), .ref ot, .ref on, .ref od, .ref ow, .int (nI (kpK ch)), .int (nI va), .int (nI en), .ref oi, .ref oe, .ref op, .long aE, .long aP, .long lt])), (ot, .inl (cI, 200, .inl (fun j_ => nI (T j_)))), (on, .inl (cI, 78, .inl (fun j_ => nI ((clR c 0) j_)))), (od, .inl (cI, 78, .inl (fun j_ => nI (rd j_)))), (ow, .inl (cI, 468, .inl (fun j_ => nI ((kwS ww c ch) j_)))), (oi, .inl (cI, 32, .inl (fun j_ => nI (wi j_)))), (oe, .inl (cJ, 256, .inr (.inl EX))), (op, .inl (cJ, 256, .inr (.inl PA)))] rfl ?_
    exact L_17 _ 0 (Nat.lt_succ_self _) (by decide)
  · show GW X [(o, .inr (7, [.int (nI len), .ref ot, .ref on, .ref od, .ref ow, .int (nI ch), .int (nI va), .int (nI en), .ref oi, .ref oe, .ref op, .long aE, .long aP, .long lt])), (ot, .inl (cI, 200, .inl (fun j_ => nI (T j_)))), (on, .inl (cI, 78, .inl (fun j_ => nI (c j_)))), (od, .inl (cI, 78, .inl (fun j_ => nI (rd j_)))), (ow, .inl (cI, 468, .inl (fun j_ => nI (ww j_)))), (oi, .inl (cI, 32, .inl (fun j_ => nI (wi j_)))), (oe, .inl (cJ, 256, .inr (.inl EX))), (op, .inl (cJ, 256, .inr (.inl PA)))] [(0, .ref o), (1, .int m)] [.int (nI 0)] 6 0 0
    refine g_if_neN 11 (hd := dX7_build_6) (C := hX) (by decide) (by decide) (fun c_6 => absurd c_6 (by decide)) (fun c_6 => ?_)
    refine g_iconst (v := (-1)) hX dX7_build_9 (by decide) ?_
    exact (hret ((-1), c, ch, ww) _ _ (by rw [show buR c m = ((-1), 0, c) from iP_n (fun ⟨k9, h1, h2, e9⟩ => p_3 (by rw [e9]; exact ⟨(nI_leI (by omega) (by omega)).mpr h1, (nI_leI (by omega) (by omega)).mpr h2⟩))]; rfl)).2.1 _ rfl rfl dX7_build_10
