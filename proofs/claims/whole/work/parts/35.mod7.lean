/-! the reference reads items, and a whole text -/
theorem it_nz {T b c : Nat → Nat} {len p e : Nat} (h : itS T len b p = some (c, e)) : ¬ c 0 = 0 := by
  obtain ⟨l, -, -, h2⟩ := it_i h
  unfold tlS at h2
  repeat' split at h2
  all_goals first | cases h2 | skip
  · rename_i g; rw [stC_0]; omega
  · rename_i h0 _ _; rw [agC_0]; exact h0
  · rename_i h0 _ _ _; rw [srC_0]; exact h0
  · rename_i h0 _ _ _; rw [scC_0]; exact h0
def clR (rd : Nat → Nat) : Nat → Nat → Nat
  | 0 => rd
  | i + 1 => nup (clR rd i) i 0
theorem clR_at (rd : Nat → Nat) : ∀ n j, j < n → clR rd n j = 0
  | 0, j, h => absurd h (Nat.not_lt_zero j)
  | n + 1, j, h => by
    simp only [clR]
    rcases Nat.lt_or_ge j n with q | q
    · rw [nup_ne (by omega)]; exact clR_at rd n j q
    · have e : j = n := by omega
      subst e
      exact nup_same _ _ _
def cpN (c o : Nat → Nat) : Nat → Nat → Nat
  | 0 => c
  | i + 1 => nup (cpN c o i) i (o i)
theorem cpN_at (c o : Nat → Nat) : ∀ n j, cpN c o n j = if j < n then o j else c j
  | 0, j => by rw [if_neg (Nat.not_lt_zero j)]; rfl
  | n + 1, j => by
    simp only [cpN]
    by_cases e : j = n
    · subst e; rw [nup_same, if_pos (Nat.lt_succ_self j)]
    · rw [nup_ne e, cpN_at c o n j]
      by_cases h : j < n
      · rw [if_pos h, if_pos (by omega)]
      · rw [if_neg h, if_neg (by omega)]
theorem cpN_78 (c o : Nat → Nat) : cpN c o 78 = cpC c o := funext fun j => cpN_at c o 78 j
def PS (T : Nat → Nat) (len : Nat) (rd : Nat → Nat) : Option Nat × (Nat → Nat) := psS T len 200 (clR rd 78) 0
def loS (T : Nat → Nat) (len : Nat) (rd c : Nat → Nat) (ch : Nat) : Int32 × (Nat → Nat) × Nat := if (PS T len rd).1 = none ∧ ¬ (PS T len rd).2 0 = 0 then (nI ((PS T len rd).2 0 + (PS T len rd).2 1), cpC c (PS T len rd).2, 0) else ((-2), c, ch)
def rZ (p : Nat) (b : Nat → Nat) : Prop := (p = 0 ∧ ∀ j, j < 6 → b j = 0) ∨ (¬ p = 0 ∧ ¬ b 0 = 0)

theorem in_X7_readsGate_7 : ∀ w ∈ wsX70, w ∈ wsX7_readsGate := fun _ h => List.mem_cons_of_mem _ (List.mem_append_right _ h)
theorem ok_X7_readsGate : gOK yX7_readsGate wsX7_readsGate ({ frames := 3, cells := 0, slots := 0, locals := 62 }) 5 1 := ⟨⟨_, _, _, rfl⟩, rfl, rfl, by decide, by decide, by decide +kernel⟩
set_option maxRecDepth 100000 in
set_option maxHeartbeats 4000000 in
theorem c_X7_readsGate (l : Launch) (D : va_G) (cC cI cJ cO : ClassId) (o : Nat) (ot : Nat) (on : Nat) (od : Nat) (ow : Nat) (oi : Nat) (oe : Nat) (op : Nat) (len : Nat) (ch : Nat) (va : Nat) (en : Nat) (aE : Int64) (aP : Int64) (lt : Int64) (T : Nat → Nat) (c : Nat → Nat) (rd : Nat → Nat) (ww : Nat → Nat) (wi : Nat → Nat) (EX : Nat → Int64) (PA : Nat → Int64) (p : Nat) (hp : p < 300) (hl : len ≤ 200) (hT : ∀ j, j < len → T j < 1000) (d0 : rd 0 ≤ 8) (d1 : rd 1 ≤ 24) (h0 : ¬ rd 0 = 0) (hTp : T p = 103) : CM (S := Int32 × Nat × Nat × (Nat → Nat)) l D (tyL cC cI cJ cO) yX7_readsGate wsX7_readsGate ({ frames := 3, cells := 0, slots := 0, locals := 62 }) [.ref o, .int (nI (p + 1))] [(o, .inr (7, [.int (nI len), .ref ot, .ref on, .ref od, .ref ow, .int (nI ch), .int (nI va), .int (nI en), .ref oi, .ref oe, .ref op, .long aE, .long aP, .long lt])), (ot, .inl (cI, 200, .inl (fun j_ => nI (T j_)))), (on, .inl (cI, 78, .inl (fun j_ => nI (c j_)))), (od, .inl (cI, 78, .inl (fun j_ => nI (rd j_)))), (ow, .inl (cI, 468, .inl (fun j_ => nI (ww j_)))), (oi, .inl (cI, 32, .inl (fun j_ => nI (wi j_)))), (oe, .inl (cJ, 256, .inr (.inl EX))), (op, .inl (cJ, 256, .inr (.inl PA)))] (fun u => some (.int u.1)) (fun u => RI T len rd p u.1 u.2.2.2 u.2.2.1) (fun u_ => [(o, .inr (7, [.int (nI len), .ref ot, .ref on, .ref od, .ref ow, .int (nI ch), .int (nI u_.2.1), .int (nI u_.2.2.1), .ref oi, .ref oe, .ref op, .long aE, .long aP, .long lt])), (ot, .inl (cI, 200, .inl (fun j_ => nI (T j_)))), (on, .inl (cI, 78, .inl (fun j_ => nI (c j_)))), (od, .inl (cI, 78, .inl (fun j_ => nI (u_.2.2.2 j_)))), (ow, .inl (cI, 468, .inl (fun j_ => nI (ww j_)))), (oi, .inl (cI, 32, .inl (fun j_ => nI (wi j_)))), (oe, .inl (cJ, 256, .inr (.inl EX))), (op, .inl (cJ, 256, .inr (.inl PA)))]) := by
  refine CM_in (cc := cX7_readsGate) (maxL := 5) (ret := (some .boolean)) (by decide) rfl (Nat.le_of_ble_eq_true rfl) ?_
  intro X hX hret
  show GW X [(o, .inr (7, [.int (nI len), .ref ot, .ref on, .ref od, .ref ow, .int (nI ch), .int (nI va), .int (nI en), .ref oi, .ref oe, .ref op, .long aE, .long aP, .long lt])), (ot, .inl (cI, 200, .inl (fun j_ => nI (T j_)))), (on, .inl (cI, 78, .inl (fun j_ => nI (c j_)))), (od, .inl (cI, 78, .inl (fun j_ => nI (rd j_)))), (ow, .inl (cI, 468, .inl (fun j_ => nI (ww j_)))), (oi, .inl (cI, 32, .inl (fun j_ => nI (wi j_)))), (oe, .inl (cJ, 256, .inr (.inl EX))), (op, .inl (cJ, 256, .inr (.inl PA)))] [(0, .ref o), (1, .int (nI (p + 1)))] [] 0 0 0
  refine g_aload_n 0 (hd := dX7_readsGate_0) (C := hX) rfl rfl ?_
  refine g_get (hd := dX7_readsGate_1) (C := hX) 0 3 rfl rfl in_X7_readsGate_7 (by decide) (by decide +kernel) rfl ?_
  refine g_iconst (v := nI 0) hX dX7_readsGate_4 (by decide) ?_
  refine g_iald (hd := dX7_readsGate_5) (C := hX) 3 1 rfl rfl (by omega) (by decide) ?_
  refine g_aload_n 0 (hd := dX7_readsGate_6) (C := hX) rfl rfl ?_
  refine g_get (hd := dX7_readsGate_7) (C := hX) 0 3 rfl rfl in_X7_readsGate_7 (by decide) (by decide +kernel) rfl ?_
  refine g_iconst (v := nI 1) hX dX7_readsGate_10 (by decide) ?_
  refine g_iald (hd := dX7_readsGate_11) (C := hX) 3 1 rfl rfl (by omega) (by decide) ?_
  refine g_iadd hX dX7_readsGate_12 ?_
  refine g_top (y := (nI ((rd 0) + (rd 1)))) (nI_add _ _) ?_
  refine g_istore_n [(0, .ref o), (1, .int (nI (p + 1))), (2, .int (nI ((rd 0) + (rd 1))))] [1, 2, 0] (hd := dX7_readsGate_13) (C := hX) rfl (by decide) rfl ?_
  refine g_aload_n 0 (hd := dX7_readsGate_14) (C := hX) rfl rfl ?_
  refine g_get (hd := dX7_readsGate_15) (C := hX) 0 3 rfl rfl in_X7_readsGate_7 (by decide) (by decide +kernel) rfl ?_
  refine g_iconst (v := nI 1) hX dX7_readsGate_18 (by decide) ?_
  refine g_iald (hd := dX7_readsGate_19) (C := hX) 3 1 rfl rfl (by omega) (by decide) ?_
  refine g_bipush (v := nI 24) hX dX7_readsGate_20 (by decide) ?_
  refine g_icmp_eqN 41 (hd := dX7_readsGate_22) (C := hX) (by decide) (by omega) (by omega) (fun c_22 => ?_) (fun c_22 => ?_)
  · refine g_iconst (v := nI 0) hX dX7_readsGate_41 (by decide) ?_
    exact (hret ((nI 0), va, en, rd) _ _ (Or.inr ⟨rfl, it_no (fun c9 e9 k9 => by obtain ⟨x, y, z, q1, q2, e1, ⟨a1, a2, a3, a4, a5, a6, a7, a8, a9⟩, -⟩ := gt_i hTp h0 k9; omega)⟩)).2.2.1 _ rfl rfl (by decide) dX7_readsGate_42
  · refine g_aload_n 0 (hd := dX7_readsGate_25) (C := hX) rfl rfl ?_
    refine g_iload_n 1 (hd := dX7_readsGate_26) (C := hX) rfl rfl ?_
    refine g_callVp (rest := []) hX (c_X7_number l D cC cI cJ cO o ot on od ow oi oe op len ch va en aE aP lt T c rd ww wi EX PA (p + 1) (by omega) hl hT) ok_X7_number rfl 0 rfl rfl (fun _ => rfl) (hd := dX7_readsGate_27) gX7_readsGate_X7_number ⟨by decide, by decide⟩ rfl (Nat.le_of_ble_eq_true rfl) ⟨Nat.zero_le _, Nat.zero_le _⟩ [] rfl rfl ?_
    intro ⟨r_27, va_27, en_27⟩ e_27
    simp only at e_27
    rcases e_27 with ⟨rfl, p_27⟩ | ⟨rfl, p_27⟩
    · have b_27 := nmS_lt p_27
      show GW X [(o, .inr (7, [.int (nI len), .ref ot, .ref on, .ref od, .ref ow, .int (nI ch), .int (nI va_27), .int (nI en_27), .ref oi, .ref oe, .ref op, .long aE, .long aP, .long lt])), (ot, .inl (cI, 200, .inl (fun j_ => nI (T j_)))), (on, .inl (cI, 78, .inl (fun j_ => nI (c j_)))), (od, .inl (cI, 78, .inl (fun j_ => nI (rd j_)))), (ow, .inl (cI, 468, .inl (fun j_ => nI (ww j_)))), (oi, .inl (cI, 32, .inl (fun j_ => nI (wi j_)))), (oe, .inl (cJ, 256, .inr (.inl EX))), (op, .inl (cJ, 256, .inr (.inl PA)))] [(0, .ref o), (1, .int (nI (p + 1))), (2, .int (nI ((rd 0) + (rd 1))))] [.int (nI 1)] 30 0 0
      refine g_if_eqN 41 (hd := dX7_readsGate_30) (C := hX) (by decide) (by decide) (fun c_30 => absurd c_30 (by decide)) (fun c_30 => ?_)
      refine g_aload_n 0 (hd := dX7_readsGate_33) (C := hX) rfl rfl ?_
      refine g_get (hd := dX7_readsGate_34) (C := hX) 0 6 rfl rfl in_X7_readsGate_7 (by decide) (by decide +kernel) rfl ?_
      refine g_iconst (v := nI 5) hX dX7_readsGate_37 (by decide) ?_
      refine g_icmp_leN 43 (hd := dX7_readsGate_38) (C := hX) (by decide) (by omega) (by omega) (fun c_38 => ?_) (fun c_38 => ?_)
      · refine g_aload_n 0 (hd := dX7_readsGate_43) (C := hX) rfl rfl ?_
        refine g_get (hd := dX7_readsGate_44) (C := hX) 0 6 rfl rfl in_X7_readsGate_7 (by decide) (by decide +kernel) rfl ?_
        refine g_istore_n [(0, .ref o), (1, .int (nI (p + 1))), (2, .int (nI ((rd 0) + (rd 1)))), (3, .int (nI va_27))] [1, 2, 3, 0] (hd := dX7_readsGate_47) (C := hX) rfl (by decide) rfl ?_
        refine g_aload_n 0 (hd := dX7_readsGate_48) (C := hX) rfl rfl ?_
        refine g_callVp (rest := []) hX (c_X7_more l D cC cI cJ cO o ot on od ow oi oe op len ch va_27 en_27 aE aP lt T c rd ww wi EX PA (by omega) hl hT) ok_X7_more rfl 0 rfl rfl (fun _ => rfl) (hd := dX7_readsGate_49) gX7_readsGate_X7_more ⟨by decide, by decide⟩ rfl (Nat.le_of_ble_eq_true rfl) ⟨Nat.zero_le _, Nat.zero_le _⟩ [] rfl rfl ?_
        intro ⟨r_49, va_49, en_49⟩ e_49
        simp only at e_49
        rcases e_49 with ⟨rfl, p_49⟩ | ⟨rfl, p_49⟩
        · have b_49 := nmS_lt p_49.2
          show GW X [(o, .inr (7, [.int (nI len), .ref ot, .ref on, .ref od, .ref ow, .int (nI ch), .int (nI va_49), .int (nI en_49), .ref oi, .ref oe, .ref op, .long aE, .long aP, .long lt])), (ot, .inl (cI, 200, .inl (fun j_ => nI (T j_)))), (on, .inl (cI, 78, .inl (fun j_ => nI (c j_)))), (od, .inl (cI, 78, .inl (fun j_ => nI (rd j_)))), (ow, .inl (cI, 468, .inl (fun j_ => nI (ww j_)))), (oi, .inl (cI, 32, .inl (fun j_ => nI (wi j_)))), (oe, .inl (cJ, 256, .inr (.inl EX))), (op, .inl (cJ, 256, .inr (.inl PA)))] [(0, .ref o), (1, .int (nI (p + 1))), (2, .int (nI ((rd 0) + (rd 1)))), (3, .int (nI va_27))] [.int (nI 1)] 52 0 0
          refine g_if_eqN 63 (hd := dX7_readsGate_52) (C := hX) (by decide) (by decide) (fun c_52 => absurd c_52 (by decide)) (fun c_52 => ?_)
          refine g_aload_n 0 (hd := dX7_readsGate_55) (C := hX) rfl rfl ?_
          refine g_get (hd := dX7_readsGate_56) (C := hX) 0 6 rfl rfl in_X7_readsGate_7 (by decide) (by decide +kernel) rfl ?_
          refine g_iload_n 2 (hd := dX7_readsGate_59) (C := hX) rfl rfl ?_
          refine g_icmp_ltN 65 (hd := dX7_readsGate_60) (C := hX) (by decide) (by omega) (by omega) (fun c_60 => ?_) (fun c_60 => ?_)
          · refine g_aload_n 0 (hd := dX7_readsGate_65) (C := hX) rfl rfl ?_
            refine g_get (hd := dX7_readsGate_66) (C := hX) 0 6 rfl rfl in_X7_readsGate_7 (by decide) (by decide +kernel) rfl ?_
            refine g_istore [(0, .ref o), (1, .int (nI (p + 1))), (2, .int (nI ((rd 0) + (rd 1)))), (3, .int (nI va_27)), (4, .int (nI va_49))] [1, 2, 3, 4, 0] (hd := dX7_readsGate_69) (C := hX) (by decide) rfl ?_
            refine g_aload_n 0 (hd := dX7_readsGate_71) (C := hX) rfl rfl ?_
            refine g_callVp (rest := []) hX (c_X7_more l D cC cI cJ cO o ot on od ow oi oe op len ch va_49 en_49 aE aP lt T c rd ww wi EX PA (by omega) hl hT) ok_X7_more rfl 0 rfl rfl (fun _ => rfl) (hd := dX7_readsGate_72) gX7_readsGate_X7_more ⟨by decide, by decide⟩ rfl (Nat.le_of_ble_eq_true rfl) ⟨Nat.zero_le _, Nat.zero_le _⟩ [] rfl rfl ?_
            intro ⟨r_72, va_72, en_72⟩ e_72
            simp only at e_72
            rcases e_72 with ⟨rfl, p_72⟩ | ⟨rfl, p_72⟩
            · have b_72 := nmS_lt p_72.2
              show GW X [(o, .inr (7, [.int (nI len), .ref ot, .ref on, .ref od, .ref ow, .int (nI ch), .int (nI va_72), .int (nI en_72), .ref oi, .ref oe, .ref op, .long aE, .long aP, .long lt])), (ot, .inl (cI, 200, .inl (fun j_ => nI (T j_)))), (on, .inl (cI, 78, .inl (fun j_ => nI (c j_)))), (od, .inl (cI, 78, .inl (fun j_ => nI (rd j_)))), (ow, .inl (cI, 468, .inl (fun j_ => nI (ww j_)))), (oi, .inl (cI, 32, .inl (fun j_ => nI (wi j_)))), (oe, .inl (cJ, 256, .inr (.inl EX))), (op, .inl (cJ, 256, .inr (.inl PA)))] [(0, .ref o), (1, .int (nI (p + 1))), (2, .int (nI ((rd 0) + (rd 1)))), (3, .int (nI va_27)), (4, .int (nI va_49))] [.int (nI 1)] 75 0 0
              refine g_if_eqN 86 (hd := dX7_readsGate_75) (C := hX) (by decide) (by decide) (fun c_75 => absurd c_75 (by decide)) (fun c_75 => ?_)
              refine g_aload_n 0 (hd := dX7_readsGate_78) (C := hX) rfl rfl ?_
              refine g_get (hd := dX7_readsGate_79) (C := hX) 0 6 rfl rfl in_X7_readsGate_7 (by decide) (by decide +kernel) rfl ?_
              refine g_iload_n 2 (hd := dX7_readsGate_82) (C := hX) rfl rfl ?_
              refine g_icmp_ltN 88 (hd := dX7_readsGate_83) (C := hX) (by decide) (by omega) (by omega) (fun c_83 => ?_) (fun c_83 => ?_)
              · refine g_aload_n 0 (hd := dX7_readsGate_88) (C := hX) rfl rfl ?_
                refine g_get (hd := dX7_readsGate_89) (C := hX) 0 3 rfl rfl in_X7_readsGate_7 (by decide) (by decide +kernel) rfl ?_
                refine g_iload_n 3 (hd := dX7_readsGate_92) (C := hX) rfl rfl ?_
                refine g_iload 4 (hd := dX7_readsGate_93) (C := hX) rfl ?_
                refine g_aload_n 0 (hd := dX7_readsGate_95) (C := hX) rfl rfl ?_
                refine g_get (hd := dX7_readsGate_96) (C := hX) 0 6 rfl rfl in_X7_readsGate_7 (by decide) (by decide +kernel) rfl ?_
                refine g_callS (rest := []) hX (c_X7_adds l D cC cI cJ cO od rd va_27 va_49 va_72 (by omega)) ok_X7_adds (fun _ => rfl) (hd := dX7_readsGate_99) gX7_readsGate_X7_adds ⟨by decide, by decide⟩ rfl (Nat.le_of_ble_eq_true rfl) ⟨Nat.zero_le _, Nat.zero_le _⟩ [3] (by decide) rfl rfl ?_
                intro _u99 _p99
                show GW X [(o, .inr (7, [.int (nI len), .ref ot, .ref on, .ref od, .ref ow, .int (nI ch), .int (nI va_72), .int (nI en_72), .ref oi, .ref oe, .ref op, .long aE, .long aP, .long lt])), (ot, .inl (cI, 200, .inl (fun j_ => nI (T j_)))), (on, .inl (cI, 78, .inl (fun j_ => nI (c j_)))), (od, .inl (cI, 78, .inl (fun j_ => nI ((agC rd va_27 va_49 va_72) j_)))), (ow, .inl (cI, 468, .inl (fun j_ => nI (ww j_)))), (oi, .inl (cI, 32, .inl (fun j_ => nI (wi j_)))), (oe, .inl (cJ, 256, .inr (.inl EX))), (op, .inl (cJ, 256, .inr (.inl PA)))] [(0, .ref o), (1, .int (nI (p + 1))), (2, .int (nI ((rd 0) + (rd 1)))), (3, .int (nI va_27)), (4, .int (nI va_49))] [] 102 0 0
                refine g_iconst (v := nI 1) hX dX7_readsGate_102 (by decide) ?_
                exact (hret ((nI 1), va_72, en_72, (agC rd va_27 va_49 va_72)) _ _ (ri_g hTp h0 ⟨p_27, p_49.1, p_49.2, p_72.1, p_72.2, by omega, by omega, by omega, by omega⟩)).2.2.1 _ rfl rfl (by decide) dX7_readsGate_103
              · refine g_iconst (v := nI 0) hX dX7_readsGate_86 (by decide) ?_
                exact (hret ((nI 0), va_72, en_72, rd) _ _ (Or.inr ⟨rfl, it_no (fun c9 e9 k9 => by obtain ⟨x, y, z, q1, q2, e1, ⟨a1, a2, a3, a4, a5, a6, a7, a8, a9⟩, -⟩ := gt_i hTp h0 k9; rw [p_27] at a1; cases a1; rw [p_49.2] at a3; cases a3; rw [p_72.2] at a5; cases a5; omega)⟩)).2.2.1 _ rfl rfl (by decide) dX7_readsGate_87
            · show GW X [(o, .inr (7, [.int (nI len), .ref ot, .ref on, .ref od, .ref ow, .int (nI ch), .int (nI va_72), .int (nI en_72), .ref oi, .ref oe, .ref op, .long aE, .long aP, .long lt])), (ot, .inl (cI, 200, .inl (fun j_ => nI (T j_)))), (on, .inl (cI, 78, .inl (fun j_ => nI (c j_)))), (od, .inl (cI, 78, .inl (fun j_ => nI (rd j_)))), (ow, .inl (cI, 468, .inl (fun j_ => nI (ww j_)))), (oi, .inl (cI, 32, .inl (fun j_ => nI (wi j_)))), (oe, .inl (cJ, 256, .inr (.inl EX))), (op, .inl (cJ, 256, .inr (.inl PA)))] [(0, .ref o), (1, .int (nI (p + 1))), (2, .int (nI ((rd 0) + (rd 1)))), (3, .int (nI va_27)), (4, .int (nI va_49))] [.int (nI 0)] 75 0 0
              refine g_if_eqN 86 (hd := dX7_readsGate_75) (C := hX) (by decide) (by decide) (fun c_75 => ?_) (fun c_75 => absurd c_75 (by decide))
              refine g_iconst (v := nI 0) hX dX7_readsGate_86 (by decide) ?_
              exact (hret ((nI 0), va_72, en_72, rd) _ _ (Or.inr ⟨rfl, it_no (fun c9 e9 k9 => by obtain ⟨x, y, z, q1, q2, e1, ⟨a1, a2, a3, a4, a5, a6, a7, a8, a9⟩, -⟩ := gt_i hTp h0 k9; rw [p_27] at a1; cases a1; rw [p_49.2] at a3; cases a3; exact p_72 _ ⟨a4, a5⟩)⟩)).2.2.1 _ rfl rfl (by decide) dX7_readsGate_87
          · refine g_iconst (v := nI 0) hX dX7_readsGate_63 (by decide) ?_
            exact (hret ((nI 0), va_49, en_49, rd) _ _ (Or.inr ⟨rfl, it_no (fun c9 e9 k9 => by obtain ⟨x, y, z, q1, q2, e1, ⟨a1, a2, a3, a4, a5, a6, a7, a8, a9⟩, -⟩ := gt_i hTp h0 k9; rw [p_27] at a1; cases a1; rw [p_49.2] at a3; cases a3; omega)⟩)).2.2.1 _ rfl rfl (by decide) dX7_readsGate_64
        · show GW X [(o, .inr (7, [.int (nI len), .ref ot, .ref on, .ref od, .ref ow, .int (nI ch), .int (nI va_49), .int (nI en_49), .ref oi, .ref oe, .ref op, .long aE, .long aP, .long lt])), (ot, .inl (cI, 200, .inl (fun j_ => nI (T j_)))), (on, .inl (cI, 78, .inl (fun j_ => nI (c j_)))), (od, .inl (cI, 78, .inl (fun j_ => nI (rd j_)))), (ow, .inl (cI, 468, .inl (fun j_ => nI (ww j_)))), (oi, .inl (cI, 32, .inl (fun j_ => nI (wi j_)))), (oe, .inl (cJ, 256, .inr (.inl EX))), (op, .inl (cJ, 256, .inr (.inl PA)))] [(0, .ref o), (1, .int (nI (p + 1))), (2, .int (nI ((rd 0) + (rd 1)))), (3, .int (nI va_27))] [.int (nI 0)] 52 0 0
          refine g_if_eqN 63 (hd := dX7_readsGate_52) (C := hX) (by decide) (by decide) (fun c_52 => ?_) (fun c_52 => absurd c_52 (by decide))
          refine g_iconst (v := nI 0) hX dX7_readsGate_63 (by decide) ?_
          exact (hret ((nI 0), va_49, en_49, rd) _ _ (Or.inr ⟨rfl, it_no (fun c9 e9 k9 => by obtain ⟨x, y, z, q1, q2, e1, ⟨a1, a2, a3, a4, a5, a6, a7, a8, a9⟩, -⟩ := gt_i hTp h0 k9; rw [p_27] at a1; cases a1; exact p_49 _ ⟨a2, a3⟩)⟩)).2.2.1 _ rfl rfl (by decide) dX7_readsGate_64
      · refine g_iconst (v := nI 0) hX dX7_readsGate_41 (by decide) ?_
        exact (hret ((nI 0), va_27, en_27, rd) _ _ (Or.inr ⟨rfl, it_no (fun c9 e9 k9 => by obtain ⟨x, y, z, q1, q2, e1, ⟨a1, a2, a3, a4, a5, a6, a7, a8, a9⟩, -⟩ := gt_i hTp h0 k9; rw [p_27] at a1; cases a1; omega)⟩)).2.2.1 _ rfl rfl (by decide) dX7_readsGate_42
    · show GW X [(o, .inr (7, [.int (nI len), .ref ot, .ref on, .ref od, .ref ow, .int (nI ch), .int (nI va_27), .int (nI en_27), .ref oi, .ref oe, .ref op, .long aE, .long aP, .long lt])), (ot, .inl (cI, 200, .inl (fun j_ => nI (T j_)))), (on, .inl (cI, 78, .inl (fun j_ => nI (c j_)))), (od, .inl (cI, 78, .inl (fun j_ => nI (rd j_)))), (ow, .inl (cI, 468, .inl (fun j_ => nI (ww j_)))), (oi, .inl (cI, 32, .inl (fun j_ => nI (wi j_)))), (oe, .inl (cJ, 256, .inr (.inl EX))), (op, .inl (cJ, 256, .inr (.inl PA)))] [(0, .ref o), (1, .int (nI (p + 1))), (2, .int (nI ((rd 0) + (rd 1))))] [.int (nI 0)] 30 0 0
      refine g_if_eqN 41 (hd := dX7_readsGate_30) (C := hX) (by decide) (by decide) (fun c_30 => ?_) (fun c_30 => absurd c_30 (by decide))
      refine g_iconst (v := nI 0) hX dX7_readsGate_41 (by decide) ?_
      exact (hret ((nI 0), va_27, en_27, rd) _ _ (Or.inr ⟨rfl, it_no (fun c9 e9 k9 => by obtain ⟨x, y, z, q1, q2, e1, ⟨a1, a2, a3, a4, a5, a6, a7, a8, a9⟩, -⟩ := gt_i hTp h0 k9; rw [p_27] at a1; cases a1)⟩)).2.2.1 _ rfl rfl (by decide) dX7_readsGate_42

theorem in_X7_readsPair_7 : ∀ w ∈ wsX70, w ∈ wsX7_readsPair := fun _ h => List.mem_cons_of_mem _ (List.mem_append_right _ h)
theorem ok_X7_readsPair : gOK yX7_readsPair wsX7_readsPair ({ frames := 3, cells := 0, slots := 0, locals := 62 }) 6 2 := ⟨⟨_, _, _, rfl⟩, rfl, rfl, by decide, by decide, by decide +kernel⟩
set_option maxRecDepth 100000 in
set_option maxHeartbeats 4000000 in
theorem c_X7_readsPair (l : Launch) (D : va_G) (cC cI cJ cO : ClassId) (o : Nat) (ot : Nat) (on : Nat) (od : Nat) (ow : Nat) (oi : Nat) (oe : Nat) (op : Nat) (len : Nat) (ch : Nat) (va : Nat) (en : Nat) (aE : Int64) (aP : Int64) (lt : Int64) (T : Nat → Nat) (c : Nat → Nat) (rd : Nat → Nat) (ww : Nat → Nat) (wi : Nat → Nat) (EX : Nat → Int64) (PA : Nat → Int64) (p : Nat) (fl : Nat) (hp : p < 300) (hl : len ≤ 200) (hT : ∀ j, j < len → T j < 1000) (d0 : rd 0 ≤ 8) (d1 : rd 1 ≤ 24) (h0 : ¬ rd 0 = 0) (hf : (fl = 1 ∧ T p = 99) ∨ (fl = 0 ∧ T p = 111)) : CM (S := Int32 × Nat × Nat × (Nat → Nat)) l D (tyL cC cI cJ cO) yX7_readsPair wsX7_readsPair ({ frames := 3, cells := 0, slots := 0, locals := 62 }) [.ref o, .int (nI (p + 1)), .int (nI fl)] [(o, .inr (7, [.int (nI len), .ref ot, .ref on, .ref od, .ref ow, .int (nI ch), .int (nI va), .int (nI en), .ref oi, .ref oe, .ref op, .long aE, .long aP, .long lt])), (ot, .inl (cI, 200, .inl (fun j_ => nI (T j_)))), (on, .inl (cI, 78, .inl (fun j_ => nI (c j_)))), (od, .inl (cI, 78, .inl (fun j_ => nI (rd j_)))), (ow, .inl (cI, 468, .inl (fun j_ => nI (ww j_)))), (oi, .inl (cI, 32, .inl (fun j_ => nI (wi j_)))), (oe, .inl (cJ, 256, .inr (.inl EX))), (op, .inl (cJ, 256, .inr (.inl PA)))] (fun u => some (.int u.1)) (fun u => RI T len rd p u.1 u.2.2.2 u.2.2.1) (fun u_ => [(o, .inr (7, [.int (nI len), .ref ot, .ref on, .ref od, .ref ow, .int (nI ch), .int (nI u_.2.1), .int (nI u_.2.2.1), .ref oi, .ref oe, .ref op, .long aE, .long aP, .long lt])), (ot, .inl (cI, 200, .inl (fun j_ => nI (T j_)))), (on, .inl (cI, 78, .inl (fun j_ => nI (c j_)))), (od, .inl (cI, 78, .inl (fun j_ => nI (u_.2.2.2 j_)))), (ow, .inl (cI, 468, .inl (fun j_ => nI (ww j_)))), (oi, .inl (cI, 32, .inl (fun j_ => nI (wi j_)))), (oe, .inl (cJ, 256, .inr (.inl EX))), (op, .inl (cJ, 256, .inr (.inl PA)))]) := by
  refine CM_in (cc := cX7_readsPair) (maxL := 6) (ret := (some .boolean)) (by decide) rfl (Nat.le_of_ble_eq_true rfl) ?_
  intro X hX hret
  show GW X [(o, .inr (7, [.int (nI len), .ref ot, .ref on, .ref od, .ref ow, .int (nI ch), .int (nI va), .int (nI en), .ref oi, .ref oe, .ref op, .long aE, .long aP, .long lt])), (ot, .inl (cI, 200, .inl (fun j_ => nI (T j_)))), (on, .inl (cI, 78, .inl (fun j_ => nI (c j_)))), (od, .inl (cI, 78, .inl (fun j_ => nI (rd j_)))), (ow, .inl (cI, 468, .inl (fun j_ => nI (ww j_)))), (oi, .inl (cI, 32, .inl (fun j_ => nI (wi j_)))), (oe, .inl (cJ, 256, .inr (.inl EX))), (op, .inl (cJ, 256, .inr (.inl PA)))] [(0, .ref o), (1, .int (nI (p + 1))), (2, .int (nI fl))] [] 0 0 0
  rcases hf with ⟨rfl, hTp⟩ | ⟨rfl, hTp⟩
  · refine g_aload_n 0 (hd := dX7_readsPair_0) (C := hX) rfl rfl ?_
    refine g_iload_n 1 (hd := dX7_readsPair_1) (C := hX) rfl rfl ?_
    refine g_callVp (rest := []) hX (c_X7_number l D cC cI cJ cO o ot on od ow oi oe op len ch va en aE aP lt T c rd ww wi EX PA (p + 1) (by omega) hl hT) ok_X7_number rfl 0 rfl rfl (fun _ => rfl) (hd := dX7_readsPair_2) gX7_readsPair_X7_number ⟨by decide, by decide⟩ rfl (Nat.le_of_ble_eq_true rfl) ⟨Nat.zero_le _, Nat.zero_le _⟩ [] rfl rfl ?_
    intro ⟨r_2, va_2, en_2⟩ e_2
    simp only at e_2
    rcases e_2 with ⟨rfl, p_2⟩ | ⟨rfl, p_2⟩
    · have b_2 := nmS_lt p_2
      show GW X [(o, .inr (7, [.int (nI len), .ref ot, .ref on, .ref od, .ref ow, .int (nI ch), .int (nI va_2), .int (nI en_2), .ref oi, .ref oe, .ref op, .long aE, .long aP, .long lt])), (ot, .inl (cI, 200, .inl (fun j_ => nI (T j_)))), (on, .inl (cI, 78, .inl (fun j_ => nI (c j_)))), (od, .inl (cI, 78, .inl (fun j_ => nI (rd j_)))), (ow, .inl (cI, 468, .inl (fun j_ => nI (ww j_)))), (oi, .inl (cI, 32, .inl (fun j_ => nI (wi j_)))), (oe, .inl (cJ, 256, .inr (.inl EX))), (op, .inl (cJ, 256, .inr (.inl PA)))] [(0, .ref o), (1, .int (nI (p + 1))), (2, .int (nI 1))] [.int (nI 1)] 5 0 0
      refine g_if_neN 10 (hd := dX7_readsPair_5) (C := hX) (by decide) (by decide) (fun c_5 => ?_) (fun c_5 => absurd c_5 (by decide))
      refine g_aload_n 0 (hd := dX7_readsPair_10) (C := hX) rfl rfl ?_
      refine g_get (hd := dX7_readsPair_11) (C := hX) 0 6 rfl rfl in_X7_readsPair_7 (by decide) (by decide +kernel) rfl ?_
      refine g_istore_n [(0, .ref o), (1, .int (nI (p + 1))), (2, .int (nI 1)), (3, .int (nI va_2))] [1, 2, 3, 0] (hd := dX7_readsPair_14) (C := hX) rfl (by decide) rfl ?_
      refine g_aload_n 0 (hd := dX7_readsPair_15) (C := hX) rfl rfl ?_
      refine g_callVp (rest := []) hX (c_X7_more l D cC cI cJ cO o ot on od ow oi oe op len ch va_2 en_2 aE aP lt T c rd ww wi EX PA (by omega) hl hT) ok_X7_more rfl 0 rfl rfl (fun _ => rfl) (hd := dX7_readsPair_16) gX7_readsPair_X7_more ⟨by decide, by decide⟩ rfl (Nat.le_of_ble_eq_true rfl) ⟨Nat.zero_le _, Nat.zero_le _⟩ [] rfl rfl ?_
      intro ⟨r_16, va_16, en_16⟩ e_16
      simp only at e_16
      rcases e_16 with ⟨rfl, p_16⟩ | ⟨rfl, p_16⟩
      · have b_16 := nmS_lt p_16.2
        show GW X [(o, .inr (7, [.int (nI len), .ref ot, .ref on, .ref od, .ref ow, .int (nI ch), .int (nI va_16), .int (nI en_16), .ref oi, .ref oe, .ref op, .long aE, .long aP, .long lt])), (ot, .inl (cI, 200, .inl (fun j_ => nI (T j_)))), (on, .inl (cI, 78, .inl (fun j_ => nI (c j_)))), (od, .inl (cI, 78, .inl (fun j_ => nI (rd j_)))), (ow, .inl (cI, 468, .inl (fun j_ => nI (ww j_)))), (oi, .inl (cI, 32, .inl (fun j_ => nI (wi j_)))), (oe, .inl (cJ, 256, .inr (.inl EX))), (op, .inl (cJ, 256, .inr (.inl PA)))] [(0, .ref o), (1, .int (nI (p + 1))), (2, .int (nI 1)), (3, .int (nI va_2))] [.int (nI 1)] 19 0 0
        refine g_if_neN 24 (hd := dX7_readsPair_19) (C := hX) (by decide) (by decide) (fun c_19 => ?_) (fun c_19 => absurd c_19 (by decide))
        refine g_iload_n 2 (hd := dX7_readsPair_24) (C := hX) rfl rfl ?_
        refine g_if_eqN 32 (hd := dX7_readsPair_25) (C := hX) (by decide) (by decide) (fun c_25 => absurd c_25 (by decide)) (fun c_25 => ?_)
        refine g_iconst (v := nI 4) hX dX7_readsPair_28 (by decide) ?_
        refine g_goto 33 (hd := dX7_readsPair_29) (C := hX) (by decide) ?_
        refine g_istore [(0, .ref o), (1, .int (nI (p + 1))), (2, .int (nI 1)), (3, .int (nI va_2)), (4, .int (nI 4))] [1, 2, 3, 4, 0] (hd := dX7_readsPair_33) (C := hX) (by decide) rfl ?_
        refine g_aload_n 0 (hd := dX7_readsPair_35) (C := hX) rfl rfl ?_
        refine g_get (hd := dX7_readsPair_36) (C := hX) 0 3 rfl rfl in_X7_readsPair_7 (by decide) (by decide +kernel) rfl ?_
        refine g_iload 4 (hd := dX7_readsPair_39) (C := hX) rfl ?_
        refine g_iload_n 3 (hd := dX7_readsPair_41) (C := hX) rfl rfl ?_
        refine g_iast (hd := dX7_readsPair_42) (C := hX) 3 1 [(o, .inr (7, [.int (nI len), .ref ot, .ref on, .ref od, .ref ow, .int (nI ch), .int (nI va_16), .int (nI en_16), .ref oi, .ref oe, .ref op, .long aE, .long aP, .long lt])), (ot, .inl (cI, 200, .inl (fun j_ => nI (T j_)))), (on, .inl (cI, 78, .inl (fun j_ => nI (c j_)))), (od, .inl (cI, 78, .inl (fun j_ => nI ((nup rd 4 va_2) j_)))), (ow, .inl (cI, 468, .inl (fun j_ => nI (ww j_)))), (oi, .inl (cI, 32, .inl (fun j_ => nI (wi j_)))), (oe, .inl (cJ, 256, .inr (.inl EX))), (op, .inl (cJ, 256, .inr (.inl PA)))] rfl rfl (by omega) (by decide) (by rw [nup_I]; rfl) ?_
        refine g_aload_n 0 (hd := dX7_readsPair_43) (C := hX) rfl rfl ?_
        refine g_get (hd := dX7_readsPair_44) (C := hX) 0 3 rfl rfl in_X7_readsPair_7 (by decide) (by decide +kernel) rfl ?_
        refine g_iload 4 (hd := dX7_readsPair_47) (C := hX) rfl ?_
        refine g_iconst (v := nI 1) hX dX7_readsPair_49 (by decide) ?_
        refine g_iadd hX dX7_readsPair_50 ?_
        refine g_top (y := (nI 5)) (by decide) ?_
        refine g_aload_n 0 (hd := dX7_readsPair_51) (C := hX) rfl rfl ?_
        refine g_get (hd := dX7_readsPair_52) (C := hX) 0 6 rfl rfl in_X7_readsPair_7 (by decide) (by decide +kernel) rfl ?_
        refine g_iast (hd := dX7_readsPair_55) (C := hX) 3 1 [(o, .inr (7, [.int (nI len), .ref ot, .ref on, .ref od, .ref ow, .int (nI ch), .int (nI va_16), .int (nI en_16), .ref oi, .ref oe, .ref op, .long aE, .long aP, .long lt])), (ot, .inl (cI, 200, .inl (fun j_ => nI (T j_)))), (on, .inl (cI, 78, .inl (fun j_ => nI (c j_)))), (od, .inl (cI, 78, .inl (fun j_ => nI ((nup (nup rd 4 va_2) 5 va_16) j_)))), (ow, .inl (cI, 468, .inl (fun j_ => nI (ww j_)))), (oi, .inl (cI, 32, .inl (fun j_ => nI (wi j_)))), (oe, .inl (cJ, 256, .inr (.inl EX))), (op, .inl (cJ, 256, .inr (.inl PA)))] rfl rfl (by omega) (by decide) (by rw [nup_I]; rfl) ?_
        refine g_aload_n 0 (hd := dX7_readsPair_56) (C := hX) rfl rfl ?_
        refine g_get (hd := dX7_readsPair_57) (C := hX) 0 3 rfl rfl in_X7_readsPair_7 (by decide) (by decide +kernel) rfl ?_
        refine g_iconst (v := nI 0) hX dX7_readsPair_60 (by decide) ?_
        refine g_iald (hd := dX7_readsPair_61) (C := hX) 3 1 rfl rfl (by omega) (by decide) ?_
        refine g_top (y := (nI (rd 0))) (by rw [nup_ne (by decide), nup_ne (by decide)]) ?_
        refine g_aload_n 0 (hd := dX7_readsPair_62) (C := hX) rfl rfl ?_
        refine g_get (hd := dX7_readsPair_63) (C := hX) 0 3 rfl rfl in_X7_readsPair_7 (by decide) (by decide +kernel) rfl ?_
        refine g_iconst (v := nI 1) hX dX7_readsPair_66 (by decide) ?_
        refine g_iald (hd := dX7_readsPair_67) (C := hX) 3 1 rfl rfl (by omega) (by decide) ?_
        refine g_top (y := (nI (rd 1))) (by rw [nup_ne (by decide), nup_ne (by decide)]) ?_
        refine g_iadd hX dX7_readsPair_68 ?_
        refine g_top (y := (nI ((rd 0) + (rd 1)))) (nI_add _ _) ?_
        refine g_istore [(0, .ref o), (1, .int (nI (p + 1))), (2, .int (nI 1)), (3, .int (nI va_2)), (4, .int (nI 4)), (5, .int (nI ((rd 0) + (rd 1))))] [1, 2, 3, 4, 5, 0] (hd := dX7_readsPair_69) (C := hX) (by decide) rfl ?_
        refine g_iload_n 2 (hd := dX7_readsPair_71) (C := hX) rfl rfl ?_
        refine g_if_eqN 92 (hd := dX7_readsPair_72) (C := hX) (by decide) (by decide) (fun c_72 => absurd c_72 (by decide)) (fun c_72 => ?_)
        refine g_aload_n 0 (hd := dX7_readsPair_75) (C := hX) rfl rfl ?_
        refine g_get (hd := dX7_readsPair_76) (C := hX) 0 3 rfl rfl in_X7_readsPair_7 (by decide) (by decide +kernel) rfl ?_
        refine g_iconst (v := nI 0) hX dX7_readsPair_79 (by decide) ?_
        refine g_iald (hd := dX7_readsPair_80) (C := hX) 3 1 rfl rfl (by omega) (by decide) ?_
        refine g_top (y := (nI (rd 0))) (by rw [nup_ne (by decide), nup_ne (by decide)]) ?_
        refine g_iload_n 3 (hd := dX7_readsPair_81) (C := hX) rfl rfl ?_
        refine g_aload_n 0 (hd := dX7_readsPair_82) (C := hX) rfl rfl ?_
        refine g_get (hd := dX7_readsPair_83) (C := hX) 0 6 rfl rfl in_X7_readsPair_7 (by decide) (by decide +kernel) rfl ?_
        refine g_callS (rest := []) hX (c_X7_canBe l D cC cI cJ cO (rd 0) (nI va_2) (nI va_16) (by omega)) ok_X7_canBe (fun _ => rfl) (hd := dX7_readsPair_86) gX7_readsPair_X7_canBe ⟨by decide, by decide⟩ rfl (Nat.le_of_ble_eq_true rfl) ⟨Nat.zero_le _, Nat.zero_le _⟩ [] (by decide) rfl rfl ?_
        intro r_86 e_86
        rcases e_86 with ⟨rfl, p_86⟩ | ⟨rfl, p_86⟩
        · show GW X [(o, .inr (7, [.int (nI len), .ref ot, .ref on, .ref od, .ref ow, .int (nI ch), .int (nI va_16), .int (nI en_16), .ref oi, .ref oe, .ref op, .long aE, .long aP, .long lt])), (ot, .inl (cI, 200, .inl (fun j_ => nI (T j_)))), (on, .inl (cI, 78, .inl (fun j_ => nI (c j_)))), (od, .inl (cI, 78, .inl (fun j_ => nI ((nup (nup rd 4 va_2) 5 va_16) j_)))), (ow, .inl (cI, 468, .inl (fun j_ => nI (ww j_)))), (oi, .inl (cI, 32, .inl (fun j_ => nI (wi j_)))), (oe, .inl (cJ, 256, .inr (.inl EX))), (op, .inl (cJ, 256, .inr (.inl PA)))] [(0, .ref o), (1, .int (nI (p + 1))), (2, .int (nI 1)), (3, .int (nI va_2)), (4, .int (nI 4)), (5, .int (nI ((rd 0) + (rd 1))))] [.int (nI 1)] 89 0 0
          refine g_goto 112 (hd := dX7_readsPair_89) (C := hX) (by decide) ?_
          refine g_w [(o, .inr (7, [.int (nI len), .ref ot, .ref on, .ref od, .ref ow, .int (nI ch), .int (nI va_16), .int (nI en_16), .ref oi, .ref oe, .ref op, .long aE, .long aP, .long lt])), (ot, .inl (cI, 200, .inl (fun j_ => nI (T j_)))), (on, .inl (cI, 78, .inl (fun j_ => nI (c j_)))), (od, .inl (cI, 78, .inl (fun j_ => nI ((scC rd va_2 va_16) j_)))), (ow, .inl (cI, 468, .inl (fun j_ => nI (ww j_)))), (oi, .inl (cI, 32, .inl (fun j_ => nI (wi j_)))), (oe, .inl (cJ, 256, .inr (.inl EX))), (op, .inl (cJ, 256, .inr (.inl PA)))] (by rw [pr_c]) ?_
          exact (hret ((nI 1), va_16, en_16, (scC rd va_2 va_16)) _ _ (by have q9 := ri_p (Or.inr hTp) h0 ⟨p_2, p_16.1, p_16.2⟩ (by rw [hTp]; exact (cdI_nat (by omega) (by omega) (by omega)).mp p_86); rw [hTp] at q9; exact q9)).2.2.1 _ rfl rfl (by decide) dX7_readsPair_112
        · show GW X [(o, .inr (7, [.int (nI len), .ref ot, .ref on, .ref od, .ref ow, .int (nI ch), .int (nI va_16), .int (nI en_16), .ref oi, .ref oe, .ref op, .long aE, .long aP, .long lt])), (ot, .inl (cI, 200, .inl (fun j_ => nI (T j_)))), (on, .inl (cI, 78, .inl (fun j_ => nI (c j_)))), (od, .inl (cI, 78, .inl (fun j_ => nI ((nup (nup rd 4 va_2) 5 va_16) j_)))), (ow, .inl (cI, 468, .inl (fun j_ => nI (ww j_)))), (oi, .inl (cI, 32, .inl (fun j_ => nI (wi j_)))), (oe, .inl (cJ, 256, .inr (.inl EX))), (op, .inl (cJ, 256, .inr (.inl PA)))] [(0, .ref o), (1, .int (nI (p + 1))), (2, .int (nI 1)), (3, .int (nI va_2)), (4, .int (nI 4)), (5, .int (nI ((rd 0) + (rd 1))))] [.int (nI 0)] 89 0 0
          refine g_goto 112 (hd := dX7_readsPair_89) (C := hX) (by decide) ?_
          refine g_w [(o, .inr (7, [.int (nI len), .ref ot, .ref on, .ref od, .ref ow, .int (nI ch), .int (nI va_16), .int (nI en_16), .ref oi, .ref oe, .ref op, .long aE, .long aP, .long lt])), (ot, .inl (cI, 200, .inl (fun j_ => nI (T j_)))), (on, .inl (cI, 78, .inl (fun j_ => nI (c j_)))), (od, .inl (cI, 78, .inl (fun j_ => nI ((scC rd va_2 va_16) j_)))), (ow, .inl (cI, 468, .inl (fun j_ => nI (ww j_)))), (oi, .inl (cI, 32, .inl (fun j_ => nI (wi j_)))), (oe, .inl (cJ, 256, .inr (.inl EX))), (op, .inl (cJ, 256, .inr (.inl PA)))] (by rw [pr_c]) ?_
          exact (hret ((nI 0), va_16, en_16, (scC rd va_2 va_16)) _ _ (ri_pn (Or.inr hTp) h0 ⟨p_2, p_16.1, p_16.2⟩ (by rw [hTp]; exact fun z9 => p_86 ((cdI_nat (by omega) (by omega) (by omega)).mpr z9)))).2.2.1 _ rfl rfl (by decide) dX7_readsPair_112
      · show GW X [(o, .inr (7, [.int (nI len), .ref ot, .ref on, .ref od, .ref ow, .int (nI ch), .int (nI va_16), .int (nI en_16), .ref oi, .ref oe, .ref op, .long aE, .long aP, .long lt])), (ot, .inl (cI, 200, .inl (fun j_ => nI (T j_)))), (on, .inl (cI, 78, .inl (fun j_ => nI (c j_)))), (od, .inl (cI, 78, .inl (fun j_ => nI (rd j_)))), (ow, .inl (cI, 468, .inl (fun j_ => nI (ww j_)))), (oi, .inl (cI, 32, .inl (fun j_ => nI (wi j_)))), (oe, .inl (cJ, 256, .inr (.inl EX))), (op, .inl (cJ, 256, .inr (.inl PA)))] [(0, .ref o), (1, .int (nI (p + 1))), (2, .int (nI 1)), (3, .int (nI va_2))] [.int (nI 0)] 19 0 0
        refine g_if_neN 24 (hd := dX7_readsPair_19) (C := hX) (by decide) (by decide) (fun c_19 => absurd c_19 (by decide)) (fun c_19 => ?_)
        refine g_iconst (v := nI 0) hX dX7_readsPair_22 (by decide) ?_
        exact (hret ((nI 0), va_16, en_16, rd) _ _ (Or.inr ⟨rfl, it_no (fun c9 e9 k9 => by obtain ⟨x, y, q1, e1, ⟨a1, a2, a3⟩, -⟩ := pr_i (Or.inr hTp) h0 k9; rw [p_2] at a1; cases a1; exact p_16 _ ⟨a2, a3⟩)⟩)).2.2.1 _ rfl rfl (by decide) dX7_readsPair_23
    · show GW X [(o, .inr (7, [.int (nI len), .ref ot, .ref on, .ref od, .ref ow, .int (nI ch), .int (nI va_2), .int (nI en_2), .ref oi, .ref oe, .ref op, .long aE, .long aP, .long lt])), (ot, .inl (cI, 200, .inl (fun j_ => nI (T j_)))), (on, .inl (cI, 78, .inl (fun j_ => nI (c j_)))), (od, .inl (cI, 78, .inl (fun j_ => nI (rd j_)))), (ow, .inl (cI, 468, .inl (fun j_ => nI (ww j_)))), (oi, .inl (cI, 32, .inl (fun j_ => nI (wi j_)))), (oe, .inl (cJ, 256, .inr (.inl EX))), (op, .inl (cJ, 256, .inr (.inl PA)))] [(0, .ref o), (1, .int (nI (p + 1))), (2, .int (nI 1))] [.int (nI 0)] 5 0 0
      refine g_if_neN 10 (hd := dX7_readsPair_5) (C := hX) (by decide) (by decide) (fun c_5 => absurd c_5 (by decide)) (fun c_5 => ?_)
      refine g_iconst (v := nI 0) hX dX7_readsPair_8 (by decide) ?_
      exact (hret ((nI 0), va_2, en_2, rd) _ _ (Or.inr ⟨rfl, it_no (fun c9 e9 k9 => by obtain ⟨x, y, q1, e1, ⟨a1, a2, a3⟩, -⟩ := pr_i (Or.inr hTp) h0 k9; rw [p_2] at a1; cases a1)⟩)).2.2.1 _ rfl rfl (by decide) dX7_readsPair_9
  · refine g_aload_n 0 (hd := dX7_readsPair_0) (C := hX) rfl rfl ?_
    refine g_iload_n 1 (hd := dX7_readsPair_1) (C := hX) rfl rfl ?_
    refine g_callVp (rest := []) hX (c_X7_number l D cC cI cJ cO o ot on od ow oi oe op len ch va en aE aP lt T c rd ww wi EX PA (p + 1) (by omega) hl hT) ok_X7_number rfl 0 rfl rfl (fun _ => rfl) (hd := dX7_readsPair_2) gX7_readsPair_X7_number ⟨by decide, by decide⟩ rfl (Nat.le_of_ble_eq_true rfl) ⟨Nat.zero_le _, Nat.zero_le _⟩ [] rfl rfl ?_
    intro ⟨r_2, va_2, en_2⟩ e_2
    simp only at e_2
    rcases e_2 with ⟨rfl, p_2⟩ | ⟨rfl, p_2⟩
    · have b_2 := nmS_lt p_2
      show GW X [(o, .inr (7, [.int (nI len), .ref ot, .ref on, .ref od, .ref ow, .int (nI ch), .int (nI va_2), .int (nI en_2), .ref oi, .ref oe, .ref op, .long aE, .long aP, .long lt])), (ot, .inl (cI, 200, .inl (fun j_ => nI (T j_)))), (on, .inl (cI, 78, .inl (fun j_ => nI (c j_)))), (od, .inl (cI, 78, .inl (fun j_ => nI (rd j_)))), (ow, .inl (cI, 468, .inl (fun j_ => nI (ww j_)))), (oi, .inl (cI, 32, .inl (fun j_ => nI (wi j_)))), (oe, .inl (cJ, 256, .inr (.inl EX))), (op, .inl (cJ, 256, .inr (.inl PA)))] [(0, .ref o), (1, .int (nI (p + 1))), (2, .int (nI 0))] [.int (nI 1)] 5 0 0
      refine g_if_neN 10 (hd := dX7_readsPair_5) (C := hX) (by decide) (by decide) (fun c_5 => ?_) (fun c_5 => absurd c_5 (by decide))
      refine g_aload_n 0 (hd := dX7_readsPair_10) (C := hX) rfl rfl ?_
      refine g_get (hd := dX7_readsPair_11) (C := hX) 0 6 rfl rfl in_X7_readsPair_7 (by decide) (by decide +kernel) rfl ?_
      refine g_istore_n [(0, .ref o), (1, .int (nI (p + 1))), (2, .int (nI 0)), (3, .int (nI va_2))] [1, 2, 3, 0] (hd := dX7_readsPair_14) (C := hX) rfl (by decide) rfl ?_
      refine g_aload_n 0 (hd := dX7_readsPair_15) (C := hX) rfl rfl ?_
      refine g_callVp (rest := []) hX (c_X7_more l D cC cI cJ cO o ot on od ow oi oe op len ch va_2 en_2 aE aP lt T c rd ww wi EX PA (by omega) hl hT) ok_X7_more rfl 0 rfl rfl (fun _ => rfl) (hd := dX7_readsPair_16) gX7_readsPair_X7_more ⟨by decide, by decide⟩ rfl (Nat.le_of_ble_eq_true rfl) ⟨Nat.zero_le _, Nat.zero_le _⟩ [] rfl rfl ?_
      intro ⟨r_16, va_16, en_16⟩ e_16
      simp only at e_16
      rcases e_16 with ⟨rfl, p_16⟩ | ⟨rfl, p_16⟩
      · have b_16 := nmS_lt p_16.2
        show GW X [(o, .inr (7, [.int (nI len), .ref ot, .ref on, .ref od, .ref ow, .int (nI ch), .int (nI va_16), .int (nI en_16), .ref oi, .ref oe, .ref op, .long aE, .long aP, .long lt])), (ot, .inl (cI, 200, .inl (fun j_ => nI (T j_)))), (on, .inl (cI, 78, .inl (fun j_ => nI (c j_)))), (od, .inl (cI, 78, .inl (fun j_ => nI (rd j_)))), (ow, .inl (cI, 468, .inl (fun j_ => nI (ww j_)))), (oi, .inl (cI, 32, .inl (fun j_ => nI (wi j_)))), (oe, .inl (cJ, 256, .inr (.inl EX))), (op, .inl (cJ, 256, .inr (.inl PA)))] [(0, .ref o), (1, .int (nI (p + 1))), (2, .int (nI 0)), (3, .int (nI va_2))] [.int (nI 1)] 19 0 0
        refine g_if_neN 24 (hd := dX7_readsPair_19) (C := hX) (by decide) (by decide) (fun c_19 => ?_) (fun c_19 => absurd c_19 (by decide))
        refine g_iload_n 2 (hd := dX7_readsPair_24) (C := hX) rfl rfl ?_
        refine g_if_eqN 32 (hd := dX7_readsPair_25) (C := hX) (by decide) (by decide) (fun c_25 => ?_) (fun c_25 => absurd c_25 (by decide))
        refine g_iconst (v := nI 2) hX dX7_readsPair_32 (by decide) ?_
        refine g_istore [(0, .ref o), (1, .int (nI (p + 1))), (2, .int (nI 0)), (3, .int (nI va_2)), (4, .int (nI 2))] [1, 2, 3, 4, 0] (hd := dX7_readsPair_33) (C := hX) (by decide) rfl ?_
        refine g_aload_n 0 (hd := dX7_readsPair_35) (C := hX) rfl rfl ?_
        refine g_get (hd := dX7_readsPair_36) (C := hX) 0 3 rfl rfl in_X7_readsPair_7 (by decide) (by decide +kernel) rfl ?_
        refine g_iload 4 (hd := dX7_readsPair_39) (C := hX) rfl ?_
        refine g_iload_n 3 (hd := dX7_readsPair_41) (C := hX) rfl rfl ?_
        refine g_iast (hd := dX7_readsPair_42) (C := hX) 3 1 [(o, .inr (7, [.int (nI len), .ref ot, .ref on, .ref od, .ref ow, .int (nI ch), .int (nI va_16), .int (nI en_16), .ref oi, .ref oe, .ref op, .long aE, .long aP, .long lt])), (ot, .inl (cI, 200, .inl (fun j_ => nI (T j_)))), (on, .inl (cI, 78, .inl (fun j_ => nI (c j_)))), (od, .inl (cI, 78, .inl (fun j_ => nI ((nup rd 2 va_2) j_)))), (ow, .inl (cI, 468, .inl (fun j_ => nI (ww j_)))), (oi, .inl (cI, 32, .inl (fun j_ => nI (wi j_)))), (oe, .inl (cJ, 256, .inr (.inl EX))), (op, .inl (cJ, 256, .inr (.inl PA)))] rfl rfl (by omega) (by decide) (by rw [nup_I]; rfl) ?_
        refine g_aload_n 0 (hd := dX7_readsPair_43) (C := hX) rfl rfl ?_
        refine g_get (hd := dX7_readsPair_44) (C := hX) 0 3 rfl rfl in_X7_readsPair_7 (by decide) (by decide +kernel) rfl ?_
        refine g_iload 4 (hd := dX7_readsPair_47) (C := hX) rfl ?_
        refine g_iconst (v := nI 1) hX dX7_readsPair_49 (by decide) ?_
        refine g_iadd hX dX7_readsPair_50 ?_
        refine g_top (y := (nI 3)) (by decide) ?_
        refine g_aload_n 0 (hd := dX7_readsPair_51) (C := hX) rfl rfl ?_
        refine g_get (hd := dX7_readsPair_52) (C := hX) 0 6 rfl rfl in_X7_readsPair_7 (by decide) (by decide +kernel) rfl ?_
        refine g_iast (hd := dX7_readsPair_55) (C := hX) 3 1 [(o, .inr (7, [.int (nI len), .ref ot, .ref on, .ref od, .ref ow, .int (nI ch), .int (nI va_16), .int (nI en_16), .ref oi, .ref oe, .ref op, .long aE, .long aP, .long lt])), (ot, .inl (cI, 200, .inl (fun j_ => nI (T j_)))), (on, .inl (cI, 78, .inl (fun j_ => nI (c j_)))), (od, .inl (cI, 78, .inl (fun j_ => nI ((nup (nup rd 2 va_2) 3 va_16) j_)))), (ow, .inl (cI, 468, .inl (fun j_ => nI (ww j_)))), (oi, .inl (cI, 32, .inl (fun j_ => nI (wi j_)))), (oe, .inl (cJ, 256, .inr (.inl EX))), (op, .inl (cJ, 256, .inr (.inl PA)))] rfl rfl (by omega) (by decide) (by rw [nup_I]; rfl) ?_
        refine g_aload_n 0 (hd := dX7_readsPair_56) (C := hX) rfl rfl ?_
        refine g_get (hd := dX7_readsPair_57) (C := hX) 0 3 rfl rfl in_X7_readsPair_7 (by decide) (by decide +kernel) rfl ?_
        refine g_iconst (v := nI 0) hX dX7_readsPair_60 (by decide) ?_
        refine g_iald (hd := dX7_readsPair_61) (C := hX) 3 1 rfl rfl (by omega) (by decide) ?_
        refine g_top (y := (nI (rd 0))) (by rw [nup_ne (by decide), nup_ne (by decide)]) ?_
        refine g_aload_n 0 (hd := dX7_readsPair_62) (C := hX) rfl rfl ?_
        refine g_get (hd := dX7_readsPair_63) (C := hX) 0 3 rfl rfl in_X7_readsPair_7 (by decide) (by decide +kernel) rfl ?_
        refine g_iconst (v := nI 1) hX dX7_readsPair_66 (by decide) ?_
        refine g_iald (hd := dX7_readsPair_67) (C := hX) 3 1 rfl rfl (by omega) (by decide) ?_
        refine g_top (y := (nI (rd 1))) (by rw [nup_ne (by decide), nup_ne (by decide)]) ?_
        refine g_iadd hX dX7_readsPair_68 ?_
        refine g_top (y := (nI ((rd 0) + (rd 1)))) (nI_add _ _) ?_
        refine g_istore [(0, .ref o), (1, .int (nI (p + 1))), (2, .int (nI 0)), (3, .int (nI va_2)), (4, .int (nI 2)), (5, .int (nI ((rd 0) + (rd 1))))] [1, 2, 3, 4, 5, 0] (hd := dX7_readsPair_69) (C := hX) (by decide) rfl ?_
        refine g_iload_n 2 (hd := dX7_readsPair_71) (C := hX) rfl rfl ?_
        refine g_if_eqN 92 (hd := dX7_readsPair_72) (C := hX) (by decide) (by decide) (fun c_72 => ?_) (fun c_72 => absurd c_72 (by decide))
        refine g_iload_n 3 (hd := dX7_readsPair_92) (C := hX) rfl rfl ?_
        refine g_iload 5 (hd := dX7_readsPair_93) (C := hX) rfl ?_
        refine g_icmp_geN 111 (hd := dX7_readsPair_95) (C := hX) (by decide) (by omega) (by omega) (fun c_95 => ?_) (fun c_95 => ?_)
        · refine g_iconst (v := nI 0) hX dX7_readsPair_111 (by decide) ?_
          refine g_w [(o, .inr (7, [.int (nI len), .ref ot, .ref on, .ref od, .ref ow, .int (nI ch), .int (nI va_16), .int (nI en_16), .ref oi, .ref oe, .ref op, .long aE, .long aP, .long lt])), (ot, .inl (cI, 200, .inl (fun j_ => nI (T j_)))), (on, .inl (cI, 78, .inl (fun j_ => nI (c j_)))), (od, .inl (cI, 78, .inl (fun j_ => nI ((srC rd va_2 va_16) j_)))), (ow, .inl (cI, 468, .inl (fun j_ => nI (ww j_)))), (oi, .inl (cI, 32, .inl (fun j_ => nI (wi j_)))), (oe, .inl (cJ, 256, .inr (.inl EX))), (op, .inl (cJ, 256, .inr (.inl PA)))] (by rw [pr_r]) ?_
          exact (hret ((nI 0), va_16, en_16, (srC rd va_2 va_16)) _ _ (ri_pn (Or.inl hTp) h0 ⟨p_2, p_16.1, p_16.2⟩ (by rw [hTp]; exact fun z9 => by have z8 := of_decide_eq_true z9; omega))).2.2.1 _ rfl rfl (by decide) dX7_readsPair_112
        · refine g_aload_n 0 (hd := dX7_readsPair_98) (C := hX) rfl rfl ?_
          refine g_get (hd := dX7_readsPair_99) (C := hX) 0 6 rfl rfl in_X7_readsPair_7 (by decide) (by decide +kernel) rfl ?_
          refine g_iload 5 (hd := dX7_readsPair_102) (C := hX) rfl ?_
          refine g_icmp_geN 111 (hd := dX7_readsPair_104) (C := hX) (by decide) (by omega) (by omega) (fun c_104 => ?_) (fun c_104 => ?_)
          · refine g_iconst (v := nI 0) hX dX7_readsPair_111 (by decide) ?_
            refine g_w [(o, .inr (7, [.int (nI len), .ref ot, .ref on, .ref od, .ref ow, .int (nI ch), .int (nI va_16), .int (nI en_16), .ref oi, .ref oe, .ref op, .long aE, .long aP, .long lt])), (ot, .inl (cI, 200, .inl (fun j_ => nI (T j_)))), (on, .inl (cI, 78, .inl (fun j_ => nI (c j_)))), (od, .inl (cI, 78, .inl (fun j_ => nI ((srC rd va_2 va_16) j_)))), (ow, .inl (cI, 468, .inl (fun j_ => nI (ww j_)))), (oi, .inl (cI, 32, .inl (fun j_ => nI (wi j_)))), (oe, .inl (cJ, 256, .inr (.inl EX))), (op, .inl (cJ, 256, .inr (.inl PA)))] (by rw [pr_r]) ?_
            exact (hret ((nI 0), va_16, en_16, (srC rd va_2 va_16)) _ _ (ri_pn (Or.inl hTp) h0 ⟨p_2, p_16.1, p_16.2⟩ (by rw [hTp]; exact fun z9 => by have z8 := of_decide_eq_true z9; omega))).2.2.1 _ rfl rfl (by decide) dX7_readsPair_112
          · refine g_iconst (v := nI 1) hX dX7_readsPair_107 (by decide) ?_
            refine g_goto 112 (hd := dX7_readsPair_108) (C := hX) (by decide) ?_
            refine g_w [(o, .inr (7, [.int (nI len), .ref ot, .ref on, .ref od, .ref ow, .int (nI ch), .int (nI va_16), .int (nI en_16), .ref oi, .ref oe, .ref op, .long aE, .long aP, .long lt])), (ot, .inl (cI, 200, .inl (fun j_ => nI (T j_)))), (on, .inl (cI, 78, .inl (fun j_ => nI (c j_)))), (od, .inl (cI, 78, .inl (fun j_ => nI ((srC rd va_2 va_16) j_)))), (ow, .inl (cI, 468, .inl (fun j_ => nI (ww j_)))), (oi, .inl (cI, 32, .inl (fun j_ => nI (wi j_)))), (oe, .inl (cJ, 256, .inr (.inl EX))), (op, .inl (cJ, 256, .inr (.inl PA)))] (by rw [pr_r]) ?_
            exact (hret ((nI 1), va_16, en_16, (srC rd va_2 va_16)) _ _ (by have q9 := ri_p (Or.inl hTp) h0 ⟨p_2, p_16.1, p_16.2⟩ (by rw [hTp]; exact decide_eq_true ⟨c_95, c_104⟩); rw [hTp] at q9; exact q9)).2.2.1 _ rfl rfl (by decide) dX7_readsPair_112
      · show GW X [(o, .inr (7, [.int (nI len), .ref ot, .ref on, .ref od, .ref ow, .int (nI ch), .int (nI va_16), .int (nI en_16), .ref oi, .ref oe, .ref op, .long aE, .long aP, .long lt])), (ot, .inl (cI, 200, .inl (fun j_ => nI (T j_)))), (on, .inl (cI, 78, .inl (fun j_ => nI (c j_)))), (od, .inl (cI, 78, .inl (fun j_ => nI (rd j_)))), (ow, .inl (cI, 468, .inl (fun j_ => nI (ww j_)))), (oi, .inl (cI, 32, .inl (fun j_ => nI (wi j_)))), (oe, .inl (cJ, 256, .inr (.inl EX))), (op, .inl (cJ, 256, .inr (.inl PA)))] [(0, .ref o), (1, .int (nI (p + 1))), (2, .int (nI 0)), (3, .int (nI va_2))] [.int (nI 0)] 19 0 0
        refine g_if_neN 24 (hd := dX7_readsPair_19) (C := hX) (by decide) (by decide) (fun c_19 => absurd c_19 (by decide)) (fun c_19 => ?_)
        refine g_iconst (v := nI 0) hX dX7_readsPair_22 (by decide) ?_
        exact (hret ((nI 0), va_16, en_16, rd) _ _ (Or.inr ⟨rfl, it_no (fun c9 e9 k9 => by obtain ⟨x, y, q1, e1, ⟨a1, a2, a3⟩, -⟩ := pr_i (Or.inl hTp) h0 k9; rw [p_2] at a1; cases a1; exact p_16 _ ⟨a2, a3⟩)⟩)).2.2.1 _ rfl rfl (by decide) dX7_readsPair_23
    · show GW X [(o, .inr (7, [.int (nI len), .ref ot, .ref on, .ref od, .ref ow, .int (nI ch), .int (nI va_2), .int (nI en_2), .ref oi, .ref oe, .ref op, .long aE, .long aP, .long lt])), (ot, .inl (cI, 200, .inl (fun j_ => nI (T j_)))), (on, .inl (cI, 78, .inl (fun j_ => nI (c j_)))), (od, .inl (cI, 78, .inl (fun j_ => nI (rd j_)))), (ow, .inl (cI, 468, .inl (fun j_ => nI (ww j_)))), (oi, .inl (cI, 32, .inl (fun j_ => nI (wi j_)))), (oe, .inl (cJ, 256, .inr (.inl EX))), (op, .inl (cJ, 256, .inr (.inl PA)))] [(0, .ref o), (1, .int (nI (p + 1))), (2, .int (nI 0))] [.int (nI 0)] 5 0 0
      refine g_if_neN 10 (hd := dX7_readsPair_5) (C := hX) (by decide) (by decide) (fun c_5 => absurd c_5 (by decide)) (fun c_5 => ?_)
      refine g_iconst (v := nI 0) hX dX7_readsPair_8 (by decide) ?_
      exact (hret ((nI 0), va_2, en_2, rd) _ _ (Or.inr ⟨rfl, it_no (fun c9 e9 k9 => by obtain ⟨x, y, q1, e1, ⟨a1, a2, a3⟩, -⟩ := pr_i (Or.inl hTp) h0 k9; rw [p_2] at a1; cases a1)⟩)).2.2.1 _ rfl rfl (by decide) dX7_readsPair_9

theorem in_X7_readsItem_7 : ∀ w ∈ wsX70, w ∈ wsX7_readsItem := fun _ h => List.mem_cons_of_mem _ (List.mem_append_right _ h)
theorem ok_X7_readsItem : gOK yX7_readsItem wsX7_readsItem ({ frames := 4, cells := 0, slots := 0, locals := 87 }) 4 2 := ⟨⟨_, _, _, rfl⟩, rfl, rfl, by decide, by decide, by decide +kernel⟩
set_option maxRecDepth 100000 in
set_option maxHeartbeats 4000000 in
theorem c_X7_readsItem (l : Launch) (D : va_G) (cC cI cJ cO : ClassId) (o : Nat) (ot : Nat) (on : Nat) (od : Nat) (ow : Nat) (oi : Nat) (oe : Nat) (op : Nat) (len : Nat) (ch : Nat) (va : Nat) (en : Nat) (aE : Int64) (aP : Int64) (lt : Int64) (T : Nat → Nat) (c : Nat → Nat) (rd : Nat → Nat) (ww : Nat → Nat) (wi : Nat → Nat) (EX : Nat → Int64) (PA : Nat → Int64) (p : Nat) (hp : p < len) (hl : len ≤ 200) (hT : ∀ j, j < len → T j < 1000) (d0 : rd 0 ≤ 8) (d1 : rd 1 ≤ 24) (hz : rZ p rd) : CM (S := Int32 × Nat × Nat × (Nat → Nat)) l D (tyL cC cI cJ cO) yX7_readsItem wsX7_readsItem ({ frames := 4, cells := 0, slots := 0, locals := 87 }) [.ref o, .int (nI (T p)), .int (nI (p + 1))] [(o, .inr (7, [.int (nI len), .ref ot, .ref on, .ref od, .ref ow, .int (nI ch), .int (nI va), .int (nI en), .ref oi, .ref oe, .ref op, .long aE, .long aP, .long lt])), (ot, .inl (cI, 200, .inl (fun j_ => nI (T j_)))), (on, .inl (cI, 78, .inl (fun j_ => nI (c j_)))), (od, .inl (cI, 78, .inl (fun j_ => nI (rd j_)))), (ow, .inl (cI, 468, .inl (fun j_ => nI (ww j_)))), (oi, .inl (cI, 32, .inl (fun j_ => nI (wi j_)))), (oe, .inl (cJ, 256, .inr (.inl EX))), (op, .inl (cJ, 256, .inr (.inl PA)))] (fun u => some (.int u.1)) (fun u => RI T len rd p u.1 u.2.2.2 u.2.2.1) (fun u_ => [(o, .inr (7, [.int (nI len), .ref ot, .ref on, .ref od, .ref ow, .int (nI ch), .int (nI u_.2.1), .int (nI u_.2.2.1), .ref oi, .ref oe, .ref op, .long aE, .long aP, .long lt])), (ot, .inl (cI, 200, .inl (fun j_ => nI (T j_)))), (on, .inl (cI, 78, .inl (fun j_ => nI (c j_)))), (od, .inl (cI, 78, .inl (fun j_ => nI (u_.2.2.2 j_)))), (ow, .inl (cI, 468, .inl (fun j_ => nI (ww j_)))), (oi, .inl (cI, 32, .inl (fun j_ => nI (wi j_)))), (oe, .inl (cJ, 256, .inr (.inl EX))), (op, .inl (cJ, 256, .inr (.inl PA)))]) := by
  refine CM_in (cc := cX7_readsItem) (maxL := 4) (ret := (some .boolean)) (by decide) rfl (Nat.le_of_ble_eq_true rfl) ?_
  intro X hX hret
  show GW X [(o, .inr (7, [.int (nI len), .ref ot, .ref on, .ref od, .ref ow, .int (nI ch), .int (nI va), .int (nI en), .ref oi, .ref oe, .ref op, .long aE, .long aP, .long lt])), (ot, .inl (cI, 200, .inl (fun j_ => nI (T j_)))), (on, .inl (cI, 78, .inl (fun j_ => nI (c j_)))), (od, .inl (cI, 78, .inl (fun j_ => nI (rd j_)))), (ow, .inl (cI, 468, .inl (fun j_ => nI (ww j_)))), (oi, .inl (cI, 32, .inl (fun j_ => nI (wi j_)))), (oe, .inl (cJ, 256, .inr (.inl EX))), (op, .inl (cJ, 256, .inr (.inl PA)))] [(0, .ref o), (1, .int (nI (T p))), (2, .int (nI (p + 1)))] [] 0 0 0
  have q0 := hT p hp
  refine g_iload_n 1 (hd := dX7_readsItem_0) (C := hX) rfl rfl ?_
  refine g_bipush (v := nI 110) hX dX7_readsItem_1 (by decide) ?_
  refine g_icmp_neN 50 (hd := dX7_readsItem_3) (C := hX) (by decide) (by omega) (by omega) (fun c_3 => ?_) (fun c_3 => ?_)
  · refine g_aload_n 0 (hd := dX7_readsItem_50) (C := hX) rfl rfl ?_
    refine g_get (hd := dX7_readsItem_51) (C := hX) 0 3 rfl rfl in_X7_readsItem_7 (by decide) (by decide +kernel) rfl ?_
    refine g_iconst (v := nI 0) hX dX7_readsItem_54 (by decide) ?_
    refine g_iald (hd := dX7_readsItem_55) (C := hX) 3 1 rfl rfl (by omega) (by decide) ?_
    refine g_if_neN 61 (hd := dX7_readsItem_56) (C := hX) (by decide) (by omega) (fun c_56 => ?_) (fun c_56 => ?_)
    · refine g_iload_n 1 (hd := dX7_readsItem_61) (C := hX) rfl rfl ?_
      refine g_bipush (v := nI 103) hX dX7_readsItem_62 (by decide) ?_
      refine g_icmp_neN 75 (hd := dX7_readsItem_64) (C := hX) (by decide) (by omega) (by omega) (fun c_64 => ?_) (fun c_64 => ?_)
      · refine g_iload_n 1 (hd := dX7_readsItem_75) (C := hX) rfl rfl ?_
        refine g_bipush (v := nI 111) hX dX7_readsItem_76 (by decide) ?_
        refine g_icmp_eqN 87 (hd := dX7_readsItem_78) (C := hX) (by decide) (by omega) (by omega) (fun c_78 => ?_) (fun c_78 => ?_)
        · refine g_aload_n 0 (hd := dX7_readsItem_87) (C := hX) rfl rfl ?_
          refine g_iload_n 2 (hd := dX7_readsItem_88) (C := hX) rfl rfl ?_
          refine g_iload_n 1 (hd := dX7_readsItem_89) (C := hX) rfl rfl ?_
          refine g_bipush (v := nI 99) hX dX7_readsItem_90 (by decide) ?_
          refine g_icmp_neN 99 (hd := dX7_readsItem_92) (C := hX) (by decide) (by omega) (by omega) (fun c_92 => ?_) (fun c_92 => absurd c_92 (by omega))
          refine g_iconst (v := nI 0) hX dX7_readsItem_99 (by decide) ?_
          refine g_callVp (rest := []) hX (c_X7_readsPair l D cC cI cJ cO o ot on od ow oi oe op len ch va en aE aP lt T c rd ww wi EX PA p 0 (by omega) hl hT d0 d1 c_56 (by first | exact Or.inl ⟨rfl, c_92⟩ | exact Or.inr ⟨rfl, c_78⟩)) ok_X7_readsPair rfl 0 rfl rfl (fun _ => rfl) (hd := dX7_readsItem_100) gX7_readsItem_X7_readsPair ⟨by decide, by decide⟩ rfl (Nat.le_of_ble_eq_true rfl) ⟨Nat.zero_le _, Nat.zero_le _⟩ [] rfl rfl ?_
          intro ⟨r_100, va_100, en_100, rd_100⟩ e_100
          simp only at e_100
          rcases e_100 with ⟨rfl, p_100⟩ | ⟨rfl, p_100⟩
          · show GW X [(o, .inr (7, [.int (nI len), .ref ot, .ref on, .ref od, .ref ow, .int (nI ch), .int (nI va_100), .int (nI en_100), .ref oi, .ref oe, .ref op, .long aE, .long aP, .long lt])), (ot, .inl (cI, 200, .inl (fun j_ => nI (T j_)))), (on, .inl (cI, 78, .inl (fun j_ => nI (c j_)))), (od, .inl (cI, 78, .inl (fun j_ => nI (rd_100 j_)))), (ow, .inl (cI, 468, .inl (fun j_ => nI (ww j_)))), (oi, .inl (cI, 32, .inl (fun j_ => nI (wi j_)))), (oe, .inl (cJ, 256, .inr (.inl EX))), (op, .inl (cJ, 256, .inr (.inl PA)))] [(0, .ref o), (1, .int (nI (T p))), (2, .int (nI (p + 1)))] [.int (nI 1)] 103 0 0
            refine g_if_eqN 110 (hd := dX7_readsItem_103) (C := hX) (by decide) (by decide) (fun c_103 => absurd c_103 (by decide)) (fun c_103 => ?_)
            refine g_iconst (v := nI 1) hX dX7_readsItem_106 (by decide) ?_
            refine g_goto 111 (hd := dX7_readsItem_107) (C := hX) (by decide) ?_
            exact (hret ((nI 1), va_100, en_100, rd_100) _ _ (Or.inl ⟨rfl, p_100⟩)).2.2.1 _ rfl rfl (by decide) dX7_readsItem_111
          · show GW X [(o, .inr (7, [.int (nI len), .ref ot, .ref on, .ref od, .ref ow, .int (nI ch), .int (nI va_100), .int (nI en_100), .ref oi, .ref oe, .ref op, .long aE, .long aP, .long lt])), (ot, .inl (cI, 200, .inl (fun j_ => nI (T j_)))), (on, .inl (cI, 78, .inl (fun j_ => nI (c j_)))), (od, .inl (cI, 78, .inl (fun j_ => nI (rd_100 j_)))), (ow, .inl (cI, 468, .inl (fun j_ => nI (ww j_)))), (oi, .inl (cI, 32, .inl (fun j_ => nI (wi j_)))), (oe, .inl (cJ, 256, .inr (.inl EX))), (op, .inl (cJ, 256, .inr (.inl PA)))] [(0, .ref o), (1, .int (nI (T p))), (2, .int (nI (p + 1)))] [.int (nI 0)] 103 0 0
            refine g_if_eqN 110 (hd := dX7_readsItem_103) (C := hX) (by decide) (by decide) (fun c_103 => ?_) (fun c_103 => absurd c_103 (by decide))
            refine g_iconst (v := nI 0) hX dX7_readsItem_110 (by decide) ?_
            exact (hret ((nI 0), va_100, en_100, rd_100) _ _ (Or.inr ⟨rfl, p_100⟩)).2.2.1 _ rfl rfl (by decide) dX7_readsItem_111
        · refine g_iload_n 1 (hd := dX7_readsItem_81) (C := hX) rfl rfl ?_
          refine g_bipush (v := nI 99) hX dX7_readsItem_82 (by decide) ?_
          refine g_icmp_neN 110 (hd := dX7_readsItem_84) (C := hX) (by decide) (by omega) (by omega) (fun c_84 => ?_) (fun c_84 => ?_)
          · refine g_iconst (v := nI 0) hX dX7_readsItem_110 (by decide) ?_
            exact (hret ((nI 0), va, en, rd) _ _ (Or.inr ⟨rfl, it_x c_3 c_64 c_78 c_84⟩)).2.2.1 _ rfl rfl (by decide) dX7_readsItem_111
          · refine g_aload_n 0 (hd := dX7_readsItem_87) (C := hX) rfl rfl ?_
            refine g_iload_n 2 (hd := dX7_readsItem_88) (C := hX) rfl rfl ?_
            refine g_iload_n 1 (hd := dX7_readsItem_89) (C := hX) rfl rfl ?_
            refine g_bipush (v := nI 99) hX dX7_readsItem_90 (by decide) ?_
            refine g_icmp_neN 99 (hd := dX7_readsItem_92) (C := hX) (by decide) (by omega) (by omega) (fun c_92 => absurd c_84 c_92) (fun c_92 => ?_)
            refine g_iconst (v := nI 1) hX dX7_readsItem_95 (by decide) ?_
            refine g_goto 100 (hd := dX7_readsItem_96) (C := hX) (by decide) ?_
            refine g_callVp (rest := []) hX (c_X7_readsPair l D cC cI cJ cO o ot on od ow oi oe op len ch va en aE aP lt T c rd ww wi EX PA p 1 (by omega) hl hT d0 d1 c_56 (by first | exact Or.inl ⟨rfl, c_92⟩ | exact Or.inr ⟨rfl, c_78⟩)) ok_X7_readsPair rfl 0 rfl rfl (fun _ => rfl) (hd := dX7_readsItem_100) gX7_readsItem_X7_readsPair ⟨by decide, by decide⟩ rfl (Nat.le_of_ble_eq_true rfl) ⟨Nat.zero_le _, Nat.zero_le _⟩ [] rfl rfl ?_
            intro ⟨r_100, va_100, en_100, rd_100⟩ e_100
            simp only at e_100
            rcases e_100 with ⟨rfl, p_100⟩ | ⟨rfl, p_100⟩
            · show GW X [(o, .inr (7, [.int (nI len), .ref ot, .ref on, .ref od, .ref ow, .int (nI ch), .int (nI va_100), .int (nI en_100), .ref oi, .ref oe, .ref op, .long aE, .long aP, .long lt])), (ot, .inl (cI, 200, .inl (fun j_ => nI (T j_)))), (on, .inl (cI, 78, .inl (fun j_ => nI (c j_)))), (od, .inl (cI, 78, .inl (fun j_ => nI (rd_100 j_)))), (ow, .inl (cI, 468, .inl (fun j_ => nI (ww j_)))), (oi, .inl (cI, 32, .inl (fun j_ => nI (wi j_)))), (oe, .inl (cJ, 256, .inr (.inl EX))), (op, .inl (cJ, 256, .inr (.inl PA)))] [(0, .ref o), (1, .int (nI (T p))), (2, .int (nI (p + 1)))] [.int (nI 1)] 103 0 0
              refine g_if_eqN 110 (hd := dX7_readsItem_103) (C := hX) (by decide) (by decide) (fun c_103 => absurd c_103 (by decide)) (fun c_103 => ?_)
              refine g_iconst (v := nI 1) hX dX7_readsItem_106 (by decide) ?_
              refine g_goto 111 (hd := dX7_readsItem_107) (C := hX) (by decide) ?_
              exact (hret ((nI 1), va_100, en_100, rd_100) _ _ (Or.inl ⟨rfl, p_100⟩)).2.2.1 _ rfl rfl (by decide) dX7_readsItem_111
            · show GW X [(o, .inr (7, [.int (nI len), .ref ot, .ref on, .ref od, .ref ow, .int (nI ch), .int (nI va_100), .int (nI en_100), .ref oi, .ref oe, .ref op, .long aE, .long aP, .long lt])), (ot, .inl (cI, 200, .inl (fun j_ => nI (T j_)))), (on, .inl (cI, 78, .inl (fun j_ => nI (c j_)))), (od, .inl (cI, 78, .inl (fun j_ => nI (rd_100 j_)))), (ow, .inl (cI, 468, .inl (fun j_ => nI (ww j_)))), (oi, .inl (cI, 32, .inl (fun j_ => nI (wi j_)))), (oe, .inl (cJ, 256, .inr (.inl EX))), (op, .inl (cJ, 256, .inr (.inl PA)))] [(0, .ref o), (1, .int (nI (T p))), (2, .int (nI (p + 1)))] [.int (nI 0)] 103 0 0
              refine g_if_eqN 110 (hd := dX7_readsItem_103) (C := hX) (by decide) (by decide) (fun c_103 => ?_) (fun c_103 => absurd c_103 (by decide))
              refine g_iconst (v := nI 0) hX dX7_readsItem_110 (by decide) ?_
              exact (hret ((nI 0), va_100, en_100, rd_100) _ _ (Or.inr ⟨rfl, p_100⟩)).2.2.1 _ rfl rfl (by decide) dX7_readsItem_111
      · refine g_aload_n 0 (hd := dX7_readsItem_67) (C := hX) rfl rfl ?_
        refine g_iload_n 2 (hd := dX7_readsItem_68) (C := hX) rfl rfl ?_
        refine g_callVp (rest := []) hX (c_X7_readsGate l D cC cI cJ cO o ot on od ow oi oe op len ch va en aE aP lt T c rd ww wi EX PA p (by omega) hl hT d0 d1 c_56 c_64) ok_X7_readsGate rfl 0 rfl rfl (fun _ => rfl) (hd := dX7_readsItem_69) gX7_readsItem_X7_readsGate ⟨by decide, by decide⟩ rfl (Nat.le_of_ble_eq_true rfl) ⟨Nat.zero_le _, Nat.zero_le _⟩ [] rfl rfl ?_
        intro ⟨r_69, va_69, en_69, rd_69⟩ e_69
        simp only at e_69
        rcases e_69 with ⟨rfl, p_69⟩ | ⟨rfl, p_69⟩
        · show GW X [(o, .inr (7, [.int (nI len), .ref ot, .ref on, .ref od, .ref ow, .int (nI ch), .int (nI va_69), .int (nI en_69), .ref oi, .ref oe, .ref op, .long aE, .long aP, .long lt])), (ot, .inl (cI, 200, .inl (fun j_ => nI (T j_)))), (on, .inl (cI, 78, .inl (fun j_ => nI (c j_)))), (od, .inl (cI, 78, .inl (fun j_ => nI (rd_69 j_)))), (ow, .inl (cI, 468, .inl (fun j_ => nI (ww j_)))), (oi, .inl (cI, 32, .inl (fun j_ => nI (wi j_)))), (oe, .inl (cJ, 256, .inr (.inl EX))), (op, .inl (cJ, 256, .inr (.inl PA)))] [(0, .ref o), (1, .int (nI (T p))), (2, .int (nI (p + 1)))] [.int (nI 1)] 72 0 0
          refine g_goto 111 (hd := dX7_readsItem_72) (C := hX) (by decide) ?_
          exact (hret ((nI 1), va_69, en_69, rd_69) _ _ (Or.inl ⟨rfl, p_69⟩)).2.2.1 _ rfl rfl (by decide) dX7_readsItem_111
        · show GW X [(o, .inr (7, [.int (nI len), .ref ot, .ref on, .ref od, .ref ow, .int (nI ch), .int (nI va_69), .int (nI en_69), .ref oi, .ref oe, .ref op, .long aE, .long aP, .long lt])), (ot, .inl (cI, 200, .inl (fun j_ => nI (T j_)))), (on, .inl (cI, 78, .inl (fun j_ => nI (c j_)))), (od, .inl (cI, 78, .inl (fun j_ => nI (rd_69 j_)))), (ow, .inl (cI, 468, .inl (fun j_ => nI (ww j_)))), (oi, .inl (cI, 32, .inl (fun j_ => nI (wi j_)))), (oe, .inl (cJ, 256, .inr (.inl EX))), (op, .inl (cJ, 256, .inr (.inl PA)))] [(0, .ref o), (1, .int (nI (T p))), (2, .int (nI (p + 1)))] [.int (nI 0)] 72 0 0
          refine g_goto 111 (hd := dX7_readsItem_72) (C := hX) (by decide) ?_
          exact (hret ((nI 0), va_69, en_69, rd_69) _ _ (Or.inr ⟨rfl, p_69⟩)).2.2.1 _ rfl rfl (by decide) dX7_readsItem_111
    · refine g_iconst (v := nI 0) hX dX7_readsItem_59 (by decide) ?_
      exact (hret ((nI 0), va, en, rd) _ _ (Or.inr ⟨rfl, it_0 c_3 c_56⟩)).2.2.1 _ rfl rfl (by decide) dX7_readsItem_60
  · refine g_iload_n 2 (hd := dX7_readsItem_6) (C := hX) rfl rfl ?_
    refine g_iconst (v := nI 1) hX dX7_readsItem_7 (by decide) ?_
    refine g_icmp_neN 36 (hd := dX7_readsItem_8) (C := hX) (by decide) (by omega) (by omega) (fun c_8 => ?_) (fun c_8 => ?_)
    · refine g_iconst (v := nI 0) hX dX7_readsItem_36 (by decide) ?_
      refine g_istore_n [(0, .ref o), (1, .int (nI (T p))), (2, .int (nI (p + 1))), (3, .int (nI 0))] [1, 2, 3, 0] (hd := dX7_readsItem_37) (C := hX) rfl (by decide) rfl ?_
      refine g_aload_n 0 (hd := dX7_readsItem_38) (C := hX) rfl rfl ?_
      refine g_get (hd := dX7_readsItem_39) (C := hX) 0 3 rfl rfl in_X7_readsItem_7 (by decide) (by decide +kernel) rfl ?_
      refine g_iconst (v := nI 0) hX dX7_readsItem_42 (by decide) ?_
      refine g_aload_n 0 (hd := dX7_readsItem_43) (C := hX) rfl rfl ?_
      refine g_get (hd := dX7_readsItem_44) (C := hX) 0 6 rfl rfl in_X7_readsItem_7 (by decide) (by decide +kernel) rfl ?_
      refine g_iast (hd := dX7_readsItem_47) (C := hX) 3 1 [(o, .inr (7, [.int (nI len), .ref ot, .ref on, .ref od, .ref ow, .int (nI ch), .int (nI va), .int (nI en), .ref oi, .ref oe, .ref op, .long aE, .long aP, .long lt])), (ot, .inl (cI, 200, .inl (fun j_ => nI (T j_)))), (on, .inl (cI, 78, .inl (fun j_ => nI (c j_)))), (od, .inl (cI, 78, .inl (fun j_ => nI ((nup rd 0 va) j_)))), (ow, .inl (cI, 468, .inl (fun j_ => nI (ww j_)))), (oi, .inl (cI, 32, .inl (fun j_ => nI (wi j_)))), (oe, .inl (cJ, 256, .inr (.inl EX))), (op, .inl (cJ, 256, .inr (.inl PA)))] rfl rfl (by omega) (by decide) (by rw [nup_I]; rfl) ?_
      refine g_iload_n 3 (hd := dX7_readsItem_48) (C := hX) rfl rfl ?_
      exact (hret ((nI 0), va, en, nup rd 0 va) _ _ (Or.inr ⟨rfl, it_no (fun c9 e9 k9 => by obtain ⟨x, e1, a1, a2, a3, a4, -⟩ := nn_i c_3 k9; rcases hz with ⟨z1, z2⟩ | ⟨z1, z2⟩; omega; exact z2 a2)⟩)).2.2.1 _ rfl rfl (by decide) dX7_readsItem_49
    · refine g_aload_n 0 (hd := dX7_readsItem_11) (C := hX) rfl rfl ?_
      refine g_iload_n 2 (hd := dX7_readsItem_12) (C := hX) rfl rfl ?_
      refine g_callVp (rest := []) hX (c_X7_number l D cC cI cJ cO o ot on od ow oi oe op len ch va en aE aP lt T c rd ww wi EX PA (p + 1) (by omega) hl hT) ok_X7_number rfl 0 rfl rfl (fun _ => rfl) (hd := dX7_readsItem_13) gX7_readsItem_X7_number ⟨by decide, by decide⟩ rfl (Nat.le_of_ble_eq_true rfl) ⟨Nat.zero_le _, Nat.zero_le _⟩ [] rfl rfl ?_
      intro ⟨r_13, va_13, en_13⟩ e_13
      simp only at e_13
      rcases e_13 with ⟨rfl, p_13⟩ | ⟨rfl, p_13⟩
      · have b_13 := nmS_lt p_13
        show GW X [(o, .inr (7, [.int (nI len), .ref ot, .ref on, .ref od, .ref ow, .int (nI ch), .int (nI va_13), .int (nI en_13), .ref oi, .ref oe, .ref op, .long aE, .long aP, .long lt])), (ot, .inl (cI, 200, .inl (fun j_ => nI (T j_)))), (on, .inl (cI, 78, .inl (fun j_ => nI (c j_)))), (od, .inl (cI, 78, .inl (fun j_ => nI (rd j_)))), (ow, .inl (cI, 468, .inl (fun j_ => nI (ww j_)))), (oi, .inl (cI, 32, .inl (fun j_ => nI (wi j_)))), (oe, .inl (cJ, 256, .inr (.inl EX))), (op, .inl (cJ, 256, .inr (.inl PA)))] [(0, .ref o), (1, .int (nI (T p))), (2, .int (nI (p + 1)))] [.int (nI 1)] 16 0 0
        refine g_if_eqN 36 (hd := dX7_readsItem_16) (C := hX) (by decide) (by decide) (fun c_16 => absurd c_16 (by decide)) (fun c_16 => ?_)
        refine g_aload_n 0 (hd := dX7_readsItem_19) (C := hX) rfl rfl ?_
        refine g_get (hd := dX7_readsItem_20) (C := hX) 0 6 rfl rfl in_X7_readsItem_7 (by decide) (by decide +kernel) rfl ?_
        refine g_iconst (v := nI 1) hX dX7_readsItem_23 (by decide) ?_
        refine g_bipush (v := nI 8) hX dX7_readsItem_24 (by decide) ?_
        refine g_callS (rest := []) hX (c_X7_isIn l D cC cI cJ cO (nI va_13) (nI 1) (nI 8)) ok_X7_isIn (fun _ => rfl) (hd := dX7_readsItem_26) gX7_readsItem_X7_isIn ⟨by decide, by decide⟩ rfl (Nat.le_of_ble_eq_true rfl) ⟨Nat.zero_le _, Nat.zero_le _⟩ [] (by decide) rfl rfl ?_
        intro r_26 e_26
        rcases e_26 with ⟨rfl, p_26⟩ | ⟨rfl, p_26⟩
        · show GW X [(o, .inr (7, [.int (nI len), .ref ot, .ref on, .ref od, .ref ow, .int (nI ch), .int (nI va_13), .int (nI en_13), .ref oi, .ref oe, .ref op, .long aE, .long aP, .long lt])), (ot, .inl (cI, 200, .inl (fun j_ => nI (T j_)))), (on, .inl (cI, 78, .inl (fun j_ => nI (c j_)))), (od, .inl (cI, 78, .inl (fun j_ => nI (rd j_)))), (ow, .inl (cI, 468, .inl (fun j_ => nI (ww j_)))), (oi, .inl (cI, 32, .inl (fun j_ => nI (wi j_)))), (oe, .inl (cJ, 256, .inr (.inl EX))), (op, .inl (cJ, 256, .inr (.inl PA)))] [(0, .ref o), (1, .int (nI (T p))), (2, .int (nI (p + 1)))] [.int (nI 1)] 29 0 0
          refine g_if_eqN 36 (hd := dX7_readsItem_29) (C := hX) (by decide) (by decide) (fun c_29 => absurd c_29 (by decide)) (fun c_29 => ?_)
          refine g_iconst (v := nI 1) hX dX7_readsItem_32 (by decide) ?_
          refine g_goto 37 (hd := dX7_readsItem_33) (C := hX) (by decide) ?_
          refine g_istore_n [(0, .ref o), (1, .int (nI (T p))), (2, .int (nI (p + 1))), (3, .int (nI 1))] [1, 2, 3, 0] (hd := dX7_readsItem_37) (C := hX) rfl (by decide) rfl ?_
          refine g_aload_n 0 (hd := dX7_readsItem_38) (C := hX) rfl rfl ?_
          refine g_get (hd := dX7_readsItem_39) (C := hX) 0 3 rfl rfl in_X7_readsItem_7 (by decide) (by decide +kernel) rfl ?_
          refine g_iconst (v := nI 0) hX dX7_readsItem_42 (by decide) ?_
          refine g_aload_n 0 (hd := dX7_readsItem_43) (C := hX) rfl rfl ?_
          refine g_get (hd := dX7_readsItem_44) (C := hX) 0 6 rfl rfl in_X7_readsItem_7 (by decide) (by decide +kernel) rfl ?_
          refine g_iast (hd := dX7_readsItem_47) (C := hX) 3 1 [(o, .inr (7, [.int (nI len), .ref ot, .ref on, .ref od, .ref ow, .int (nI ch), .int (nI va_13), .int (nI en_13), .ref oi, .ref oe, .ref op, .long aE, .long aP, .long lt])), (ot, .inl (cI, 200, .inl (fun j_ => nI (T j_)))), (on, .inl (cI, 78, .inl (fun j_ => nI (c j_)))), (od, .inl (cI, 78, .inl (fun j_ => nI ((nup rd 0 va_13) j_)))), (ow, .inl (cI, 468, .inl (fun j_ => nI (ww j_)))), (oi, .inl (cI, 32, .inl (fun j_ => nI (wi j_)))), (oe, .inl (cJ, 256, .inr (.inl EX))), (op, .inl (cJ, 256, .inr (.inl PA)))] rfl rfl (by omega) (by decide) (by rw [nup_I]; rfl) ?_
          refine g_iload_n 3 (hd := dX7_readsItem_48) (C := hX) rfl rfl ?_
          exact (hret ((nI 1), va_13, en_13, nup rd 0 va_13) _ _ (by rcases hz with ⟨z1, z2⟩ | ⟨z1, z2⟩; have q9 := ri_n c_3 p_13 (z2 0 (by decide)) ((nI_leI (by omega) (by omega)).mp p_26.1) ((nI_leI (by omega) (by omega)).mp p_26.2); rw [← st_nup z2] at q9; exact q9; omega)).2.2.1 _ rfl rfl (by decide) dX7_readsItem_49
        · show GW X [(o, .inr (7, [.int (nI len), .ref ot, .ref on, .ref od, .ref ow, .int (nI ch), .int (nI va_13), .int (nI en_13), .ref oi, .ref oe, .ref op, .long aE, .long aP, .long lt])), (ot, .inl (cI, 200, .inl (fun j_ => nI (T j_)))), (on, .inl (cI, 78, .inl (fun j_ => nI (c j_)))), (od, .inl (cI, 78, .inl (fun j_ => nI (rd j_)))), (ow, .inl (cI, 468, .inl (fun j_ => nI (ww j_)))), (oi, .inl (cI, 32, .inl (fun j_ => nI (wi j_)))), (oe, .inl (cJ, 256, .inr (.inl EX))), (op, .inl (cJ, 256, .inr (.inl PA)))] [(0, .ref o), (1, .int (nI (T p))), (2, .int (nI (p + 1)))] [.int (nI 0)] 29 0 0
          refine g_if_eqN 36 (hd := dX7_readsItem_29) (C := hX) (by decide) (by decide) (fun c_29 => ?_) (fun c_29 => absurd c_29 (by decide))
          refine g_iconst (v := nI 0) hX dX7_readsItem_36 (by decide) ?_
          refine g_istore_n [(0, .ref o), (1, .int (nI (T p))), (2, .int (nI (p + 1))), (3, .int (nI 0))] [1, 2, 3, 0] (hd := dX7_readsItem_37) (C := hX) rfl (by decide) rfl ?_
          refine g_aload_n 0 (hd := dX7_readsItem_38) (C := hX) rfl rfl ?_
          refine g_get (hd := dX7_readsItem_39) (C := hX) 0 3 rfl rfl in_X7_readsItem_7 (by decide) (by decide +kernel) rfl ?_
          refine g_iconst (v := nI 0) hX dX7_readsItem_42 (by decide) ?_
          refine g_aload_n 0 (hd := dX7_readsItem_43) (C := hX) rfl rfl ?_
          refine g_get (hd := dX7_readsItem_44) (C := hX) 0 6 rfl rfl in_X7_readsItem_7 (by decide) (by decide +kernel) rfl ?_
          refine g_iast (hd := dX7_readsItem_47) (C := hX) 3 1 [(o, .inr (7, [.int (nI len), .ref ot, .ref on, .ref od, .ref ow, .int (nI ch), .int (nI va_13), .int (nI en_13), .ref oi, .ref oe, .ref op, .long aE, .long aP, .long lt])), (ot, .inl (cI, 200, .inl (fun j_ => nI (T j_)))), (on, .inl (cI, 78, .inl (fun j_ => nI (c j_)))), (od, .inl (cI, 78, .inl (fun j_ => nI ((nup rd 0 va_13) j_)))), (ow, .inl (cI, 468, .inl (fun j_ => nI (ww j_)))), (oi, .inl (cI, 32, .inl (fun j_ => nI (wi j_)))), (oe, .inl (cJ, 256, .inr (.inl EX))), (op, .inl (cJ, 256, .inr (.inl PA)))] rfl rfl (by omega) (by decide) (by rw [nup_I]; rfl) ?_
          refine g_iload_n 3 (hd := dX7_readsItem_48) (C := hX) rfl rfl ?_
          exact (hret ((nI 0), va_13, en_13, nup rd 0 va_13) _ _ (Or.inr ⟨rfl, it_no (fun c9 e9 k9 => by obtain ⟨x, e1, a1, a2, a3, a4, -⟩ := nn_i c_3 k9; rw [p_13] at a1; cases a1; exact p_26 ⟨(nI_leI (by omega) (by omega)).mpr a3, (nI_leI (by omega) (by omega)).mpr a4⟩)⟩)).2.2.1 _ rfl rfl (by decide) dX7_readsItem_49
      · show GW X [(o, .inr (7, [.int (nI len), .ref ot, .ref on, .ref od, .ref ow, .int (nI ch), .int (nI va_13), .int (nI en_13), .ref oi, .ref oe, .ref op, .long aE, .long aP, .long lt])), (ot, .inl (cI, 200, .inl (fun j_ => nI (T j_)))), (on, .inl (cI, 78, .inl (fun j_ => nI (c j_)))), (od, .inl (cI, 78, .inl (fun j_ => nI (rd j_)))), (ow, .inl (cI, 468, .inl (fun j_ => nI (ww j_)))), (oi, .inl (cI, 32, .inl (fun j_ => nI (wi j_)))), (oe, .inl (cJ, 256, .inr (.inl EX))), (op, .inl (cJ, 256, .inr (.inl PA)))] [(0, .ref o), (1, .int (nI (T p))), (2, .int (nI (p + 1)))] [.int (nI 0)] 16 0 0
        refine g_if_eqN 36 (hd := dX7_readsItem_16) (C := hX) (by decide) (by decide) (fun c_16 => ?_) (fun c_16 => absurd c_16 (by decide))
        refine g_iconst (v := nI 0) hX dX7_readsItem_36 (by decide) ?_
        refine g_istore_n [(0, .ref o), (1, .int (nI (T p))), (2, .int (nI (p + 1))), (3, .int (nI 0))] [1, 2, 3, 0] (hd := dX7_readsItem_37) (C := hX) rfl (by decide) rfl ?_
        refine g_aload_n 0 (hd := dX7_readsItem_38) (C := hX) rfl rfl ?_
        refine g_get (hd := dX7_readsItem_39) (C := hX) 0 3 rfl rfl in_X7_readsItem_7 (by decide) (by decide +kernel) rfl ?_
        refine g_iconst (v := nI 0) hX dX7_readsItem_42 (by decide) ?_
        refine g_aload_n 0 (hd := dX7_readsItem_43) (C := hX) rfl rfl ?_
        refine g_get (hd := dX7_readsItem_44) (C := hX) 0 6 rfl rfl in_X7_readsItem_7 (by decide) (by decide +kernel) rfl ?_
        refine g_iast (hd := dX7_readsItem_47) (C := hX) 3 1 [(o, .inr (7, [.int (nI len), .ref ot, .ref on, .ref od, .ref ow, .int (nI ch), .int (nI va_13), .int (nI en_13), .ref oi, .ref oe, .ref op, .long aE, .long aP, .long lt])), (ot, .inl (cI, 200, .inl (fun j_ => nI (T j_)))), (on, .inl (cI, 78, .inl (fun j_ => nI (c j_)))), (od, .inl (cI, 78, .inl (fun j_ => nI ((nup rd 0 va_13) j_)))), (ow, .inl (cI, 468, .inl (fun j_ => nI (ww j_)))), (oi, .inl (cI, 32, .inl (fun j_ => nI (wi j_)))), (oe, .inl (cJ, 256, .inr (.inl EX))), (op, .inl (cJ, 256, .inr (.inl PA)))] rfl rfl (by omega) (by decide) (by rw [nup_I]; rfl) ?_
        refine g_iload_n 3 (hd := dX7_readsItem_48) (C := hX) rfl rfl ?_
        exact (hret ((nI 0), va_13, en_13, nup rd 0 va_13) _ _ (Or.inr ⟨rfl, it_no (fun c9 e9 k9 => by obtain ⟨x, e1, a1, a2, a3, a4, -⟩ := nn_i c_3 k9; rw [p_13] at a1; cases a1)⟩)).2.2.1 _ rfl rfl (by decide) dX7_readsItem_49
