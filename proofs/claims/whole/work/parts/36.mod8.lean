/-! the reference: a text laid, what was kept -/
def shF (ww : Nat → Nat) (i : Nat) : Nat → Nat := fun j => if j < i then ww (j + 78) else ww j
theorem sh_s (ww : Nat → Nat) (i : Nat) : nup (shF ww i) i (shF ww i (i + 78)) = shF ww (i + 1) := by
  funext j
  unfold nup shF
  by_cases h : j = i
  · subst h; rw [if_pos rfl, if_neg (by omega), if_pos (by omega)]
  · rw [if_neg h]
    by_cases q : j < i
    · rw [if_pos q, if_pos (by omega)]
    · rw [if_neg q, if_neg (by omega)]
theorem sh_0 (ww : Nat → Nat) : shF ww 0 = ww := by funext j; unfold shF; rw [if_neg (Nat.not_lt_zero j)]
def kpG (ww c : Nat → Nat) (m i : Nat) : Nat → Nat := fun j => if m ≤ j ∧ j < m + i then c (j - m) else ww j
theorem kp_s (ww c : Nat → Nat) (m i : Nat) : nup (kpG ww c m i) (m + i) (c i) = kpG ww c m (i + 1) := by
  funext j
  unfold nup kpG
  by_cases h : j = m + i
  · subst h; rw [if_pos rfl, if_pos (by omega), show m + i - m = i by omega]
  · rw [if_neg h]
    by_cases q : m ≤ j ∧ j < m + i
    · rw [if_pos q, if_pos (by omega)]
    · rw [if_neg q, if_neg (by omega)]
theorem kp_0 (ww c : Nat → Nat) (m : Nat) : kpG ww c m 0 = ww := by funext j; unfold kpG; rw [if_neg (by omega)]
def kwS (ww c : Nat → Nat) (ch : Nat) : Nat → Nat := if ch = 6 then kpG (shF ww 390) c 390 78 else kpG ww c (78 * ch) 78
def cuF (c ww : Nat → Nat) (m i : Nat) : Nat → Nat := fun j => if j < i then ww (m + j) else c j
theorem cu_s (c ww : Nat → Nat) (m i : Nat) : nup (cuF c ww m i) i (ww (m + i)) = cuF c ww m (i + 1) := by
  funext j
  unfold nup cuF
  by_cases h : j = i
  · subst h; rw [if_pos rfl, if_pos (by omega)]
  · rw [if_neg h]
    by_cases q : j < i
    · rw [if_pos q, if_pos (by omega)]
    · rw [if_neg q, if_neg (by omega)]
theorem cu_0 (c ww : Nat → Nat) (m : Nat) : cuF c ww m 0 = c := by funext j; unfold cuF; rw [if_neg (Nat.not_lt_zero j)]
def unS (c ww : Nat → Nat) (ch : Nat) : Int32 × Nat × (Nat → Nat) := if ch = 0 then ((-2), ch, c) else (nI (ch - 1), ch - 1, cuF c ww (78 * (ch - 1)) 78)
theorem rz_0 {b : Nat → Nat} (h : ∀ j, j < 6 → b j = 0) : rZ 0 b := Or.inl ⟨rfl, h⟩
theorem rz_1 {T b c : Nat → Nat} {len p e : Nat} (h : itS T len b p = some (c, e)) : rZ e c := Or.inr ⟨by have := itS_e h; omega, it_nz h⟩
theorem ps_e {T b C : Nat → Nat} {len p n : Nat} (h : psS T len 200 C 0 = psS T len n b p) (hp : len ≤ p) : psS T len 200 C 0 = (none, b) := by rw [h, psS_end hp]
theorem ps_b {T b C : Nat → Nat} {len p n : Nat} (h : psS T len 200 C 0 = psS T len n b p) (hp : p < len) (hn : len ≤ p + n) (hi : itS T len b p = none) : psS T len 200 C 0 = (some p, b) := by
  obtain ⟨m, rfl⟩ : ∃ m, n = m + 1 := ⟨n - 1, by omega⟩
  rw [h, psS_bad hp hi]
theorem ps_g {T b C c : Nat → Nat} {len p e n : Nat} (h : psS T len 200 C 0 = psS T len n b p) (hp : p < len) (hn : len ≤ p + n) (hi : itS T len b p = some (c, e)) : psS T len 200 C 0 = psS T len (n - 1) c e ∧ len ≤ e + (n - 1) ∧ p < e ∧ e ≤ len := by
  obtain ⟨m, rfl⟩ : ∃ m, n = m + 1 := ⟨n - 1, by omega⟩
  have := itS_e hi
  exact ⟨by rw [h, psS_go hp hi]; rfl, by omega, by omega, this.2⟩

theorem in_X7_reads_7 : ∀ w ∈ wsX70, w ∈ wsX7_reads := fun _ h => List.mem_cons_of_mem _ (List.mem_append_right _ h)
theorem ok_X7_reads : gOK yX7_reads wsX7_reads ({ frames := 5, cells := 0, slots := 0, locals := 110 }) 2 0 := ⟨⟨_, _, _, rfl⟩, rfl, rfl, by decide, by decide, by decide +kernel⟩
set_option maxRecDepth 100000 in
set_option maxHeartbeats 4000000 in
theorem c_X7_reads (l : Launch) (D : va_G) (cC cI cJ cO : ClassId) (o : Nat) (ot : Nat) (on : Nat) (od : Nat) (ow : Nat) (oi : Nat) (oe : Nat) (op : Nat) (len : Nat) (ch : Nat) (va : Nat) (en : Nat) (aE : Int64) (aP : Int64) (lt : Int64) (T : Nat → Nat) (c : Nat → Nat) (rd : Nat → Nat) (ww : Nat → Nat) (wi : Nat → Nat) (EX : Nat → Int64) (PA : Nat → Int64) (hl : len ≤ 200) (hT : ∀ j, j < len → T j < 1000) : CM (S := Int32 × Nat × Nat × (Nat → Nat)) l D (tyL cC cI cJ cO) yX7_reads wsX7_reads ({ frames := 5, cells := 0, slots := 0, locals := 110 }) [.ref o] [(o, .inr (7, [.int (nI len), .ref ot, .ref on, .ref od, .ref ow, .int (nI ch), .int (nI va), .int (nI en), .ref oi, .ref oe, .ref op, .long aE, .long aP, .long lt])), (ot, .inl (cI, 200, .inl (fun j_ => nI (T j_)))), (on, .inl (cI, 78, .inl (fun j_ => nI (c j_)))), (od, .inl (cI, 78, .inl (fun j_ => nI (rd j_)))), (ow, .inl (cI, 468, .inl (fun j_ => nI (ww j_)))), (oi, .inl (cI, 32, .inl (fun j_ => nI (wi j_)))), (oe, .inl (cJ, 256, .inr (.inl EX))), (op, .inl (cJ, 256, .inr (.inl PA)))] (fun u => some (.int u.1)) (fun u => u.1 = psI (PS T len rd) ∧ ((PS T len rd).1 = none → u.2.2.2 = (PS T len rd).2)) (fun u_ => [(o, .inr (7, [.int (nI len), .ref ot, .ref on, .ref od, .ref ow, .int (nI ch), .int (nI u_.2.1), .int (nI u_.2.2.1), .ref oi, .ref oe, .ref op, .long aE, .long aP, .long lt])), (ot, .inl (cI, 200, .inl (fun j_ => nI (T j_)))), (on, .inl (cI, 78, .inl (fun j_ => nI (c j_)))), (od, .inl (cI, 78, .inl (fun j_ => nI (u_.2.2.2 j_)))), (ow, .inl (cI, 468, .inl (fun j_ => nI (ww j_)))), (oi, .inl (cI, 32, .inl (fun j_ => nI (wi j_)))), (oe, .inl (cJ, 256, .inr (.inl EX))), (op, .inl (cJ, 256, .inr (.inl PA)))]) := by
  refine CM_in (cc := cX7_reads) (maxL := 2) (ret := (some .int)) (by decide) rfl (Nat.le_of_ble_eq_true rfl) ?_
  intro X hX hret
  show GW X [(o, .inr (7, [.int (nI len), .ref ot, .ref on, .ref od, .ref ow, .int (nI ch), .int (nI va), .int (nI en), .ref oi, .ref oe, .ref op, .long aE, .long aP, .long lt])), (ot, .inl (cI, 200, .inl (fun j_ => nI (T j_)))), (on, .inl (cI, 78, .inl (fun j_ => nI (c j_)))), (od, .inl (cI, 78, .inl (fun j_ => nI (rd j_)))), (ow, .inl (cI, 468, .inl (fun j_ => nI (ww j_)))), (oi, .inl (cI, 32, .inl (fun j_ => nI (wi j_)))), (oe, .inl (cJ, 256, .inr (.inl EX))), (op, .inl (cJ, 256, .inr (.inl PA)))] [(0, .ref o)] [] 0 0 0
  refine g_iconst (v := nI 0) hX dX7_reads_0 (by decide) ?_
  refine g_istore_n [(0, .ref o), (1, .int (nI 0))] [1, 0] (hd := dX7_reads_1) (C := hX) rfl (by decide) rfl ?_
  have L_2 : ∀ (n_2 : Nat) (i : Nat), 78 - i < n_2 → (i ≤ 78) → GW X [(o, .inr (7, [.int (nI len), .ref ot, .ref on, .ref od, .ref ow, .int (nI ch), .int (nI va), .int (nI en), .ref oi, .ref oe, .ref op, .long aE, .long aP, .long lt])), (ot, .inl (cI, 200, .inl (fun j_ => nI (T j_)))), (on, .inl (cI, 78, .inl (fun j_ => nI (c j_)))), (od, .inl (cI, 78, .inl (fun j_ => nI ((clR rd i) j_)))), (ow, .inl (cI, 468, .inl (fun j_ => nI (ww j_)))), (oi, .inl (cI, 32, .inl (fun j_ => nI (wi j_)))), (oe, .inl (cJ, 256, .inr (.inl EX))), (op, .inl (cJ, 256, .inr (.inl PA)))] [(0, .ref o), (1, .int (nI i))] [] 2 0 0 := by
    intro n_2
    induction n_2 with
    | zero => intro i hm_2; exact absurd hm_2 (Nat.not_lt_zero _)
    | succ n_2 ih_2 =>
      intro i hm_2 hiL
      refine g_iload_n 1 (hd := dX7_reads_2) (C := hX) rfl rfl ?_
      refine g_bipush (v := nI 78) hX dX7_reads_3 (by decide) ?_
      refine g_icmp_geN 21 (hd := dX7_reads_5) (C := hX) (by decide) (by omega) (by omega) (fun c_5 => ?_) (fun c_5 => ?_)
      · refine g_iconst (v := nI 0) hX dX7_reads_21 (by decide) ?_
        refine g_istore_n [(0, .ref o), (1, .int (nI 0))] [1, 0] (hd := dX7_reads_22) (C := hX) rfl (by decide) rfl ?_
        have L_23 : ∀ (n_23 : Nat) (p : Nat) (b9 : Nat → Nat) (v9 : Nat) (e9 : Nat) (n9 : Nat), len - p < n_23 → (psS T len 200 (clR rd 78) 0 = psS T len n9 b9 p) → (len ≤ p + n9) → (b9 0 ≤ 8) → (b9 1 ≤ 24) → (rZ p b9) → (p ≤ len) → GW X [(o, .inr (7, [.int (nI len), .ref ot, .ref on, .ref od, .ref ow, .int (nI ch), .int (nI v9), .int (nI e9), .ref oi, .ref oe, .ref op, .long aE, .long aP, .long lt])), (ot, .inl (cI, 200, .inl (fun j_ => nI (T j_)))), (on, .inl (cI, 78, .inl (fun j_ => nI (c j_)))), (od, .inl (cI, 78, .inl (fun j_ => nI (b9 j_)))), (ow, .inl (cI, 468, .inl (fun j_ => nI (ww j_)))), (oi, .inl (cI, 32, .inl (fun j_ => nI (wi j_)))), (oe, .inl (cJ, 256, .inr (.inl EX))), (op, .inl (cJ, 256, .inr (.inl PA)))] [(0, .ref o), (1, .int (nI p))] [] 23 0 0 := by
          intro n_23
          induction n_23 with
          | zero => intro p b9 v9 e9 n9 hm_23; exact absurd hm_23 (Nat.not_lt_zero _)
          | succ n_23 ih_23 =>
            intro p b9 v9 e9 n9 hm_23 hps hn9 g0 g1 hz9 hpl
            refine g_iload_n 1 (hd := dX7_reads_23) (C := hX) rfl rfl ?_
            refine g_aload_n 0 (hd := dX7_reads_24) (C := hX) rfl rfl ?_
            refine g_get (hd := dX7_reads_25) (C := hX) 0 0 rfl rfl in_X7_reads_7 (by decide) (by decide +kernel) rfl ?_
            refine g_icmp_geN 72 (hd := dX7_reads_28) (C := hX) (by decide) (by omega) (by omega) (fun c_28 => ?_) (fun c_28 => ?_)
            · refine g_bipush (v := (-4)) hX dX7_reads_72 (by decide) ?_
              exact (hret ((-4), v9, e9, b9) _ _ (by have q9 : PS T len rd = (none, b9) := ps_e hps c_28; rw [q9]; exact ⟨rfl, fun _ => rfl⟩)).2.1 _ rfl rfl dX7_reads_74
            · have q8 := hT p c_28
              refine g_aload_n 0 (hd := dX7_reads_31) (C := hX) rfl rfl ?_
              refine g_aload_n 0 (hd := dX7_reads_32) (C := hX) rfl rfl ?_
              refine g_get (hd := dX7_reads_33) (C := hX) 0 1 rfl rfl in_X7_reads_7 (by decide) (by decide +kernel) rfl ?_
              refine g_iload_n 1 (hd := dX7_reads_36) (C := hX) rfl rfl ?_
              refine g_iald (hd := dX7_reads_37) (C := hX) 1 1 rfl rfl (by omega) (by decide) ?_
              refine g_iload_n 1 (hd := dX7_reads_38) (C := hX) rfl rfl ?_
              refine g_iconst (v := nI 1) hX dX7_reads_39 (by decide) ?_
              refine g_iadd hX dX7_reads_40 ?_
              refine g_top (y := (nI (p + 1))) (nI_add _ _) ?_
              refine g_callVp (rest := []) hX (c_X7_readsItem l D cC cI cJ cO o ot on od ow oi oe op len ch v9 e9 aE aP lt T c b9 ww wi EX PA p c_28 hl hT g0 g1 hz9) ok_X7_readsItem rfl 0 rfl rfl (fun _ => rfl) (hd := dX7_reads_41) gX7_reads_X7_readsItem ⟨by decide, by decide⟩ rfl (Nat.le_of_ble_eq_true rfl) ⟨Nat.zero_le _, Nat.zero_le _⟩ [] rfl rfl ?_
              intro ⟨r_41, va_41, en_41, rd_41⟩ e_41
              simp only at e_41
              rcases e_41 with ⟨rfl, p_41⟩ | ⟨rfl, p_41⟩
              · show GW X [(o, .inr (7, [.int (nI len), .ref ot, .ref on, .ref od, .ref ow, .int (nI ch), .int (nI va_41), .int (nI en_41), .ref oi, .ref oe, .ref op, .long aE, .long aP, .long lt])), (ot, .inl (cI, 200, .inl (fun j_ => nI (T j_)))), (on, .inl (cI, 78, .inl (fun j_ => nI (c j_)))), (od, .inl (cI, 78, .inl (fun j_ => nI (rd_41 j_)))), (ow, .inl (cI, 468, .inl (fun j_ => nI (ww j_)))), (oi, .inl (cI, 32, .inl (fun j_ => nI (wi j_)))), (oe, .inl (cJ, 256, .inr (.inl EX))), (op, .inl (cJ, 256, .inr (.inl PA)))] [(0, .ref o), (1, .int (nI p))] [.int (nI 1)] 44 0 0
                refine g_if_eqN 60 (hd := dX7_reads_44) (C := hX) (by decide) (by decide) (fun c_44 => absurd c_44 (by decide)) (fun c_44 => ?_)
                have q7 := p_41.1
                have q6 := lA_lt hT en_41
                refine g_aload_n 0 (hd := dX7_reads_47) (C := hX) rfl rfl ?_
                refine g_aload_n 0 (hd := dX7_reads_48) (C := hX) rfl rfl ?_
                refine g_get (hd := dX7_reads_49) (C := hX) 0 7 rfl rfl in_X7_reads_7 (by decide) (by decide +kernel) rfl ?_
                refine g_callVs (rest := []) hX (c_X7_letterAt l D cC cI cJ cO o ot on od ow oi oe op len ch va_41 en_41 aE aP lt T c rd_41 ww wi EX PA en_41 (by omega) hl) ok_X7_letterAt rfl 0 rfl rfl (hd := dX7_reads_52) gX7_reads_X7_letterAt ⟨by decide, by decide⟩ rfl (Nat.le_of_ble_eq_true rfl) ⟨Nat.zero_le _, Nat.zero_le _⟩ [0, 1, 2, 3, 4, 5, 6, 7] (by decide) rfl rfl ?_
                intro r_52 e_52
                subst e_52
                show GW X [(o, .inr (7, [.int (nI len), .ref ot, .ref on, .ref od, .ref ow, .int (nI ch), .int (nI va_41), .int (nI en_41), .ref oi, .ref oe, .ref op, .long aE, .long aP, .long lt])), (ot, .inl (cI, 200, .inl (fun j_ => nI (T j_)))), (on, .inl (cI, 78, .inl (fun j_ => nI (c j_)))), (od, .inl (cI, 78, .inl (fun j_ => nI (rd_41 j_)))), (ow, .inl (cI, 468, .inl (fun j_ => nI (ww j_)))), (oi, .inl (cI, 32, .inl (fun j_ => nI (wi j_)))), (oe, .inl (cJ, 256, .inr (.inl EX))), (op, .inl (cJ, 256, .inr (.inl PA)))] [(0, .ref o), (1, .int (nI p))] [.int (nI (lA T len en_41))] 55 0 0
                refine g_bipush (v := nI 59) hX dX7_reads_55 (by decide) ?_
                refine g_icmp_eqN 62 (hd := dX7_reads_57) (C := hX) (by decide) (by omega) (by omega) (fun c_57 => ?_) (fun c_57 => ?_)
                · refine g_aload_n 0 (hd := dX7_reads_62) (C := hX) rfl rfl ?_
                  refine g_get (hd := dX7_reads_63) (C := hX) 0 7 rfl rfl in_X7_reads_7 (by decide) (by decide +kernel) rfl ?_
                  refine g_iconst (v := nI 1) hX dX7_reads_66 (by decide) ?_
                  refine g_iadd hX dX7_reads_67 ?_
                  refine g_top (y := (nI (en_41 + 1))) (nI_add _ _) ?_
                  refine g_istore_n [(0, .ref o), (1, .int (nI (en_41 + 1)))] [1, 0] (hd := dX7_reads_68) (C := hX) rfl (by decide) rfl ?_
                  refine g_goto 23 (hd := dX7_reads_69) (C := hX) (by decide) ?_
                  exact ih_23 (en_41 + 1) rd_41 va_41 en_41 (n9 - 1) (by omega) (ps_g hps c_28 hn9 (p_41.2.2.1 c_57)).1 (ps_g hps c_28 hn9 (p_41.2.2.1 c_57)).2.1 (itS_bd g0 g1 (p_41.2.2.1 c_57)).1 (itS_bd g0 g1 (p_41.2.2.1 c_57)).2 (rz_1 (p_41.2.2.1 c_57)) (ps_g hps c_28 hn9 (p_41.2.2.1 c_57)).2.2.2
                · refine g_iload_n 1 (hd := dX7_reads_60) (C := hX) rfl rfl ?_
                  exact (hret ((nI p), va_41, en_41, rd_41) _ _ (by have q9 : PS T len rd = (some p, b9) := ps_b hps c_28 hn9 (p_41.2.2.2 c_57); rw [q9]; exact ⟨rfl, fun z9 => by cases z9⟩)).2.1 _ rfl rfl dX7_reads_61
              · show GW X [(o, .inr (7, [.int (nI len), .ref ot, .ref on, .ref od, .ref ow, .int (nI ch), .int (nI va_41), .int (nI en_41), .ref oi, .ref oe, .ref op, .long aE, .long aP, .long lt])), (ot, .inl (cI, 200, .inl (fun j_ => nI (T j_)))), (on, .inl (cI, 78, .inl (fun j_ => nI (c j_)))), (od, .inl (cI, 78, .inl (fun j_ => nI (rd_41 j_)))), (ow, .inl (cI, 468, .inl (fun j_ => nI (ww j_)))), (oi, .inl (cI, 32, .inl (fun j_ => nI (wi j_)))), (oe, .inl (cJ, 256, .inr (.inl EX))), (op, .inl (cJ, 256, .inr (.inl PA)))] [(0, .ref o), (1, .int (nI p))] [.int (nI 0)] 44 0 0
                refine g_if_eqN 60 (hd := dX7_reads_44) (C := hX) (by decide) (by decide) (fun c_44 => ?_) (fun c_44 => absurd c_44 (by decide))
                refine g_iload_n 1 (hd := dX7_reads_60) (C := hX) rfl rfl ?_
                exact (hret ((nI p), va_41, en_41, rd_41) _ _ (by have q9 : PS T len rd = (some p, b9) := ps_b hps c_28 hn9 p_41; rw [q9]; exact ⟨rfl, fun z9 => by cases z9⟩)).2.1 _ rfl rfl dX7_reads_61
        exact L_23 _ 0 (clR rd i) va en 200 (Nat.lt_succ_self _) (by rw [show i = 78 from by omega]) (by omega) (by rw [clR_at rd i 0 (by omega)]; decide) (by rw [clR_at rd i 1 (by omega)]; decide) (rz_0 (fun j hj => clR_at rd i j (by omega))) (Nat.zero_le _)
      · refine g_aload_n 0 (hd := dX7_reads_8) (C := hX) rfl rfl ?_
        refine g_get (hd := dX7_reads_9) (C := hX) 0 3 rfl rfl in_X7_reads_7 (by decide) (by decide +kernel) rfl ?_
        refine g_iload_n 1 (hd := dX7_reads_12) (C := hX) rfl rfl ?_
        refine g_iconst (v := nI 0) hX dX7_reads_13 (by decide) ?_
        refine g_iast (hd := dX7_reads_14) (C := hX) 3 1 [(o, .inr (7, [.int (nI len), .ref ot, .ref on, .ref od, .ref ow, .int (nI ch), .int (nI va), .int (nI en), .ref oi, .ref oe, .ref op, .long aE, .long aP, .long lt])), (ot, .inl (cI, 200, .inl (fun j_ => nI (T j_)))), (on, .inl (cI, 78, .inl (fun j_ => nI (c j_)))), (od, .inl (cI, 78, .inl (fun j_ => nI ((nup (clR rd i) i 0) j_)))), (ow, .inl (cI, 468, .inl (fun j_ => nI (ww j_)))), (oi, .inl (cI, 32, .inl (fun j_ => nI (wi j_)))), (oe, .inl (cJ, 256, .inr (.inl EX))), (op, .inl (cJ, 256, .inr (.inl PA)))] rfl rfl (by omega) (by decide) (by rw [nup_I]; rfl) ?_
        refine g_iinc (v := (nI (i + 1))) 1 [(0, .ref o), (1, .int (nI (i + 1)))] [1, 0] (hd := dX7_reads_15) (C := hX) rfl (nI_1 _) (by decide) rfl ?_
        refine g_goto 2 (hd := dX7_reads_18) (C := hX) (by decide) ?_
        refine g_w [(o, .inr (7, [.int (nI len), .ref ot, .ref on, .ref od, .ref ow, .int (nI ch), .int (nI va), .int (nI en), .ref oi, .ref oe, .ref op, .long aE, .long aP, .long lt])), (ot, .inl (cI, 200, .inl (fun j_ => nI (T j_)))), (on, .inl (cI, 78, .inl (fun j_ => nI (c j_)))), (od, .inl (cI, 78, .inl (fun j_ => nI ((clR rd (i + 1)) j_)))), (ow, .inl (cI, 468, .inl (fun j_ => nI (ww j_)))), (oi, .inl (cI, 32, .inl (fun j_ => nI (wi j_)))), (oe, .inl (cJ, 256, .inr (.inl EX))), (op, .inl (cJ, 256, .inr (.inl PA)))] rfl ?_
        exact ih_2 (i + 1) (by omega) (by omega)
  refine g_w [(o, .inr (7, [.int (nI len), .ref ot, .ref on, .ref od, .ref ow, .int (nI ch), .int (nI va), .int (nI en), .ref oi, .ref oe, .ref op, .long aE, .long aP, .long lt])), (ot, .inl (cI, 200, .inl (fun j_ => nI (T j_)))), (on, .inl (cI, 78, .inl (fun j_ => nI (c j_)))), (od, .inl (cI, 78, .inl (fun j_ => nI ((clR rd 0) j_)))), (ow, .inl (cI, 468, .inl (fun j_ => nI (ww j_)))), (oi, .inl (cI, 32, .inl (fun j_ => nI (wi j_)))), (oe, .inl (cJ, 256, .inr (.inl EX))), (op, .inl (cJ, 256, .inr (.inl PA)))] rfl ?_
  exact L_2 _ 0 (Nat.lt_succ_self _) (by decide)

theorem in_X7_fault_7 : ∀ w ∈ wsX70, w ∈ wsX7_fault := fun _ h => List.mem_cons_of_mem _ (List.mem_append_right _ h)
theorem ok_X7_fault : gOK yX7_fault wsX7_fault ({ frames := 6, cells := 0, slots := 0, locals := 131 }) 1 0 := ⟨⟨_, _, _, rfl⟩, rfl, rfl, by decide, by decide, by decide +kernel⟩
set_option maxRecDepth 100000 in
set_option maxHeartbeats 4000000 in
theorem c_X7_fault (l : Launch) (D : va_G) (cC cI cJ cO : ClassId) (o : Nat) (ot : Nat) (on : Nat) (od : Nat) (ow : Nat) (oi : Nat) (oe : Nat) (op : Nat) (len : Nat) (ch : Nat) (va : Nat) (en : Nat) (aE : Int64) (aP : Int64) (lt : Int64) (T : Nat → Nat) (c : Nat → Nat) (rd : Nat → Nat) (ww : Nat → Nat) (wi : Nat → Nat) (EX : Nat → Int64) (PA : Nat → Int64) (hl : len ≤ 200) (hT : ∀ j, j < len → T j < 1000) : CM (S := Int32 × Nat × Nat × (Nat → Nat)) l D (tyL cC cI cJ cO) yX7_fault wsX7_fault ({ frames := 6, cells := 0, slots := 0, locals := 131 }) [.ref o] [(o, .inr (7, [.int (nI len), .ref ot, .ref on, .ref od, .ref ow, .int (nI ch), .int (nI va), .int (nI en), .ref oi, .ref oe, .ref op, .long aE, .long aP, .long lt])), (ot, .inl (cI, 200, .inl (fun j_ => nI (T j_)))), (on, .inl (cI, 78, .inl (fun j_ => nI (c j_)))), (od, .inl (cI, 78, .inl (fun j_ => nI (rd j_)))), (ow, .inl (cI, 468, .inl (fun j_ => nI (ww j_)))), (oi, .inl (cI, 32, .inl (fun j_ => nI (wi j_)))), (oe, .inl (cJ, 256, .inr (.inl EX))), (op, .inl (cJ, 256, .inr (.inl PA)))] (fun u => some (.int u.1)) (fun u => u.1 = psI (PS T len rd)) (fun u_ => [(o, .inr (7, [.int (nI len), .ref ot, .ref on, .ref od, .ref ow, .int (nI ch), .int (nI u_.2.1), .int (nI u_.2.2.1), .ref oi, .ref oe, .ref op, .long aE, .long aP, .long lt])), (ot, .inl (cI, 200, .inl (fun j_ => nI (T j_)))), (on, .inl (cI, 78, .inl (fun j_ => nI (c j_)))), (od, .inl (cI, 78, .inl (fun j_ => nI (u_.2.2.2 j_)))), (ow, .inl (cI, 468, .inl (fun j_ => nI (ww j_)))), (oi, .inl (cI, 32, .inl (fun j_ => nI (wi j_)))), (oe, .inl (cJ, 256, .inr (.inl EX))), (op, .inl (cJ, 256, .inr (.inl PA)))]) := by
  refine CM_in (cc := cX7_fault) (maxL := 1) (ret := (some .int)) (by decide) rfl (Nat.le_of_ble_eq_true rfl) ?_
  intro X hX hret
  show GW X [(o, .inr (7, [.int (nI len), .ref ot, .ref on, .ref od, .ref ow, .int (nI ch), .int (nI va), .int (nI en), .ref oi, .ref oe, .ref op, .long aE, .long aP, .long lt])), (ot, .inl (cI, 200, .inl (fun j_ => nI (T j_)))), (on, .inl (cI, 78, .inl (fun j_ => nI (c j_)))), (od, .inl (cI, 78, .inl (fun j_ => nI (rd j_)))), (ow, .inl (cI, 468, .inl (fun j_ => nI (ww j_)))), (oi, .inl (cI, 32, .inl (fun j_ => nI (wi j_)))), (oe, .inl (cJ, 256, .inr (.inl EX))), (op, .inl (cJ, 256, .inr (.inl PA)))] [(0, .ref o)] [] 0 0 0
  refine g_aload_n 0 (hd := dX7_fault_0) (C := hX) rfl rfl ?_
  refine g_callVp (rest := []) hX (c_X7_reads l D cC cI cJ cO o ot on od ow oi oe op len ch va en aE aP lt T c rd ww wi EX PA hl hT) ok_X7_reads rfl 0 rfl rfl (fun _ => rfl) (hd := dX7_fault_1) gX7_fault_X7_reads ⟨by decide, by decide⟩ rfl (Nat.le_of_ble_eq_true rfl) ⟨Nat.zero_le _, Nat.zero_le _⟩ [] rfl rfl ?_
  intro ⟨r_1, va_1, en_1, rd_1⟩ e_1
  simp only at e_1
  show GW X [(o, .inr (7, [.int (nI len), .ref ot, .ref on, .ref od, .ref ow, .int (nI ch), .int (nI va_1), .int (nI en_1), .ref oi, .ref oe, .ref op, .long aE, .long aP, .long lt])), (ot, .inl (cI, 200, .inl (fun j_ => nI (T j_)))), (on, .inl (cI, 78, .inl (fun j_ => nI (c j_)))), (od, .inl (cI, 78, .inl (fun j_ => nI (rd_1 j_)))), (ow, .inl (cI, 468, .inl (fun j_ => nI (ww j_)))), (oi, .inl (cI, 32, .inl (fun j_ => nI (wi j_)))), (oe, .inl (cJ, 256, .inr (.inl EX))), (op, .inl (cJ, 256, .inr (.inl PA)))] [(0, .ref o)] [.int r_1] 4 0 0
  exact (hret (r_1, va_1, en_1, rd_1) _ _ e_1.1).2.1 _ rfl rfl dX7_fault_4

theorem in_X7_lay_7 : ∀ w ∈ wsX70, w ∈ wsX7_lay := fun _ h => List.mem_cons_of_mem _ (List.mem_append_right _ h)
theorem ok_X7_lay : gOK yX7_lay wsX7_lay ({ frames := 6, cells := 0, slots := 0, locals := 131 }) 2 0 := ⟨⟨_, _, _, rfl⟩, rfl, rfl, by decide, by decide, by decide +kernel⟩
set_option maxRecDepth 100000 in
set_option maxHeartbeats 4000000 in
theorem c_X7_lay (l : Launch) (D : va_G) (cC cI cJ cO : ClassId) (o : Nat) (ot : Nat) (on : Nat) (od : Nat) (ow : Nat) (oi : Nat) (oe : Nat) (op : Nat) (len : Nat) (ch : Nat) (va : Nat) (en : Nat) (aE : Int64) (aP : Int64) (lt : Int64) (T : Nat → Nat) (c : Nat → Nat) (rd : Nat → Nat) (ww : Nat → Nat) (wi : Nat → Nat) (EX : Nat → Int64) (PA : Nat → Int64) (hl : len ≤ 200) (hT : ∀ j, j < len → T j < 1000) : CM (S := (Int32 × (Nat → Nat) × Nat) × Nat × Nat × (Nat → Nat)) l D (tyL cC cI cJ cO) yX7_lay wsX7_lay ({ frames := 6, cells := 0, slots := 0, locals := 131 }) [.ref o] [(o, .inr (7, [.int (nI len), .ref ot, .ref on, .ref od, .ref ow, .int (nI ch), .int (nI va), .int (nI en), .ref oi, .ref oe, .ref op, .long aE, .long aP, .long lt])), (ot, .inl (cI, 200, .inl (fun j_ => nI (T j_)))), (on, .inl (cI, 78, .inl (fun j_ => nI (c j_)))), (od, .inl (cI, 78, .inl (fun j_ => nI (rd j_)))), (ow, .inl (cI, 468, .inl (fun j_ => nI (ww j_)))), (oi, .inl (cI, 32, .inl (fun j_ => nI (wi j_)))), (oe, .inl (cJ, 256, .inr (.inl EX))), (op, .inl (cJ, 256, .inr (.inl PA)))] (fun u => some (.int u.1.1)) (fun u => u.1 = loS T len rd c ch) (fun u_ => [(o, .inr (7, [.int (nI len), .ref ot, .ref on, .ref od, .ref ow, .int (nI u_.1.2.2), .int (nI u_.2.1), .int (nI u_.2.2.1), .ref oi, .ref oe, .ref op, .long aE, .long aP, .long lt])), (ot, .inl (cI, 200, .inl (fun j_ => nI (T j_)))), (on, .inl (cI, 78, .inl (fun j_ => nI (u_.1.2.1 j_)))), (od, .inl (cI, 78, .inl (fun j_ => nI (u_.2.2.2 j_)))), (ow, .inl (cI, 468, .inl (fun j_ => nI (ww j_)))), (oi, .inl (cI, 32, .inl (fun j_ => nI (wi j_)))), (oe, .inl (cJ, 256, .inr (.inl EX))), (op, .inl (cJ, 256, .inr (.inl PA)))]) := by
  refine CM_in (cc := cX7_lay) (maxL := 2) (ret := (some .int)) (by decide) rfl (Nat.le_of_ble_eq_true rfl) ?_
  intro X hX hret
  show GW X [(o, .inr (7, [.int (nI len), .ref ot, .ref on, .ref od, .ref ow, .int (nI ch), .int (nI va), .int (nI en), .ref oi, .ref oe, .ref op, .long aE, .long aP, .long lt])), (ot, .inl (cI, 200, .inl (fun j_ => nI (T j_)))), (on, .inl (cI, 78, .inl (fun j_ => nI (c j_)))), (od, .inl (cI, 78, .inl (fun j_ => nI (rd j_)))), (ow, .inl (cI, 468, .inl (fun j_ => nI (ww j_)))), (oi, .inl (cI, 32, .inl (fun j_ => nI (wi j_)))), (oe, .inl (cJ, 256, .inr (.inl EX))), (op, .inl (cJ, 256, .inr (.inl PA)))] [(0, .ref o)] [] 0 0 0
  refine g_aload_n 0 (hd := dX7_lay_0) (C := hX) rfl rfl ?_
  refine g_callVp (rest := []) hX (c_X7_reads l D cC cI cJ cO o ot on od ow oi oe op len ch va en aE aP lt T c rd ww wi EX PA hl hT) ok_X7_reads rfl 0 rfl rfl (fun _ => rfl) (hd := dX7_lay_1) gX7_lay_X7_reads ⟨by decide, by decide⟩ rfl (Nat.le_of_ble_eq_true rfl) ⟨Nat.zero_le _, Nat.zero_le _⟩ [] rfl rfl ?_
  intro ⟨r_1, va_1, en_1, rd_1⟩ e_1
  simp only at e_1
  show GW X [(o, .inr (7, [.int (nI len), .ref ot, .ref on, .ref od, .ref ow, .int (nI ch), .int (nI va_1), .int (nI en_1), .ref oi, .ref oe, .ref op, .long aE, .long aP, .long lt])), (ot, .inl (cI, 200, .inl (fun j_ => nI (T j_)))), (on, .inl (cI, 78, .inl (fun j_ => nI (c j_)))), (od, .inl (cI, 78, .inl (fun j_ => nI (rd_1 j_)))), (ow, .inl (cI, 468, .inl (fun j_ => nI (ww j_)))), (oi, .inl (cI, 32, .inl (fun j_ => nI (wi j_)))), (oe, .inl (cJ, 256, .inr (.inl EX))), (op, .inl (cJ, 256, .inr (.inl PA)))] [(0, .ref o)] [.int r_1] 4 0 0
  have hq1 := psS_in (T := T) (len := len) 200 (clR rd 78) 0 (by rw [clR_at rd 78 0 (by decide)]; decide) (by rw [clR_at rd 78 1 (by decide)]; decide)
  have hq200 : ∀ q, (PS T len rd).1 = some q → q < 200 := fun q h => Nat.lt_of_lt_of_le (hq1.1 q h) hl
  refine g_bipush (v := (-4)) hX dX7_lay_4 (by decide) ?_
  refine g_icmp_ne 18 (hd := dX7_lay_6) (C := hX) (by decide) (fun c_6 => ?_) (fun c_6 => ?_)
  · refine g_bipush (v := (-2)) hX dX7_lay_18 (by decide) ?_
    exact (hret (((-2), c, ch), va_1, en_1, rd_1) _ _ (by unfold loS; rw [if_neg (fun z9 => c_6 (by rw [e_1.1]; unfold psI; rw [z9.1]))])).2.1 _ rfl rfl dX7_lay_20
  · have q7 := e_1.2 (ls_none hq200 e_1.1 c_6)
    have q6 : rd_1 0 ≤ 8 := by rw [q7]; exact hq1.2.1
    have q5 : rd_1 1 ≤ 24 := by rw [q7]; exact hq1.2.2
    refine g_aload_n 0 (hd := dX7_lay_9) (C := hX) rfl rfl ?_
    refine g_get (hd := dX7_lay_10) (C := hX) 0 3 rfl rfl in_X7_lay_7 (by decide) (by decide +kernel) rfl ?_
    refine g_iconst (v := nI 0) hX dX7_lay_13 (by decide) ?_
    refine g_iald (hd := dX7_lay_14) (C := hX) 3 1 rfl rfl (by omega) (by decide) ?_
    refine g_if_neN 21 (hd := dX7_lay_15) (C := hX) (by decide) (by omega) (fun c_15 => ?_) (fun c_15 => ?_)
    · refine g_iconst (v := nI 0) hX dX7_lay_21 (by decide) ?_
      refine g_istore_n [(0, .ref o), (1, .int (nI 0))] [1, 0] (hd := dX7_lay_22) (C := hX) rfl (by decide) rfl ?_
      have L_23 : ∀ (n_23 : Nat) (i : Nat), 78 - i < n_23 → (i ≤ 78) → GW X [(o, .inr (7, [.int (nI len), .ref ot, .ref on, .ref od, .ref ow, .int (nI ch), .int (nI va_1), .int (nI en_1), .ref oi, .ref oe, .ref op, .long aE, .long aP, .long lt])), (ot, .inl (cI, 200, .inl (fun j_ => nI (T j_)))), (on, .inl (cI, 78, .inl (fun j_ => nI ((cpN c rd_1 i) j_)))), (od, .inl (cI, 78, .inl (fun j_ => nI (rd_1 j_)))), (ow, .inl (cI, 468, .inl (fun j_ => nI (ww j_)))), (oi, .inl (cI, 32, .inl (fun j_ => nI (wi j_)))), (oe, .inl (cJ, 256, .inr (.inl EX))), (op, .inl (cJ, 256, .inr (.inl PA)))] [(0, .ref o), (1, .int (nI i))] [] 23 0 0 := by
        intro n_23
        induction n_23 with
        | zero => intro i hm_23; exact absurd hm_23 (Nat.not_lt_zero _)
        | succ n_23 ih_23 =>
          intro i hm_23 hiL
          refine g_iload_n 1 (hd := dX7_lay_23) (C := hX) rfl rfl ?_
          refine g_bipush (v := nI 78) hX dX7_lay_24 (by decide) ?_
          refine g_icmp_geN 47 (hd := dX7_lay_26) (C := hX) (by decide) (by omega) (by omega) (fun c_26 => ?_) (fun c_26 => ?_)
          · refine g_aload_n 0 (hd := dX7_lay_47) (C := hX) rfl rfl ?_
            refine g_iconst (v := nI 0) hX dX7_lay_48 (by decide) ?_
            refine g_put (hd := dX7_lay_49) (C := hX) 0 5 [(o, .inr (7, [.int (nI len), .ref ot, .ref on, .ref od, .ref ow, .int (nI 0), .int (nI va_1), .int (nI en_1), .ref oi, .ref oe, .ref op, .long aE, .long aP, .long lt])), (ot, .inl (cI, 200, .inl (fun j_ => nI (T j_)))), (on, .inl (cI, 78, .inl (fun j_ => nI ((cpN c rd_1 i) j_)))), (od, .inl (cI, 78, .inl (fun j_ => nI (rd_1 j_)))), (ow, .inl (cI, 468, .inl (fun j_ => nI (ww j_)))), (oi, .inl (cI, 32, .inl (fun j_ => nI (wi j_)))), (oe, .inl (cJ, 256, .inr (.inl EX))), (op, .inl (cJ, 256, .inr (.inl PA)))] rfl rfl in_X7_lay_7 tyX7_ok nmX7 (by decide) (by decide +kernel) rfl rfl rfl (Nat.le_of_ble_eq_true rfl) rfl ?_
            refine g_aload_n 0 (hd := dX7_lay_52) (C := hX) rfl rfl ?_
            refine g_callVs (rest := []) hX (c_X7_wires l D cC cI cJ cO o ot on od ow oi oe op len 0 va_1 en_1 aE aP lt T (cpN c rd_1 i) rd_1 ww wi EX PA) ok_X7_wires rfl 0 rfl rfl (hd := dX7_lay_53) gX7_lay_X7_wires ⟨by decide, by decide⟩ rfl (Nat.le_of_ble_eq_true rfl) ⟨Nat.zero_le _, Nat.zero_le _⟩ [0, 1, 2, 3, 4, 5, 6, 7] (by decide) rfl rfl ?_
            intro r_53 e_53
            subst e_53
            show GW X [(o, .inr (7, [.int (nI len), .ref ot, .ref on, .ref od, .ref ow, .int (nI 0), .int (nI va_1), .int (nI en_1), .ref oi, .ref oe, .ref op, .long aE, .long aP, .long lt])), (ot, .inl (cI, 200, .inl (fun j_ => nI (T j_)))), (on, .inl (cI, 78, .inl (fun j_ => nI ((cpN c rd_1 i) j_)))), (od, .inl (cI, 78, .inl (fun j_ => nI (rd_1 j_)))), (ow, .inl (cI, 468, .inl (fun j_ => nI (ww j_)))), (oi, .inl (cI, 32, .inl (fun j_ => nI (wi j_)))), (oe, .inl (cJ, 256, .inr (.inl EX))), (op, .inl (cJ, 256, .inr (.inl PA)))] [(0, .ref o), (1, .int (nI i))] [.int (nI ((cpN c rd_1 i) 0 + (cpN c rd_1 i) 1))] 56 0 0
            exact (hret (((nI ((cpN c rd_1 i) 0 + (cpN c rd_1 i) 1)), (cpN c rd_1 i), 0), va_1, en_1, rd_1) _ _ (by have q9 : (PS T len rd).1 = none := ls_none hq200 e_1.1 c_6; have q8 := e_1.2 q9; rw [show i = 78 from by omega, cpN_78]; unfold loS; rw [if_pos ⟨q9, by rw [← q8]; exact c_15⟩, ← q8]; rfl)).2.1 _ rfl rfl dX7_lay_56
          · refine g_aload_n 0 (hd := dX7_lay_29) (C := hX) rfl rfl ?_
            refine g_get (hd := dX7_lay_30) (C := hX) 0 2 rfl rfl in_X7_lay_7 (by decide) (by decide +kernel) rfl ?_
            refine g_iload_n 1 (hd := dX7_lay_33) (C := hX) rfl rfl ?_
            refine g_aload_n 0 (hd := dX7_lay_34) (C := hX) rfl rfl ?_
            refine g_get (hd := dX7_lay_35) (C := hX) 0 3 rfl rfl in_X7_lay_7 (by decide) (by decide +kernel) rfl ?_
            refine g_iload_n 1 (hd := dX7_lay_38) (C := hX) rfl rfl ?_
            refine g_iald (hd := dX7_lay_39) (C := hX) 3 1 rfl rfl (by omega) (by decide) ?_
            refine g_iast (hd := dX7_lay_40) (C := hX) 2 1 [(o, .inr (7, [.int (nI len), .ref ot, .ref on, .ref od, .ref ow, .int (nI ch), .int (nI va_1), .int (nI en_1), .ref oi, .ref oe, .ref op, .long aE, .long aP, .long lt])), (ot, .inl (cI, 200, .inl (fun j_ => nI (T j_)))), (on, .inl (cI, 78, .inl (fun j_ => nI ((nup (cpN c rd_1 i) i (rd_1 i)) j_)))), (od, .inl (cI, 78, .inl (fun j_ => nI (rd_1 j_)))), (ow, .inl (cI, 468, .inl (fun j_ => nI (ww j_)))), (oi, .inl (cI, 32, .inl (fun j_ => nI (wi j_)))), (oe, .inl (cJ, 256, .inr (.inl EX))), (op, .inl (cJ, 256, .inr (.inl PA)))] rfl rfl (by omega) (by decide) (by rw [nup_I]; rfl) ?_
            refine g_iinc (v := (nI (i + 1))) 1 [(0, .ref o), (1, .int (nI (i + 1)))] [1, 0] (hd := dX7_lay_41) (C := hX) rfl (nI_1 _) (by decide) rfl ?_
            refine g_goto 23 (hd := dX7_lay_44) (C := hX) (by decide) ?_
            refine g_w [(o, .inr (7, [.int (nI len), .ref ot, .ref on, .ref od, .ref ow, .int (nI ch), .int (nI va_1), .int (nI en_1), .ref oi, .ref oe, .ref op, .long aE, .long aP, .long lt])), (ot, .inl (cI, 200, .inl (fun j_ => nI (T j_)))), (on, .inl (cI, 78, .inl (fun j_ => nI ((cpN c rd_1 (i + 1)) j_)))), (od, .inl (cI, 78, .inl (fun j_ => nI (rd_1 j_)))), (ow, .inl (cI, 468, .inl (fun j_ => nI (ww j_)))), (oi, .inl (cI, 32, .inl (fun j_ => nI (wi j_)))), (oe, .inl (cJ, 256, .inr (.inl EX))), (op, .inl (cJ, 256, .inr (.inl PA)))] rfl ?_
            exact ih_23 (i + 1) (by omega) (by omega)
      refine g_w [(o, .inr (7, [.int (nI len), .ref ot, .ref on, .ref od, .ref ow, .int (nI ch), .int (nI va_1), .int (nI en_1), .ref oi, .ref oe, .ref op, .long aE, .long aP, .long lt])), (ot, .inl (cI, 200, .inl (fun j_ => nI (T j_)))), (on, .inl (cI, 78, .inl (fun j_ => nI ((cpN c rd_1 0) j_)))), (od, .inl (cI, 78, .inl (fun j_ => nI (rd_1 j_)))), (ow, .inl (cI, 468, .inl (fun j_ => nI (ww j_)))), (oi, .inl (cI, 32, .inl (fun j_ => nI (wi j_)))), (oe, .inl (cJ, 256, .inr (.inl EX))), (op, .inl (cJ, 256, .inr (.inl PA)))] rfl ?_
      exact L_23 _ 0 (Nat.lt_succ_self _) (by decide)
    · refine g_bipush (v := (-2)) hX dX7_lay_18 (by decide) ?_
      exact (hret (((-2), c, ch), va_1, en_1, rd_1) _ _ (by unfold loS; rw [if_neg (fun z9 => z9.2 (by rw [← e_1.2 z9.1]; exact c_15))])).2.1 _ rfl rfl dX7_lay_20

theorem in_X7_keeps_7 : ∀ w ∈ wsX70, w ∈ wsX7_keeps := fun _ h => List.mem_cons_of_mem _ (List.mem_append_right _ h)
theorem ok_X7_keeps : gOK yX7_keeps wsX7_keeps ({ frames := 0, cells := 0, slots := 0, locals := 0 }) 2 0 := ⟨⟨_, _, _, rfl⟩, rfl, rfl, by decide, by decide, by decide +kernel⟩
set_option maxRecDepth 100000 in
set_option maxHeartbeats 4000000 in
theorem c_X7_keeps (l : Launch) (D : va_G) (cC cI cJ cO : ClassId) (o : Nat) (ot : Nat) (on : Nat) (od : Nat) (ow : Nat) (oi : Nat) (oe : Nat) (op : Nat) (len : Nat) (ch : Nat) (va : Nat) (en : Nat) (aE : Int64) (aP : Int64) (lt : Int64) (T : Nat → Nat) (c : Nat → Nat) (rd : Nat → Nat) (ww : Nat → Nat) (wi : Nat → Nat) (EX : Nat → Int64) (PA : Nat → Int64) (hch : ch ≤ 6) : CM (S := Unit) l D (tyL cC cI cJ cO) yX7_keeps wsX7_keeps ({ frames := 0, cells := 0, slots := 0, locals := 0 }) [.ref o] [(o, .inr (7, [.int (nI len), .ref ot, .ref on, .ref od, .ref ow, .int (nI ch), .int (nI va), .int (nI en), .ref oi, .ref oe, .ref op, .long aE, .long aP, .long lt])), (ot, .inl (cI, 200, .inl (fun j_ => nI (T j_)))), (on, .inl (cI, 78, .inl (fun j_ => nI (c j_)))), (od, .inl (cI, 78, .inl (fun j_ => nI (rd j_)))), (ow, .inl (cI, 468, .inl (fun j_ => nI (ww j_)))), (oi, .inl (cI, 32, .inl (fun j_ => nI (wi j_)))), (oe, .inl (cJ, 256, .inr (.inl EX))), (op, .inl (cJ, 256, .inr (.inl PA)))] (fun _ => none) (fun _ => True) (fun u_ => [(o, .inr (7, [.int (nI len), .ref ot, .ref on, .ref od, .ref ow, .int (nI (kpK ch)), .int (nI va), .int (nI en), .ref oi, .ref oe, .ref op, .long aE, .long aP, .long lt])), (ot, .inl (cI, 200, .inl (fun j_ => nI (T j_)))), (on, .inl (cI, 78, .inl (fun j_ => nI (c j_)))), (od, .inl (cI, 78, .inl (fun j_ => nI (rd j_)))), (ow, .inl (cI, 468, .inl (fun j_ => nI ((kwS ww c ch) j_)))), (oi, .inl (cI, 32, .inl (fun j_ => nI (wi j_)))), (oe, .inl (cJ, 256, .inr (.inl EX))), (op, .inl (cJ, 256, .inr (.inl PA)))]) := by
  refine CM_in (cc := cX7_keeps) (maxL := 2) (ret := none) (by decide) rfl (Nat.le_of_ble_eq_true rfl) ?_
  intro X hX hret
  show GW X [(o, .inr (7, [.int (nI len), .ref ot, .ref on, .ref od, .ref ow, .int (nI ch), .int (nI va), .int (nI en), .ref oi, .ref oe, .ref op, .long aE, .long aP, .long lt])), (ot, .inl (cI, 200, .inl (fun j_ => nI (T j_)))), (on, .inl (cI, 78, .inl (fun j_ => nI (c j_)))), (od, .inl (cI, 78, .inl (fun j_ => nI (rd j_)))), (ow, .inl (cI, 468, .inl (fun j_ => nI (ww j_)))), (oi, .inl (cI, 32, .inl (fun j_ => nI (wi j_)))), (oe, .inl (cJ, 256, .inr (.inl EX))), (op, .inl (cJ, 256, .inr (.inl PA)))] [(0, .ref o)] [] 0 0 0
  refine g_aload_n 0 (hd := dX7_keeps_0) (C := hX) rfl rfl ?_
  refine g_get (hd := dX7_keeps_1) (C := hX) 0 5 rfl rfl in_X7_keeps_7 (by decide) (by decide +kernel) rfl ?_
  refine g_bipush (v := nI 6) hX dX7_keeps_4 (by decide) ?_
  refine g_icmp_neN 49 (hd := dX7_keeps_6) (C := hX) (by decide) (by omega) (by omega) (fun c_6 => ?_) (fun c_6 => ?_)
  · refine g_iconst (v := nI 0) hX dX7_keeps_49 (by decide) ?_
    refine g_istore_n [(0, .ref o), (1, .int (nI 0))] [1, 0] (hd := dX7_keeps_50) (C := hX) rfl (by decide) rfl ?_
    have L_51 : ∀ (n_51 : Nat) (i : Nat), 78 - i < n_51 → (i ≤ 78) → GW X [(o, .inr (7, [.int (nI len), .ref ot, .ref on, .ref od, .ref ow, .int (nI ch), .int (nI va), .int (nI en), .ref oi, .ref oe, .ref op, .long aE, .long aP, .long lt])), (ot, .inl (cI, 200, .inl (fun j_ => nI (T j_)))), (on, .inl (cI, 78, .inl (fun j_ => nI (c j_)))), (od, .inl (cI, 78, .inl (fun j_ => nI (rd j_)))), (ow, .inl (cI, 468, .inl (fun j_ => nI ((kpG ww c (78 * ch) i) j_)))), (oi, .inl (cI, 32, .inl (fun j_ => nI (wi j_)))), (oe, .inl (cJ, 256, .inr (.inl EX))), (op, .inl (cJ, 256, .inr (.inl PA)))] [(0, .ref o), (1, .int (nI i))] [] 51 0 0 := by
      intro n_51
      induction n_51 with
      | zero => intro i hm_51; exact absurd hm_51 (Nat.not_lt_zero _)
      | succ n_51 ih_51 =>
        intro i hm_51 hiL
        refine g_iload_n 1 (hd := dX7_keeps_51) (C := hX) rfl rfl ?_
        refine g_bipush (v := nI 78) hX dX7_keeps_52 (by decide) ?_
        refine g_icmp_geN 83 (hd := dX7_keeps_54) (C := hX) (by decide) (by omega) (by omega) (fun c_54 => ?_) (fun c_54 => ?_)
        · refine g_aload_n 0 (hd := dX7_keeps_83) (C := hX) rfl rfl ?_
          refine g_dup hX dX7_keeps_84 rfl ?_
          refine g_get (hd := dX7_keeps_85) (C := hX) 0 5 rfl rfl in_X7_keeps_7 (by decide) (by decide +kernel) rfl ?_
          refine g_iconst (v := nI 1) hX dX7_keeps_88 (by decide) ?_
          refine g_iadd hX dX7_keeps_89 ?_
          refine g_top (y := (nI (ch + 1))) (nI_add _ _) ?_
          refine g_put (hd := dX7_keeps_90) (C := hX) 0 5 [(o, .inr (7, [.int (nI len), .ref ot, .ref on, .ref od, .ref ow, .int (nI (ch + 1)), .int (nI va), .int (nI en), .ref oi, .ref oe, .ref op, .long aE, .long aP, .long lt])), (ot, .inl (cI, 200, .inl (fun j_ => nI (T j_)))), (on, .inl (cI, 78, .inl (fun j_ => nI (c j_)))), (od, .inl (cI, 78, .inl (fun j_ => nI (rd j_)))), (ow, .inl (cI, 468, .inl (fun j_ => nI ((kpG ww c (78 * ch) i) j_)))), (oi, .inl (cI, 32, .inl (fun j_ => nI (wi j_)))), (oe, .inl (cJ, 256, .inr (.inl EX))), (op, .inl (cJ, 256, .inr (.inl PA)))] rfl rfl in_X7_keeps_7 tyX7_ok nmX7 (by decide) (by decide +kernel) rfl rfl rfl (Nat.le_of_ble_eq_true rfl) rfl ?_
          refine g_w [(o, .inr (7, [.int (nI len), .ref ot, .ref on, .ref od, .ref ow, .int (nI (kpK ch)), .int (nI va), .int (nI en), .ref oi, .ref oe, .ref op, .long aE, .long aP, .long lt])), (ot, .inl (cI, 200, .inl (fun j_ => nI (T j_)))), (on, .inl (cI, 78, .inl (fun j_ => nI (c j_)))), (od, .inl (cI, 78, .inl (fun j_ => nI (rd j_)))), (ow, .inl (cI, 468, .inl (fun j_ => nI ((kwS ww c ch) j_)))), (oi, .inl (cI, 32, .inl (fun j_ => nI (wi j_)))), (oe, .inl (cJ, 256, .inr (.inl EX))), (op, .inl (cJ, 256, .inr (.inl PA)))] (by rw [show i = 78 from by omega]; unfold kwS kpK; rw [if_neg c_6, if_neg c_6]) ?_
          exact (hret () _ _ trivial).1 rfl rfl dX7_keeps_93
        · refine g_aload_n 0 (hd := dX7_keeps_57) (C := hX) rfl rfl ?_
          refine g_get (hd := dX7_keeps_58) (C := hX) 0 4 rfl rfl in_X7_keeps_7 (by decide) (by decide +kernel) rfl ?_
          refine g_bipush (v := nI 78) hX dX7_keeps_61 (by decide) ?_
          refine g_aload_n 0 (hd := dX7_keeps_63) (C := hX) rfl rfl ?_
          refine g_get (hd := dX7_keeps_64) (C := hX) 0 5 rfl rfl in_X7_keeps_7 (by decide) (by decide +kernel) rfl ?_
          refine g_imul hX dX7_keeps_67 ?_
          refine g_top (y := (nI (78 * ch))) (pk_mul _ _) ?_
          refine g_iload_n 1 (hd := dX7_keeps_68) (C := hX) rfl rfl ?_
          refine g_iadd hX dX7_keeps_69 ?_
          refine g_top (y := (nI ((78 * ch) + i))) (nI_add _ _) ?_
          refine g_aload_n 0 (hd := dX7_keeps_70) (C := hX) rfl rfl ?_
          refine g_get (hd := dX7_keeps_71) (C := hX) 0 2 rfl rfl in_X7_keeps_7 (by decide) (by decide +kernel) rfl ?_
          refine g_iload_n 1 (hd := dX7_keeps_74) (C := hX) rfl rfl ?_
          refine g_iald (hd := dX7_keeps_75) (C := hX) 2 1 rfl rfl (by omega) (by decide) ?_
          refine g_iast (hd := dX7_keeps_76) (C := hX) 4 1 [(o, .inr (7, [.int (nI len), .ref ot, .ref on, .ref od, .ref ow, .int (nI ch), .int (nI va), .int (nI en), .ref oi, .ref oe, .ref op, .long aE, .long aP, .long lt])), (ot, .inl (cI, 200, .inl (fun j_ => nI (T j_)))), (on, .inl (cI, 78, .inl (fun j_ => nI (c j_)))), (od, .inl (cI, 78, .inl (fun j_ => nI (rd j_)))), (ow, .inl (cI, 468, .inl (fun j_ => nI ((nup (kpG ww c (78 * ch) i) ((78 * ch) + i) (c i)) j_)))), (oi, .inl (cI, 32, .inl (fun j_ => nI (wi j_)))), (oe, .inl (cJ, 256, .inr (.inl EX))), (op, .inl (cJ, 256, .inr (.inl PA)))] rfl rfl (by omega) (by decide) (by rw [nup_I]; rfl) ?_
          refine g_iinc (v := (nI (i + 1))) 1 [(0, .ref o), (1, .int (nI (i + 1)))] [1, 0] (hd := dX7_keeps_77) (C := hX) rfl (nI_1 _) (by decide) rfl ?_
          refine g_goto 51 (hd := dX7_keeps_80) (C := hX) (by decide) ?_
          refine g_w [(o, .inr (7, [.int (nI len), .ref ot, .ref on, .ref od, .ref ow, .int (nI ch), .int (nI va), .int (nI en), .ref oi, .ref oe, .ref op, .long aE, .long aP, .long lt])), (ot, .inl (cI, 200, .inl (fun j_ => nI (T j_)))), (on, .inl (cI, 78, .inl (fun j_ => nI (c j_)))), (od, .inl (cI, 78, .inl (fun j_ => nI (rd j_)))), (ow, .inl (cI, 468, .inl (fun j_ => nI ((kpG ww c (78 * ch) (i + 1)) j_)))), (oi, .inl (cI, 32, .inl (fun j_ => nI (wi j_)))), (oe, .inl (cJ, 256, .inr (.inl EX))), (op, .inl (cJ, 256, .inr (.inl PA)))] (by rw [kp_s]) ?_
          exact ih_51 (i + 1) (by omega) (by omega)
    refine g_w [(o, .inr (7, [.int (nI len), .ref ot, .ref on, .ref od, .ref ow, .int (nI ch), .int (nI va), .int (nI en), .ref oi, .ref oe, .ref op, .long aE, .long aP, .long lt])), (ot, .inl (cI, 200, .inl (fun j_ => nI (T j_)))), (on, .inl (cI, 78, .inl (fun j_ => nI (c j_)))), (od, .inl (cI, 78, .inl (fun j_ => nI (rd j_)))), (ow, .inl (cI, 468, .inl (fun j_ => nI ((kpG ww c (78 * ch) 0) j_)))), (oi, .inl (cI, 32, .inl (fun j_ => nI (wi j_)))), (oe, .inl (cJ, 256, .inr (.inl EX))), (op, .inl (cJ, 256, .inr (.inl PA)))] (by rw [kp_0]) ?_
    exact L_51 _ 0 (Nat.lt_succ_self _) (by decide)
  · subst c_6
    refine g_iconst (v := nI 0) hX dX7_keeps_9 (by decide) ?_
    refine g_istore_n [(0, .ref o), (1, .int (nI 0))] [1, 0] (hd := dX7_keeps_10) (C := hX) rfl (by decide) rfl ?_
    have L_11 : ∀ (n_11 : Nat) (i : Nat), 390 - i < n_11 → (i ≤ 390) → GW X [(o, .inr (7, [.int (nI len), .ref ot, .ref on, .ref od, .ref ow, .int (nI 6), .int (nI va), .int (nI en), .ref oi, .ref oe, .ref op, .long aE, .long aP, .long lt])), (ot, .inl (cI, 200, .inl (fun j_ => nI (T j_)))), (on, .inl (cI, 78, .inl (fun j_ => nI (c j_)))), (od, .inl (cI, 78, .inl (fun j_ => nI (rd j_)))), (ow, .inl (cI, 468, .inl (fun j_ => nI ((shF ww i) j_)))), (oi, .inl (cI, 32, .inl (fun j_ => nI (wi j_)))), (oe, .inl (cJ, 256, .inr (.inl EX))), (op, .inl (cJ, 256, .inr (.inl PA)))] [(0, .ref o), (1, .int (nI i))] [] 11 0 0 := by
      intro n_11
      induction n_11 with
      | zero => intro i hm_11; exact absurd hm_11 (Nat.not_lt_zero _)
      | succ n_11 ih_11 =>
        intro i hm_11 hiL
        refine g_iload_n 1 (hd := dX7_keeps_11) (C := hX) rfl rfl ?_
        refine g_sipush (v := nI 390) hX dX7_keeps_12 (by decide) ?_
        refine g_icmp_geN 39 (hd := dX7_keeps_15) (C := hX) (by decide) (by omega) (by omega) (fun c_15 => ?_) (fun c_15 => ?_)
        · refine g_aload_n 0 (hd := dX7_keeps_39) (C := hX) rfl rfl ?_
          refine g_dup hX dX7_keeps_40 rfl ?_
          refine g_get (hd := dX7_keeps_41) (C := hX) 0 5 rfl rfl in_X7_keeps_7 (by decide) (by decide +kernel) rfl ?_
          refine g_iconst (v := nI 1) hX dX7_keeps_44 (by decide) ?_
          refine g_isub hX dX7_keeps_45 ?_
          refine g_top (y := (nI 5)) (by decide) ?_
          refine g_put (hd := dX7_keeps_46) (C := hX) 0 5 [(o, .inr (7, [.int (nI len), .ref ot, .ref on, .ref od, .ref ow, .int (nI 5), .int (nI va), .int (nI en), .ref oi, .ref oe, .ref op, .long aE, .long aP, .long lt])), (ot, .inl (cI, 200, .inl (fun j_ => nI (T j_)))), (on, .inl (cI, 78, .inl (fun j_ => nI (c j_)))), (od, .inl (cI, 78, .inl (fun j_ => nI (rd j_)))), (ow, .inl (cI, 468, .inl (fun j_ => nI ((shF ww i) j_)))), (oi, .inl (cI, 32, .inl (fun j_ => nI (wi j_)))), (oe, .inl (cJ, 256, .inr (.inl EX))), (op, .inl (cJ, 256, .inr (.inl PA)))] rfl rfl in_X7_keeps_7 tyX7_ok nmX7 (by decide) (by decide +kernel) rfl rfl rfl (Nat.le_of_ble_eq_true rfl) rfl ?_
          refine g_iconst (v := nI 0) hX dX7_keeps_49 (by decide) ?_
          refine g_istore_n [(0, .ref o), (1, .int (nI 0))] [1, 0] (hd := dX7_keeps_50) (C := hX) rfl (by decide) rfl ?_
          have L_51 : ∀ (n_51 : Nat) (i : Nat), 78 - i < n_51 → (i ≤ 78) → GW X [(o, .inr (7, [.int (nI len), .ref ot, .ref on, .ref od, .ref ow, .int (nI 5), .int (nI va), .int (nI en), .ref oi, .ref oe, .ref op, .long aE, .long aP, .long lt])), (ot, .inl (cI, 200, .inl (fun j_ => nI (T j_)))), (on, .inl (cI, 78, .inl (fun j_ => nI (c j_)))), (od, .inl (cI, 78, .inl (fun j_ => nI (rd j_)))), (ow, .inl (cI, 468, .inl (fun j_ => nI ((kpG (shF ww 390) c 390 i) j_)))), (oi, .inl (cI, 32, .inl (fun j_ => nI (wi j_)))), (oe, .inl (cJ, 256, .inr (.inl EX))), (op, .inl (cJ, 256, .inr (.inl PA)))] [(0, .ref o), (1, .int (nI i))] [] 51 0 0 := by
            intro n_51
            induction n_51 with
            | zero => intro i hm_51; exact absurd hm_51 (Nat.not_lt_zero _)
            | succ n_51 ih_51 =>
              intro i hm_51 hiL
              refine g_iload_n 1 (hd := dX7_keeps_51) (C := hX) rfl rfl ?_
              refine g_bipush (v := nI 78) hX dX7_keeps_52 (by decide) ?_
              refine g_icmp_geN 83 (hd := dX7_keeps_54) (C := hX) (by decide) (by omega) (by omega) (fun c_54 => ?_) (fun c_54 => ?_)
              · refine g_aload_n 0 (hd := dX7_keeps_83) (C := hX) rfl rfl ?_
                refine g_dup hX dX7_keeps_84 rfl ?_
                refine g_get (hd := dX7_keeps_85) (C := hX) 0 5 rfl rfl in_X7_keeps_7 (by decide) (by decide +kernel) rfl ?_
                refine g_iconst (v := nI 1) hX dX7_keeps_88 (by decide) ?_
                refine g_iadd hX dX7_keeps_89 ?_
                refine g_top (y := (nI 6)) (by decide) ?_
                refine g_put (hd := dX7_keeps_90) (C := hX) 0 5 [(o, .inr (7, [.int (nI len), .ref ot, .ref on, .ref od, .ref ow, .int (nI 6), .int (nI va), .int (nI en), .ref oi, .ref oe, .ref op, .long aE, .long aP, .long lt])), (ot, .inl (cI, 200, .inl (fun j_ => nI (T j_)))), (on, .inl (cI, 78, .inl (fun j_ => nI (c j_)))), (od, .inl (cI, 78, .inl (fun j_ => nI (rd j_)))), (ow, .inl (cI, 468, .inl (fun j_ => nI ((kpG (shF ww 390) c 390 i) j_)))), (oi, .inl (cI, 32, .inl (fun j_ => nI (wi j_)))), (oe, .inl (cJ, 256, .inr (.inl EX))), (op, .inl (cJ, 256, .inr (.inl PA)))] rfl rfl in_X7_keeps_7 tyX7_ok nmX7 (by decide) (by decide +kernel) rfl rfl rfl (Nat.le_of_ble_eq_true rfl) rfl ?_
                refine g_w [(o, .inr (7, [.int (nI len), .ref ot, .ref on, .ref od, .ref ow, .int (nI (kpK 6)), .int (nI va), .int (nI en), .ref oi, .ref oe, .ref op, .long aE, .long aP, .long lt])), (ot, .inl (cI, 200, .inl (fun j_ => nI (T j_)))), (on, .inl (cI, 78, .inl (fun j_ => nI (c j_)))), (od, .inl (cI, 78, .inl (fun j_ => nI (rd j_)))), (ow, .inl (cI, 468, .inl (fun j_ => nI ((kwS ww c 6) j_)))), (oi, .inl (cI, 32, .inl (fun j_ => nI (wi j_)))), (oe, .inl (cJ, 256, .inr (.inl EX))), (op, .inl (cJ, 256, .inr (.inl PA)))] (by rw [show i = 78 from by omega]; rfl) ?_
                exact (hret () _ _ trivial).1 rfl rfl dX7_keeps_93
              · refine g_aload_n 0 (hd := dX7_keeps_57) (C := hX) rfl rfl ?_
                refine g_get (hd := dX7_keeps_58) (C := hX) 0 4 rfl rfl in_X7_keeps_7 (by decide) (by decide +kernel) rfl ?_
                refine g_bipush (v := nI 78) hX dX7_keeps_61 (by decide) ?_
                refine g_aload_n 0 (hd := dX7_keeps_63) (C := hX) rfl rfl ?_
                refine g_get (hd := dX7_keeps_64) (C := hX) 0 5 rfl rfl in_X7_keeps_7 (by decide) (by decide +kernel) rfl ?_
                refine g_imul hX dX7_keeps_67 ?_
                refine g_top (y := (nI 390)) (by decide) ?_
                refine g_iload_n 1 (hd := dX7_keeps_68) (C := hX) rfl rfl ?_
                refine g_iadd hX dX7_keeps_69 ?_
                refine g_top (y := (nI (390 + i))) (nI_add _ _) ?_
                refine g_aload_n 0 (hd := dX7_keeps_70) (C := hX) rfl rfl ?_
                refine g_get (hd := dX7_keeps_71) (C := hX) 0 2 rfl rfl in_X7_keeps_7 (by decide) (by decide +kernel) rfl ?_
                refine g_iload_n 1 (hd := dX7_keeps_74) (C := hX) rfl rfl ?_
                refine g_iald (hd := dX7_keeps_75) (C := hX) 2 1 rfl rfl (by omega) (by decide) ?_
                refine g_iast (hd := dX7_keeps_76) (C := hX) 4 1 [(o, .inr (7, [.int (nI len), .ref ot, .ref on, .ref od, .ref ow, .int (nI 5), .int (nI va), .int (nI en), .ref oi, .ref oe, .ref op, .long aE, .long aP, .long lt])), (ot, .inl (cI, 200, .inl (fun j_ => nI (T j_)))), (on, .inl (cI, 78, .inl (fun j_ => nI (c j_)))), (od, .inl (cI, 78, .inl (fun j_ => nI (rd j_)))), (ow, .inl (cI, 468, .inl (fun j_ => nI ((nup (kpG (shF ww 390) c 390 i) (390 + i) (c i)) j_)))), (oi, .inl (cI, 32, .inl (fun j_ => nI (wi j_)))), (oe, .inl (cJ, 256, .inr (.inl EX))), (op, .inl (cJ, 256, .inr (.inl PA)))] rfl rfl (by omega) (by decide) (by rw [nup_I]; rfl) ?_
                refine g_iinc (v := (nI (i + 1))) 1 [(0, .ref o), (1, .int (nI (i + 1)))] [1, 0] (hd := dX7_keeps_77) (C := hX) rfl (nI_1 _) (by decide) rfl ?_
                refine g_goto 51 (hd := dX7_keeps_80) (C := hX) (by decide) ?_
                refine g_w [(o, .inr (7, [.int (nI len), .ref ot, .ref on, .ref od, .ref ow, .int (nI 5), .int (nI va), .int (nI en), .ref oi, .ref oe, .ref op, .long aE, .long aP, .long lt])), (ot, .inl (cI, 200, .inl (fun j_ => nI (T j_)))), (on, .inl (cI, 78, .inl (fun j_ => nI (c j_)))), (od, .inl (cI, 78, .inl (fun j_ => nI (rd j_)))), (ow, .inl (cI, 468, .inl (fun j_ => nI ((kpG (shF ww 390) c 390 (i + 1)) j_)))), (oi, .inl (cI, 32, .inl (fun j_ => nI (wi j_)))), (oe, .inl (cJ, 256, .inr (.inl EX))), (op, .inl (cJ, 256, .inr (.inl PA)))] (by rw [kp_s]) ?_
                exact ih_51 (i + 1) (by omega) (by omega)
          refine g_w [(o, .inr (7, [.int (nI len), .ref ot, .ref on, .ref od, .ref ow, .int (nI 5), .int (nI va), .int (nI en), .ref oi, .ref oe, .ref op, .long aE, .long aP, .long lt])), (ot, .inl (cI, 200, .inl (fun j_ => nI (T j_)))), (on, .inl (cI, 78, .inl (fun j_ => nI (c j_)))), (od, .inl (cI, 78, .inl (fun j_ => nI (rd j_)))), (ow, .inl (cI, 468, .inl (fun j_ => nI ((kpG (shF ww 390) c 390 0) j_)))), (oi, .inl (cI, 32, .inl (fun j_ => nI (wi j_)))), (oe, .inl (cJ, 256, .inr (.inl EX))), (op, .inl (cJ, 256, .inr (.inl PA)))] (by rw [kp_0, show i = 390 from by omega]) ?_
          exact L_51 _ 0 (Nat.lt_succ_self _) (by decide)
        · refine g_aload_n 0 (hd := dX7_keeps_18) (C := hX) rfl rfl ?_
          refine g_get (hd := dX7_keeps_19) (C := hX) 0 4 rfl rfl in_X7_keeps_7 (by decide) (by decide +kernel) rfl ?_
          refine g_iload_n 1 (hd := dX7_keeps_22) (C := hX) rfl rfl ?_
          refine g_aload_n 0 (hd := dX7_keeps_23) (C := hX) rfl rfl ?_
          refine g_get (hd := dX7_keeps_24) (C := hX) 0 4 rfl rfl in_X7_keeps_7 (by decide) (by decide +kernel) rfl ?_
          refine g_iload_n 1 (hd := dX7_keeps_27) (C := hX) rfl rfl ?_
          refine g_bipush (v := nI 78) hX dX7_keeps_28 (by decide) ?_
          refine g_iadd hX dX7_keeps_30 ?_
          refine g_top (y := (nI (i + 78))) (nI_add _ _) ?_
          refine g_iald (hd := dX7_keeps_31) (C := hX) 4 1 rfl rfl (by omega) (by decide) ?_
          refine g_iast (hd := dX7_keeps_32) (C := hX) 4 1 [(o, .inr (7, [.int (nI len), .ref ot, .ref on, .ref od, .ref ow, .int (nI 6), .int (nI va), .int (nI en), .ref oi, .ref oe, .ref op, .long aE, .long aP, .long lt])), (ot, .inl (cI, 200, .inl (fun j_ => nI (T j_)))), (on, .inl (cI, 78, .inl (fun j_ => nI (c j_)))), (od, .inl (cI, 78, .inl (fun j_ => nI (rd j_)))), (ow, .inl (cI, 468, .inl (fun j_ => nI ((nup (shF ww i) i ((shF ww i) (i + 78))) j_)))), (oi, .inl (cI, 32, .inl (fun j_ => nI (wi j_)))), (oe, .inl (cJ, 256, .inr (.inl EX))), (op, .inl (cJ, 256, .inr (.inl PA)))] rfl rfl (by omega) (by decide) (by rw [nup_I]; rfl) ?_
          refine g_iinc (v := (nI (i + 1))) 1 [(0, .ref o), (1, .int (nI (i + 1)))] [1, 0] (hd := dX7_keeps_33) (C := hX) rfl (nI_1 _) (by decide) rfl ?_
          refine g_goto 11 (hd := dX7_keeps_36) (C := hX) (by decide) ?_
          refine g_w [(o, .inr (7, [.int (nI len), .ref ot, .ref on, .ref od, .ref ow, .int (nI 6), .int (nI va), .int (nI en), .ref oi, .ref oe, .ref op, .long aE, .long aP, .long lt])), (ot, .inl (cI, 200, .inl (fun j_ => nI (T j_)))), (on, .inl (cI, 78, .inl (fun j_ => nI (c j_)))), (od, .inl (cI, 78, .inl (fun j_ => nI (rd j_)))), (ow, .inl (cI, 468, .inl (fun j_ => nI ((shF ww (i + 1)) j_)))), (oi, .inl (cI, 32, .inl (fun j_ => nI (wi j_)))), (oe, .inl (cJ, 256, .inr (.inl EX))), (op, .inl (cJ, 256, .inr (.inl PA)))] (by rw [sh_s]) ?_
          exact ih_11 (i + 1) (by omega) (by omega)
    refine g_w [(o, .inr (7, [.int (nI len), .ref ot, .ref on, .ref od, .ref ow, .int (nI 6), .int (nI va), .int (nI en), .ref oi, .ref oe, .ref op, .long aE, .long aP, .long lt])), (ot, .inl (cI, 200, .inl (fun j_ => nI (T j_)))), (on, .inl (cI, 78, .inl (fun j_ => nI (c j_)))), (od, .inl (cI, 78, .inl (fun j_ => nI (rd j_)))), (ow, .inl (cI, 468, .inl (fun j_ => nI ((shF ww 0) j_)))), (oi, .inl (cI, 32, .inl (fun j_ => nI (wi j_)))), (oe, .inl (cJ, 256, .inr (.inl EX))), (op, .inl (cJ, 256, .inr (.inl PA)))] (by rw [sh_0]) ?_
    exact L_11 _ 0 (Nat.lt_succ_self _) (by decide)

theorem in_X7_undo_7 : ∀ w ∈ wsX70, w ∈ wsX7_undo := fun _ h => List.mem_cons_of_mem _ (List.mem_append_right _ h)
theorem ok_X7_undo : gOK yX7_undo wsX7_undo ({ frames := 0, cells := 0, slots := 0, locals := 0 }) 2 0 := ⟨⟨_, _, _, rfl⟩, rfl, rfl, by decide, by decide, by decide +kernel⟩
set_option maxRecDepth 100000 in
set_option maxHeartbeats 4000000 in
theorem c_X7_undo (l : Launch) (D : va_G) (cC cI cJ cO : ClassId) (o : Nat) (ot : Nat) (on : Nat) (od : Nat) (ow : Nat) (oi : Nat) (oe : Nat) (op : Nat) (len : Nat) (ch : Nat) (va : Nat) (en : Nat) (aE : Int64) (aP : Int64) (lt : Int64) (T : Nat → Nat) (c : Nat → Nat) (rd : Nat → Nat) (ww : Nat → Nat) (wi : Nat → Nat) (EX : Nat → Int64) (PA : Nat → Int64) (hch : ch ≤ 6) : CM (S := Int32 × Nat × (Nat → Nat)) l D (tyL cC cI cJ cO) yX7_undo wsX7_undo ({ frames := 0, cells := 0, slots := 0, locals := 0 }) [.ref o] [(o, .inr (7, [.int (nI len), .ref ot, .ref on, .ref od, .ref ow, .int (nI ch), .int (nI va), .int (nI en), .ref oi, .ref oe, .ref op, .long aE, .long aP, .long lt])), (ot, .inl (cI, 200, .inl (fun j_ => nI (T j_)))), (on, .inl (cI, 78, .inl (fun j_ => nI (c j_)))), (od, .inl (cI, 78, .inl (fun j_ => nI (rd j_)))), (ow, .inl (cI, 468, .inl (fun j_ => nI (ww j_)))), (oi, .inl (cI, 32, .inl (fun j_ => nI (wi j_)))), (oe, .inl (cJ, 256, .inr (.inl EX))), (op, .inl (cJ, 256, .inr (.inl PA)))] (fun u => some (.int u.1)) (fun u => u = unS c ww ch) (fun u_ => [(o, .inr (7, [.int (nI len), .ref ot, .ref on, .ref od, .ref ow, .int (nI u_.2.1), .int (nI va), .int (nI en), .ref oi, .ref oe, .ref op, .long aE, .long aP, .long lt])), (ot, .inl (cI, 200, .inl (fun j_ => nI (T j_)))), (on, .inl (cI, 78, .inl (fun j_ => nI (u_.2.2 j_)))), (od, .inl (cI, 78, .inl (fun j_ => nI (rd j_)))), (ow, .inl (cI, 468, .inl (fun j_ => nI (ww j_)))), (oi, .inl (cI, 32, .inl (fun j_ => nI (wi j_)))), (oe, .inl (cJ, 256, .inr (.inl EX))), (op, .inl (cJ, 256, .inr (.inl PA)))]) := by
  refine CM_in (cc := cX7_undo) (maxL := 2) (ret := (some .int)) (by decide) rfl (Nat.le_of_ble_eq_true rfl) ?_
  intro X hX hret
  show GW X [(o, .inr (7, [.int (nI len), .ref ot, .ref on, .ref od, .ref ow, .int (nI ch), .int (nI va), .int (nI en), .ref oi, .ref oe, .ref op, .long aE, .long aP, .long lt])), (ot, .inl (cI, 200, .inl (fun j_ => nI (T j_)))), (on, .inl (cI, 78, .inl (fun j_ => nI (c j_)))), (od, .inl (cI, 78, .inl (fun j_ => nI (rd j_)))), (ow, .inl (cI, 468, .inl (fun j_ => nI (ww j_)))), (oi, .inl (cI, 32, .inl (fun j_ => nI (wi j_)))), (oe, .inl (cJ, 256, .inr (.inl EX))), (op, .inl (cJ, 256, .inr (.inl PA)))] [(0, .ref o)] [] 0 0 0
  refine g_aload_n 0 (hd := dX7_undo_0) (C := hX) rfl rfl ?_
  refine g_get (hd := dX7_undo_1) (C := hX) 0 5 rfl rfl in_X7_undo_7 (by decide) (by decide +kernel) rfl ?_
  refine g_if_neN 10 (hd := dX7_undo_4) (C := hX) (by decide) (by omega) (fun c_4 => ?_) (fun c_4 => ?_)
  · refine g_aload_n 0 (hd := dX7_undo_10) (C := hX) rfl rfl ?_
    refine g_dup hX dX7_undo_11 rfl ?_
    refine g_get (hd := dX7_undo_12) (C := hX) 0 5 rfl rfl in_X7_undo_7 (by decide) (by decide +kernel) rfl ?_
    refine g_iconst (v := nI 1) hX dX7_undo_15 (by decide) ?_
    refine g_isub hX dX7_undo_16 ?_
    refine g_top (y := (nI (ch - 1))) (pk_sub (by omega)) ?_
    refine g_put (hd := dX7_undo_17) (C := hX) 0 5 [(o, .inr (7, [.int (nI len), .ref ot, .ref on, .ref od, .ref ow, .int (nI (ch - 1)), .int (nI va), .int (nI en), .ref oi, .ref oe, .ref op, .long aE, .long aP, .long lt])), (ot, .inl (cI, 200, .inl (fun j_ => nI (T j_)))), (on, .inl (cI, 78, .inl (fun j_ => nI (c j_)))), (od, .inl (cI, 78, .inl (fun j_ => nI (rd j_)))), (ow, .inl (cI, 468, .inl (fun j_ => nI (ww j_)))), (oi, .inl (cI, 32, .inl (fun j_ => nI (wi j_)))), (oe, .inl (cJ, 256, .inr (.inl EX))), (op, .inl (cJ, 256, .inr (.inl PA)))] rfl rfl in_X7_undo_7 tyX7_ok nmX7 (by decide) (by decide +kernel) rfl rfl rfl (Nat.le_of_ble_eq_true rfl) rfl ?_
    refine g_iconst (v := nI 0) hX dX7_undo_20 (by decide) ?_
    refine g_istore_n [(0, .ref o), (1, .int (nI 0))] [1, 0] (hd := dX7_undo_21) (C := hX) rfl (by decide) rfl ?_
    have L_22 : ∀ (n_22 : Nat) (i : Nat), 78 - i < n_22 → (i ≤ 78) → GW X [(o, .inr (7, [.int (nI len), .ref ot, .ref on, .ref od, .ref ow, .int (nI (ch - 1)), .int (nI va), .int (nI en), .ref oi, .ref oe, .ref op, .long aE, .long aP, .long lt])), (ot, .inl (cI, 200, .inl (fun j_ => nI (T j_)))), (on, .inl (cI, 78, .inl (fun j_ => nI ((cuF c ww (78 * (ch - 1)) i) j_)))), (od, .inl (cI, 78, .inl (fun j_ => nI (rd j_)))), (ow, .inl (cI, 468, .inl (fun j_ => nI (ww j_)))), (oi, .inl (cI, 32, .inl (fun j_ => nI (wi j_)))), (oe, .inl (cJ, 256, .inr (.inl EX))), (op, .inl (cJ, 256, .inr (.inl PA)))] [(0, .ref o), (1, .int (nI i))] [] 22 0 0 := by
      intro n_22
      induction n_22 with
      | zero => intro i hm_22; exact absurd hm_22 (Nat.not_lt_zero _)
      | succ n_22 ih_22 =>
        intro i hm_22 hiL
        refine g_iload_n 1 (hd := dX7_undo_22) (C := hX) rfl rfl ?_
        refine g_bipush (v := nI 78) hX dX7_undo_23 (by decide) ?_
        refine g_icmp_geN 54 (hd := dX7_undo_25) (C := hX) (by decide) (by omega) (by omega) (fun c_25 => ?_) (fun c_25 => ?_)
        · refine g_aload_n 0 (hd := dX7_undo_54) (C := hX) rfl rfl ?_
          refine g_get (hd := dX7_undo_55) (C := hX) 0 5 rfl rfl in_X7_undo_7 (by decide) (by decide +kernel) rfl ?_
          exact (hret ((nI (ch - 1)), ch - 1, (cuF c ww (78 * (ch - 1)) i)) _ _ (by unfold unS; rw [if_neg c_4, show i = 78 from by omega])).2.1 _ rfl rfl dX7_undo_58
        · refine g_aload_n 0 (hd := dX7_undo_28) (C := hX) rfl rfl ?_
          refine g_get (hd := dX7_undo_29) (C := hX) 0 2 rfl rfl in_X7_undo_7 (by decide) (by decide +kernel) rfl ?_
          refine g_iload_n 1 (hd := dX7_undo_32) (C := hX) rfl rfl ?_
          refine g_aload_n 0 (hd := dX7_undo_33) (C := hX) rfl rfl ?_
          refine g_get (hd := dX7_undo_34) (C := hX) 0 4 rfl rfl in_X7_undo_7 (by decide) (by decide +kernel) rfl ?_
          refine g_bipush (v := nI 78) hX dX7_undo_37 (by decide) ?_
          refine g_aload_n 0 (hd := dX7_undo_39) (C := hX) rfl rfl ?_
          refine g_get (hd := dX7_undo_40) (C := hX) 0 5 rfl rfl in_X7_undo_7 (by decide) (by decide +kernel) rfl ?_
          refine g_imul hX dX7_undo_43 ?_
          refine g_top (y := (nI (78 * (ch - 1)))) (pk_mul _ _) ?_
          refine g_iload_n 1 (hd := dX7_undo_44) (C := hX) rfl rfl ?_
          refine g_iadd hX dX7_undo_45 ?_
          refine g_top (y := (nI ((78 * (ch - 1)) + i))) (nI_add _ _) ?_
          refine g_iald (hd := dX7_undo_46) (C := hX) 4 1 rfl rfl (by omega) (by decide) ?_
          refine g_iast (hd := dX7_undo_47) (C := hX) 2 1 [(o, .inr (7, [.int (nI len), .ref ot, .ref on, .ref od, .ref ow, .int (nI (ch - 1)), .int (nI va), .int (nI en), .ref oi, .ref oe, .ref op, .long aE, .long aP, .long lt])), (ot, .inl (cI, 200, .inl (fun j_ => nI (T j_)))), (on, .inl (cI, 78, .inl (fun j_ => nI ((nup (cuF c ww (78 * (ch - 1)) i) i (ww ((78 * (ch - 1)) + i))) j_)))), (od, .inl (cI, 78, .inl (fun j_ => nI (rd j_)))), (ow, .inl (cI, 468, .inl (fun j_ => nI (ww j_)))), (oi, .inl (cI, 32, .inl (fun j_ => nI (wi j_)))), (oe, .inl (cJ, 256, .inr (.inl EX))), (op, .inl (cJ, 256, .inr (.inl PA)))] rfl rfl (by omega) (by decide) (by rw [nup_I]; rfl) ?_
          refine g_iinc (v := (nI (i + 1))) 1 [(0, .ref o), (1, .int (nI (i + 1)))] [1, 0] (hd := dX7_undo_48) (C := hX) rfl (nI_1 _) (by decide) rfl ?_
          refine g_goto 22 (hd := dX7_undo_51) (C := hX) (by decide) ?_
          refine g_w [(o, .inr (7, [.int (nI len), .ref ot, .ref on, .ref od, .ref ow, .int (nI (ch - 1)), .int (nI va), .int (nI en), .ref oi, .ref oe, .ref op, .long aE, .long aP, .long lt])), (ot, .inl (cI, 200, .inl (fun j_ => nI (T j_)))), (on, .inl (cI, 78, .inl (fun j_ => nI ((cuF c ww (78 * (ch - 1)) (i + 1)) j_)))), (od, .inl (cI, 78, .inl (fun j_ => nI (rd j_)))), (ow, .inl (cI, 468, .inl (fun j_ => nI (ww j_)))), (oi, .inl (cI, 32, .inl (fun j_ => nI (wi j_)))), (oe, .inl (cJ, 256, .inr (.inl EX))), (op, .inl (cJ, 256, .inr (.inl PA)))] (by rw [cu_s]) ?_
          exact ih_22 (i + 1) (by omega) (by omega)
    refine g_w [(o, .inr (7, [.int (nI len), .ref ot, .ref on, .ref od, .ref ow, .int (nI (ch - 1)), .int (nI va), .int (nI en), .ref oi, .ref oe, .ref op, .long aE, .long aP, .long lt])), (ot, .inl (cI, 200, .inl (fun j_ => nI (T j_)))), (on, .inl (cI, 78, .inl (fun j_ => nI ((cuF c ww (78 * (ch - 1)) 0) j_)))), (od, .inl (cI, 78, .inl (fun j_ => nI (rd j_)))), (ow, .inl (cI, 468, .inl (fun j_ => nI (ww j_)))), (oi, .inl (cI, 32, .inl (fun j_ => nI (wi j_)))), (oe, .inl (cJ, 256, .inr (.inl EX))), (op, .inl (cJ, 256, .inr (.inl PA)))] (by rw [cu_0]) ?_
    exact L_22 _ 0 (Nat.lt_succ_self _) (by decide)
  · refine g_bipush (v := (-2)) hX dX7_undo_7 (by decide) ?_
    exact (hret ((-2), ch, c) _ _ (by unfold unS; rw [if_pos c_4])).2.1 _ rfl rfl dX7_undo_9
