theorem rdK_lt {T : Nat → Nat} {len : Nat} : ∀ (k p : Nat) (vs : List Nat) (e : Nat), rdK T len k p = some (vs, e) → (0 < k → p < e ∧ e ≤ len) ∧ (∀ j, vs.getD j 0 < 100) ∧ (k = 0 → e = p)
  | 0, p, vs, e, h => by
    simp only [rdK] at h
    cases h
    exact ⟨fun h => absurd h (by omega), fun j => by simp, fun _ => rfl⟩
  | c + 1, p, vs, e, h => by
    cases h1 : nmS T len p with
    | none => simp only [rdK, h1] at h; cases h
    | some vq =>
      obtain ⟨v, q⟩ := vq
      by_cases h2 : q < len ∧ T q = (if c = 0 then 59 else 44)
      · cases h3 : rdK T len c (q + 1) with
        | none =>
          have hh : rdK T len (c + 1) p = none := by simp only [rdK, h1]; rw [if_pos h2]; simp only [h3]
          rw [hh] at h; cases h
        | some z =>
          obtain ⟨us, e1⟩ := z
          have hh : rdK T len (c + 1) p = some (v :: us, e1) := by simp only [rdK, h1]; rw [if_pos h2]; simp only [h3]
          rw [hh] at h; cases h
          have a1 := nmS_lt h1
          have a2 := rdK_lt c (q + 1) us e h3
          refine ⟨fun _ => ?_, fun j => ?_, fun h => absurd h (by omega)⟩
          · rcases Nat.eq_zero_or_pos c with hc | hc
            · have := a2.2.2 hc
              have h4 := h2.1
              omega
            · have := a2.1 hc; omega
          · cases j with
            | zero => simp; omega
            | succ j => simpa using a2.2.1 j
      · have hh : rdK T len (c + 1) p = none := by simp only [rdK, h1]; rw [if_neg h2]
        rw [hh] at h; cases h

theorem in_X5_readFigure_5 : ∀ w ∈ wsX50, w ∈ wsX5_readFigure := fun _ h => List.mem_cons_of_mem _ (List.mem_append_right _ h)
theorem ok_X5_readFigure : gOK yX5_readFigure wsX5_readFigure ({ frames := 0, cells := 0, slots := 0, locals := 0 }) 2 0 := ⟨⟨_, _, _, rfl⟩, rfl, rfl, by decide, by decide, by decide +kernel⟩
set_option maxRecDepth 100000 in
set_option maxHeartbeats 4000000 in
theorem c_X5_readFigure (l : Launch) (D : va_G) (cC cI cJ cO : ClassId) (a : Nat) (la : Nat) (na : Nat) (len : Nat) (pl : Nat) (T : Nat → Nat) (G : Nat → Int32) (hp : pl ≤ 300) (hl : len ≤ 200) (hT : ∀ p, p < len → T p < 128) : CM (S := Int32 × Nat) l D (tyL cC cI cJ cO) yX5_readFigure wsX5_readFigure ({ frames := 0, cells := 0, slots := 0, locals := 0 }) [.ref a] [(a, .inr (5, [.ref la, .ref na, .int (nI len), .int (nI pl)])), (la, .inl (cC, 200, .inl (fun j_ => nI (T j_)))), (na, .inl (cI, 3, .inl G))] (fun u => some (.int u.1)) (fun u => (dg T len pl = true ∧ u = (nI (T pl - 48), pl + 1)) ∨ (dg T len pl = false ∧ u = ((-1), pl))) (fun u_ => [(a, .inr (5, [.ref la, .ref na, .int (nI len), .int (nI u_.2)])), (la, .inl (cC, 200, .inl (fun j_ => nI (T j_)))), (na, .inl (cI, 3, .inl G))]) := by
  refine CM_in (cc := cX5_readFigure) (maxL := 2) (ret := (some .int)) (by decide) rfl (Nat.le_of_ble_eq_true rfl) ?_
  intro X hX hret
  show GW X [(a, .inr (5, [.ref la, .ref na, .int (nI len), .int (nI pl)])), (la, .inl (cC, 200, .inl (fun j_ => nI (T j_)))), (na, .inl (cI, 3, .inl G))] [(0, .ref a)] [] 0 0 0
  refine g_aload_n 0 (hd := dX5_readFigure_0) (C := hX) rfl rfl ?_
  refine g_get (hd := dX5_readFigure_1) (C := hX) 0 3 rfl rfl in_X5_readFigure_5 (by decide) (by decide +kernel) rfl ?_
  refine g_aload_n 0 (hd := dX5_readFigure_4) (C := hX) rfl rfl ?_
  refine g_get (hd := dX5_readFigure_5) (C := hX) 0 2 rfl rfl in_X5_readFigure_5 (by decide) (by decide +kernel) rfl ?_
  refine g_icmp_geN 39 (hd := dX5_readFigure_8) (C := hX) (by decide) (by omega) (by omega) (fun c_8 => ?_) (fun c_8 => ?_)
  · refine g_iconst (v := (-1)) hX dX5_readFigure_39 (by decide) ?_
    exact (hret ((-1), pl) _ _ (by first | exact Or.inl ⟨dg_yes c_8 c_22 c_36, rfl⟩ | exact Or.inr ⟨dg_no (by omega), rfl⟩)).2.1 _ rfl rfl dX5_readFigure_40
  · have hq := hT pl (by omega)
    refine g_aload_n 0 (hd := dX5_readFigure_11) (C := hX) rfl rfl ?_
    refine g_get (hd := dX5_readFigure_12) (C := hX) 0 0 rfl rfl in_X5_readFigure_5 (by decide) (by decide +kernel) rfl ?_
    refine g_aload_n 0 (hd := dX5_readFigure_15) (C := hX) rfl rfl ?_
    refine g_get (hd := dX5_readFigure_16) (C := hX) 0 3 rfl rfl in_X5_readFigure_5 (by decide) (by decide +kernel) rfl ?_
    refine g_cald (hd := dX5_readFigure_19) (C := hX) 1 0 rfl rfl (by omega) (by decide) ?_
    refine g_bipush (v := nI 48) hX dX5_readFigure_20 (by decide) ?_
    refine g_icmp_ltN 39 (hd := dX5_readFigure_22) (C := hX) (by decide) (by omega) (by omega) (fun c_22 => ?_) (fun c_22 => ?_)
    · refine g_iconst (v := (-1)) hX dX5_readFigure_39 (by decide) ?_
      exact (hret ((-1), pl) _ _ (by first | exact Or.inl ⟨dg_yes c_8 c_22 c_36, rfl⟩ | exact Or.inr ⟨dg_no (by omega), rfl⟩)).2.1 _ rfl rfl dX5_readFigure_40
    · refine g_aload_n 0 (hd := dX5_readFigure_25) (C := hX) rfl rfl ?_
      refine g_get (hd := dX5_readFigure_26) (C := hX) 0 0 rfl rfl in_X5_readFigure_5 (by decide) (by decide +kernel) rfl ?_
      refine g_aload_n 0 (hd := dX5_readFigure_29) (C := hX) rfl rfl ?_
      refine g_get (hd := dX5_readFigure_30) (C := hX) 0 3 rfl rfl in_X5_readFigure_5 (by decide) (by decide +kernel) rfl ?_
      refine g_cald (hd := dX5_readFigure_33) (C := hX) 1 0 rfl rfl (by omega) (by decide) ?_
      refine g_bipush (v := nI 57) hX dX5_readFigure_34 (by decide) ?_
      refine g_icmp_leN 41 (hd := dX5_readFigure_36) (C := hX) (by decide) (by omega) (by omega) (fun c_36 => ?_) (fun c_36 => ?_)
      · refine g_aload_n 0 (hd := dX5_readFigure_41) (C := hX) rfl rfl ?_
        refine g_get (hd := dX5_readFigure_42) (C := hX) 0 0 rfl rfl in_X5_readFigure_5 (by decide) (by decide +kernel) rfl ?_
        refine g_aload_n 0 (hd := dX5_readFigure_45) (C := hX) rfl rfl ?_
        refine g_get (hd := dX5_readFigure_46) (C := hX) 0 3 rfl rfl in_X5_readFigure_5 (by decide) (by decide +kernel) rfl ?_
        refine g_cald (hd := dX5_readFigure_49) (C := hX) 1 0 rfl rfl (by omega) (by decide) ?_
        refine g_bipush (v := nI 48) hX dX5_readFigure_50 (by decide) ?_
        refine g_isub hX dX5_readFigure_52 ?_
        refine g_top (y := (nI ((T pl) - 48))) (pk_sub (by omega)) ?_
        refine g_istore_n [(0, .ref a), (1, .int (nI ((T pl) - 48)))] [1, 0] (hd := dX5_readFigure_53) (C := hX) rfl (by decide) rfl ?_
        refine g_aload_n 0 (hd := dX5_readFigure_54) (C := hX) rfl rfl ?_
        refine g_dup hX dX5_readFigure_55 rfl ?_
        refine g_get (hd := dX5_readFigure_56) (C := hX) 0 3 rfl rfl in_X5_readFigure_5 (by decide) (by decide +kernel) rfl ?_
        refine g_iconst (v := nI 1) hX dX5_readFigure_59 (by decide) ?_
        refine g_iadd hX dX5_readFigure_60 ?_
        refine g_top (y := (nI (pl + 1))) (nI_add _ _) ?_
        refine g_put (hd := dX5_readFigure_61) (C := hX) 0 3 [(a, .inr (5, [.ref la, .ref na, .int (nI len), .int (nI (pl + 1))])), (la, .inl (cC, 200, .inl (fun j_ => nI (T j_)))), (na, .inl (cI, 3, .inl G))] rfl rfl in_X5_readFigure_5 tyX5_ok nmX5 (by decide) (by decide +kernel) rfl rfl rfl (Nat.le_of_ble_eq_true rfl) rfl ?_
        refine g_iload_n 1 (hd := dX5_readFigure_64) (C := hX) rfl rfl ?_
        exact (hret ((nI ((T pl) - 48)), pl + 1) _ _ (by first | exact Or.inl ⟨dg_yes c_8 c_22 c_36, rfl⟩ | exact Or.inr ⟨dg_no (by omega), rfl⟩)).2.1 _ rfl rfl dX5_readFigure_65
      · refine g_iconst (v := (-1)) hX dX5_readFigure_39 (by decide) ?_
        exact (hret ((-1), pl) _ _ (by first | exact Or.inl ⟨dg_yes c_8 c_22 c_36, rfl⟩ | exact Or.inr ⟨dg_no (by omega), rfl⟩)).2.1 _ rfl rfl dX5_readFigure_40

theorem in_X5_readSign_5 : ∀ w ∈ wsX50, w ∈ wsX5_readSign := fun _ h => List.mem_cons_of_mem _ (List.mem_append_right _ h)
theorem ok_X5_readSign : gOK yX5_readSign wsX5_readSign ({ frames := 0, cells := 0, slots := 0, locals := 0 }) 2 1 := ⟨⟨_, _, _, rfl⟩, rfl, rfl, by decide, by decide, by decide +kernel⟩
set_option maxRecDepth 100000 in
set_option maxHeartbeats 4000000 in
theorem c_X5_readSign (l : Launch) (D : va_G) (cC cI cJ cO : ClassId) (a : Nat) (la : Nat) (na : Nat) (len : Nat) (pl : Nat) (T : Nat → Nat) (G : Nat → Int32) (sg : Nat) (hsg : sg < 128) (hp : pl ≤ 300) (hl : len ≤ 200) (hT : ∀ p, p < len → T p < 128) : CM (S := Int32 × Nat) l D (tyL cC cI cJ cO) yX5_readSign wsX5_readSign ({ frames := 0, cells := 0, slots := 0, locals := 0 }) [.ref a, .int (nI sg)] [(a, .inr (5, [.ref la, .ref na, .int (nI len), .int (nI pl)])), (la, .inl (cC, 200, .inl (fun j_ => nI (T j_)))), (na, .inl (cI, 3, .inl G))] (fun u => some (.int u.1)) (fun u => ((pl < len ∧ T pl = sg) ∧ u = (nI 1, pl + 1)) ∨ (¬ (pl < len ∧ T pl = sg) ∧ u = (nI 0, pl))) (fun u_ => [(a, .inr (5, [.ref la, .ref na, .int (nI len), .int (nI u_.2)])), (la, .inl (cC, 200, .inl (fun j_ => nI (T j_)))), (na, .inl (cI, 3, .inl G))]) := by
  refine CM_in (cc := cX5_readSign) (maxL := 2) (ret := (some .boolean)) (by decide) rfl (Nat.le_of_ble_eq_true rfl) ?_
  intro X hX hret
  show GW X [(a, .inr (5, [.ref la, .ref na, .int (nI len), .int (nI pl)])), (la, .inl (cC, 200, .inl (fun j_ => nI (T j_)))), (na, .inl (cI, 3, .inl G))] [(0, .ref a), (1, .int (nI sg))] [] 0 0 0
  refine g_aload_n 0 (hd := dX5_readSign_0) (C := hX) rfl rfl ?_
  refine g_get (hd := dX5_readSign_1) (C := hX) 0 3 rfl rfl in_X5_readSign_5 (by decide) (by decide +kernel) rfl ?_
  refine g_aload_n 0 (hd := dX5_readSign_4) (C := hX) rfl rfl ?_
  refine g_get (hd := dX5_readSign_5) (C := hX) 0 2 rfl rfl in_X5_readSign_5 (by decide) (by decide +kernel) rfl ?_
  refine g_icmp_geN 24 (hd := dX5_readSign_8) (C := hX) (by decide) (by omega) (by omega) (fun c_8 => ?_) (fun c_8 => ?_)
  · refine g_iconst (v := nI 0) hX dX5_readSign_24 (by decide) ?_
    exact (hret ((nI 0), pl) _ _ (by first | exact Or.inl ⟨⟨c_8, c_21⟩, rfl⟩ | exact Or.inr ⟨fun z => by omega, rfl⟩)).2.2.1 _ rfl rfl (by decide) dX5_readSign_25
  · have hq := hT pl (by omega)
    refine g_aload_n 0 (hd := dX5_readSign_11) (C := hX) rfl rfl ?_
    refine g_get (hd := dX5_readSign_12) (C := hX) 0 0 rfl rfl in_X5_readSign_5 (by decide) (by decide +kernel) rfl ?_
    refine g_aload_n 0 (hd := dX5_readSign_15) (C := hX) rfl rfl ?_
    refine g_get (hd := dX5_readSign_16) (C := hX) 0 3 rfl rfl in_X5_readSign_5 (by decide) (by decide +kernel) rfl ?_
    refine g_cald (hd := dX5_readSign_19) (C := hX) 1 0 rfl rfl (by omega) (by decide) ?_
    refine g_iload_n 1 (hd := dX5_readSign_20) (C := hX) rfl rfl ?_
    refine g_icmp_eqN 26 (hd := dX5_readSign_21) (C := hX) (by decide) (by omega) (by omega) (fun c_21 => ?_) (fun c_21 => ?_)
    · refine g_aload_n 0 (hd := dX5_readSign_26) (C := hX) rfl rfl ?_
      refine g_dup hX dX5_readSign_27 rfl ?_
      refine g_get (hd := dX5_readSign_28) (C := hX) 0 3 rfl rfl in_X5_readSign_5 (by decide) (by decide +kernel) rfl ?_
      refine g_iconst (v := nI 1) hX dX5_readSign_31 (by decide) ?_
      refine g_iadd hX dX5_readSign_32 ?_
      refine g_top (y := (nI (pl + 1))) (nI_add _ _) ?_
      refine g_put (hd := dX5_readSign_33) (C := hX) 0 3 [(a, .inr (5, [.ref la, .ref na, .int (nI len), .int (nI (pl + 1))])), (la, .inl (cC, 200, .inl (fun j_ => nI (T j_)))), (na, .inl (cI, 3, .inl G))] rfl rfl in_X5_readSign_5 tyX5_ok nmX5 (by decide) (by decide +kernel) rfl rfl rfl (Nat.le_of_ble_eq_true rfl) rfl ?_
      refine g_iconst (v := nI 1) hX dX5_readSign_36 (by decide) ?_
      exact (hret ((nI 1), pl + 1) _ _ (by first | exact Or.inl ⟨⟨c_8, c_21⟩, rfl⟩ | exact Or.inr ⟨fun z => by omega, rfl⟩)).2.2.1 _ rfl rfl (by decide) dX5_readSign_37
    · refine g_iconst (v := nI 0) hX dX5_readSign_24 (by decide) ?_
      exact (hret ((nI 0), pl) _ _ (by first | exact Or.inl ⟨⟨c_8, c_21⟩, rfl⟩ | exact Or.inr ⟨fun z => by omega, rfl⟩)).2.2.1 _ rfl rfl (by decide) dX5_readSign_25

theorem in_X5_readNumber_5 : ∀ w ∈ wsX50, w ∈ wsX5_readNumber := fun _ h => List.mem_cons_of_mem _ (List.mem_append_right _ h)
theorem ok_X5_readNumber : gOK yX5_readNumber wsX5_readNumber ({ frames := 1, cells := 0, slots := 0, locals := 21 }) 3 0 := ⟨⟨_, _, _, rfl⟩, rfl, rfl, by decide, by decide, by decide +kernel⟩
set_option maxRecDepth 100000 in
set_option maxHeartbeats 4000000 in
theorem c_X5_readNumber (l : Launch) (D : va_G) (cC cI cJ cO : ClassId) (a : Nat) (la : Nat) (na : Nat) (len : Nat) (pl : Nat) (T : Nat → Nat) (G : Nat → Int32) (hp : pl ≤ 300) (hl : len ≤ 200) (hT : ∀ p, p < len → T p < 128) : CM (S := Int32 × Nat) l D (tyL cC cI cJ cO) yX5_readNumber wsX5_readNumber ({ frames := 1, cells := 0, slots := 0, locals := 21 }) [.ref a] [(a, .inr (5, [.ref la, .ref na, .int (nI len), .int (nI pl)])), (la, .inl (cC, 200, .inl (fun j_ => nI (T j_)))), (na, .inl (cI, 3, .inl G))] (fun u => some (.int u.1)) (fun u => (∃ v q, nmS T len pl = some (v, q) ∧ u = (nI v, q)) ∨ (nmS T len pl = none ∧ u = ((-1), pl))) (fun u_ => [(a, .inr (5, [.ref la, .ref na, .int (nI len), .int (nI u_.2)])), (la, .inl (cC, 200, .inl (fun j_ => nI (T j_)))), (na, .inl (cI, 3, .inl G))]) := by
  refine CM_in (cc := cX5_readNumber) (maxL := 3) (ret := (some .int)) (by decide) rfl (Nat.le_of_ble_eq_true rfl) ?_
  intro X hX hret
  show GW X [(a, .inr (5, [.ref la, .ref na, .int (nI len), .int (nI pl)])), (la, .inl (cC, 200, .inl (fun j_ => nI (T j_)))), (na, .inl (cI, 3, .inl G))] [(0, .ref a)] [] 0 0 0
  refine g_aload_n 0 (hd := dX5_readNumber_0) (C := hX) rfl rfl ?_
  refine g_callV (rest := []) hX (c_X5_readFigure l D cC cI cJ cO a la na len pl T G (by omega) hl hT) ok_X5_readFigure rfl 0 rfl rfl (fun _ => rfl) (hd := dX5_readNumber_1) gX5_readNumber_X5_readFigure ⟨by decide, by decide⟩ rfl (Nat.le_of_ble_eq_true rfl) ⟨Nat.zero_le _, Nat.zero_le _⟩ [0, 1, 2] (by decide) rfl rfl ?_
  intro ⟨r_1, q_1⟩ e_1
  rcases e_1 with ⟨p_1, e_1⟩ | ⟨p_1, e_1⟩ <;> cases e_1
  · show GW X [(a, .inr (5, [.ref la, .ref na, .int (nI len), .int (nI (pl + 1))])), (la, .inl (cC, 200, .inl (fun j_ => nI (T j_)))), (na, .inl (cI, 3, .inl G))] [(0, .ref a)] [.int (nI (T pl - 48))] 4 0 0
    refine g_istore_n [(0, .ref a), (1, .int (nI (T pl - 48)))] [1, 0] (hd := dX5_readNumber_4) (C := hX) rfl (by decide) rfl ?_
    have hq1 := dg_le p_1
    refine g_iload_n 1 (hd := dX5_readNumber_5) (C := hX) rfl rfl ?_
    refine g_iconst (v := (-1)) hX dX5_readNumber_6 (by decide) ?_
    refine g_icmp_ne 12 (hd := dX5_readNumber_7) (C := hX) (by decide) (fun c_7 => ?_) (fun c_7 => absurd c_7 (nI_neg (by decide) (by omega)))
    refine g_aload_n 0 (hd := dX5_readNumber_12) (C := hX) rfl rfl ?_
    refine g_callV (rest := []) hX (c_X5_readFigure l D cC cI cJ cO a la na len (pl + 1) T G (by omega) hl hT) ok_X5_readFigure rfl 0 rfl rfl (fun _ => rfl) (hd := dX5_readNumber_13) gX5_readNumber_X5_readFigure ⟨by decide, by decide⟩ rfl (Nat.le_of_ble_eq_true rfl) ⟨Nat.zero_le _, Nat.zero_le _⟩ [0, 1, 2] (by decide) rfl rfl ?_
    intro ⟨r_13, q_13⟩ e_13
    rcases e_13 with ⟨p_13, e_13⟩ | ⟨p_13, e_13⟩ <;> cases e_13
    · show GW X [(a, .inr (5, [.ref la, .ref na, .int (nI len), .int (nI (pl + 1 + 1))])), (la, .inl (cC, 200, .inl (fun j_ => nI (T j_)))), (na, .inl (cI, 3, .inl G))] [(0, .ref a), (1, .int (nI (T pl - 48)))] [.int (nI (T (pl + 1) - 48))] 16 0 0
      refine g_istore_n [(0, .ref a), (1, .int (nI (T pl - 48))), (2, .int (nI (T (pl + 1) - 48)))] [1, 2, 0] (hd := dX5_readNumber_16) (C := hX) rfl (by decide) rfl ?_
      have hq2 := dg_le p_13
      refine g_iload_n 2 (hd := dX5_readNumber_17) (C := hX) rfl rfl ?_
      refine g_iconst (v := (-1)) hX dX5_readNumber_18 (by decide) ?_
      refine g_icmp_ne 26 (hd := dX5_readNumber_19) (C := hX) (by decide) (fun c_19 => ?_) (fun c_19 => absurd c_19 (nI_neg (by decide) (by omega)))
      refine g_bipush (v := nI 10) hX dX5_readNumber_26 (by decide) ?_
      refine g_iload_n 1 (hd := dX5_readNumber_28) (C := hX) rfl rfl ?_
      refine g_imul hX dX5_readNumber_29 ?_
      refine g_top (y := (nI (10 * (T pl - 48)))) (pk_mul _ _) ?_
      refine g_iload_n 2 (hd := dX5_readNumber_30) (C := hX) rfl rfl ?_
      refine g_iadd hX dX5_readNumber_31 ?_
      refine g_top (y := (nI ((10 * (T pl - 48)) + (T (pl + 1) - 48)))) (nI_add _ _) ?_
      exact (hret ((nI ((10 * (T pl - 48)) + (T (pl + 1) - 48))), pl + 1 + 1) _ _ (Or.inl ⟨_, _, by simp [nmS, p_1, p_13], rfl⟩)).2.1 _ rfl rfl dX5_readNumber_32
    · show GW X [(a, .inr (5, [.ref la, .ref na, .int (nI len), .int (nI (pl + 1))])), (la, .inl (cC, 200, .inl (fun j_ => nI (T j_)))), (na, .inl (cI, 3, .inl G))] [(0, .ref a), (1, .int (nI (T pl - 48)))] [.int (-1)] 16 0 0
      refine g_istore_n [(0, .ref a), (1, .int (nI (T pl - 48))), (2, .int (-1))] [1, 2, 0] (hd := dX5_readNumber_16) (C := hX) rfl (by decide) rfl ?_
      refine g_iload_n 2 (hd := dX5_readNumber_17) (C := hX) rfl rfl ?_
      refine g_iconst (v := (-1)) hX dX5_readNumber_18 (by decide) ?_
      refine g_icmp_ne 26 (hd := dX5_readNumber_19) (C := hX) (by decide) (fun c_19 => absurd c_19 (by decide)) (fun c_19 => ?_)
      refine g_iload_n 1 (hd := dX5_readNumber_22) (C := hX) rfl rfl ?_
      refine g_goto 32 (hd := dX5_readNumber_23) (C := hX) (by decide) ?_
      exact (hret ((nI (T pl - 48)), pl + 1) _ _ (Or.inl ⟨_, _, by simp [nmS, p_1, p_13], rfl⟩)).2.1 _ rfl rfl dX5_readNumber_32
  · show GW X [(a, .inr (5, [.ref la, .ref na, .int (nI len), .int (nI pl)])), (la, .inl (cC, 200, .inl (fun j_ => nI (T j_)))), (na, .inl (cI, 3, .inl G))] [(0, .ref a)] [.int (-1)] 4 0 0
    refine g_istore_n [(0, .ref a), (1, .int (-1))] [1, 0] (hd := dX5_readNumber_4) (C := hX) rfl (by decide) rfl ?_
    refine g_iload_n 1 (hd := dX5_readNumber_5) (C := hX) rfl rfl ?_
    refine g_iconst (v := (-1)) hX dX5_readNumber_6 (by decide) ?_
    refine g_icmp_ne 12 (hd := dX5_readNumber_7) (C := hX) (by decide) (fun c_7 => absurd c_7 (by decide)) (fun c_7 => ?_)
    refine g_iconst (v := (-1)) hX dX5_readNumber_10 (by decide) ?_
    exact (hret ((-1), pl) _ _ (Or.inr ⟨by simp [nmS, p_1], rfl⟩)).2.1 _ rfl rfl dX5_readNumber_11

theorem in_X5_readNumbers_5 : ∀ w ∈ wsX50, w ∈ wsX5_readNumbers := fun _ h => List.mem_cons_of_mem _ (List.mem_append_right _ h)
theorem ok_X5_readNumbers : gOK yX5_readNumbers wsX5_readNumbers ({ frames := 2, cells := 0, slots := 0, locals := 43 }) 4 1 := ⟨⟨_, _, _, rfl⟩, rfl, rfl, by decide, by decide, by decide +kernel⟩
set_option maxRecDepth 100000 in
set_option maxHeartbeats 4000000 in
theorem c_X5_readNumbers (l : Launch) (D : va_G) (cC cI cJ cO : ClassId) (a : Nat) (la : Nat) (na : Nat) (len : Nat) (pl : Nat) (T : Nat → Nat) (G : Nat → Int32) (kk : Nat) (hk : kk = 1 ∨ kk = 2 ∨ kk = 3) (hp : pl ≤ 300) (hl : len ≤ 200) (hT : ∀ p, p < len → T p < 128) : CM (S := Int32 × Nat × (Nat → Int32)) l D (tyL cC cI cJ cO) yX5_readNumbers wsX5_readNumbers ({ frames := 2, cells := 0, slots := 0, locals := 43 }) [.ref a, .int (nI kk)] [(a, .inr (5, [.ref la, .ref na, .int (nI len), .int (nI pl)])), (la, .inl (cC, 200, .inl (fun j_ => nI (T j_)))), (na, .inl (cI, 3, .inl G))] (fun u => some (.int u.1)) (fun u => (∃ vs e, rdK T len kk pl = some (vs, e) ∧ u.1 = nI 1 ∧ u.2.1 = e ∧ ∀ j, j < kk → u.2.2 j = nI (vs.getD j 0)) ∨ (rdK T len kk pl = none ∧ u.1 = nI 0)) (fun u_ => [(a, .inr (5, [.ref la, .ref na, .int (nI len), .int (nI u_.2.1)])), (la, .inl (cC, 200, .inl (fun j_ => nI (T j_)))), (na, .inl (cI, 3, .inl u_.2.2))]) := by
  refine CM_in (cc := cX5_readNumbers) (maxL := 4) (ret := (some .boolean)) (by decide) rfl (Nat.le_of_ble_eq_true rfl) ?_
  intro X hX hret
  show GW X [(a, .inr (5, [.ref la, .ref na, .int (nI len), .int (nI pl)])), (la, .inl (cC, 200, .inl (fun j_ => nI (T j_)))), (na, .inl (cI, 3, .inl G))] [(0, .ref a), (1, .int (nI kk))] [] 0 0 0
  rcases hk with rfl | rfl | rfl
  · refine g_iconst (v := nI 0) hX dX5_readNumbers_0 (by decide) ?_
    refine g_istore_n [(0, .ref a), (1, .int (nI 1)), (2, .int (nI 0))] [1, 2, 0] (hd := dX5_readNumbers_1) (C := hX) rfl (by decide) rfl ?_
    refine g_iload_n 2 (hd := dX5_readNumbers_2) (C := hX) rfl rfl ?_
    refine g_iload_n 1 (hd := dX5_readNumbers_3) (C := hX) rfl rfl ?_
    refine g_icmp_geN 58 (hd := dX5_readNumbers_4) (C := hX) (by decide) (by decide) (by decide) (fun c_4 => absurd c_4 (by decide)) (fun c_4 => ?_)
    refine g_aload_n 0 (hd := dX5_readNumbers_7) (C := hX) rfl rfl ?_
    refine g_get (hd := dX5_readNumbers_8) (C := hX) 0 1 rfl rfl in_X5_readNumbers_5 (by decide) (by decide +kernel) rfl ?_
    refine g_iload_n 2 (hd := dX5_readNumbers_11) (C := hX) rfl rfl ?_
    refine g_aload_n 0 (hd := dX5_readNumbers_12) (C := hX) rfl rfl ?_
    refine g_callV (rest := [.int (nI 0), .ref na]) hX (c_X5_readNumber l D cC cI cJ cO a la na len pl T G (by omega) hl hT) ok_X5_readNumber rfl 0 rfl rfl (fun _ => rfl) (hd := dX5_readNumbers_13) gX5_readNumbers_X5_readNumber ⟨by decide, by decide⟩ rfl (Nat.le_of_ble_eq_true rfl) ⟨Nat.zero_le _, Nat.zero_le _⟩ [0, 1, 2] (by decide) rfl rfl ?_
    intro ⟨r_13_0, q_13_0⟩ e_13_0
    rcases e_13_0 with ⟨v_13_0, z_13_0, p_13_0, e_13_0⟩ | ⟨p_13_0, e_13_0⟩ <;> cases e_13_0
    · show GW X [(a, .inr (5, [.ref la, .ref na, .int (nI len), .int (nI q_13_0)])), (la, .inl (cC, 200, .inl (fun j_ => nI (T j_)))), (na, .inl (cI, 3, .inl G))] [(0, .ref a), (1, .int (nI 1)), (2, .int (nI 0))] [.int (nI v_13_0), .int (nI 0), .ref na] 16 0 0
      have hz_0 := nmS_lt p_13_0
      refine g_iast (hd := dX5_readNumbers_16) (C := hX) 2 1 [(a, .inr (5, [.ref la, .ref na, .int (nI len), .int (nI q_13_0)])), (la, .inl (cC, 200, .inl (fun j_ => nI (T j_)))), (na, .inl (cI, 3, .inl (upd G 0 (nI v_13_0))))] rfl rfl (by decide) (by decide) rfl ?_
      refine g_iload_n 2 (hd := dX5_readNumbers_17) (C := hX) rfl rfl ?_
      refine g_iconst (v := nI 1) hX dX5_readNumbers_18 (by decide) ?_
      refine g_iadd hX dX5_readNumbers_19 ?_
      refine g_top (y := (nI 1)) (by decide) ?_
      refine g_iload_n 1 (hd := dX5_readNumbers_20) (C := hX) rfl rfl ?_
      refine g_icmp_geN 29 (hd := dX5_readNumbers_21) (C := hX) (by decide) (by decide) (by decide) (fun c_21 => ?_) (fun c_21 => absurd c_21 (by decide))
      refine g_bipush (v := nI 59) hX dX5_readNumbers_29 (by decide) ?_
      refine g_istore_n [(0, .ref a), (1, .int (nI 1)), (2, .int (nI 0)), (3, .int (nI 59))] [1, 2, 3, 0] (hd := dX5_readNumbers_31) (C := hX) rfl (by decide) rfl ?_
      refine g_aload_n 0 (hd := dX5_readNumbers_32) (C := hX) rfl rfl ?_
      refine g_get (hd := dX5_readNumbers_33) (C := hX) 0 1 rfl rfl in_X5_readNumbers_5 (by decide) (by decide +kernel) rfl ?_
      refine g_iload_n 2 (hd := dX5_readNumbers_36) (C := hX) rfl rfl ?_
      refine g_iald (hd := dX5_readNumbers_37) (C := hX) 2 1 rfl rfl (by decide) (by decide) ?_
      refine g_top (y := (nI v_13_0)) pk_us ?_
      refine g_iconst (v := (-1)) hX dX5_readNumbers_38 (by decide) ?_
      refine g_icmp_eq 50 (hd := dX5_readNumbers_39) (C := hX) (by decide) (fun c_39 => absurd c_39 (nI_neg (by decide) (by omega))) (fun c_39 => ?_)
      refine g_aload_n 0 (hd := dX5_readNumbers_42) (C := hX) rfl rfl ?_
      refine g_iload_n 3 (hd := dX5_readNumbers_43) (C := hX) rfl rfl ?_
      refine g_callV (rest := []) hX (c_X5_readSign l D cC cI cJ cO a la na len q_13_0 T (upd G 0 (nI v_13_0)) 59 (by omega) (by omega) hl hT) ok_X5_readSign rfl 0 rfl rfl (fun _ => rfl) (hd := dX5_readNumbers_44) gX5_readNumbers_X5_readSign ⟨by decide, by decide⟩ rfl (Nat.le_of_ble_eq_true rfl) ⟨Nat.zero_le _, Nat.zero_le _⟩ [0, 1, 2] (by decide) rfl rfl ?_
      intro ⟨r_44_0, q_44_0⟩ e_44_0
      rcases e_44_0 with ⟨p_44_0, e_44_0⟩ | ⟨p_44_0, e_44_0⟩ <;> cases e_44_0
      · show GW X [(a, .inr (5, [.ref la, .ref na, .int (nI len), .int (nI (q_13_0 + 1))])), (la, .inl (cC, 200, .inl (fun j_ => nI (T j_)))), (na, .inl (cI, 3, .inl (upd G 0 (nI v_13_0))))] [(0, .ref a), (1, .int (nI 1)), (2, .int (nI 0)), (3, .int (nI 59))] [.int (nI 1)] 47 0 0
        refine g_if_neN 52 (hd := dX5_readNumbers_47) (C := hX) (by decide) (by decide) (fun c_47 => ?_) (fun c_47 => absurd c_47 (by decide))
        refine g_iinc (v := (nI 1)) 2 [(0, .ref a), (1, .int (nI 1)), (2, .int (nI 1)), (3, .int (nI 59))] [1, 2, 0, 3] (hd := dX5_readNumbers_52) (C := hX) rfl (by decide) (by decide) rfl ?_
        refine g_goto 2 (hd := dX5_readNumbers_55) (C := hX) (by decide) ?_
        refine g_iload_n 2 (hd := dX5_readNumbers_2) (C := hX) rfl rfl ?_
        refine g_iload_n 1 (hd := dX5_readNumbers_3) (C := hX) rfl rfl ?_
        refine g_icmp_geN 58 (hd := dX5_readNumbers_4) (C := hX) (by decide) (by decide) (by decide) (fun c_4 => ?_) (fun c_4 => absurd c_4 (by decide))
        refine g_iconst (v := nI 1) hX dX5_readNumbers_58 (by decide) ?_
        exact (hret ((nI 1), q_13_0 + 1, (upd G 0 (nI v_13_0))) _ _ (Or.inl ⟨[v_13_0], q_13_0 + 1, by simp [rdK, p_13_0, p_44_0], rfl, rfl, by intro j hj; rcases (show j = 0 by omega) with rfl <;> simp [upd]⟩)).2.2.1 _ rfl rfl (by decide) dX5_readNumbers_59
      · show GW X [(a, .inr (5, [.ref la, .ref na, .int (nI len), .int (nI q_13_0)])), (la, .inl (cC, 200, .inl (fun j_ => nI (T j_)))), (na, .inl (cI, 3, .inl (upd G 0 (nI v_13_0))))] [(0, .ref a), (1, .int (nI 1)), (2, .int (nI 0)), (3, .int (nI 59))] [.int (nI 0)] 47 0 0
        refine g_if_neN 52 (hd := dX5_readNumbers_47) (C := hX) (by decide) (by decide) (fun c_47 => absurd c_47 (by decide)) (fun c_47 => ?_)
        refine g_iconst (v := nI 0) hX dX5_readNumbers_50 (by decide) ?_
        exact (hret ((nI 0), q_13_0, (upd G 0 (nI v_13_0))) _ _ (Or.inr ⟨by simp [rdK, p_13_0, p_44_0], rfl⟩)).2.2.1 _ rfl rfl (by decide) dX5_readNumbers_51
    · show GW X [(a, .inr (5, [.ref la, .ref na, .int (nI len), .int (nI pl)])), (la, .inl (cC, 200, .inl (fun j_ => nI (T j_)))), (na, .inl (cI, 3, .inl G))] [(0, .ref a), (1, .int (nI 1)), (2, .int (nI 0))] [.int (-1), .int (nI 0), .ref na] 16 0 0
      refine g_iast (hd := dX5_readNumbers_16) (C := hX) 2 1 [(a, .inr (5, [.ref la, .ref na, .int (nI len), .int (nI pl)])), (la, .inl (cC, 200, .inl (fun j_ => nI (T j_)))), (na, .inl (cI, 3, .inl (upd G 0 (-1))))] rfl rfl (by decide) (by decide) rfl ?_
      refine g_iload_n 2 (hd := dX5_readNumbers_17) (C := hX) rfl rfl ?_
      refine g_iconst (v := nI 1) hX dX5_readNumbers_18 (by decide) ?_
      refine g_iadd hX dX5_readNumbers_19 ?_
      refine g_top (y := (nI 1)) (by decide) ?_
      refine g_iload_n 1 (hd := dX5_readNumbers_20) (C := hX) rfl rfl ?_
      refine g_icmp_geN 29 (hd := dX5_readNumbers_21) (C := hX) (by decide) (by decide) (by decide) (fun c_21 => ?_) (fun c_21 => absurd c_21 (by decide))
      refine g_bipush (v := nI 59) hX dX5_readNumbers_29 (by decide) ?_
      refine g_istore_n [(0, .ref a), (1, .int (nI 1)), (2, .int (nI 0)), (3, .int (nI 59))] [1, 2, 3, 0] (hd := dX5_readNumbers_31) (C := hX) rfl (by decide) rfl ?_
      refine g_aload_n 0 (hd := dX5_readNumbers_32) (C := hX) rfl rfl ?_
      refine g_get (hd := dX5_readNumbers_33) (C := hX) 0 1 rfl rfl in_X5_readNumbers_5 (by decide) (by decide +kernel) rfl ?_
      refine g_iload_n 2 (hd := dX5_readNumbers_36) (C := hX) rfl rfl ?_
      refine g_iald (hd := dX5_readNumbers_37) (C := hX) 2 1 rfl rfl (by decide) (by decide) ?_
      refine g_top (y := (-1)) pk_us ?_
      refine g_iconst (v := (-1)) hX dX5_readNumbers_38 (by decide) ?_
      refine g_icmp_eq 50 (hd := dX5_readNumbers_39) (C := hX) (by decide) (fun c_39 => ?_) (fun c_39 => absurd c_39 (by decide))
      refine g_iconst (v := nI 0) hX dX5_readNumbers_50 (by decide) ?_
      exact (hret ((nI 0), pl, (upd G 0 (-1))) _ _ (Or.inr ⟨by simp [rdK, p_13_0], rfl⟩)).2.2.1 _ rfl rfl (by decide) dX5_readNumbers_51
  · refine g_iconst (v := nI 0) hX dX5_readNumbers_0 (by decide) ?_
    refine g_istore_n [(0, .ref a), (1, .int (nI 2)), (2, .int (nI 0))] [1, 2, 0] (hd := dX5_readNumbers_1) (C := hX) rfl (by decide) rfl ?_
    refine g_iload_n 2 (hd := dX5_readNumbers_2) (C := hX) rfl rfl ?_
    refine g_iload_n 1 (hd := dX5_readNumbers_3) (C := hX) rfl rfl ?_
    refine g_icmp_geN 58 (hd := dX5_readNumbers_4) (C := hX) (by decide) (by decide) (by decide) (fun c_4 => absurd c_4 (by decide)) (fun c_4 => ?_)
    refine g_aload_n 0 (hd := dX5_readNumbers_7) (C := hX) rfl rfl ?_
    refine g_get (hd := dX5_readNumbers_8) (C := hX) 0 1 rfl rfl in_X5_readNumbers_5 (by decide) (by decide +kernel) rfl ?_
    refine g_iload_n 2 (hd := dX5_readNumbers_11) (C := hX) rfl rfl ?_
    refine g_aload_n 0 (hd := dX5_readNumbers_12) (C := hX) rfl rfl ?_
    refine g_callV (rest := [.int (nI 0), .ref na]) hX (c_X5_readNumber l D cC cI cJ cO a la na len pl T G (by omega) hl hT) ok_X5_readNumber rfl 0 rfl rfl (fun _ => rfl) (hd := dX5_readNumbers_13) gX5_readNumbers_X5_readNumber ⟨by decide, by decide⟩ rfl (Nat.le_of_ble_eq_true rfl) ⟨Nat.zero_le _, Nat.zero_le _⟩ [0, 1, 2] (by decide) rfl rfl ?_
    intro ⟨r_13_0, q_13_0⟩ e_13_0
    rcases e_13_0 with ⟨v_13_0, z_13_0, p_13_0, e_13_0⟩ | ⟨p_13_0, e_13_0⟩ <;> cases e_13_0
    · show GW X [(a, .inr (5, [.ref la, .ref na, .int (nI len), .int (nI q_13_0)])), (la, .inl (cC, 200, .inl (fun j_ => nI (T j_)))), (na, .inl (cI, 3, .inl G))] [(0, .ref a), (1, .int (nI 2)), (2, .int (nI 0))] [.int (nI v_13_0), .int (nI 0), .ref na] 16 0 0
      have hz_0 := nmS_lt p_13_0
      refine g_iast (hd := dX5_readNumbers_16) (C := hX) 2 1 [(a, .inr (5, [.ref la, .ref na, .int (nI len), .int (nI q_13_0)])), (la, .inl (cC, 200, .inl (fun j_ => nI (T j_)))), (na, .inl (cI, 3, .inl (upd G 0 (nI v_13_0))))] rfl rfl (by decide) (by decide) rfl ?_
      refine g_iload_n 2 (hd := dX5_readNumbers_17) (C := hX) rfl rfl ?_
      refine g_iconst (v := nI 1) hX dX5_readNumbers_18 (by decide) ?_
      refine g_iadd hX dX5_readNumbers_19 ?_
      refine g_top (y := (nI 1)) (by decide) ?_
      refine g_iload_n 1 (hd := dX5_readNumbers_20) (C := hX) rfl rfl ?_
      refine g_icmp_geN 29 (hd := dX5_readNumbers_21) (C := hX) (by decide) (by decide) (by decide) (fun c_21 => absurd c_21 (by decide)) (fun c_21 => ?_)
      refine g_bipush (v := nI 44) hX dX5_readNumbers_24 (by decide) ?_
      refine g_goto 31 (hd := dX5_readNumbers_26) (C := hX) (by decide) ?_
      refine g_istore_n [(0, .ref a), (1, .int (nI 2)), (2, .int (nI 0)), (3, .int (nI 44))] [1, 2, 3, 0] (hd := dX5_readNumbers_31) (C := hX) rfl (by decide) rfl ?_
      refine g_aload_n 0 (hd := dX5_readNumbers_32) (C := hX) rfl rfl ?_
      refine g_get (hd := dX5_readNumbers_33) (C := hX) 0 1 rfl rfl in_X5_readNumbers_5 (by decide) (by decide +kernel) rfl ?_
      refine g_iload_n 2 (hd := dX5_readNumbers_36) (C := hX) rfl rfl ?_
      refine g_iald (hd := dX5_readNumbers_37) (C := hX) 2 1 rfl rfl (by decide) (by decide) ?_
      refine g_top (y := (nI v_13_0)) pk_us ?_
      refine g_iconst (v := (-1)) hX dX5_readNumbers_38 (by decide) ?_
      refine g_icmp_eq 50 (hd := dX5_readNumbers_39) (C := hX) (by decide) (fun c_39 => absurd c_39 (nI_neg (by decide) (by omega))) (fun c_39 => ?_)
      refine g_aload_n 0 (hd := dX5_readNumbers_42) (C := hX) rfl rfl ?_
      refine g_iload_n 3 (hd := dX5_readNumbers_43) (C := hX) rfl rfl ?_
      refine g_callV (rest := []) hX (c_X5_readSign l D cC cI cJ cO a la na len q_13_0 T (upd G 0 (nI v_13_0)) 44 (by omega) (by omega) hl hT) ok_X5_readSign rfl 0 rfl rfl (fun _ => rfl) (hd := dX5_readNumbers_44) gX5_readNumbers_X5_readSign ⟨by decide, by decide⟩ rfl (Nat.le_of_ble_eq_true rfl) ⟨Nat.zero_le _, Nat.zero_le _⟩ [0, 1, 2] (by decide) rfl rfl ?_
      intro ⟨r_44_0, q_44_0⟩ e_44_0
      rcases e_44_0 with ⟨p_44_0, e_44_0⟩ | ⟨p_44_0, e_44_0⟩ <;> cases e_44_0
      · show GW X [(a, .inr (5, [.ref la, .ref na, .int (nI len), .int (nI (q_13_0 + 1))])), (la, .inl (cC, 200, .inl (fun j_ => nI (T j_)))), (na, .inl (cI, 3, .inl (upd G 0 (nI v_13_0))))] [(0, .ref a), (1, .int (nI 2)), (2, .int (nI 0)), (3, .int (nI 44))] [.int (nI 1)] 47 0 0
        refine g_if_neN 52 (hd := dX5_readNumbers_47) (C := hX) (by decide) (by decide) (fun c_47 => ?_) (fun c_47 => absurd c_47 (by decide))
        refine g_iinc (v := (nI 1)) 2 [(0, .ref a), (1, .int (nI 2)), (2, .int (nI 1)), (3, .int (nI 44))] [1, 2, 0, 3] (hd := dX5_readNumbers_52) (C := hX) rfl (by decide) (by decide) rfl ?_
        refine g_goto 2 (hd := dX5_readNumbers_55) (C := hX) (by decide) ?_
        refine g_iload_n 2 (hd := dX5_readNumbers_2) (C := hX) rfl rfl ?_
        refine g_iload_n 1 (hd := dX5_readNumbers_3) (C := hX) rfl rfl ?_
        refine g_icmp_geN 58 (hd := dX5_readNumbers_4) (C := hX) (by decide) (by decide) (by decide) (fun c_4 => absurd c_4 (by decide)) (fun c_4 => ?_)
        refine g_aload_n 0 (hd := dX5_readNumbers_7) (C := hX) rfl rfl ?_
        refine g_get (hd := dX5_readNumbers_8) (C := hX) 0 1 rfl rfl in_X5_readNumbers_5 (by decide) (by decide +kernel) rfl ?_
        refine g_iload_n 2 (hd := dX5_readNumbers_11) (C := hX) rfl rfl ?_
        refine g_aload_n 0 (hd := dX5_readNumbers_12) (C := hX) rfl rfl ?_
        refine g_callV (rest := [.int (nI 1), .ref na]) hX (c_X5_readNumber l D cC cI cJ cO a la na len (q_13_0 + 1) T (upd G 0 (nI v_13_0)) (by omega) hl hT) ok_X5_readNumber rfl 0 rfl rfl (fun _ => rfl) (hd := dX5_readNumbers_13) gX5_readNumbers_X5_readNumber ⟨by decide, by decide⟩ rfl (Nat.le_of_ble_eq_true rfl) ⟨Nat.zero_le _, Nat.zero_le _⟩ [0, 1, 2] (by decide) rfl rfl ?_
        intro ⟨r_13_1, q_13_1⟩ e_13_1
        rcases e_13_1 with ⟨v_13_1, z_13_1, p_13_1, e_13_1⟩ | ⟨p_13_1, e_13_1⟩ <;> cases e_13_1
        · show GW X [(a, .inr (5, [.ref la, .ref na, .int (nI len), .int (nI q_13_1)])), (la, .inl (cC, 200, .inl (fun j_ => nI (T j_)))), (na, .inl (cI, 3, .inl (upd G 0 (nI v_13_0))))] [(0, .ref a), (1, .int (nI 2)), (2, .int (nI 1)), (3, .int (nI 44))] [.int (nI v_13_1), .int (nI 1), .ref na] 16 0 0
          have hz_1 := nmS_lt p_13_1
          refine g_iast (hd := dX5_readNumbers_16) (C := hX) 2 1 [(a, .inr (5, [.ref la, .ref na, .int (nI len), .int (nI q_13_1)])), (la, .inl (cC, 200, .inl (fun j_ => nI (T j_)))), (na, .inl (cI, 3, .inl (upd (upd G 0 (nI v_13_0)) 1 (nI v_13_1))))] rfl rfl (by decide) (by decide) rfl ?_
          refine g_iload_n 2 (hd := dX5_readNumbers_17) (C := hX) rfl rfl ?_
          refine g_iconst (v := nI 1) hX dX5_readNumbers_18 (by decide) ?_
          refine g_iadd hX dX5_readNumbers_19 ?_
          refine g_top (y := (nI 2)) (by decide) ?_
          refine g_iload_n 1 (hd := dX5_readNumbers_20) (C := hX) rfl rfl ?_
          refine g_icmp_geN 29 (hd := dX5_readNumbers_21) (C := hX) (by decide) (by decide) (by decide) (fun c_21 => ?_) (fun c_21 => absurd c_21 (by decide))
          refine g_bipush (v := nI 59) hX dX5_readNumbers_29 (by decide) ?_
          refine g_istore_n [(0, .ref a), (1, .int (nI 2)), (2, .int (nI 1)), (3, .int (nI 59))] [1, 2, 3, 0] (hd := dX5_readNumbers_31) (C := hX) rfl (by decide) rfl ?_
          refine g_aload_n 0 (hd := dX5_readNumbers_32) (C := hX) rfl rfl ?_
          refine g_get (hd := dX5_readNumbers_33) (C := hX) 0 1 rfl rfl in_X5_readNumbers_5 (by decide) (by decide +kernel) rfl ?_
          refine g_iload_n 2 (hd := dX5_readNumbers_36) (C := hX) rfl rfl ?_
          refine g_iald (hd := dX5_readNumbers_37) (C := hX) 2 1 rfl rfl (by decide) (by decide) ?_
          refine g_top (y := (nI v_13_1)) pk_us ?_
          refine g_iconst (v := (-1)) hX dX5_readNumbers_38 (by decide) ?_
          refine g_icmp_eq 50 (hd := dX5_readNumbers_39) (C := hX) (by decide) (fun c_39 => absurd c_39 (nI_neg (by decide) (by omega))) (fun c_39 => ?_)
          refine g_aload_n 0 (hd := dX5_readNumbers_42) (C := hX) rfl rfl ?_
          refine g_iload_n 3 (hd := dX5_readNumbers_43) (C := hX) rfl rfl ?_
          refine g_callV (rest := []) hX (c_X5_readSign l D cC cI cJ cO a la na len q_13_1 T (upd (upd G 0 (nI v_13_0)) 1 (nI v_13_1)) 59 (by omega) (by omega) hl hT) ok_X5_readSign rfl 0 rfl rfl (fun _ => rfl) (hd := dX5_readNumbers_44) gX5_readNumbers_X5_readSign ⟨by decide, by decide⟩ rfl (Nat.le_of_ble_eq_true rfl) ⟨Nat.zero_le _, Nat.zero_le _⟩ [0, 1, 2] (by decide) rfl rfl ?_
          intro ⟨r_44_1, q_44_1⟩ e_44_1
          rcases e_44_1 with ⟨p_44_1, e_44_1⟩ | ⟨p_44_1, e_44_1⟩ <;> cases e_44_1
          · show GW X [(a, .inr (5, [.ref la, .ref na, .int (nI len), .int (nI (q_13_1 + 1))])), (la, .inl (cC, 200, .inl (fun j_ => nI (T j_)))), (na, .inl (cI, 3, .inl (upd (upd G 0 (nI v_13_0)) 1 (nI v_13_1))))] [(0, .ref a), (1, .int (nI 2)), (2, .int (nI 1)), (3, .int (nI 59))] [.int (nI 1)] 47 0 0
            refine g_if_neN 52 (hd := dX5_readNumbers_47) (C := hX) (by decide) (by decide) (fun c_47 => ?_) (fun c_47 => absurd c_47 (by decide))
            refine g_iinc (v := (nI 2)) 2 [(0, .ref a), (1, .int (nI 2)), (2, .int (nI 2)), (3, .int (nI 59))] [1, 2, 0, 3] (hd := dX5_readNumbers_52) (C := hX) rfl (by decide) (by decide) rfl ?_
            refine g_goto 2 (hd := dX5_readNumbers_55) (C := hX) (by decide) ?_
            refine g_iload_n 2 (hd := dX5_readNumbers_2) (C := hX) rfl rfl ?_
            refine g_iload_n 1 (hd := dX5_readNumbers_3) (C := hX) rfl rfl ?_
            refine g_icmp_geN 58 (hd := dX5_readNumbers_4) (C := hX) (by decide) (by decide) (by decide) (fun c_4 => ?_) (fun c_4 => absurd c_4 (by decide))
            refine g_iconst (v := nI 1) hX dX5_readNumbers_58 (by decide) ?_
            exact (hret ((nI 1), q_13_1 + 1, (upd (upd G 0 (nI v_13_0)) 1 (nI v_13_1))) _ _ (Or.inl ⟨[v_13_0, v_13_1], q_13_1 + 1, by simp [rdK, p_13_0, p_44_0, p_13_1, p_44_1], rfl, rfl, by intro j hj; rcases (show j = 0 ∨ j = 1 by omega) with rfl | rfl <;> simp [upd]⟩)).2.2.1 _ rfl rfl (by decide) dX5_readNumbers_59
          · show GW X [(a, .inr (5, [.ref la, .ref na, .int (nI len), .int (nI q_13_1)])), (la, .inl (cC, 200, .inl (fun j_ => nI (T j_)))), (na, .inl (cI, 3, .inl (upd (upd G 0 (nI v_13_0)) 1 (nI v_13_1))))] [(0, .ref a), (1, .int (nI 2)), (2, .int (nI 1)), (3, .int (nI 59))] [.int (nI 0)] 47 0 0
            refine g_if_neN 52 (hd := dX5_readNumbers_47) (C := hX) (by decide) (by decide) (fun c_47 => absurd c_47 (by decide)) (fun c_47 => ?_)
            refine g_iconst (v := nI 0) hX dX5_readNumbers_50 (by decide) ?_
            exact (hret ((nI 0), q_13_1, (upd (upd G 0 (nI v_13_0)) 1 (nI v_13_1))) _ _ (Or.inr ⟨by simp [rdK, p_13_0, p_44_0, p_13_1, p_44_1], rfl⟩)).2.2.1 _ rfl rfl (by decide) dX5_readNumbers_51
        · show GW X [(a, .inr (5, [.ref la, .ref na, .int (nI len), .int (nI (q_13_0 + 1))])), (la, .inl (cC, 200, .inl (fun j_ => nI (T j_)))), (na, .inl (cI, 3, .inl (upd G 0 (nI v_13_0))))] [(0, .ref a), (1, .int (nI 2)), (2, .int (nI 1)), (3, .int (nI 44))] [.int (-1), .int (nI 1), .ref na] 16 0 0
          refine g_iast (hd := dX5_readNumbers_16) (C := hX) 2 1 [(a, .inr (5, [.ref la, .ref na, .int (nI len), .int (nI (q_13_0 + 1))])), (la, .inl (cC, 200, .inl (fun j_ => nI (T j_)))), (na, .inl (cI, 3, .inl (upd (upd G 0 (nI v_13_0)) 1 (-1))))] rfl rfl (by decide) (by decide) rfl ?_
          refine g_iload_n 2 (hd := dX5_readNumbers_17) (C := hX) rfl rfl ?_
          refine g_iconst (v := nI 1) hX dX5_readNumbers_18 (by decide) ?_
          refine g_iadd hX dX5_readNumbers_19 ?_
          refine g_top (y := (nI 2)) (by decide) ?_
          refine g_iload_n 1 (hd := dX5_readNumbers_20) (C := hX) rfl rfl ?_
          refine g_icmp_geN 29 (hd := dX5_readNumbers_21) (C := hX) (by decide) (by decide) (by decide) (fun c_21 => ?_) (fun c_21 => absurd c_21 (by decide))
          refine g_bipush (v := nI 59) hX dX5_readNumbers_29 (by decide) ?_
          refine g_istore_n [(0, .ref a), (1, .int (nI 2)), (2, .int (nI 1)), (3, .int (nI 59))] [1, 2, 3, 0] (hd := dX5_readNumbers_31) (C := hX) rfl (by decide) rfl ?_
          refine g_aload_n 0 (hd := dX5_readNumbers_32) (C := hX) rfl rfl ?_
          refine g_get (hd := dX5_readNumbers_33) (C := hX) 0 1 rfl rfl in_X5_readNumbers_5 (by decide) (by decide +kernel) rfl ?_
          refine g_iload_n 2 (hd := dX5_readNumbers_36) (C := hX) rfl rfl ?_
          refine g_iald (hd := dX5_readNumbers_37) (C := hX) 2 1 rfl rfl (by decide) (by decide) ?_
          refine g_top (y := (-1)) pk_us ?_
          refine g_iconst (v := (-1)) hX dX5_readNumbers_38 (by decide) ?_
          refine g_icmp_eq 50 (hd := dX5_readNumbers_39) (C := hX) (by decide) (fun c_39 => ?_) (fun c_39 => absurd c_39 (by decide))
          refine g_iconst (v := nI 0) hX dX5_readNumbers_50 (by decide) ?_
          exact (hret ((nI 0), q_13_0 + 1, (upd (upd G 0 (nI v_13_0)) 1 (-1))) _ _ (Or.inr ⟨by simp [rdK, p_13_0, p_44_0, p_13_1], rfl⟩)).2.2.1 _ rfl rfl (by decide) dX5_readNumbers_51
      · show GW X [(a, .inr (5, [.ref la, .ref na, .int (nI len), .int (nI q_13_0)])), (la, .inl (cC, 200, .inl (fun j_ => nI (T j_)))), (na, .inl (cI, 3, .inl (upd G 0 (nI v_13_0))))] [(0, .ref a), (1, .int (nI 2)), (2, .int (nI 0)), (3, .int (nI 44))] [.int (nI 0)] 47 0 0
        refine g_if_neN 52 (hd := dX5_readNumbers_47) (C := hX) (by decide) (by decide) (fun c_47 => absurd c_47 (by decide)) (fun c_47 => ?_)
        refine g_iconst (v := nI 0) hX dX5_readNumbers_50 (by decide) ?_
        exact (hret ((nI 0), q_13_0, (upd G 0 (nI v_13_0))) _ _ (Or.inr ⟨by simp [rdK, p_13_0, p_44_0], rfl⟩)).2.2.1 _ rfl rfl (by decide) dX5_readNumbers_51
    · show GW X [(a, .inr (5, [.ref la, .ref na, .int (nI len), .int (nI pl)])), (la, .inl (cC, 200, .inl (fun j_ => nI (T j_)))), (na, .inl (cI, 3, .inl G))] [(0, .ref a), (1, .int (nI 2)), (2, .int (nI 0))] [.int (-1), .int (nI 0), .ref na] 16 0 0
      refine g_iast (hd := dX5_readNumbers_16) (C := hX) 2 1 [(a, .inr (5, [.ref la, .ref na, .int (nI len), .int (nI pl)])), (la, .inl (cC, 200, .inl (fun j_ => nI (T j_)))), (na, .inl (cI, 3, .inl (upd G 0 (-1))))] rfl rfl (by decide) (by decide) rfl ?_
      refine g_iload_n 2 (hd := dX5_readNumbers_17) (C := hX) rfl rfl ?_
      refine g_iconst (v := nI 1) hX dX5_readNumbers_18 (by decide) ?_
      refine g_iadd hX dX5_readNumbers_19 ?_
      refine g_top (y := (nI 1)) (by decide) ?_
      refine g_iload_n 1 (hd := dX5_readNumbers_20) (C := hX) rfl rfl ?_
      refine g_icmp_geN 29 (hd := dX5_readNumbers_21) (C := hX) (by decide) (by decide) (by decide) (fun c_21 => absurd c_21 (by decide)) (fun c_21 => ?_)
      refine g_bipush (v := nI 44) hX dX5_readNumbers_24 (by decide) ?_
      refine g_goto 31 (hd := dX5_readNumbers_26) (C := hX) (by decide) ?_
      refine g_istore_n [(0, .ref a), (1, .int (nI 2)), (2, .int (nI 0)), (3, .int (nI 44))] [1, 2, 3, 0] (hd := dX5_readNumbers_31) (C := hX) rfl (by decide) rfl ?_
      refine g_aload_n 0 (hd := dX5_readNumbers_32) (C := hX) rfl rfl ?_
      refine g_get (hd := dX5_readNumbers_33) (C := hX) 0 1 rfl rfl in_X5_readNumbers_5 (by decide) (by decide +kernel) rfl ?_
      refine g_iload_n 2 (hd := dX5_readNumbers_36) (C := hX) rfl rfl ?_
      refine g_iald (hd := dX5_readNumbers_37) (C := hX) 2 1 rfl rfl (by decide) (by decide) ?_
      refine g_top (y := (-1)) pk_us ?_
      refine g_iconst (v := (-1)) hX dX5_readNumbers_38 (by decide) ?_
      refine g_icmp_eq 50 (hd := dX5_readNumbers_39) (C := hX) (by decide) (fun c_39 => ?_) (fun c_39 => absurd c_39 (by decide))
      refine g_iconst (v := nI 0) hX dX5_readNumbers_50 (by decide) ?_
      exact (hret ((nI 0), pl, (upd G 0 (-1))) _ _ (Or.inr ⟨by simp [rdK, p_13_0], rfl⟩)).2.2.1 _ rfl rfl (by decide) dX5_readNumbers_51
  · refine g_iconst (v := nI 0) hX dX5_readNumbers_0 (by decide) ?_
    refine g_istore_n [(0, .ref a), (1, .int (nI 3)), (2, .int (nI 0))] [1, 2, 0] (hd := dX5_readNumbers_1) (C := hX) rfl (by decide) rfl ?_
    refine g_iload_n 2 (hd := dX5_readNumbers_2) (C := hX) rfl rfl ?_
    refine g_iload_n 1 (hd := dX5_readNumbers_3) (C := hX) rfl rfl ?_
    refine g_icmp_geN 58 (hd := dX5_readNumbers_4) (C := hX) (by decide) (by decide) (by decide) (fun c_4 => absurd c_4 (by decide)) (fun c_4 => ?_)
    refine g_aload_n 0 (hd := dX5_readNumbers_7) (C := hX) rfl rfl ?_
    refine g_get (hd := dX5_readNumbers_8) (C := hX) 0 1 rfl rfl in_X5_readNumbers_5 (by decide) (by decide +kernel) rfl ?_
    refine g_iload_n 2 (hd := dX5_readNumbers_11) (C := hX) rfl rfl ?_
    refine g_aload_n 0 (hd := dX5_readNumbers_12) (C := hX) rfl rfl ?_
    refine g_callV (rest := [.int (nI 0), .ref na]) hX (c_X5_readNumber l D cC cI cJ cO a la na len pl T G (by omega) hl hT) ok_X5_readNumber rfl 0 rfl rfl (fun _ => rfl) (hd := dX5_readNumbers_13) gX5_readNumbers_X5_readNumber ⟨by decide, by decide⟩ rfl (Nat.le_of_ble_eq_true rfl) ⟨Nat.zero_le _, Nat.zero_le _⟩ [0, 1, 2] (by decide) rfl rfl ?_
    intro ⟨r_13_0, q_13_0⟩ e_13_0
    rcases e_13_0 with ⟨v_13_0, z_13_0, p_13_0, e_13_0⟩ | ⟨p_13_0, e_13_0⟩ <;> cases e_13_0
    · show GW X [(a, .inr (5, [.ref la, .ref na, .int (nI len), .int (nI q_13_0)])), (la, .inl (cC, 200, .inl (fun j_ => nI (T j_)))), (na, .inl (cI, 3, .inl G))] [(0, .ref a), (1, .int (nI 3)), (2, .int (nI 0))] [.int (nI v_13_0), .int (nI 0), .ref na] 16 0 0
      have hz_0 := nmS_lt p_13_0
      refine g_iast (hd := dX5_readNumbers_16) (C := hX) 2 1 [(a, .inr (5, [.ref la, .ref na, .int (nI len), .int (nI q_13_0)])), (la, .inl (cC, 200, .inl (fun j_ => nI (T j_)))), (na, .inl (cI, 3, .inl (upd G 0 (nI v_13_0))))] rfl rfl (by decide) (by decide) rfl ?_
      refine g_iload_n 2 (hd := dX5_readNumbers_17) (C := hX) rfl rfl ?_
      refine g_iconst (v := nI 1) hX dX5_readNumbers_18 (by decide) ?_
      refine g_iadd hX dX5_readNumbers_19 ?_
      refine g_top (y := (nI 1)) (by decide) ?_
      refine g_iload_n 1 (hd := dX5_readNumbers_20) (C := hX) rfl rfl ?_
      refine g_icmp_geN 29 (hd := dX5_readNumbers_21) (C := hX) (by decide) (by decide) (by decide) (fun c_21 => absurd c_21 (by decide)) (fun c_21 => ?_)
      refine g_bipush (v := nI 44) hX dX5_readNumbers_24 (by decide) ?_
      refine g_goto 31 (hd := dX5_readNumbers_26) (C := hX) (by decide) ?_
      refine g_istore_n [(0, .ref a), (1, .int (nI 3)), (2, .int (nI 0)), (3, .int (nI 44))] [1, 2, 3, 0] (hd := dX5_readNumbers_31) (C := hX) rfl (by decide) rfl ?_
      refine g_aload_n 0 (hd := dX5_readNumbers_32) (C := hX) rfl rfl ?_
      refine g_get (hd := dX5_readNumbers_33) (C := hX) 0 1 rfl rfl in_X5_readNumbers_5 (by decide) (by decide +kernel) rfl ?_
      refine g_iload_n 2 (hd := dX5_readNumbers_36) (C := hX) rfl rfl ?_
      refine g_iald (hd := dX5_readNumbers_37) (C := hX) 2 1 rfl rfl (by decide) (by decide) ?_
      refine g_top (y := (nI v_13_0)) pk_us ?_
      refine g_iconst (v := (-1)) hX dX5_readNumbers_38 (by decide) ?_
      refine g_icmp_eq 50 (hd := dX5_readNumbers_39) (C := hX) (by decide) (fun c_39 => absurd c_39 (nI_neg (by decide) (by omega))) (fun c_39 => ?_)
      refine g_aload_n 0 (hd := dX5_readNumbers_42) (C := hX) rfl rfl ?_
      refine g_iload_n 3 (hd := dX5_readNumbers_43) (C := hX) rfl rfl ?_
      refine g_callV (rest := []) hX (c_X5_readSign l D cC cI cJ cO a la na len q_13_0 T (upd G 0 (nI v_13_0)) 44 (by omega) (by omega) hl hT) ok_X5_readSign rfl 0 rfl rfl (fun _ => rfl) (hd := dX5_readNumbers_44) gX5_readNumbers_X5_readSign ⟨by decide, by decide⟩ rfl (Nat.le_of_ble_eq_true rfl) ⟨Nat.zero_le _, Nat.zero_le _⟩ [0, 1, 2] (by decide) rfl rfl ?_
      intro ⟨r_44_0, q_44_0⟩ e_44_0
      rcases e_44_0 with ⟨p_44_0, e_44_0⟩ | ⟨p_44_0, e_44_0⟩ <;> cases e_44_0
      · show GW X [(a, .inr (5, [.ref la, .ref na, .int (nI len), .int (nI (q_13_0 + 1))])), (la, .inl (cC, 200, .inl (fun j_ => nI (T j_)))), (na, .inl (cI, 3, .inl (upd G 0 (nI v_13_0))))] [(0, .ref a), (1, .int (nI 3)), (2, .int (nI 0)), (3, .int (nI 44))] [.int (nI 1)] 47 0 0
        refine g_if_neN 52 (hd := dX5_readNumbers_47) (C := hX) (by decide) (by decide) (fun c_47 => ?_) (fun c_47 => absurd c_47 (by decide))
        refine g_iinc (v := (nI 1)) 2 [(0, .ref a), (1, .int (nI 3)), (2, .int (nI 1)), (3, .int (nI 44))] [1, 2, 0, 3] (hd := dX5_readNumbers_52) (C := hX) rfl (by decide) (by decide) rfl ?_
        refine g_goto 2 (hd := dX5_readNumbers_55) (C := hX) (by decide) ?_
        refine g_iload_n 2 (hd := dX5_readNumbers_2) (C := hX) rfl rfl ?_
        refine g_iload_n 1 (hd := dX5_readNumbers_3) (C := hX) rfl rfl ?_
        refine g_icmp_geN 58 (hd := dX5_readNumbers_4) (C := hX) (by decide) (by decide) (by decide) (fun c_4 => absurd c_4 (by decide)) (fun c_4 => ?_)
        refine g_aload_n 0 (hd := dX5_readNumbers_7) (C := hX) rfl rfl ?_
        refine g_get (hd := dX5_readNumbers_8) (C := hX) 0 1 rfl rfl in_X5_readNumbers_5 (by decide) (by decide +kernel) rfl ?_
        refine g_iload_n 2 (hd := dX5_readNumbers_11) (C := hX) rfl rfl ?_
        refine g_aload_n 0 (hd := dX5_readNumbers_12) (C := hX) rfl rfl ?_
        refine g_callV (rest := [.int (nI 1), .ref na]) hX (c_X5_readNumber l D cC cI cJ cO a la na len (q_13_0 + 1) T (upd G 0 (nI v_13_0)) (by omega) hl hT) ok_X5_readNumber rfl 0 rfl rfl (fun _ => rfl) (hd := dX5_readNumbers_13) gX5_readNumbers_X5_readNumber ⟨by decide, by decide⟩ rfl (Nat.le_of_ble_eq_true rfl) ⟨Nat.zero_le _, Nat.zero_le _⟩ [0, 1, 2] (by decide) rfl rfl ?_
        intro ⟨r_13_1, q_13_1⟩ e_13_1
        rcases e_13_1 with ⟨v_13_1, z_13_1, p_13_1, e_13_1⟩ | ⟨p_13_1, e_13_1⟩ <;> cases e_13_1
        · show GW X [(a, .inr (5, [.ref la, .ref na, .int (nI len), .int (nI q_13_1)])), (la, .inl (cC, 200, .inl (fun j_ => nI (T j_)))), (na, .inl (cI, 3, .inl (upd G 0 (nI v_13_0))))] [(0, .ref a), (1, .int (nI 3)), (2, .int (nI 1)), (3, .int (nI 44))] [.int (nI v_13_1), .int (nI 1), .ref na] 16 0 0
          have hz_1 := nmS_lt p_13_1
          refine g_iast (hd := dX5_readNumbers_16) (C := hX) 2 1 [(a, .inr (5, [.ref la, .ref na, .int (nI len), .int (nI q_13_1)])), (la, .inl (cC, 200, .inl (fun j_ => nI (T j_)))), (na, .inl (cI, 3, .inl (upd (upd G 0 (nI v_13_0)) 1 (nI v_13_1))))] rfl rfl (by decide) (by decide) rfl ?_
          refine g_iload_n 2 (hd := dX5_readNumbers_17) (C := hX) rfl rfl ?_
          refine g_iconst (v := nI 1) hX dX5_readNumbers_18 (by decide) ?_
          refine g_iadd hX dX5_readNumbers_19 ?_
          refine g_top (y := (nI 2)) (by decide) ?_
          refine g_iload_n 1 (hd := dX5_readNumbers_20) (C := hX) rfl rfl ?_
          refine g_icmp_geN 29 (hd := dX5_readNumbers_21) (C := hX) (by decide) (by decide) (by decide) (fun c_21 => absurd c_21 (by decide)) (fun c_21 => ?_)
          refine g_bipush (v := nI 44) hX dX5_readNumbers_24 (by decide) ?_
          refine g_goto 31 (hd := dX5_readNumbers_26) (C := hX) (by decide) ?_
          refine g_istore_n [(0, .ref a), (1, .int (nI 3)), (2, .int (nI 1)), (3, .int (nI 44))] [1, 2, 3, 0] (hd := dX5_readNumbers_31) (C := hX) rfl (by decide) rfl ?_
          refine g_aload_n 0 (hd := dX5_readNumbers_32) (C := hX) rfl rfl ?_
          refine g_get (hd := dX5_readNumbers_33) (C := hX) 0 1 rfl rfl in_X5_readNumbers_5 (by decide) (by decide +kernel) rfl ?_
          refine g_iload_n 2 (hd := dX5_readNumbers_36) (C := hX) rfl rfl ?_
          refine g_iald (hd := dX5_readNumbers_37) (C := hX) 2 1 rfl rfl (by decide) (by decide) ?_
          refine g_top (y := (nI v_13_1)) pk_us ?_
          refine g_iconst (v := (-1)) hX dX5_readNumbers_38 (by decide) ?_
          refine g_icmp_eq 50 (hd := dX5_readNumbers_39) (C := hX) (by decide) (fun c_39 => absurd c_39 (nI_neg (by decide) (by omega))) (fun c_39 => ?_)
          refine g_aload_n 0 (hd := dX5_readNumbers_42) (C := hX) rfl rfl ?_
          refine g_iload_n 3 (hd := dX5_readNumbers_43) (C := hX) rfl rfl ?_
          refine g_callV (rest := []) hX (c_X5_readSign l D cC cI cJ cO a la na len q_13_1 T (upd (upd G 0 (nI v_13_0)) 1 (nI v_13_1)) 44 (by omega) (by omega) hl hT) ok_X5_readSign rfl 0 rfl rfl (fun _ => rfl) (hd := dX5_readNumbers_44) gX5_readNumbers_X5_readSign ⟨by decide, by decide⟩ rfl (Nat.le_of_ble_eq_true rfl) ⟨Nat.zero_le _, Nat.zero_le _⟩ [0, 1, 2] (by decide) rfl rfl ?_
          intro ⟨r_44_1, q_44_1⟩ e_44_1
          rcases e_44_1 with ⟨p_44_1, e_44_1⟩ | ⟨p_44_1, e_44_1⟩ <;> cases e_44_1
          · show GW X [(a, .inr (5, [.ref la, .ref na, .int (nI len), .int (nI (q_13_1 + 1))])), (la, .inl (cC, 200, .inl (fun j_ => nI (T j_)))), (na, .inl (cI, 3, .inl (upd (upd G 0 (nI v_13_0)) 1 (nI v_13_1))))] [(0, .ref a), (1, .int (nI 3)), (2, .int (nI 1)), (3, .int (nI 44))] [.int (nI 1)] 47 0 0
            refine g_if_neN 52 (hd := dX5_readNumbers_47) (C := hX) (by decide) (by decide) (fun c_47 => ?_) (fun c_47 => absurd c_47 (by decide))
            refine g_iinc (v := (nI 2)) 2 [(0, .ref a), (1, .int (nI 3)), (2, .int (nI 2)), (3, .int (nI 44))] [1, 2, 0, 3] (hd := dX5_readNumbers_52) (C := hX) rfl (by decide) (by decide) rfl ?_
            refine g_goto 2 (hd := dX5_readNumbers_55) (C := hX) (by decide) ?_
            refine g_iload_n 2 (hd := dX5_readNumbers_2) (C := hX) rfl rfl ?_
            refine g_iload_n 1 (hd := dX5_readNumbers_3) (C := hX) rfl rfl ?_
            refine g_icmp_geN 58 (hd := dX5_readNumbers_4) (C := hX) (by decide) (by decide) (by decide) (fun c_4 => absurd c_4 (by decide)) (fun c_4 => ?_)
            refine g_aload_n 0 (hd := dX5_readNumbers_7) (C := hX) rfl rfl ?_
            refine g_get (hd := dX5_readNumbers_8) (C := hX) 0 1 rfl rfl in_X5_readNumbers_5 (by decide) (by decide +kernel) rfl ?_
            refine g_iload_n 2 (hd := dX5_readNumbers_11) (C := hX) rfl rfl ?_
            refine g_aload_n 0 (hd := dX5_readNumbers_12) (C := hX) rfl rfl ?_
            refine g_callV (rest := [.int (nI 2), .ref na]) hX (c_X5_readNumber l D cC cI cJ cO a la na len (q_13_1 + 1) T (upd (upd G 0 (nI v_13_0)) 1 (nI v_13_1)) (by omega) hl hT) ok_X5_readNumber rfl 0 rfl rfl (fun _ => rfl) (hd := dX5_readNumbers_13) gX5_readNumbers_X5_readNumber ⟨by decide, by decide⟩ rfl (Nat.le_of_ble_eq_true rfl) ⟨Nat.zero_le _, Nat.zero_le _⟩ [0, 1, 2] (by decide) rfl rfl ?_
            intro ⟨r_13_2, q_13_2⟩ e_13_2
            rcases e_13_2 with ⟨v_13_2, z_13_2, p_13_2, e_13_2⟩ | ⟨p_13_2, e_13_2⟩ <;> cases e_13_2
            · show GW X [(a, .inr (5, [.ref la, .ref na, .int (nI len), .int (nI q_13_2)])), (la, .inl (cC, 200, .inl (fun j_ => nI (T j_)))), (na, .inl (cI, 3, .inl (upd (upd G 0 (nI v_13_0)) 1 (nI v_13_1))))] [(0, .ref a), (1, .int (nI 3)), (2, .int (nI 2)), (3, .int (nI 44))] [.int (nI v_13_2), .int (nI 2), .ref na] 16 0 0
              have hz_2 := nmS_lt p_13_2
              refine g_iast (hd := dX5_readNumbers_16) (C := hX) 2 1 [(a, .inr (5, [.ref la, .ref na, .int (nI len), .int (nI q_13_2)])), (la, .inl (cC, 200, .inl (fun j_ => nI (T j_)))), (na, .inl (cI, 3, .inl (upd (upd (upd G 0 (nI v_13_0)) 1 (nI v_13_1)) 2 (nI v_13_2))))] rfl rfl (by decide) (by decide) rfl ?_
              refine g_iload_n 2 (hd := dX5_readNumbers_17) (C := hX) rfl rfl ?_
              refine g_iconst (v := nI 1) hX dX5_readNumbers_18 (by decide) ?_
              refine g_iadd hX dX5_readNumbers_19 ?_
              refine g_top (y := (nI 3)) (by decide) ?_
              refine g_iload_n 1 (hd := dX5_readNumbers_20) (C := hX) rfl rfl ?_
              refine g_icmp_geN 29 (hd := dX5_readNumbers_21) (C := hX) (by decide) (by decide) (by decide) (fun c_21 => ?_) (fun c_21 => absurd c_21 (by decide))
              refine g_bipush (v := nI 59) hX dX5_readNumbers_29 (by decide) ?_
              refine g_istore_n [(0, .ref a), (1, .int (nI 3)), (2, .int (nI 2)), (3, .int (nI 59))] [1, 2, 3, 0] (hd := dX5_readNumbers_31) (C := hX) rfl (by decide) rfl ?_
              refine g_aload_n 0 (hd := dX5_readNumbers_32) (C := hX) rfl rfl ?_
              refine g_get (hd := dX5_readNumbers_33) (C := hX) 0 1 rfl rfl in_X5_readNumbers_5 (by decide) (by decide +kernel) rfl ?_
              refine g_iload_n 2 (hd := dX5_readNumbers_36) (C := hX) rfl rfl ?_
              refine g_iald (hd := dX5_readNumbers_37) (C := hX) 2 1 rfl rfl (by decide) (by decide) ?_
              refine g_top (y := (nI v_13_2)) pk_us ?_
              refine g_iconst (v := (-1)) hX dX5_readNumbers_38 (by decide) ?_
              refine g_icmp_eq 50 (hd := dX5_readNumbers_39) (C := hX) (by decide) (fun c_39 => absurd c_39 (nI_neg (by decide) (by omega))) (fun c_39 => ?_)
              refine g_aload_n 0 (hd := dX5_readNumbers_42) (C := hX) rfl rfl ?_
              refine g_iload_n 3 (hd := dX5_readNumbers_43) (C := hX) rfl rfl ?_
              refine g_callV (rest := []) hX (c_X5_readSign l D cC cI cJ cO a la na len q_13_2 T (upd (upd (upd G 0 (nI v_13_0)) 1 (nI v_13_1)) 2 (nI v_13_2)) 59 (by omega) (by omega) hl hT) ok_X5_readSign rfl 0 rfl rfl (fun _ => rfl) (hd := dX5_readNumbers_44) gX5_readNumbers_X5_readSign ⟨by decide, by decide⟩ rfl (Nat.le_of_ble_eq_true rfl) ⟨Nat.zero_le _, Nat.zero_le _⟩ [0, 1, 2] (by decide) rfl rfl ?_
              intro ⟨r_44_2, q_44_2⟩ e_44_2
              rcases e_44_2 with ⟨p_44_2, e_44_2⟩ | ⟨p_44_2, e_44_2⟩ <;> cases e_44_2
              · show GW X [(a, .inr (5, [.ref la, .ref na, .int (nI len), .int (nI (q_13_2 + 1))])), (la, .inl (cC, 200, .inl (fun j_ => nI (T j_)))), (na, .inl (cI, 3, .inl (upd (upd (upd G 0 (nI v_13_0)) 1 (nI v_13_1)) 2 (nI v_13_2))))] [(0, .ref a), (1, .int (nI 3)), (2, .int (nI 2)), (3, .int (nI 59))] [.int (nI 1)] 47 0 0
                refine g_if_neN 52 (hd := dX5_readNumbers_47) (C := hX) (by decide) (by decide) (fun c_47 => ?_) (fun c_47 => absurd c_47 (by decide))
                refine g_iinc (v := (nI 3)) 2 [(0, .ref a), (1, .int (nI 3)), (2, .int (nI 3)), (3, .int (nI 59))] [1, 2, 0, 3] (hd := dX5_readNumbers_52) (C := hX) rfl (by decide) (by decide) rfl ?_
                refine g_goto 2 (hd := dX5_readNumbers_55) (C := hX) (by decide) ?_
                refine g_iload_n 2 (hd := dX5_readNumbers_2) (C := hX) rfl rfl ?_
                refine g_iload_n 1 (hd := dX5_readNumbers_3) (C := hX) rfl rfl ?_
                refine g_icmp_geN 58 (hd := dX5_readNumbers_4) (C := hX) (by decide) (by decide) (by decide) (fun c_4 => ?_) (fun c_4 => absurd c_4 (by decide))
                refine g_iconst (v := nI 1) hX dX5_readNumbers_58 (by decide) ?_
                exact (hret ((nI 1), q_13_2 + 1, (upd (upd (upd G 0 (nI v_13_0)) 1 (nI v_13_1)) 2 (nI v_13_2))) _ _ (Or.inl ⟨[v_13_0, v_13_1, v_13_2], q_13_2 + 1, by simp [rdK, p_13_0, p_44_0, p_13_1, p_44_1, p_13_2, p_44_2], rfl, rfl, by intro j hj; rcases (show j = 0 ∨ j = 1 ∨ j = 2 by omega) with rfl | rfl | rfl <;> simp [upd]⟩)).2.2.1 _ rfl rfl (by decide) dX5_readNumbers_59
              · show GW X [(a, .inr (5, [.ref la, .ref na, .int (nI len), .int (nI q_13_2)])), (la, .inl (cC, 200, .inl (fun j_ => nI (T j_)))), (na, .inl (cI, 3, .inl (upd (upd (upd G 0 (nI v_13_0)) 1 (nI v_13_1)) 2 (nI v_13_2))))] [(0, .ref a), (1, .int (nI 3)), (2, .int (nI 2)), (3, .int (nI 59))] [.int (nI 0)] 47 0 0
                refine g_if_neN 52 (hd := dX5_readNumbers_47) (C := hX) (by decide) (by decide) (fun c_47 => absurd c_47 (by decide)) (fun c_47 => ?_)
                refine g_iconst (v := nI 0) hX dX5_readNumbers_50 (by decide) ?_
                exact (hret ((nI 0), q_13_2, (upd (upd (upd G 0 (nI v_13_0)) 1 (nI v_13_1)) 2 (nI v_13_2))) _ _ (Or.inr ⟨by simp [rdK, p_13_0, p_44_0, p_13_1, p_44_1, p_13_2, p_44_2], rfl⟩)).2.2.1 _ rfl rfl (by decide) dX5_readNumbers_51
            · show GW X [(a, .inr (5, [.ref la, .ref na, .int (nI len), .int (nI (q_13_1 + 1))])), (la, .inl (cC, 200, .inl (fun j_ => nI (T j_)))), (na, .inl (cI, 3, .inl (upd (upd G 0 (nI v_13_0)) 1 (nI v_13_1))))] [(0, .ref a), (1, .int (nI 3)), (2, .int (nI 2)), (3, .int (nI 44))] [.int (-1), .int (nI 2), .ref na] 16 0 0
              refine g_iast (hd := dX5_readNumbers_16) (C := hX) 2 1 [(a, .inr (5, [.ref la, .ref na, .int (nI len), .int (nI (q_13_1 + 1))])), (la, .inl (cC, 200, .inl (fun j_ => nI (T j_)))), (na, .inl (cI, 3, .inl (upd (upd (upd G 0 (nI v_13_0)) 1 (nI v_13_1)) 2 (-1))))] rfl rfl (by decide) (by decide) rfl ?_
              refine g_iload_n 2 (hd := dX5_readNumbers_17) (C := hX) rfl rfl ?_
              refine g_iconst (v := nI 1) hX dX5_readNumbers_18 (by decide) ?_
              refine g_iadd hX dX5_readNumbers_19 ?_
              refine g_top (y := (nI 3)) (by decide) ?_
              refine g_iload_n 1 (hd := dX5_readNumbers_20) (C := hX) rfl rfl ?_
              refine g_icmp_geN 29 (hd := dX5_readNumbers_21) (C := hX) (by decide) (by decide) (by decide) (fun c_21 => ?_) (fun c_21 => absurd c_21 (by decide))
              refine g_bipush (v := nI 59) hX dX5_readNumbers_29 (by decide) ?_
              refine g_istore_n [(0, .ref a), (1, .int (nI 3)), (2, .int (nI 2)), (3, .int (nI 59))] [1, 2, 3, 0] (hd := dX5_readNumbers_31) (C := hX) rfl (by decide) rfl ?_
              refine g_aload_n 0 (hd := dX5_readNumbers_32) (C := hX) rfl rfl ?_
              refine g_get (hd := dX5_readNumbers_33) (C := hX) 0 1 rfl rfl in_X5_readNumbers_5 (by decide) (by decide +kernel) rfl ?_
              refine g_iload_n 2 (hd := dX5_readNumbers_36) (C := hX) rfl rfl ?_
              refine g_iald (hd := dX5_readNumbers_37) (C := hX) 2 1 rfl rfl (by decide) (by decide) ?_
              refine g_top (y := (-1)) pk_us ?_
              refine g_iconst (v := (-1)) hX dX5_readNumbers_38 (by decide) ?_
              refine g_icmp_eq 50 (hd := dX5_readNumbers_39) (C := hX) (by decide) (fun c_39 => ?_) (fun c_39 => absurd c_39 (by decide))
              refine g_iconst (v := nI 0) hX dX5_readNumbers_50 (by decide) ?_
              exact (hret ((nI 0), q_13_1 + 1, (upd (upd (upd G 0 (nI v_13_0)) 1 (nI v_13_1)) 2 (-1))) _ _ (Or.inr ⟨by simp [rdK, p_13_0, p_44_0, p_13_1, p_44_1, p_13_2], rfl⟩)).2.2.1 _ rfl rfl (by decide) dX5_readNumbers_51
          · show GW X [(a, .inr (5, [.ref la, .ref na, .int (nI len), .int (nI q_13_1)])), (la, .inl (cC, 200, .inl (fun j_ => nI (T j_)))), (na, .inl (cI, 3, .inl (upd (upd G 0 (nI v_13_0)) 1 (nI v_13_1))))] [(0, .ref a), (1, .int (nI 3)), (2, .int (nI 1)), (3, .int (nI 44))] [.int (nI 0)] 47 0 0
            refine g_if_neN 52 (hd := dX5_readNumbers_47) (C := hX) (by decide) (by decide) (fun c_47 => absurd c_47 (by decide)) (fun c_47 => ?_)
            refine g_iconst (v := nI 0) hX dX5_readNumbers_50 (by decide) ?_
            exact (hret ((nI 0), q_13_1, (upd (upd G 0 (nI v_13_0)) 1 (nI v_13_1))) _ _ (Or.inr ⟨by simp [rdK, p_13_0, p_44_0, p_13_1, p_44_1], rfl⟩)).2.2.1 _ rfl rfl (by decide) dX5_readNumbers_51
        · show GW X [(a, .inr (5, [.ref la, .ref na, .int (nI len), .int (nI (q_13_0 + 1))])), (la, .inl (cC, 200, .inl (fun j_ => nI (T j_)))), (na, .inl (cI, 3, .inl (upd G 0 (nI v_13_0))))] [(0, .ref a), (1, .int (nI 3)), (2, .int (nI 1)), (3, .int (nI 44))] [.int (-1), .int (nI 1), .ref na] 16 0 0
          refine g_iast (hd := dX5_readNumbers_16) (C := hX) 2 1 [(a, .inr (5, [.ref la, .ref na, .int (nI len), .int (nI (q_13_0 + 1))])), (la, .inl (cC, 200, .inl (fun j_ => nI (T j_)))), (na, .inl (cI, 3, .inl (upd (upd G 0 (nI v_13_0)) 1 (-1))))] rfl rfl (by decide) (by decide) rfl ?_
          refine g_iload_n 2 (hd := dX5_readNumbers_17) (C := hX) rfl rfl ?_
          refine g_iconst (v := nI 1) hX dX5_readNumbers_18 (by decide) ?_
          refine g_iadd hX dX5_readNumbers_19 ?_
          refine g_top (y := (nI 2)) (by decide) ?_
          refine g_iload_n 1 (hd := dX5_readNumbers_20) (C := hX) rfl rfl ?_
          refine g_icmp_geN 29 (hd := dX5_readNumbers_21) (C := hX) (by decide) (by decide) (by decide) (fun c_21 => absurd c_21 (by decide)) (fun c_21 => ?_)
          refine g_bipush (v := nI 44) hX dX5_readNumbers_24 (by decide) ?_
          refine g_goto 31 (hd := dX5_readNumbers_26) (C := hX) (by decide) ?_
          refine g_istore_n [(0, .ref a), (1, .int (nI 3)), (2, .int (nI 1)), (3, .int (nI 44))] [1, 2, 3, 0] (hd := dX5_readNumbers_31) (C := hX) rfl (by decide) rfl ?_
          refine g_aload_n 0 (hd := dX5_readNumbers_32) (C := hX) rfl rfl ?_
          refine g_get (hd := dX5_readNumbers_33) (C := hX) 0 1 rfl rfl in_X5_readNumbers_5 (by decide) (by decide +kernel) rfl ?_
          refine g_iload_n 2 (hd := dX5_readNumbers_36) (C := hX) rfl rfl ?_
          refine g_iald (hd := dX5_readNumbers_37) (C := hX) 2 1 rfl rfl (by decide) (by decide) ?_
          refine g_top (y := (-1)) pk_us ?_
          refine g_iconst (v := (-1)) hX dX5_readNumbers_38 (by decide) ?_
          refine g_icmp_eq 50 (hd := dX5_readNumbers_39) (C := hX) (by decide) (fun c_39 => ?_) (fun c_39 => absurd c_39 (by decide))
          refine g_iconst (v := nI 0) hX dX5_readNumbers_50 (by decide) ?_
          exact (hret ((nI 0), q_13_0 + 1, (upd (upd G 0 (nI v_13_0)) 1 (-1))) _ _ (Or.inr ⟨by simp [rdK, p_13_0, p_44_0, p_13_1], rfl⟩)).2.2.1 _ rfl rfl (by decide) dX5_readNumbers_51
      · show GW X [(a, .inr (5, [.ref la, .ref na, .int (nI len), .int (nI q_13_0)])), (la, .inl (cC, 200, .inl (fun j_ => nI (T j_)))), (na, .inl (cI, 3, .inl (upd G 0 (nI v_13_0))))] [(0, .ref a), (1, .int (nI 3)), (2, .int (nI 0)), (3, .int (nI 44))] [.int (nI 0)] 47 0 0
        refine g_if_neN 52 (hd := dX5_readNumbers_47) (C := hX) (by decide) (by decide) (fun c_47 => absurd c_47 (by decide)) (fun c_47 => ?_)
        refine g_iconst (v := nI 0) hX dX5_readNumbers_50 (by decide) ?_
        exact (hret ((nI 0), q_13_0, (upd G 0 (nI v_13_0))) _ _ (Or.inr ⟨by simp [rdK, p_13_0, p_44_0], rfl⟩)).2.2.1 _ rfl rfl (by decide) dX5_readNumbers_51
    · show GW X [(a, .inr (5, [.ref la, .ref na, .int (nI len), .int (nI pl)])), (la, .inl (cC, 200, .inl (fun j_ => nI (T j_)))), (na, .inl (cI, 3, .inl G))] [(0, .ref a), (1, .int (nI 3)), (2, .int (nI 0))] [.int (-1), .int (nI 0), .ref na] 16 0 0
      refine g_iast (hd := dX5_readNumbers_16) (C := hX) 2 1 [(a, .inr (5, [.ref la, .ref na, .int (nI len), .int (nI pl)])), (la, .inl (cC, 200, .inl (fun j_ => nI (T j_)))), (na, .inl (cI, 3, .inl (upd G 0 (-1))))] rfl rfl (by decide) (by decide) rfl ?_
      refine g_iload_n 2 (hd := dX5_readNumbers_17) (C := hX) rfl rfl ?_
      refine g_iconst (v := nI 1) hX dX5_readNumbers_18 (by decide) ?_
      refine g_iadd hX dX5_readNumbers_19 ?_
      refine g_top (y := (nI 1)) (by decide) ?_
      refine g_iload_n 1 (hd := dX5_readNumbers_20) (C := hX) rfl rfl ?_
      refine g_icmp_geN 29 (hd := dX5_readNumbers_21) (C := hX) (by decide) (by decide) (by decide) (fun c_21 => absurd c_21 (by decide)) (fun c_21 => ?_)
      refine g_bipush (v := nI 44) hX dX5_readNumbers_24 (by decide) ?_
      refine g_goto 31 (hd := dX5_readNumbers_26) (C := hX) (by decide) ?_
      refine g_istore_n [(0, .ref a), (1, .int (nI 3)), (2, .int (nI 0)), (3, .int (nI 44))] [1, 2, 3, 0] (hd := dX5_readNumbers_31) (C := hX) rfl (by decide) rfl ?_
      refine g_aload_n 0 (hd := dX5_readNumbers_32) (C := hX) rfl rfl ?_
      refine g_get (hd := dX5_readNumbers_33) (C := hX) 0 1 rfl rfl in_X5_readNumbers_5 (by decide) (by decide +kernel) rfl ?_
      refine g_iload_n 2 (hd := dX5_readNumbers_36) (C := hX) rfl rfl ?_
      refine g_iald (hd := dX5_readNumbers_37) (C := hX) 2 1 rfl rfl (by decide) (by decide) ?_
      refine g_top (y := (-1)) pk_us ?_
      refine g_iconst (v := (-1)) hX dX5_readNumbers_38 (by decide) ?_
      refine g_icmp_eq 50 (hd := dX5_readNumbers_39) (C := hX) (by decide) (fun c_39 => ?_) (fun c_39 => absurd c_39 (by decide))
      refine g_iconst (v := nI 0) hX dX5_readNumbers_50 (by decide) ?_
      exact (hret ((nI 0), pl, (upd G 0 (-1))) _ _ (Or.inr ⟨by simp [rdK, p_13_0], rfl⟩)).2.2.1 _ rfl rfl (by decide) dX5_readNumbers_51

theorem ok_X5_numbersBehind : gOK yX5_numbersBehind wsX5_numbersBehind ({ frames := 0, cells := 0, slots := 0, locals := 0 }) 1 1 := ⟨⟨_, _, _, rfl⟩, rfl, rfl, by decide, by decide, by decide +kernel⟩
set_option maxRecDepth 100000 in
set_option maxHeartbeats 4000000 in
theorem c_X5_numbersBehind (l : Launch) (D : va_G) (cC cI cJ cO : ClassId) (hd : Nat) (hh : hd < 128) : CM (S := Int32) l D (tyL cC cI cJ cO) yX5_numbersBehind wsX5_numbersBehind ({ frames := 0, cells := 0, slots := 0, locals := 0 }) [.int (nI hd)] [] (fun r => some (.int r)) (fun r => r = nI (nbS hd)) (fun u_ => []) := by
  refine CM_in (cc := cX5_numbersBehind) (maxL := 1) (ret := (some .int)) (by decide) rfl (Nat.le_of_ble_eq_true rfl) ?_
  intro X hX hret
  show GW X [] [(0, .int (nI hd))] [] 0 0 0
  refine g_iload_n 0 (hd := dX5_numbersBehind_0) (C := hX) rfl rfl ?_
  refine g_bipush (v := nI 110) hX dX5_numbersBehind_1 (by decide) ?_
  refine g_icmp_neN 8 (hd := dX5_numbersBehind_3) (C := hX) (by decide) (by omega) (by omega) (fun c_3 => ?_) (fun c_3 => ?_)
  · refine g_iload_n 0 (hd := dX5_numbersBehind_8) (C := hX) rfl rfl ?_
    refine g_bipush (v := nI 111) hX dX5_numbersBehind_9 (by decide) ?_
    refine g_icmp_eqN 20 (hd := dX5_numbersBehind_11) (C := hX) (by decide) (by omega) (by omega) (fun c_11 => ?_) (fun c_11 => ?_)
    · refine g_iconst (v := nI 2) hX dX5_numbersBehind_20 (by decide) ?_
      exact (hret (nI 2) _ _ (by first | (rw [c_11]; rfl) | (rw [c_17]; rfl))).2.1 _ rfl rfl dX5_numbersBehind_21
    · refine g_iload_n 0 (hd := dX5_numbersBehind_14) (C := hX) rfl rfl ?_
      refine g_bipush (v := nI 99) hX dX5_numbersBehind_15 (by decide) ?_
      refine g_icmp_neN 22 (hd := dX5_numbersBehind_17) (C := hX) (by decide) (by omega) (by omega) (fun c_17 => ?_) (fun c_17 => ?_)
      · refine g_iload_n 0 (hd := dX5_numbersBehind_22) (C := hX) rfl rfl ?_
        refine g_bipush (v := nI 103) hX dX5_numbersBehind_23 (by decide) ?_
        refine g_icmp_neN 32 (hd := dX5_numbersBehind_25) (C := hX) (by decide) (by omega) (by omega) (fun c_25 => ?_) (fun c_25 => ?_)
        · refine g_iconst (v := nI 0) hX dX5_numbersBehind_32 (by decide) ?_
          exact (hret (nI 0) _ _ (by first | (rw [c_25]; rfl) | (unfold nbS; rw [if_neg c_3, if_neg (by omega), if_neg c_25]))).2.1 _ rfl rfl dX5_numbersBehind_33
        · refine g_iconst (v := nI 3) hX dX5_numbersBehind_28 (by decide) ?_
          refine g_goto 33 (hd := dX5_numbersBehind_29) (C := hX) (by decide) ?_
          exact (hret (nI 3) _ _ (by first | (rw [c_25]; rfl) | (unfold nbS; rw [if_neg c_3, if_neg (by omega), if_neg c_25]))).2.1 _ rfl rfl dX5_numbersBehind_33
      · refine g_iconst (v := nI 2) hX dX5_numbersBehind_20 (by decide) ?_
        exact (hret (nI 2) _ _ (by first | (rw [c_11]; rfl) | (rw [c_17]; rfl))).2.1 _ rfl rfl dX5_numbersBehind_21
  · refine g_iconst (v := nI 1) hX dX5_numbersBehind_6 (by decide) ?_
    exact (hret (nI 1) _ _ (by rw [c_3]; rfl)).2.1 _ rfl rfl dX5_numbersBehind_7

theorem cdI_N {n x y : Nat} (hn : n ≤ 8) (hx : x < 100) (hy : y < 100) : cdI n (nI x) (nI y) ↔ cdB n x y = true := by
  rw [cdB_iff]
  constructor
  · rintro ⟨a, c, e1, e2, h⟩
    have ha : a < 100 ∧ c < 100 := by rcases h with h | h | h | h <;> omega
    rw [nI_inj (by omega) (by omega) e1, nI_inj (by omega) (by omega) e2]
    exact h
  · intro h
    exact ⟨x, y, rfl, rfl, h⟩

theorem in_X5_tellInputs_5 : ∀ w ∈ wsX50, w ∈ wsX5_tellInputs := fun _ h => List.mem_cons_of_mem _ (List.mem_append_left _ (List.mem_append_right _ h))
theorem in_X5_tellInputs_0 : ∀ w ∈ wsX00, w ∈ wsX5_tellInputs := fun _ h => List.mem_cons_of_mem _ (List.mem_append_right _ h)
theorem ok_X5_tellInputs : gOK yX5_tellInputs wsX5_tellInputs ({ frames := 2, cells := 0, slots := 0, locals := 43 }) 3 1 := ⟨⟨_, _, _, rfl⟩, rfl, rfl, by decide, by decide, by decide +kernel⟩
set_option maxRecDepth 100000 in
set_option maxHeartbeats 4000000 in
theorem c_X5_tellInputs (l : Launch) (D : va_G) (cC cI cJ cO : ClassId) (a : Nat) (la : Nat) (na : Nat) (len : Nat) (pl : Nat) (T : Nat → Nat) (G : Nat → Int32) (h : Nat) (k : Nat) (f : Nat) (s : Nat) (b : Nat → Nat) (x : Nat) (hx : G 0 = nI x) (hxb : x < 100) (h0 : b 0 ≤ 8) : CM (S := Int32 × (Nat → Nat)) l D (tyL cC cI cJ cO) yX5_tellInputs wsX5_tellInputs ({ frames := 2, cells := 0, slots := 0, locals := 43 }) [.ref a, .ref h] [(a, .inr (5, [.ref la, .ref na, .int (nI len), .int (nI pl)])), (la, .inl (cC, 200, .inl (fun j_ => nI (T j_)))), (na, .inl (cI, 3, .inl G)), (h, .inr (0, [.ref k, .ref f, .ref s, .int (nI (b 0)), .int (nI (b 1)), .int (nI (b 2)), .int (nI (b 3)), .int (nI (b 4)), .int (nI (b 5))])), (k, .inl (cI, 24, .inl (fun j_ => nI (b (6 + 3 * j_))))), (f, .inl (cI, 24, .inl (fun j_ => nI (b (7 + 3 * j_))))), (s, .inl (cI, 24, .inl (fun j_ => nI (b (8 + 3 * j_)))))] (fun u => some (.int u.1)) (fun u => ((b 0 = 0 ∧ 1 ≤ x ∧ x ≤ 8) ∧ u = (nI 1, stC b x)) ∨ (¬ (b 0 = 0 ∧ 1 ≤ x ∧ x ≤ 8) ∧ u = (nI 0, b))) (fun u_ => [(a, .inr (5, [.ref la, .ref na, .int (nI len), .int (nI pl)])), (la, .inl (cC, 200, .inl (fun j_ => nI (T j_)))), (na, .inl (cI, 3, .inl G)), (h, .inr (0, [.ref k, .ref f, .ref s, .int (nI (u_.2 0)), .int (nI (u_.2 1)), .int (nI (u_.2 2)), .int (nI (u_.2 3)), .int (nI (u_.2 4)), .int (nI (u_.2 5))])), (k, .inl (cI, 24, .inl (fun j_ => nI (u_.2 (6 + 3 * j_))))), (f, .inl (cI, 24, .inl (fun j_ => nI (u_.2 (7 + 3 * j_))))), (s, .inl (cI, 24, .inl (fun j_ => nI (u_.2 (8 + 3 * j_)))))]) := by
  refine CM_in (cc := cX5_tellInputs) (maxL := 3) (ret := (some .boolean)) (by decide) rfl (Nat.le_of_ble_eq_true rfl) ?_
  intro X hX hret
  show GW X [(a, .inr (5, [.ref la, .ref na, .int (nI len), .int (nI pl)])), (la, .inl (cC, 200, .inl (fun j_ => nI (T j_)))), (na, .inl (cI, 3, .inl G)), (h, .inr (0, [.ref k, .ref f, .ref s, .int (nI (b 0)), .int (nI (b 1)), .int (nI (b 2)), .int (nI (b 3)), .int (nI (b 4)), .int (nI (b 5))])), (k, .inl (cI, 24, .inl (fun j_ => nI (b (6 + 3 * j_))))), (f, .inl (cI, 24, .inl (fun j_ => nI (b (7 + 3 * j_))))), (s, .inl (cI, 24, .inl (fun j_ => nI (b (8 + 3 * j_)))))] [(0, .ref a), (1, .ref h)] [] 0 0 0
  refine g_aload_n 0 (hd := dX5_tellInputs_0) (C := hX) rfl rfl ?_
  refine g_get (hd := dX5_tellInputs_1) (C := hX) 0 1 rfl rfl in_X5_tellInputs_5 (by decide) (by decide +kernel) rfl ?_
  refine g_iconst (v := nI 0) hX dX5_tellInputs_4 (by decide) ?_
  refine g_iald (hd := dX5_tellInputs_5) (C := hX) 2 1 rfl rfl (by omega) (by decide) ?_
  refine g_top (y := (nI x)) hx ?_
  refine g_istore_n [(0, .ref a), (1, .ref h), (2, .int (nI x))] [1, 2, 0] (hd := dX5_tellInputs_6) (C := hX) rfl (by decide) rfl ?_
  refine g_aload_n 1 (hd := dX5_tellInputs_7) (C := hX) rfl rfl ?_
  refine g_get (hd := dX5_tellInputs_8) (C := hX) 3 3 rfl rfl in_X5_tellInputs_0 (by decide) (by decide +kernel) rfl ?_
  refine g_if_neN 25 (hd := dX5_tellInputs_11) (C := hX) (by decide) (by omega) (fun c_11 => ?_) (fun c_11 => ?_)
  · refine g_iconst (v := nI 0) hX dX5_tellInputs_25 (by decide) ?_
    exact (hret ((nI 0), b) _ _ (Or.inr ⟨fun w => by omega, rfl⟩)).2.2.1 _ rfl rfl (by decide) dX5_tellInputs_26
  · refine g_iload_n 2 (hd := dX5_tellInputs_14) (C := hX) rfl rfl ?_
    refine g_iconst (v := nI 1) hX dX5_tellInputs_15 (by decide) ?_
    refine g_icmp_ltN 25 (hd := dX5_tellInputs_16) (C := hX) (by decide) (by omega) (by omega) (fun c_16 => ?_) (fun c_16 => ?_)
    · refine g_iconst (v := nI 0) hX dX5_tellInputs_25 (by decide) ?_
      exact (hret ((nI 0), b) _ _ (Or.inr ⟨fun w => by omega, rfl⟩)).2.2.1 _ rfl rfl (by decide) dX5_tellInputs_26
    · refine g_iload_n 2 (hd := dX5_tellInputs_19) (C := hX) rfl rfl ?_
      refine g_bipush (v := nI 8) hX dX5_tellInputs_20 (by decide) ?_
      refine g_icmp_leN 27 (hd := dX5_tellInputs_22) (C := hX) (by decide) (by omega) (by omega) (fun c_22 => ?_) (fun c_22 => ?_)
      · refine g_aload_n 1 (hd := dX5_tellInputs_27) (C := hX) rfl rfl ?_
        refine g_iload_n 2 (hd := dX5_tellInputs_28) (C := hX) rfl rfl ?_
        refine g_callV (rest := []) hX (c_X0_start l D cC cI cJ cO h k f s b x) ok_X0_start rfl 0 rfl rfl (fun _ => rfl) (hd := dX5_tellInputs_29) gX5_tellInputs_X0_start ⟨by decide, by decide⟩ rfl (Nat.le_of_ble_eq_true rfl) ⟨Nat.zero_le _, Nat.zero_le _⟩ [3, 4, 5, 6] (by decide) rfl rfl ?_
        intro _u29 _p29
        show GW X [(a, .inr (5, [.ref la, .ref na, .int (nI len), .int (nI pl)])), (la, .inl (cC, 200, .inl (fun j_ => nI (T j_)))), (na, .inl (cI, 3, .inl G)), (h, .inr (0, [.ref k, .ref f, .ref s, .int (nI ((stC b x) 0)), .int (nI ((stC b x) 1)), .int (nI ((stC b x) 2)), .int (nI ((stC b x) 3)), .int (nI ((stC b x) 4)), .int (nI ((stC b x) 5))])), (k, .inl (cI, 24, .inl (fun j_ => nI ((stC b x) (6 + 3 * j_))))), (f, .inl (cI, 24, .inl (fun j_ => nI ((stC b x) (7 + 3 * j_))))), (s, .inl (cI, 24, .inl (fun j_ => nI ((stC b x) (8 + 3 * j_)))))] [(0, .ref a), (1, .ref h), (2, .int (nI x))] [] 32 0 0
        refine g_iconst (v := nI 1) hX dX5_tellInputs_32 (by decide) ?_
        exact (hret ((nI 1), (stC b x)) _ _ (Or.inl ⟨⟨c_11, c_16, c_22⟩, rfl⟩)).2.2.1 _ rfl rfl (by decide) dX5_tellInputs_33
      · refine g_iconst (v := nI 0) hX dX5_tellInputs_25 (by decide) ?_
        exact (hret ((nI 0), b) _ _ (Or.inr ⟨fun w => by omega, rfl⟩)).2.2.1 _ rfl rfl (by decide) dX5_tellInputs_26

theorem in_X5_tellGate_0 : ∀ w ∈ wsX00, w ∈ wsX5_tellGate := fun _ h => List.mem_cons_of_mem _ (List.mem_append_left _ (List.mem_append_right _ h))
theorem in_X5_tellGate_5 : ∀ w ∈ wsX50, w ∈ wsX5_tellGate := fun _ h => List.mem_cons_of_mem _ (List.mem_append_right _ h)
theorem ok_X5_tellGate : gOK yX5_tellGate wsX5_tellGate ({ frames := 2, cells := 0, slots := 0, locals := 47 }) 2 1 := ⟨⟨_, _, _, rfl⟩, rfl, rfl, by decide, by decide, by decide +kernel⟩
set_option maxRecDepth 100000 in
set_option maxHeartbeats 4000000 in
theorem c_X5_tellGate (l : Launch) (D : va_G) (cC cI cJ cO : ClassId) (a : Nat) (la : Nat) (na : Nat) (len : Nat) (pl : Nat) (T : Nat → Nat) (G : Nat → Int32) (h : Nat) (k : Nat) (f : Nat) (s : Nat) (b : Nat → Nat) (x : Nat) (y : Nat) (z : Nat) (hx : G 0 = nI x) (hy : G 1 = nI y) (hz : G 2 = nI z) (hb : x < 100 ∧ y < 100 ∧ z < 100) (h0 : b 0 ≤ 8) (h1 : b 1 ≤ 24) : CM (S := Int32 × (Nat → Nat)) l D (tyL cC cI cJ cO) yX5_tellGate wsX5_tellGate ({ frames := 2, cells := 0, slots := 0, locals := 47 }) [.ref a, .ref h] [(a, .inr (5, [.ref la, .ref na, .int (nI len), .int (nI pl)])), (la, .inl (cC, 200, .inl (fun j_ => nI (T j_)))), (na, .inl (cI, 3, .inl G)), (h, .inr (0, [.ref k, .ref f, .ref s, .int (nI (b 0)), .int (nI (b 1)), .int (nI (b 2)), .int (nI (b 3)), .int (nI (b 4)), .int (nI (b 5))])), (k, .inl (cI, 24, .inl (fun j_ => nI (b (6 + 3 * j_))))), (f, .inl (cI, 24, .inl (fun j_ => nI (b (7 + 3 * j_))))), (s, .inl (cI, 24, .inl (fun j_ => nI (b (8 + 3 * j_)))))] (fun u => some (.int u.1)) (fun u => ((b 1 < 24 ∧ x < 6 ∧ y < b 0 + b 1 ∧ z < b 0 + b 1) ∧ u = (nI 1, agC b x y z)) ∨ (¬ (b 1 < 24 ∧ x < 6 ∧ y < b 0 + b 1 ∧ z < b 0 + b 1) ∧ u = (nI 0, b))) (fun u_ => [(a, .inr (5, [.ref la, .ref na, .int (nI len), .int (nI pl)])), (la, .inl (cC, 200, .inl (fun j_ => nI (T j_)))), (na, .inl (cI, 3, .inl G)), (h, .inr (0, [.ref k, .ref f, .ref s, .int (nI (u_.2 0)), .int (nI (u_.2 1)), .int (nI (u_.2 2)), .int (nI (u_.2 3)), .int (nI (u_.2 4)), .int (nI (u_.2 5))])), (k, .inl (cI, 24, .inl (fun j_ => nI (u_.2 (6 + 3 * j_))))), (f, .inl (cI, 24, .inl (fun j_ => nI (u_.2 (7 + 3 * j_))))), (s, .inl (cI, 24, .inl (fun j_ => nI (u_.2 (8 + 3 * j_)))))]) := by
  refine CM_in (cc := cX5_tellGate) (maxL := 2) (ret := (some .boolean)) (by decide) rfl (Nat.le_of_ble_eq_true rfl) ?_
  intro X hX hret
  show GW X [(a, .inr (5, [.ref la, .ref na, .int (nI len), .int (nI pl)])), (la, .inl (cC, 200, .inl (fun j_ => nI (T j_)))), (na, .inl (cI, 3, .inl G)), (h, .inr (0, [.ref k, .ref f, .ref s, .int (nI (b 0)), .int (nI (b 1)), .int (nI (b 2)), .int (nI (b 3)), .int (nI (b 4)), .int (nI (b 5))])), (k, .inl (cI, 24, .inl (fun j_ => nI (b (6 + 3 * j_))))), (f, .inl (cI, 24, .inl (fun j_ => nI (b (7 + 3 * j_))))), (s, .inl (cI, 24, .inl (fun j_ => nI (b (8 + 3 * j_)))))] [(0, .ref a), (1, .ref h)] [] 0 0 0
  refine g_aload_n 1 (hd := dX5_tellGate_0) (C := hX) rfl rfl ?_
  refine g_get (hd := dX5_tellGate_1) (C := hX) 3 4 rfl rfl in_X5_tellGate_0 (by decide) (by decide +kernel) rfl ?_
  refine g_bipush (v := nI 24) hX dX5_tellGate_4 (by decide) ?_
  refine g_icmp_geN 38 (hd := dX5_tellGate_6) (C := hX) (by decide) (by omega) (by omega) (fun c_6 => ?_) (fun c_6 => ?_)
  · refine g_iconst (v := nI 0) hX dX5_tellGate_38 (by decide) ?_
    exact (hret ((nI 0), b) _ _ (by first | exact Or.inr ⟨fun w => p_32 ⟨(gv_N (by omega) (by omega)).mpr w.2.1, (gv_N (by omega) (by omega)).mpr w.2.2.1, (gv_N (by omega) (by omega)).mpr w.2.2.2⟩, rfl⟩ | exact Or.inr ⟨fun w => by omega, rfl⟩)).2.2.1 _ rfl rfl (by decide) dX5_tellGate_39
  · refine g_aload_n 1 (hd := dX5_tellGate_9) (C := hX) rfl rfl ?_
    refine g_aload_n 1 (hd := dX5_tellGate_10) (C := hX) rfl rfl ?_
    refine g_get (hd := dX5_tellGate_11) (C := hX) 3 4 rfl rfl in_X5_tellGate_0 (by decide) (by decide +kernel) rfl ?_
    refine g_aload_n 0 (hd := dX5_tellGate_14) (C := hX) rfl rfl ?_
    refine g_get (hd := dX5_tellGate_15) (C := hX) 0 1 rfl rfl in_X5_tellGate_5 (by decide) (by decide +kernel) rfl ?_
    refine g_iconst (v := nI 0) hX dX5_tellGate_18 (by decide) ?_
    refine g_iald (hd := dX5_tellGate_19) (C := hX) 2 1 rfl rfl (by omega) (by decide) ?_
    refine g_top (y := (nI x)) hx ?_
    refine g_aload_n 0 (hd := dX5_tellGate_20) (C := hX) rfl rfl ?_
    refine g_get (hd := dX5_tellGate_21) (C := hX) 0 1 rfl rfl in_X5_tellGate_5 (by decide) (by decide +kernel) rfl ?_
    refine g_iconst (v := nI 1) hX dX5_tellGate_24 (by decide) ?_
    refine g_iald (hd := dX5_tellGate_25) (C := hX) 2 1 rfl rfl (by omega) (by decide) ?_
    refine g_top (y := (nI y)) hy ?_
    refine g_aload_n 0 (hd := dX5_tellGate_26) (C := hX) rfl rfl ?_
    refine g_get (hd := dX5_tellGate_27) (C := hX) 0 1 rfl rfl in_X5_tellGate_5 (by decide) (by decide +kernel) rfl ?_
    refine g_iconst (v := nI 2) hX dX5_tellGate_30 (by decide) ?_
    refine g_iald (hd := dX5_tellGate_31) (C := hX) 2 1 rfl rfl (by omega) (by decide) ?_
    refine g_top (y := (nI z)) hz ?_
    refine g_callV (rest := []) hX (c_X0_canHaveGate l D cC cI cJ cO h k f s b (b 1) (nI x) (nI y) (nI z) (by omega) (by omega)) ok_X0_canHaveGate rfl 0 rfl rfl (fun _ => rfl) (hd := dX5_tellGate_32) gX5_tellGate_X0_canHaveGate ⟨by decide, by decide⟩ rfl (Nat.le_of_ble_eq_true rfl) ⟨Nat.zero_le _, Nat.zero_le _⟩ [3, 4, 5, 6] (by decide) rfl rfl ?_
    intro r_32 e_32
    rcases e_32 with ⟨rfl, p_32⟩ | ⟨rfl, p_32⟩
    · show GW X [(a, .inr (5, [.ref la, .ref na, .int (nI len), .int (nI pl)])), (la, .inl (cC, 200, .inl (fun j_ => nI (T j_)))), (na, .inl (cI, 3, .inl G)), (h, .inr (0, [.ref k, .ref f, .ref s, .int (nI (b 0)), .int (nI (b 1)), .int (nI (b 2)), .int (nI (b 3)), .int (nI (b 4)), .int (nI (b 5))])), (k, .inl (cI, 24, .inl (fun j_ => nI (b (6 + 3 * j_))))), (f, .inl (cI, 24, .inl (fun j_ => nI (b (7 + 3 * j_))))), (s, .inl (cI, 24, .inl (fun j_ => nI (b (8 + 3 * j_)))))] [(0, .ref a), (1, .ref h)] [.int (nI 1)] 35 0 0
      refine g_if_neN 40 (hd := dX5_tellGate_35) (C := hX) (by decide) (by decide) (fun c_35 => ?_) (fun c_35 => absurd c_35 (by decide))
      refine g_aload_n 1 (hd := dX5_tellGate_40) (C := hX) rfl rfl ?_
      refine g_aload_n 0 (hd := dX5_tellGate_41) (C := hX) rfl rfl ?_
      refine g_get (hd := dX5_tellGate_42) (C := hX) 0 1 rfl rfl in_X5_tellGate_5 (by decide) (by decide +kernel) rfl ?_
      refine g_iconst (v := nI 0) hX dX5_tellGate_45 (by decide) ?_
      refine g_iald (hd := dX5_tellGate_46) (C := hX) 2 1 rfl rfl (by omega) (by decide) ?_
      refine g_top (y := (nI x)) hx ?_
      refine g_aload_n 0 (hd := dX5_tellGate_47) (C := hX) rfl rfl ?_
      refine g_get (hd := dX5_tellGate_48) (C := hX) 0 1 rfl rfl in_X5_tellGate_5 (by decide) (by decide +kernel) rfl ?_
      refine g_iconst (v := nI 1) hX dX5_tellGate_51 (by decide) ?_
      refine g_iald (hd := dX5_tellGate_52) (C := hX) 2 1 rfl rfl (by omega) (by decide) ?_
      refine g_top (y := (nI y)) hy ?_
      refine g_aload_n 0 (hd := dX5_tellGate_53) (C := hX) rfl rfl ?_
      refine g_get (hd := dX5_tellGate_54) (C := hX) 0 1 rfl rfl in_X5_tellGate_5 (by decide) (by decide +kernel) rfl ?_
      refine g_iconst (v := nI 2) hX dX5_tellGate_57 (by decide) ?_
      refine g_iald (hd := dX5_tellGate_58) (C := hX) 2 1 rfl rfl (by omega) (by decide) ?_
      refine g_top (y := (nI z)) hz ?_
      refine g_callV (rest := []) hX (c_X0_appendGate l D cC cI cJ cO h k f s b x y z (by first | omega | (simp only [agC_1, crC_1, trS_1, srC_1, scC_1, stC_1]; omega))) ok_X0_appendGate rfl 0 rfl rfl (fun _ => rfl) (hd := dX5_tellGate_59) gX5_tellGate_X0_appendGate ⟨by decide, by decide⟩ rfl (Nat.le_of_ble_eq_true rfl) ⟨Nat.zero_le _, Nat.zero_le _⟩ [3, 4, 5, 6] (by decide) rfl rfl ?_
      intro _u59 _p59
      show GW X [(a, .inr (5, [.ref la, .ref na, .int (nI len), .int (nI pl)])), (la, .inl (cC, 200, .inl (fun j_ => nI (T j_)))), (na, .inl (cI, 3, .inl G)), (h, .inr (0, [.ref k, .ref f, .ref s, .int (nI ((agC b x y z) 0)), .int (nI ((agC b x y z) 1)), .int (nI ((agC b x y z) 2)), .int (nI ((agC b x y z) 3)), .int (nI ((agC b x y z) 4)), .int (nI ((agC b x y z) 5))])), (k, .inl (cI, 24, .inl (fun j_ => nI ((agC b x y z) (6 + 3 * j_))))), (f, .inl (cI, 24, .inl (fun j_ => nI ((agC b x y z) (7 + 3 * j_))))), (s, .inl (cI, 24, .inl (fun j_ => nI ((agC b x y z) (8 + 3 * j_)))))] [(0, .ref a), (1, .ref h)] [] 62 0 0
      refine g_iconst (v := nI 1) hX dX5_tellGate_62 (by decide) ?_
      exact (hret ((nI 1), (agC b x y z)) _ _ (Or.inl ⟨⟨c_6, (gv_N (by omega) (by omega)).mp p_32.1, (gv_N (by omega) (by omega)).mp p_32.2.1, (gv_N (by omega) (by omega)).mp p_32.2.2⟩, rfl⟩)).2.2.1 _ rfl rfl (by decide) dX5_tellGate_63
    · show GW X [(a, .inr (5, [.ref la, .ref na, .int (nI len), .int (nI pl)])), (la, .inl (cC, 200, .inl (fun j_ => nI (T j_)))), (na, .inl (cI, 3, .inl G)), (h, .inr (0, [.ref k, .ref f, .ref s, .int (nI (b 0)), .int (nI (b 1)), .int (nI (b 2)), .int (nI (b 3)), .int (nI (b 4)), .int (nI (b 5))])), (k, .inl (cI, 24, .inl (fun j_ => nI (b (6 + 3 * j_))))), (f, .inl (cI, 24, .inl (fun j_ => nI (b (7 + 3 * j_))))), (s, .inl (cI, 24, .inl (fun j_ => nI (b (8 + 3 * j_)))))] [(0, .ref a), (1, .ref h)] [.int (nI 0)] 35 0 0
      refine g_if_neN 40 (hd := dX5_tellGate_35) (C := hX) (by decide) (by decide) (fun c_35 => absurd c_35 (by decide)) (fun c_35 => ?_)
      refine g_iconst (v := nI 0) hX dX5_tellGate_38 (by decide) ?_
      exact (hret ((nI 0), b) _ _ (by first | exact Or.inr ⟨fun w => p_32 ⟨(gv_N (by omega) (by omega)).mpr w.2.1, (gv_N (by omega) (by omega)).mpr w.2.2.1, (gv_N (by omega) (by omega)).mpr w.2.2.2⟩, rfl⟩ | exact Or.inr ⟨fun w => by omega, rfl⟩)).2.2.1 _ rfl rfl (by decide) dX5_tellGate_39

theorem in_X5_tellRails_5 : ∀ w ∈ wsX50, w ∈ wsX5_tellRails := fun _ h => List.mem_cons_of_mem _ (List.mem_append_left _ (List.mem_append_right _ h))
theorem in_X5_tellRails_0 : ∀ w ∈ wsX00, w ∈ wsX5_tellRails := fun _ h => List.mem_cons_of_mem _ (List.mem_append_right _ h)
theorem ok_X5_tellRails : gOK yX5_tellRails wsX5_tellRails ({ frames := 2, cells := 0, slots := 0, locals := 41 }) 2 1 := ⟨⟨_, _, _, rfl⟩, rfl, rfl, by decide, by decide, by decide +kernel⟩
set_option maxRecDepth 100000 in
set_option maxHeartbeats 4000000 in
theorem c_X5_tellRails (l : Launch) (D : va_G) (cC cI cJ cO : ClassId) (a : Nat) (la : Nat) (na : Nat) (len : Nat) (pl : Nat) (T : Nat → Nat) (G : Nat → Int32) (h : Nat) (k : Nat) (f : Nat) (s : Nat) (b : Nat → Nat) (x : Nat) (y : Nat) (hx : G 0 = nI x) (hy : G 1 = nI y) (hb : x < 100 ∧ y < 100) (h0 : b 0 ≤ 8) (h1 : b 1 ≤ 24) : CM (S := Int32 × (Nat → Nat)) l D (tyL cC cI cJ cO) yX5_tellRails wsX5_tellRails ({ frames := 2, cells := 0, slots := 0, locals := 41 }) [.ref a, .ref h] [(a, .inr (5, [.ref la, .ref na, .int (nI len), .int (nI pl)])), (la, .inl (cC, 200, .inl (fun j_ => nI (T j_)))), (na, .inl (cI, 3, .inl G)), (h, .inr (0, [.ref k, .ref f, .ref s, .int (nI (b 0)), .int (nI (b 1)), .int (nI (b 2)), .int (nI (b 3)), .int (nI (b 4)), .int (nI (b 5))])), (k, .inl (cI, 24, .inl (fun j_ => nI (b (6 + 3 * j_))))), (f, .inl (cI, 24, .inl (fun j_ => nI (b (7 + 3 * j_))))), (s, .inl (cI, 24, .inl (fun j_ => nI (b (8 + 3 * j_)))))] (fun u => some (.int u.1)) (fun u => ((x < b 0 + b 1 ∧ y < b 0 + b 1) ∧ u = (nI 1, srC b x y)) ∨ (¬ (x < b 0 + b 1 ∧ y < b 0 + b 1) ∧ u = (nI 0, b))) (fun u_ => [(a, .inr (5, [.ref la, .ref na, .int (nI len), .int (nI pl)])), (la, .inl (cC, 200, .inl (fun j_ => nI (T j_)))), (na, .inl (cI, 3, .inl G)), (h, .inr (0, [.ref k, .ref f, .ref s, .int (nI (u_.2 0)), .int (nI (u_.2 1)), .int (nI (u_.2 2)), .int (nI (u_.2 3)), .int (nI (u_.2 4)), .int (nI (u_.2 5))])), (k, .inl (cI, 24, .inl (fun j_ => nI (u_.2 (6 + 3 * j_))))), (f, .inl (cI, 24, .inl (fun j_ => nI (u_.2 (7 + 3 * j_))))), (s, .inl (cI, 24, .inl (fun j_ => nI (u_.2 (8 + 3 * j_)))))]) := by
  refine CM_in (cc := cX5_tellRails) (maxL := 2) (ret := (some .boolean)) (by decide) rfl (Nat.le_of_ble_eq_true rfl) ?_
  intro X hX hret
  show GW X [(a, .inr (5, [.ref la, .ref na, .int (nI len), .int (nI pl)])), (la, .inl (cC, 200, .inl (fun j_ => nI (T j_)))), (na, .inl (cI, 3, .inl G)), (h, .inr (0, [.ref k, .ref f, .ref s, .int (nI (b 0)), .int (nI (b 1)), .int (nI (b 2)), .int (nI (b 3)), .int (nI (b 4)), .int (nI (b 5))])), (k, .inl (cI, 24, .inl (fun j_ => nI (b (6 + 3 * j_))))), (f, .inl (cI, 24, .inl (fun j_ => nI (b (7 + 3 * j_))))), (s, .inl (cI, 24, .inl (fun j_ => nI (b (8 + 3 * j_)))))] [(0, .ref a), (1, .ref h)] [] 0 0 0
  refine g_aload_n 1 (hd := dX5_tellRails_0) (C := hX) rfl rfl ?_
  refine g_aload_n 0 (hd := dX5_tellRails_1) (C := hX) rfl rfl ?_
  refine g_get (hd := dX5_tellRails_2) (C := hX) 0 1 rfl rfl in_X5_tellRails_5 (by decide) (by decide +kernel) rfl ?_
  refine g_iconst (v := nI 0) hX dX5_tellRails_5 (by decide) ?_
  refine g_iald (hd := dX5_tellRails_6) (C := hX) 2 1 rfl rfl (by omega) (by decide) ?_
  refine g_top (y := (nI x)) hx ?_
  refine g_callV (rest := []) hX (c_X0_hasWire l D cC cI cJ cO h k f s b (nI x) (by omega) (by omega)) ok_X0_hasWire rfl 0 rfl rfl (fun _ => rfl) (hd := dX5_tellRails_7) gX5_tellRails_X0_hasWire ⟨by decide, by decide⟩ rfl (Nat.le_of_ble_eq_true rfl) ⟨Nat.zero_le _, Nat.zero_le _⟩ [3, 4, 5, 6] (by decide) rfl rfl ?_
  intro r_7 e_7
  rcases e_7 with ⟨rfl, p_7⟩ | ⟨rfl, p_7⟩
  · show GW X [(a, .inr (5, [.ref la, .ref na, .int (nI len), .int (nI pl)])), (la, .inl (cC, 200, .inl (fun j_ => nI (T j_)))), (na, .inl (cI, 3, .inl G)), (h, .inr (0, [.ref k, .ref f, .ref s, .int (nI (b 0)), .int (nI (b 1)), .int (nI (b 2)), .int (nI (b 3)), .int (nI (b 4)), .int (nI (b 5))])), (k, .inl (cI, 24, .inl (fun j_ => nI (b (6 + 3 * j_))))), (f, .inl (cI, 24, .inl (fun j_ => nI (b (7 + 3 * j_))))), (s, .inl (cI, 24, .inl (fun j_ => nI (b (8 + 3 * j_)))))] [(0, .ref a), (1, .ref h)] [.int (nI 1)] 10 0 0
    refine g_if_eqN 26 (hd := dX5_tellRails_10) (C := hX) (by decide) (by decide) (fun c_10 => absurd c_10 (by decide)) (fun c_10 => ?_)
    refine g_aload_n 1 (hd := dX5_tellRails_13) (C := hX) rfl rfl ?_
    refine g_aload_n 0 (hd := dX5_tellRails_14) (C := hX) rfl rfl ?_
    refine g_get (hd := dX5_tellRails_15) (C := hX) 0 1 rfl rfl in_X5_tellRails_5 (by decide) (by decide +kernel) rfl ?_
    refine g_iconst (v := nI 1) hX dX5_tellRails_18 (by decide) ?_
    refine g_iald (hd := dX5_tellRails_19) (C := hX) 2 1 rfl rfl (by omega) (by decide) ?_
    refine g_top (y := (nI y)) hy ?_
    refine g_callV (rest := []) hX (c_X0_hasWire l D cC cI cJ cO h k f s b (nI y) (by omega) (by omega)) ok_X0_hasWire rfl 0 rfl rfl (fun _ => rfl) (hd := dX5_tellRails_20) gX5_tellRails_X0_hasWire ⟨by decide, by decide⟩ rfl (Nat.le_of_ble_eq_true rfl) ⟨Nat.zero_le _, Nat.zero_le _⟩ [3, 4, 5, 6] (by decide) rfl rfl ?_
    intro r_20 e_20
    rcases e_20 with ⟨rfl, p_20⟩ | ⟨rfl, p_20⟩
    · show GW X [(a, .inr (5, [.ref la, .ref na, .int (nI len), .int (nI pl)])), (la, .inl (cC, 200, .inl (fun j_ => nI (T j_)))), (na, .inl (cI, 3, .inl G)), (h, .inr (0, [.ref k, .ref f, .ref s, .int (nI (b 0)), .int (nI (b 1)), .int (nI (b 2)), .int (nI (b 3)), .int (nI (b 4)), .int (nI (b 5))])), (k, .inl (cI, 24, .inl (fun j_ => nI (b (6 + 3 * j_))))), (f, .inl (cI, 24, .inl (fun j_ => nI (b (7 + 3 * j_))))), (s, .inl (cI, 24, .inl (fun j_ => nI (b (8 + 3 * j_)))))] [(0, .ref a), (1, .ref h)] [.int (nI 1)] 23 0 0
      refine g_if_neN 28 (hd := dX5_tellRails_23) (C := hX) (by decide) (by decide) (fun c_23 => ?_) (fun c_23 => absurd c_23 (by decide))
      refine g_aload_n 1 (hd := dX5_tellRails_28) (C := hX) rfl rfl ?_
      refine g_aload_n 0 (hd := dX5_tellRails_29) (C := hX) rfl rfl ?_
      refine g_get (hd := dX5_tellRails_30) (C := hX) 0 1 rfl rfl in_X5_tellRails_5 (by decide) (by decide +kernel) rfl ?_
      refine g_iconst (v := nI 0) hX dX5_tellRails_33 (by decide) ?_
      refine g_iald (hd := dX5_tellRails_34) (C := hX) 2 1 rfl rfl (by omega) (by decide) ?_
      refine g_top (y := (nI x)) hx ?_
      refine g_aload_n 0 (hd := dX5_tellRails_35) (C := hX) rfl rfl ?_
      refine g_get (hd := dX5_tellRails_36) (C := hX) 0 1 rfl rfl in_X5_tellRails_5 (by decide) (by decide +kernel) rfl ?_
      refine g_iconst (v := nI 1) hX dX5_tellRails_39 (by decide) ?_
      refine g_iald (hd := dX5_tellRails_40) (C := hX) 2 1 rfl rfl (by omega) (by decide) ?_
      refine g_top (y := (nI y)) hy ?_
      refine g_callV (rest := []) hX (c_X0_setRails l D cC cI cJ cO h k f s b x y) ok_X0_setRails rfl 0 rfl rfl (fun _ => rfl) (hd := dX5_tellRails_41) gX5_tellRails_X0_setRails ⟨by decide, by decide⟩ rfl (Nat.le_of_ble_eq_true rfl) ⟨Nat.zero_le _, Nat.zero_le _⟩ [3, 4, 5, 6] (by decide) rfl rfl ?_
      intro _u41 _p41
      show GW X [(a, .inr (5, [.ref la, .ref na, .int (nI len), .int (nI pl)])), (la, .inl (cC, 200, .inl (fun j_ => nI (T j_)))), (na, .inl (cI, 3, .inl G)), (h, .inr (0, [.ref k, .ref f, .ref s, .int (nI ((srC b x y) 0)), .int (nI ((srC b x y) 1)), .int (nI ((srC b x y) 2)), .int (nI ((srC b x y) 3)), .int (nI ((srC b x y) 4)), .int (nI ((srC b x y) 5))])), (k, .inl (cI, 24, .inl (fun j_ => nI ((srC b x y) (6 + 3 * j_))))), (f, .inl (cI, 24, .inl (fun j_ => nI ((srC b x y) (7 + 3 * j_))))), (s, .inl (cI, 24, .inl (fun j_ => nI ((srC b x y) (8 + 3 * j_)))))] [(0, .ref a), (1, .ref h)] [] 44 0 0
      refine g_iconst (v := nI 1) hX dX5_tellRails_44 (by decide) ?_
      exact (hret ((nI 1), (srC b x y)) _ _ (Or.inl ⟨⟨(gv_N (by omega) (by omega)).mp p_7, (gv_N (by omega) (by omega)).mp p_20⟩, rfl⟩)).2.2.1 _ rfl rfl (by decide) dX5_tellRails_45
    · show GW X [(a, .inr (5, [.ref la, .ref na, .int (nI len), .int (nI pl)])), (la, .inl (cC, 200, .inl (fun j_ => nI (T j_)))), (na, .inl (cI, 3, .inl G)), (h, .inr (0, [.ref k, .ref f, .ref s, .int (nI (b 0)), .int (nI (b 1)), .int (nI (b 2)), .int (nI (b 3)), .int (nI (b 4)), .int (nI (b 5))])), (k, .inl (cI, 24, .inl (fun j_ => nI (b (6 + 3 * j_))))), (f, .inl (cI, 24, .inl (fun j_ => nI (b (7 + 3 * j_))))), (s, .inl (cI, 24, .inl (fun j_ => nI (b (8 + 3 * j_)))))] [(0, .ref a), (1, .ref h)] [.int (nI 0)] 23 0 0
      refine g_if_neN 28 (hd := dX5_tellRails_23) (C := hX) (by decide) (by decide) (fun c_23 => absurd c_23 (by decide)) (fun c_23 => ?_)
      refine g_iconst (v := nI 0) hX dX5_tellRails_26 (by decide) ?_
      exact (hret ((nI 0), b) _ _ (by first | exact Or.inr ⟨fun w => p_20 ((gv_N (by omega) (by omega)).mpr w.2), rfl⟩ | exact Or.inr ⟨fun w => p_7 ((gv_N (by omega) (by omega)).mpr w.1), rfl⟩)).2.2.1 _ rfl rfl (by decide) dX5_tellRails_27
  · show GW X [(a, .inr (5, [.ref la, .ref na, .int (nI len), .int (nI pl)])), (la, .inl (cC, 200, .inl (fun j_ => nI (T j_)))), (na, .inl (cI, 3, .inl G)), (h, .inr (0, [.ref k, .ref f, .ref s, .int (nI (b 0)), .int (nI (b 1)), .int (nI (b 2)), .int (nI (b 3)), .int (nI (b 4)), .int (nI (b 5))])), (k, .inl (cI, 24, .inl (fun j_ => nI (b (6 + 3 * j_))))), (f, .inl (cI, 24, .inl (fun j_ => nI (b (7 + 3 * j_))))), (s, .inl (cI, 24, .inl (fun j_ => nI (b (8 + 3 * j_)))))] [(0, .ref a), (1, .ref h)] [.int (nI 0)] 10 0 0
    refine g_if_eqN 26 (hd := dX5_tellRails_10) (C := hX) (by decide) (by decide) (fun c_10 => ?_) (fun c_10 => absurd c_10 (by decide))
    refine g_iconst (v := nI 0) hX dX5_tellRails_26 (by decide) ?_
    exact (hret ((nI 0), b) _ _ (by first | exact Or.inr ⟨fun w => p_20 ((gv_N (by omega) (by omega)).mpr w.2), rfl⟩ | exact Or.inr ⟨fun w => p_7 ((gv_N (by omega) (by omega)).mpr w.1), rfl⟩)).2.2.1 _ rfl rfl (by decide) dX5_tellRails_27

theorem in_X5_tellCode_5 : ∀ w ∈ wsX50, w ∈ wsX5_tellCode := fun _ h => List.mem_cons_of_mem _ (List.mem_append_left _ (List.mem_append_right _ h))
theorem in_X5_tellCode_0 : ∀ w ∈ wsX00, w ∈ wsX5_tellCode := fun _ h => List.mem_cons_of_mem _ (List.mem_append_right _ h)
theorem ok_X5_tellCode : gOK yX5_tellCode wsX5_tellCode ({ frames := 1, cells := 0, slots := 0, locals := 22 }) 2 1 := ⟨⟨_, _, _, rfl⟩, rfl, rfl, by decide, by decide, by decide +kernel⟩
set_option maxRecDepth 100000 in
set_option maxHeartbeats 4000000 in
theorem c_X5_tellCode (l : Launch) (D : va_G) (cC cI cJ cO : ClassId) (a : Nat) (la : Nat) (na : Nat) (len : Nat) (pl : Nat) (T : Nat → Nat) (G : Nat → Int32) (h : Nat) (k : Nat) (f : Nat) (s : Nat) (b : Nat → Nat) (x : Nat) (y : Nat) (hx : G 0 = nI x) (hy : G 1 = nI y) (hb : x < 100 ∧ y < 100) (h0 : b 0 ≤ 8) (h1 : b 1 ≤ 24) : CM (S := Int32 × (Nat → Nat)) l D (tyL cC cI cJ cO) yX5_tellCode wsX5_tellCode ({ frames := 1, cells := 0, slots := 0, locals := 22 }) [.ref a, .ref h] [(a, .inr (5, [.ref la, .ref na, .int (nI len), .int (nI pl)])), (la, .inl (cC, 200, .inl (fun j_ => nI (T j_)))), (na, .inl (cI, 3, .inl G)), (h, .inr (0, [.ref k, .ref f, .ref s, .int (nI (b 0)), .int (nI (b 1)), .int (nI (b 2)), .int (nI (b 3)), .int (nI (b 4)), .int (nI (b 5))])), (k, .inl (cI, 24, .inl (fun j_ => nI (b (6 + 3 * j_))))), (f, .inl (cI, 24, .inl (fun j_ => nI (b (7 + 3 * j_))))), (s, .inl (cI, 24, .inl (fun j_ => nI (b (8 + 3 * j_)))))] (fun u => some (.int u.1)) (fun u => (cdB (b 0) x y = true ∧ u = (nI 1, scC b x y)) ∨ (¬ cdB (b 0) x y = true ∧ u = (nI 0, b))) (fun u_ => [(a, .inr (5, [.ref la, .ref na, .int (nI len), .int (nI pl)])), (la, .inl (cC, 200, .inl (fun j_ => nI (T j_)))), (na, .inl (cI, 3, .inl G)), (h, .inr (0, [.ref k, .ref f, .ref s, .int (nI (u_.2 0)), .int (nI (u_.2 1)), .int (nI (u_.2 2)), .int (nI (u_.2 3)), .int (nI (u_.2 4)), .int (nI (u_.2 5))])), (k, .inl (cI, 24, .inl (fun j_ => nI (u_.2 (6 + 3 * j_))))), (f, .inl (cI, 24, .inl (fun j_ => nI (u_.2 (7 + 3 * j_))))), (s, .inl (cI, 24, .inl (fun j_ => nI (u_.2 (8 + 3 * j_)))))]) := by
  refine CM_in (cc := cX5_tellCode) (maxL := 2) (ret := (some .boolean)) (by decide) rfl (Nat.le_of_ble_eq_true rfl) ?_
  intro X hX hret
  show GW X [(a, .inr (5, [.ref la, .ref na, .int (nI len), .int (nI pl)])), (la, .inl (cC, 200, .inl (fun j_ => nI (T j_)))), (na, .inl (cI, 3, .inl G)), (h, .inr (0, [.ref k, .ref f, .ref s, .int (nI (b 0)), .int (nI (b 1)), .int (nI (b 2)), .int (nI (b 3)), .int (nI (b 4)), .int (nI (b 5))])), (k, .inl (cI, 24, .inl (fun j_ => nI (b (6 + 3 * j_))))), (f, .inl (cI, 24, .inl (fun j_ => nI (b (7 + 3 * j_))))), (s, .inl (cI, 24, .inl (fun j_ => nI (b (8 + 3 * j_)))))] [(0, .ref a), (1, .ref h)] [] 0 0 0
  refine g_aload_n 1 (hd := dX5_tellCode_0) (C := hX) rfl rfl ?_
  refine g_aload_n 0 (hd := dX5_tellCode_1) (C := hX) rfl rfl ?_
  refine g_get (hd := dX5_tellCode_2) (C := hX) 0 1 rfl rfl in_X5_tellCode_5 (by decide) (by decide +kernel) rfl ?_
  refine g_iconst (v := nI 0) hX dX5_tellCode_5 (by decide) ?_
  refine g_iald (hd := dX5_tellCode_6) (C := hX) 2 1 rfl rfl (by omega) (by decide) ?_
  refine g_top (y := (nI x)) hx ?_
  refine g_aload_n 0 (hd := dX5_tellCode_7) (C := hX) rfl rfl ?_
  refine g_get (hd := dX5_tellCode_8) (C := hX) 0 1 rfl rfl in_X5_tellCode_5 (by decide) (by decide +kernel) rfl ?_
  refine g_iconst (v := nI 1) hX dX5_tellCode_11 (by decide) ?_
  refine g_iald (hd := dX5_tellCode_12) (C := hX) 2 1 rfl rfl (by omega) (by decide) ?_
  refine g_top (y := (nI y)) hy ?_
  refine g_callV (rest := []) hX (c_X0_canHaveCode l D cC cI cJ cO h k f s b (nI x) (nI y) (by omega)) ok_X0_canHaveCode rfl 0 rfl rfl (fun _ => rfl) (hd := dX5_tellCode_13) gX5_tellCode_X0_canHaveCode ⟨by decide, by decide⟩ rfl (Nat.le_of_ble_eq_true rfl) ⟨Nat.zero_le _, Nat.zero_le _⟩ [3, 4, 5, 6] (by decide) rfl rfl ?_
  intro r_13 e_13
  rcases e_13 with ⟨rfl, p_13⟩ | ⟨rfl, p_13⟩
  · show GW X [(a, .inr (5, [.ref la, .ref na, .int (nI len), .int (nI pl)])), (la, .inl (cC, 200, .inl (fun j_ => nI (T j_)))), (na, .inl (cI, 3, .inl G)), (h, .inr (0, [.ref k, .ref f, .ref s, .int (nI (b 0)), .int (nI (b 1)), .int (nI (b 2)), .int (nI (b 3)), .int (nI (b 4)), .int (nI (b 5))])), (k, .inl (cI, 24, .inl (fun j_ => nI (b (6 + 3 * j_))))), (f, .inl (cI, 24, .inl (fun j_ => nI (b (7 + 3 * j_))))), (s, .inl (cI, 24, .inl (fun j_ => nI (b (8 + 3 * j_)))))] [(0, .ref a), (1, .ref h)] [.int (nI 1)] 16 0 0
    refine g_if_neN 21 (hd := dX5_tellCode_16) (C := hX) (by decide) (by decide) (fun c_16 => ?_) (fun c_16 => absurd c_16 (by decide))
    refine g_aload_n 1 (hd := dX5_tellCode_21) (C := hX) rfl rfl ?_
    refine g_aload_n 0 (hd := dX5_tellCode_22) (C := hX) rfl rfl ?_
    refine g_get (hd := dX5_tellCode_23) (C := hX) 0 1 rfl rfl in_X5_tellCode_5 (by decide) (by decide +kernel) rfl ?_
    refine g_iconst (v := nI 0) hX dX5_tellCode_26 (by decide) ?_
    refine g_iald (hd := dX5_tellCode_27) (C := hX) 2 1 rfl rfl (by omega) (by decide) ?_
    refine g_top (y := (nI x)) hx ?_
    refine g_aload_n 0 (hd := dX5_tellCode_28) (C := hX) rfl rfl ?_
    refine g_get (hd := dX5_tellCode_29) (C := hX) 0 1 rfl rfl in_X5_tellCode_5 (by decide) (by decide +kernel) rfl ?_
    refine g_iconst (v := nI 1) hX dX5_tellCode_32 (by decide) ?_
    refine g_iald (hd := dX5_tellCode_33) (C := hX) 2 1 rfl rfl (by omega) (by decide) ?_
    refine g_top (y := (nI y)) hy ?_
    refine g_callV (rest := []) hX (c_X0_setCode l D cC cI cJ cO h k f s b x y) ok_X0_setCode rfl 0 rfl rfl (fun _ => rfl) (hd := dX5_tellCode_34) gX5_tellCode_X0_setCode ⟨by decide, by decide⟩ rfl (Nat.le_of_ble_eq_true rfl) ⟨Nat.zero_le _, Nat.zero_le _⟩ [3, 4, 5, 6] (by decide) rfl rfl ?_
    intro _u34 _p34
    show GW X [(a, .inr (5, [.ref la, .ref na, .int (nI len), .int (nI pl)])), (la, .inl (cC, 200, .inl (fun j_ => nI (T j_)))), (na, .inl (cI, 3, .inl G)), (h, .inr (0, [.ref k, .ref f, .ref s, .int (nI ((scC b x y) 0)), .int (nI ((scC b x y) 1)), .int (nI ((scC b x y) 2)), .int (nI ((scC b x y) 3)), .int (nI ((scC b x y) 4)), .int (nI ((scC b x y) 5))])), (k, .inl (cI, 24, .inl (fun j_ => nI ((scC b x y) (6 + 3 * j_))))), (f, .inl (cI, 24, .inl (fun j_ => nI ((scC b x y) (7 + 3 * j_))))), (s, .inl (cI, 24, .inl (fun j_ => nI ((scC b x y) (8 + 3 * j_)))))] [(0, .ref a), (1, .ref h)] [] 37 0 0
    refine g_iconst (v := nI 1) hX dX5_tellCode_37 (by decide) ?_
    exact (hret ((nI 1), (scC b x y)) _ _ (Or.inl ⟨(cdI_N h0 hb.1 hb.2).mp p_13, rfl⟩)).2.2.1 _ rfl rfl (by decide) dX5_tellCode_38
  · show GW X [(a, .inr (5, [.ref la, .ref na, .int (nI len), .int (nI pl)])), (la, .inl (cC, 200, .inl (fun j_ => nI (T j_)))), (na, .inl (cI, 3, .inl G)), (h, .inr (0, [.ref k, .ref f, .ref s, .int (nI (b 0)), .int (nI (b 1)), .int (nI (b 2)), .int (nI (b 3)), .int (nI (b 4)), .int (nI (b 5))])), (k, .inl (cI, 24, .inl (fun j_ => nI (b (6 + 3 * j_))))), (f, .inl (cI, 24, .inl (fun j_ => nI (b (7 + 3 * j_))))), (s, .inl (cI, 24, .inl (fun j_ => nI (b (8 + 3 * j_)))))] [(0, .ref a), (1, .ref h)] [.int (nI 0)] 16 0 0
    refine g_if_neN 21 (hd := dX5_tellCode_16) (C := hX) (by decide) (by decide) (fun c_16 => absurd c_16 (by decide)) (fun c_16 => ?_)
    refine g_iconst (v := nI 0) hX dX5_tellCode_19 (by decide) ?_
    exact (hret ((nI 0), b) _ _ (Or.inr ⟨fun w => p_13 ((cdI_N h0 hb.1 hb.2).mpr w), rfl⟩)).2.2.1 _ rfl rfl (by decide) dX5_tellCode_20

theorem in_X5_tellItem_0 : ∀ w ∈ wsX00, w ∈ wsX5_tellItem := fun _ h => List.mem_cons_of_mem _ (List.mem_append_left _ (List.mem_append_right _ h))
theorem in_X5_tellItem_5 : ∀ w ∈ wsX50, w ∈ wsX5_tellItem := fun _ h => List.mem_cons_of_mem _ (List.mem_append_right _ h)
theorem ok_X5_tellItem : gOK yX5_tellItem wsX5_tellItem ({ frames := 3, cells := 0, slots := 0, locals := 68 }) 3 2 := ⟨⟨_, _, _, rfl⟩, rfl, rfl, by decide, by decide, by decide +kernel⟩
set_option maxRecDepth 100000 in
set_option maxHeartbeats 4000000 in
theorem c_X5_tellItem (l : Launch) (D : va_G) (cC cI cJ cO : ClassId) (a : Nat) (la : Nat) (na : Nat) (len : Nat) (pl : Nat) (T : Nat → Nat) (G : Nat → Int32) (h : Nat) (k : Nat) (f : Nat) (s : Nat) (b : Nat → Nat) (hd : Nat) (x : Nat) (y : Nat) (z : Nat) (hh : hd = 110 ∨ hd = 103 ∨ hd = 111 ∨ hd = 99) (hx : G 0 = nI x) (hy : hd ≠ 110 → G 1 = nI y) (hz : hd = 103 → G 2 = nI z) (hb : x < 100 ∧ y < 100 ∧ z < 100) (h0 : b 0 ≤ 8) (h1 : b 1 ≤ 24) : CM (S := Int32 × (Nat → Nat)) l D (tyL cC cI cJ cO) yX5_tellItem wsX5_tellItem ({ frames := 3, cells := 0, slots := 0, locals := 68 }) [.ref a, .ref h, .int (nI hd)] [(a, .inr (5, [.ref la, .ref na, .int (nI len), .int (nI pl)])), (la, .inl (cC, 200, .inl (fun j_ => nI (T j_)))), (na, .inl (cI, 3, .inl G)), (h, .inr (0, [.ref k, .ref f, .ref s, .int (nI (b 0)), .int (nI (b 1)), .int (nI (b 2)), .int (nI (b 3)), .int (nI (b 4)), .int (nI (b 5))])), (k, .inl (cI, 24, .inl (fun j_ => nI (b (6 + 3 * j_))))), (f, .inl (cI, 24, .inl (fun j_ => nI (b (7 + 3 * j_))))), (s, .inl (cI, 24, .inl (fun j_ => nI (b (8 + 3 * j_)))))] (fun u => some (.int u.1)) (fun u => (∃ c, tlS b hd x y z = some c ∧ u = (nI 1, c)) ∨ (tlS b hd x y z = none ∧ u = (nI 0, b))) (fun u_ => [(a, .inr (5, [.ref la, .ref na, .int (nI len), .int (nI pl)])), (la, .inl (cC, 200, .inl (fun j_ => nI (T j_)))), (na, .inl (cI, 3, .inl G)), (h, .inr (0, [.ref k, .ref f, .ref s, .int (nI (u_.2 0)), .int (nI (u_.2 1)), .int (nI (u_.2 2)), .int (nI (u_.2 3)), .int (nI (u_.2 4)), .int (nI (u_.2 5))])), (k, .inl (cI, 24, .inl (fun j_ => nI (u_.2 (6 + 3 * j_))))), (f, .inl (cI, 24, .inl (fun j_ => nI (u_.2 (7 + 3 * j_))))), (s, .inl (cI, 24, .inl (fun j_ => nI (u_.2 (8 + 3 * j_)))))]) := by
  refine CM_in (cc := cX5_tellItem) (maxL := 3) (ret := (some .boolean)) (by decide) rfl (Nat.le_of_ble_eq_true rfl) ?_
  intro X hX hret
  show GW X [(a, .inr (5, [.ref la, .ref na, .int (nI len), .int (nI pl)])), (la, .inl (cC, 200, .inl (fun j_ => nI (T j_)))), (na, .inl (cI, 3, .inl G)), (h, .inr (0, [.ref k, .ref f, .ref s, .int (nI (b 0)), .int (nI (b 1)), .int (nI (b 2)), .int (nI (b 3)), .int (nI (b 4)), .int (nI (b 5))])), (k, .inl (cI, 24, .inl (fun j_ => nI (b (6 + 3 * j_))))), (f, .inl (cI, 24, .inl (fun j_ => nI (b (7 + 3 * j_))))), (s, .inl (cI, 24, .inl (fun j_ => nI (b (8 + 3 * j_)))))] [(0, .ref a), (1, .ref h), (2, .int (nI hd))] [] 0 0 0
  refine g_iload_n 2 (hd := dX5_tellItem_0) (C := hX) rfl rfl ?_
  refine g_bipush (v := nI 110) hX dX5_tellItem_1 (by decide) ?_
  refine g_icmp_neN 12 (hd := dX5_tellItem_3) (C := hX) (by decide) (by omega) (by omega) (fun c_3 => ?_) (fun c_3 => ?_)
  · refine g_aload_n 1 (hd := dX5_tellItem_12) (C := hX) rfl rfl ?_
    refine g_get (hd := dX5_tellItem_13) (C := hX) 3 3 rfl rfl in_X5_tellItem_0 (by decide) (by decide +kernel) rfl ?_
    refine g_if_neN 21 (hd := dX5_tellItem_16) (C := hX) (by decide) (by omega) (fun c_16 => ?_) (fun c_16 => ?_)
    · refine g_iload_n 2 (hd := dX5_tellItem_21) (C := hX) rfl rfl ?_
      refine g_bipush (v := nI 103) hX dX5_tellItem_22 (by decide) ?_
      refine g_icmp_neN 33 (hd := dX5_tellItem_24) (C := hX) (by decide) (by omega) (by omega) (fun c_24 => ?_) (fun c_24 => ?_)
      · refine g_iload_n 2 (hd := dX5_tellItem_33) (C := hX) rfl rfl ?_
        refine g_bipush (v := nI 111) hX dX5_tellItem_34 (by decide) ?_
        refine g_icmp_neN 47 (hd := dX5_tellItem_36) (C := hX) (by decide) (by omega) (by omega) (fun c_36 => ?_) (fun c_36 => ?_)
        · refine g_aload_n 0 (hd := dX5_tellItem_47) (C := hX) rfl rfl ?_
          refine g_aload_n 1 (hd := dX5_tellItem_48) (C := hX) rfl rfl ?_
          refine g_callV (rest := []) hX (c_X5_tellCode l D cC cI cJ cO a la na len pl T G h k f s b x y hx (hy c_3) ⟨hb.1, hb.2.1⟩ h0 h1) ok_X5_tellCode rfl 0 rfl rfl (fun _ => rfl) (hd := dX5_tellItem_49) gX5_tellItem_X5_tellCode ⟨by decide, by decide⟩ rfl (Nat.le_of_ble_eq_true rfl) ⟨Nat.zero_le _, Nat.zero_le _⟩ [0, 1, 2, 3, 4, 5, 6] (by decide) rfl rfl ?_
          intro ⟨r_49, n_49⟩ e_49
          rcases e_49 with ⟨p_49, e_49⟩ | ⟨p_49, e_49⟩ <;> cases e_49
          · show GW X [(a, .inr (5, [.ref la, .ref na, .int (nI len), .int (nI pl)])), (la, .inl (cC, 200, .inl (fun j_ => nI (T j_)))), (na, .inl (cI, 3, .inl G)), (h, .inr (0, [.ref k, .ref f, .ref s, .int (nI ((scC b x y) 0)), .int (nI ((scC b x y) 1)), .int (nI ((scC b x y) 2)), .int (nI ((scC b x y) 3)), .int (nI ((scC b x y) 4)), .int (nI ((scC b x y) 5))])), (k, .inl (cI, 24, .inl (fun j_ => nI ((scC b x y) (6 + 3 * j_))))), (f, .inl (cI, 24, .inl (fun j_ => nI ((scC b x y) (7 + 3 * j_))))), (s, .inl (cI, 24, .inl (fun j_ => nI ((scC b x y) (8 + 3 * j_)))))] [(0, .ref a), (1, .ref h), (2, .int (nI hd))] [.int (nI 1)] 52 0 0
            exact (hret ((nI 1), (scC b x y)) _ _ (Or.inl ⟨_, by unfold tlS; rw [if_neg c_3, if_neg c_16, if_neg c_24, if_neg c_36, if_pos p_49], rfl⟩)).2.2.1 _ rfl rfl (by decide) dX5_tellItem_52
          · show GW X [(a, .inr (5, [.ref la, .ref na, .int (nI len), .int (nI pl)])), (la, .inl (cC, 200, .inl (fun j_ => nI (T j_)))), (na, .inl (cI, 3, .inl G)), (h, .inr (0, [.ref k, .ref f, .ref s, .int (nI (b 0)), .int (nI (b 1)), .int (nI (b 2)), .int (nI (b 3)), .int (nI (b 4)), .int (nI (b 5))])), (k, .inl (cI, 24, .inl (fun j_ => nI (b (6 + 3 * j_))))), (f, .inl (cI, 24, .inl (fun j_ => nI (b (7 + 3 * j_))))), (s, .inl (cI, 24, .inl (fun j_ => nI (b (8 + 3 * j_)))))] [(0, .ref a), (1, .ref h), (2, .int (nI hd))] [.int (nI 0)] 52 0 0
            exact (hret ((nI 0), b) _ _ (Or.inr ⟨by unfold tlS; rw [if_neg c_3, if_neg c_16, if_neg c_24, if_neg c_36, if_neg p_49], rfl⟩)).2.2.1 _ rfl rfl (by decide) dX5_tellItem_52
        · refine g_aload_n 0 (hd := dX5_tellItem_39) (C := hX) rfl rfl ?_
          refine g_aload_n 1 (hd := dX5_tellItem_40) (C := hX) rfl rfl ?_
          refine g_callV (rest := []) hX (c_X5_tellRails l D cC cI cJ cO a la na len pl T G h k f s b x y hx (hy c_3) ⟨hb.1, hb.2.1⟩ h0 h1) ok_X5_tellRails rfl 0 rfl rfl (fun _ => rfl) (hd := dX5_tellItem_41) gX5_tellItem_X5_tellRails ⟨by decide, by decide⟩ rfl (Nat.le_of_ble_eq_true rfl) ⟨Nat.zero_le _, Nat.zero_le _⟩ [0, 1, 2, 3, 4, 5, 6] (by decide) rfl rfl ?_
          intro ⟨r_41, n_41⟩ e_41
          rcases e_41 with ⟨p_41, e_41⟩ | ⟨p_41, e_41⟩ <;> cases e_41
          · show GW X [(a, .inr (5, [.ref la, .ref na, .int (nI len), .int (nI pl)])), (la, .inl (cC, 200, .inl (fun j_ => nI (T j_)))), (na, .inl (cI, 3, .inl G)), (h, .inr (0, [.ref k, .ref f, .ref s, .int (nI ((srC b x y) 0)), .int (nI ((srC b x y) 1)), .int (nI ((srC b x y) 2)), .int (nI ((srC b x y) 3)), .int (nI ((srC b x y) 4)), .int (nI ((srC b x y) 5))])), (k, .inl (cI, 24, .inl (fun j_ => nI ((srC b x y) (6 + 3 * j_))))), (f, .inl (cI, 24, .inl (fun j_ => nI ((srC b x y) (7 + 3 * j_))))), (s, .inl (cI, 24, .inl (fun j_ => nI ((srC b x y) (8 + 3 * j_)))))] [(0, .ref a), (1, .ref h), (2, .int (nI hd))] [.int (nI 1)] 44 0 0
            refine g_goto 52 (hd := dX5_tellItem_44) (C := hX) (by decide) ?_
            exact (hret ((nI 1), (srC b x y)) _ _ (Or.inl ⟨_, by unfold tlS; rw [if_neg c_3, if_neg c_16, if_neg c_24, if_pos c_36, if_pos p_41], rfl⟩)).2.2.1 _ rfl rfl (by decide) dX5_tellItem_52
          · show GW X [(a, .inr (5, [.ref la, .ref na, .int (nI len), .int (nI pl)])), (la, .inl (cC, 200, .inl (fun j_ => nI (T j_)))), (na, .inl (cI, 3, .inl G)), (h, .inr (0, [.ref k, .ref f, .ref s, .int (nI (b 0)), .int (nI (b 1)), .int (nI (b 2)), .int (nI (b 3)), .int (nI (b 4)), .int (nI (b 5))])), (k, .inl (cI, 24, .inl (fun j_ => nI (b (6 + 3 * j_))))), (f, .inl (cI, 24, .inl (fun j_ => nI (b (7 + 3 * j_))))), (s, .inl (cI, 24, .inl (fun j_ => nI (b (8 + 3 * j_)))))] [(0, .ref a), (1, .ref h), (2, .int (nI hd))] [.int (nI 0)] 44 0 0
            refine g_goto 52 (hd := dX5_tellItem_44) (C := hX) (by decide) ?_
            exact (hret ((nI 0), b) _ _ (Or.inr ⟨by unfold tlS; rw [if_neg c_3, if_neg c_16, if_neg c_24, if_pos c_36, if_neg p_41], rfl⟩)).2.2.1 _ rfl rfl (by decide) dX5_tellItem_52
      · refine g_aload_n 0 (hd := dX5_tellItem_27) (C := hX) rfl rfl ?_
        refine g_aload_n 1 (hd := dX5_tellItem_28) (C := hX) rfl rfl ?_
        refine g_callV (rest := []) hX (c_X5_tellGate l D cC cI cJ cO a la na len pl T G h k f s b x y z hx (hy c_3) (hz c_24) hb h0 h1) ok_X5_tellGate rfl 0 rfl rfl (fun _ => rfl) (hd := dX5_tellItem_29) gX5_tellItem_X5_tellGate ⟨by decide, by decide⟩ rfl (Nat.le_of_ble_eq_true rfl) ⟨Nat.zero_le _, Nat.zero_le _⟩ [0, 1, 2, 3, 4, 5, 6] (by decide) rfl rfl ?_
        intro ⟨r_29, n_29⟩ e_29
        rcases e_29 with ⟨p_29, e_29⟩ | ⟨p_29, e_29⟩ <;> cases e_29
        · show GW X [(a, .inr (5, [.ref la, .ref na, .int (nI len), .int (nI pl)])), (la, .inl (cC, 200, .inl (fun j_ => nI (T j_)))), (na, .inl (cI, 3, .inl G)), (h, .inr (0, [.ref k, .ref f, .ref s, .int (nI ((agC b x y z) 0)), .int (nI ((agC b x y z) 1)), .int (nI ((agC b x y z) 2)), .int (nI ((agC b x y z) 3)), .int (nI ((agC b x y z) 4)), .int (nI ((agC b x y z) 5))])), (k, .inl (cI, 24, .inl (fun j_ => nI ((agC b x y z) (6 + 3 * j_))))), (f, .inl (cI, 24, .inl (fun j_ => nI ((agC b x y z) (7 + 3 * j_))))), (s, .inl (cI, 24, .inl (fun j_ => nI ((agC b x y z) (8 + 3 * j_)))))] [(0, .ref a), (1, .ref h), (2, .int (nI hd))] [.int (nI 1)] 32 0 0
          exact (hret ((nI 1), (agC b x y z)) _ _ (Or.inl ⟨_, by unfold tlS; rw [if_neg c_3, if_neg c_16, if_pos c_24, if_pos p_29], rfl⟩)).2.2.1 _ rfl rfl (by decide) dX5_tellItem_32
        · show GW X [(a, .inr (5, [.ref la, .ref na, .int (nI len), .int (nI pl)])), (la, .inl (cC, 200, .inl (fun j_ => nI (T j_)))), (na, .inl (cI, 3, .inl G)), (h, .inr (0, [.ref k, .ref f, .ref s, .int (nI (b 0)), .int (nI (b 1)), .int (nI (b 2)), .int (nI (b 3)), .int (nI (b 4)), .int (nI (b 5))])), (k, .inl (cI, 24, .inl (fun j_ => nI (b (6 + 3 * j_))))), (f, .inl (cI, 24, .inl (fun j_ => nI (b (7 + 3 * j_))))), (s, .inl (cI, 24, .inl (fun j_ => nI (b (8 + 3 * j_)))))] [(0, .ref a), (1, .ref h), (2, .int (nI hd))] [.int (nI 0)] 32 0 0
          exact (hret ((nI 0), b) _ _ (Or.inr ⟨by unfold tlS; rw [if_neg c_3, if_neg c_16, if_pos c_24, if_neg p_29], rfl⟩)).2.2.1 _ rfl rfl (by decide) dX5_tellItem_32
    · refine g_iconst (v := nI 0) hX dX5_tellItem_19 (by decide) ?_
      exact (hret ((nI 0), b) _ _ (Or.inr ⟨by unfold tlS; rw [if_neg c_3, if_pos c_16], rfl⟩)).2.2.1 _ rfl rfl (by decide) dX5_tellItem_20
  · refine g_aload_n 0 (hd := dX5_tellItem_6) (C := hX) rfl rfl ?_
    refine g_aload_n 1 (hd := dX5_tellItem_7) (C := hX) rfl rfl ?_
    refine g_callV (rest := []) hX (c_X5_tellInputs l D cC cI cJ cO a la na len pl T G h k f s b x hx hb.1 h0) ok_X5_tellInputs rfl 0 rfl rfl (fun _ => rfl) (hd := dX5_tellItem_8) gX5_tellItem_X5_tellInputs ⟨by decide, by decide⟩ rfl (Nat.le_of_ble_eq_true rfl) ⟨Nat.zero_le _, Nat.zero_le _⟩ [0, 1, 2, 3, 4, 5, 6] (by decide) rfl rfl ?_
    intro ⟨r_8, n_8⟩ e_8
    rcases e_8 with ⟨p_8, e_8⟩ | ⟨p_8, e_8⟩ <;> cases e_8
    · show GW X [(a, .inr (5, [.ref la, .ref na, .int (nI len), .int (nI pl)])), (la, .inl (cC, 200, .inl (fun j_ => nI (T j_)))), (na, .inl (cI, 3, .inl G)), (h, .inr (0, [.ref k, .ref f, .ref s, .int (nI ((stC b x) 0)), .int (nI ((stC b x) 1)), .int (nI ((stC b x) 2)), .int (nI ((stC b x) 3)), .int (nI ((stC b x) 4)), .int (nI ((stC b x) 5))])), (k, .inl (cI, 24, .inl (fun j_ => nI ((stC b x) (6 + 3 * j_))))), (f, .inl (cI, 24, .inl (fun j_ => nI ((stC b x) (7 + 3 * j_))))), (s, .inl (cI, 24, .inl (fun j_ => nI ((stC b x) (8 + 3 * j_)))))] [(0, .ref a), (1, .ref h), (2, .int (nI hd))] [.int (nI 1)] 11 0 0
      exact (hret ((nI 1), (stC b x)) _ _ (Or.inl ⟨_, by unfold tlS; rw [if_pos c_3, if_pos p_8], rfl⟩)).2.2.1 _ rfl rfl (by decide) dX5_tellItem_11
    · show GW X [(a, .inr (5, [.ref la, .ref na, .int (nI len), .int (nI pl)])), (la, .inl (cC, 200, .inl (fun j_ => nI (T j_)))), (na, .inl (cI, 3, .inl G)), (h, .inr (0, [.ref k, .ref f, .ref s, .int (nI (b 0)), .int (nI (b 1)), .int (nI (b 2)), .int (nI (b 3)), .int (nI (b 4)), .int (nI (b 5))])), (k, .inl (cI, 24, .inl (fun j_ => nI (b (6 + 3 * j_))))), (f, .inl (cI, 24, .inl (fun j_ => nI (b (7 + 3 * j_))))), (s, .inl (cI, 24, .inl (fun j_ => nI (b (8 + 3 * j_)))))] [(0, .ref a), (1, .ref h), (2, .int (nI hd))] [.int (nI 0)] 11 0 0
      exact (hret ((nI 0), b) _ _ (Or.inr ⟨by unfold tlS; rw [if_pos c_3, if_neg p_8], rfl⟩)).2.2.1 _ rfl rfl (by decide) dX5_tellItem_11
