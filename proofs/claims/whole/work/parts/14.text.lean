theorem in_X5_readFigure_5 : ∀ w ∈ wsX50, w ∈ wsX5_readFigure := fun _ h => List.mem_cons_of_mem _ (List.mem_append_right _ h)
theorem ok_X5_readFigure : gOK yX5_readFigure wsX5_readFigure ({ frames := 0, cells := 0, slots := 0, locals := 0 }) 2 0 := ⟨⟨_, _, _, rfl⟩, rfl, rfl, by decide, by decide, by decide +kernel⟩
set_option maxRecDepth 100000 in
set_option maxHeartbeats 4000000 in
theorem c_X5_readFigure (l : Launch) (D : va_G) (cC cI cJ cO : ClassId) (a : Nat) (la : Nat) (na : Nat) (len : Nat) (pl : Nat) (T : Nat → Nat) (G : Nat → Int32) (hp : pl ≤ 300) (hl : len ≤ 200) (hT : ∀ p, p < len → T p < 128) : CM (S := Int32 × Nat) l D (tyL cC cI cJ cO) yX5_readFigure wsX5_readFigure ({ frames := 0, cells := 0, slots := 0, locals := 0 }) [.ref a] [(a, .inr (5, [.ref la, .ref na, .int (nI len), .int (nI pl)])), (la, .inl (cC, 200, .inl (fun j_ => nI (T j_)))), (na, .inl (cI, 3, .inl G))] (fun u => some (.int u.1)) (fun u => (dg T len pl = true ∧ u = (nI (T pl - 48), pl + 1)) ∨ (dg T len pl = false ∧ u = ((-1), pl))) (fun u_ => [(a, .inr (5, [.ref la, .ref na, .int (nI len), .int (nI u_.2)])), (la, .inl (cC, 200, .inl (fun j_ => nI (T j_)))), (na, .inl (cI, 3, .inl G))]) := by
  refine CM_in (cc := cX5_readFigure) (maxL := 2) (ret := (some .int)) (by decide) rfl (Nat.le_of_ble_eq_true rfl) ?_
  intro X hX hret
  show GW X [(a, .inr (5, [.ref la, .ref na, .int (nI len), .int (nI pl)])), (la, .inl (cC, 200, .inl (fun j_ => nI (T j_)))), (na, .inl (cI, 3, .inl G))] [(0, .ref a)] [] 0 0 0
  refine g_aload_n 0 (hd := dX5_readFigure_0) (C := hX) rfl rfl ?_
  refine g_get (hd := dX5_readFigure_1) (C := hX) 0 3 rfl rfl in_X5_readFigure_5 (by decide) (by decide +kernel) rfl ?_
  refine g_aload_n 0 (hd := dX5_readFigure_4) (C := hX) rfl rfl ?_
  refine g_get (hd := dX5_readFigure_5) (C := hX) 0 2 rfl rfl in_X5_readFigure_5 (by decide) (by decide +kernel) rfl ?_
  refine g_icmp_geN 39 (hd := dX5_readFigure_8) (C := hX) (by decide) (by omega) (by omega) (fun c_8 => ?_) (fun c_8 => ?_)
  · refine g_iconst (v := (-1)) hX dX5_readFigure_39 (by decide) ?_
    exact (hret ((-1), pl) _ _ (by first | exact Or.inl ⟨dg_yes c_8 c_22 c_36, rfl⟩ | exact Or.inr ⟨dg_no (by omega), rfl⟩)).2.1 _ rfl rfl dX5_readFigure_40
  · have hq := hT pl (by omega)
    refine g_aload_n 0 (hd := dX5_readFigure_11) (C := hX) rfl rfl ?_
    refine g_get (hd := dX5_readFigure_12) (C := hX) 0 0 rfl rfl in_X5_readFigure_5 (by decide) (by decide +kernel) rfl ?_
    refine g_aload_n 0 (hd := dX5_readFigure_15) (C := hX) rfl rfl ?_
    refine g_get (hd := dX5_readFigure_16) (C := hX) 0 3 rfl rfl in_X5_readFigure_5 (by decide) (by decide +kernel) rfl ?_
    refine g_cald (hd := dX5_readFigure_19) (C := hX) 1 0 rfl rfl (by omega) (by decide) ?_
    refine g_bipush (v := nI 48) hX dX5_readFigure_20 (by decide) ?_
    refine g_icmp_ltN 39 (hd := dX5_readFigure_22) (C := hX) (by decide) (by omega) (by omega) (fun c_22 => ?_) (fun c_22 => ?_)
    · refine g_iconst (v := (-1)) hX dX5_readFigure_39 (by decide) ?_
      exact (hret ((-1), pl) _ _ (by first | exact Or.inl ⟨dg_yes c_8 c_22 c_36, rfl⟩ | exact Or.inr ⟨dg_no (by omega), rfl⟩)).2.1 _ rfl rfl dX5_readFigure_40
    · refine g_aload_n 0 (hd := dX5_readFigure_25) (C := hX) rfl rfl ?_
      refine g_get (hd := dX5_readFigure_26) (C := hX) 0 0 rfl rfl in_X5_readFigure_5 (by decide) (by decide +kernel) rfl ?_
      refine g_aload_n 0 (hd := dX5_readFigure_29) (C := hX) rfl rfl ?_
      refine g_get (hd := dX5_readFigure_30) (C := hX) 0 3 rfl rfl in_X5_readFigure_5 (by decide) (by decide +kernel) rfl ?_
      refine g_cald (hd := dX5_readFigure_33) (C := hX) 1 0 rfl rfl (by omega) (by decide) ?_
      refine g_bipush (v := nI 57) hX dX5_readFigure_34 (by decide) ?_
      refine g_icmp_leN 41 (hd := dX5_readFigure_36) (C := hX) (by decide) (by omega) (by omega) (fun c_36 => ?_) (fun c_36 => ?_)
      · refine g_aload_n 0 (hd := dX5_readFigure_41) (C := hX) rfl rfl ?_
        refine g_get (hd := dX5_readFigure_42) (C := hX) 0 0 rfl rfl in_X5_readFigure_5 (by decide) (by decide +kernel) rfl ?_
        refine g_aload_n 0 (hd := dX5_readFigure_45) (C := hX) rfl rfl ?_
        refine g_get (hd := dX5_readFigure_46) (C := hX) 0 3 rfl rfl in_X5_readFigure_5 (by decide) (by decide +kernel) rfl ?_
        refine g_cald (hd := dX5_readFigure_49) (C := hX) 1 0 rfl rfl (by omega) (by decide) ?_
        refine g_bipush (v := nI 48) hX dX5_readFigure_50 (by decide) ?_
        refine g_isub hX dX5_readFigure_52 ?_
        refine g_top (y := (nI ((T pl) - 48))) (pk_sub (by omega)) ?_
        refine g_istore_n [(0, .ref a), (1, .int (nI ((T pl) - 48)))] [1, 0] (hd := dX5_readFigure_53) (C := hX) rfl (by decide) rfl ?_
        refine g_aload_n 0 (hd := dX5_readFigure_54) (C := hX) rfl rfl ?_
        refine g_dup hX dX5_readFigure_55 rfl ?_
        refine g_get (hd := dX5_readFigure_56) (C := hX) 0 3 rfl rfl in_X5_readFigure_5 (by decide) (by decide +kernel) rfl ?_
        refine g_iconst (v := nI 1) hX dX5_readFigure_59 (by decide) ?_
        refine g_iadd hX dX5_readFigure_60 ?_
        refine g_top (y := (nI (pl + 1))) (nI_add _ _) ?_
        refine g_put (hd := dX5_readFigure_61) (C := hX) 0 3 [(a, .inr (5, [.ref la, .ref na, .int (nI len), .int (nI (pl + 1))])), (la, .inl (cC, 200, .inl (fun j_ => nI (T j_)))), (na, .inl (cI, 3, .inl G))] rfl rfl in_X5_readFigure_5 tyX5_ok nmX5 (by decide) (by decide +kernel) rfl rfl rfl (Nat.le_of_ble_eq_true rfl) rfl ?_
        refine g_iload_n 1 (hd := dX5_readFigure_64) (C := hX) rfl rfl ?_
        exact (hret ((nI ((T pl) - 48)), pl + 1) _ _ (by first | exact Or.inl ⟨dg_yes c_8 c_22 c_36, rfl⟩ | exact Or.inr ⟨dg_no (by omega), rfl⟩)).2.1 _ rfl rfl dX5_readFigure_65
      · refine g_iconst (v := (-1)) hX dX5_readFigure_39 (by decide) ?_
        exact (hret ((-1), pl) _ _ (by first | exact Or.inl ⟨dg_yes c_8 c_22 c_36, rfl⟩ | exact Or.inr ⟨dg_no (by omega), rfl⟩)).2.1 _ rfl rfl dX5_readFigure_40

theorem in_X5_readSign_5 : ∀ w ∈ wsX50, w ∈ wsX5_readSign := fun _ h => List.mem_cons_of_mem _ (List.mem_append_right _ h)
theorem ok_X5_readSign : gOK yX5_readSign wsX5_readSign ({ frames := 0, cells := 0, slots := 0, locals := 0 }) 2 1 := ⟨⟨_, _, _, rfl⟩, rfl, rfl, by decide, by decide, by decide +kernel⟩
set_option maxRecDepth 100000 in
set_option maxHeartbeats 4000000 in
theorem c_X5_readSign (l : Launch) (D : va_G) (cC cI cJ cO : ClassId) (a : Nat) (la : Nat) (na : Nat) (len : Nat) (pl : Nat) (T : Nat → Nat) (G : Nat → Int32) (sg : Nat) (hsg : sg < 128) (hp : pl ≤ 300) (hl : len ≤ 200) (hT : ∀ p, p < len → T p < 128) : CM (S := Int32 × Nat) l D (tyL cC cI cJ cO) yX5_readSign wsX5_readSign ({ frames := 0, cells := 0, slots := 0, locals := 0 }) [.ref a, .int (nI sg)] [(a, .inr (5, [.ref la, .ref na, .int (nI len), .int (nI pl)])), (la, .inl (cC, 200, .inl (fun j_ => nI (T j_)))), (na, .inl (cI, 3, .inl G))] (fun u => some (.int u.1)) (fun u => ((pl < len ∧ T pl = sg) ∧ u = (nI 1, pl + 1)) ∨ (¬ (pl < len ∧ T pl = sg) ∧ u = (nI 0, pl))) (fun u_ => [(a, .inr (5, [.ref la, .ref na, .int (nI len), .int (nI u_.2)])), (la, .inl (cC, 200, .inl (fun j_ => nI (T j_)))), (na, .inl (cI, 3, .inl G))]) := by
  refine CM_in (cc := cX5_readSign) (maxL := 2) (ret := (some .boolean)) (by decide) rfl (Nat.le_of_ble_eq_true rfl) ?_
  intro X hX hret
  show GW X [(a, .inr (5, [.ref la, .ref na, .int (nI len), .int (nI pl)])), (la, .inl (cC, 200, .inl (fun j_ => nI (T j_)))), (na, .inl (cI, 3, .inl G))] [(0, .ref a), (1, .int (nI sg))] [] 0 0 0
  refine g_aload_n 0 (hd := dX5_readSign_0) (C := hX) rfl rfl ?_
  refine g_get (hd := dX5_readSign_1) (C := hX) 0 3 rfl rfl in_X5_readSign_5 (by decide) (by decide +kernel) rfl ?_
  refine g_aload_n 0 (hd := dX5_readSign_4) (C := hX) rfl rfl ?_
  refine g_get (hd := dX5_readSign_5) (C := hX) 0 2 rfl rfl in_X5_readSign_5 (by decide) (by decide +kernel) rfl ?_
  refine g_icmp_geN 24 (hd := dX5_readSign_8) (C := hX) (by decide) (by omega) (by omega) (fun c_8 => ?_) (fun c_8 => ?_)
  · refine g_iconst (v := nI 0) hX dX5_readSign_24 (by decide) ?_
    exact (hret ((nI 0), pl) _ _ (by first | exact Or.inl ⟨⟨c_8, c_21⟩, rfl⟩ | exact Or.inr ⟨fun z => by omega, rfl⟩)).2.2.1 _ rfl rfl (by decide) dX5_readSign_25
  · have hq := hT pl (by omega)
    refine g_aload_n 0 (hd := dX5_readSign_11) (C := hX) rfl rfl ?_
    refine g_get (hd := dX5_readSign_12) (C := hX) 0 0 rfl rfl in_X5_readSign_5 (by decide) (by decide +kernel) rfl ?_
    refine g_aload_n 0 (hd := dX5_readSign_15) (C := hX) rfl rfl ?_
    refine g_get (hd := dX5_readSign_16) (C := hX) 0 3 rfl rfl in_X5_readSign_5 (by decide) (by decide +kernel) rfl ?_
    refine g_cald (hd := dX5_readSign_19) (C := hX) 1 0 rfl rfl (by omega) (by decide) ?_
    refine g_iload_n 1 (hd := dX5_readSign_20) (C := hX) rfl rfl ?_
    refine g_icmp_eqN 26 (hd := dX5_readSign_21) (C := hX) (by decide) (by omega) (by omega) (fun c_21 => ?_) (fun c_21 => ?_)
    · refine g_aload_n 0 (hd := dX5_readSign_26) (C := hX) rfl rfl ?_
      refine g_dup hX dX5_readSign_27 rfl ?_
      refine g_get (hd := dX5_readSign_28) (C := hX) 0 3 rfl rfl in_X5_readSign_5 (by decide) (by decide +kernel) rfl ?_
      refine g_iconst (v := nI 1) hX dX5_readSign_31 (by decide) ?_
      refine g_iadd hX dX5_readSign_32 ?_
      refine g_top (y := (nI (pl + 1))) (nI_add _ _) ?_
      refine g_put (hd := dX5_readSign_33) (C := hX) 0 3 [(a, .inr (5, [.ref la, .ref na, .int (nI len), .int (nI (pl + 1))])), (la, .inl (cC, 200, .inl (fun j_ => nI (T j_)))), (na, .inl (cI, 3, .inl G))] rfl rfl in_X5_readSign_5 tyX5_ok nmX5 (by decide) (by decide +kernel) rfl rfl rfl (Nat.le_of_ble_eq_true rfl) rfl ?_
      refine g_iconst (v := nI 1) hX dX5_readSign_36 (by decide) ?_
      exact (hret ((nI 1), pl + 1) _ _ (by first | exact Or.inl ⟨⟨c_8, c_21⟩, rfl⟩ | exact Or.inr ⟨fun z => by omega, rfl⟩)).2.2.1 _ rfl rfl (by decide) dX5_readSign_37
    · refine g_iconst (v := nI 0) hX dX5_readSign_24 (by decide) ?_
      exact (hret ((nI 0), pl) _ _ (by first | exact Or.inl ⟨⟨c_8, c_21⟩, rfl⟩ | exact Or.inr ⟨fun z => by omega, rfl⟩)).2.2.1 _ rfl rfl (by decide) dX5_readSign_25

theorem in_X5_readNumber_5 : ∀ w ∈ wsX50, w ∈ wsX5_readNumber := fun _ h => List.mem_cons_of_mem _ (List.mem_append_right _ h)
theorem ok_X5_readNumber : gOK yX5_readNumber wsX5_readNumber ({ frames := 1, cells := 0, slots := 0, locals := 21 }) 3 0 := ⟨⟨_, _, _, rfl⟩, rfl, rfl, by decide, by decide, by decide +kernel⟩
set_option maxRecDepth 100000 in
set_option maxHeartbeats 4000000 in
theorem c_X5_readNumber (l : Launch) (D : va_G) (cC cI cJ cO : ClassId) (a : Nat) (la : Nat) (na : Nat) (len : Nat) (pl : Nat) (T : Nat → Nat) (G : Nat → Int32) (hp : pl ≤ 300) (hl : len ≤ 200) (hT : ∀ p, p < len → T p < 128) : CM (S := Int32 × Nat) l D (tyL cC cI cJ cO) yX5_readNumber wsX5_readNumber ({ frames := 1, cells := 0, slots := 0, locals := 21 }) [.ref a] [(a, .inr (5, [.ref la, .ref na, .int (nI len), .int (nI pl)])), (la, .inl (cC, 200, .inl (fun j_ => nI (T j_)))), (na, .inl (cI, 3, .inl G))] (fun u => some (.int u.1)) (fun u => (∃ v q, nmS T len pl = some (v, q) ∧ u = (nI v, q)) ∨ (nmS T len pl = none ∧ u = ((-1), pl))) (fun u_ => [(a, .inr (5, [.ref la, .ref na, .int (nI len), .int (nI u_.2)])), (la, .inl (cC, 200, .inl (fun j_ => nI (T j_)))), (na, .inl (cI, 3, .inl G))]) := by
  refine CM_in (cc := cX5_readNumber) (maxL := 3) (ret := (some .int)) (by decide) rfl (Nat.le_of_ble_eq_true rfl) ?_
  intro X hX hret
  show GW X [(a, .inr (5, [.ref la, .ref na, .int (nI len), .int (nI pl)])), (la, .inl (cC, 200, .inl (fun j_ => nI (T j_)))), (na, .inl (cI, 3, .inl G))] [(0, .ref a)] [] 0 0 0
  refine g_aload_n 0 (hd := dX5_readNumber_0) (C := hX) rfl rfl ?_
  refine g_callV (rest := []) hX (c_X5_readFigure l D cC cI cJ cO a la na len pl T G (by omega) hl hT) ok_X5_readFigure rfl 0 rfl rfl (fun _ => rfl) (hd := dX5_readNumber_1) gX5_readNumber_X5_readFigure ⟨by decide, by decide⟩ rfl (Nat.le_of_ble_eq_true rfl) ⟨Nat.zero_le _, Nat.zero_le _⟩ [0, 1, 2] (by decide) rfl rfl ?_
  intro ⟨r_1, q_1⟩ e_1
  rcases e_1 with ⟨p_1, e_1⟩ | ⟨p_1, e_1⟩ <;> cases e_1
  · show GW X [(a, .inr (5, [.ref la, .ref na, .int (nI len), .int (nI (pl + 1))])), (la, .inl (cC, 200, .inl (fun j_ => nI (T j_)))), (na, .inl (cI, 3, .inl G))] [(0, .ref a)] [.int (nI (T pl - 48))] 4 0 0
    refine g_istore_n [(0, .ref a), (1, .int (nI (T pl - 48)))] [1, 0] (hd := dX5_readNumber_4) (C := hX) rfl (by decide) rfl ?_
    have hq1 := dg_le p_1
    refine g_iload_n 1 (hd := dX5_readNumber_5) (C := hX) rfl rfl ?_
    refine g_iconst (v := (-1)) hX dX5_readNumber_6 (by decide) ?_
    refine g_icmp_ne 12 (hd := dX5_readNumber_7) (C := hX) (by decide) (fun c_7 => ?_) (fun c_7 => absurd c_7 (nI_neg (by decide) (by omega)))
    refine g_aload_n 0 (hd := dX5_readNumber_12) (C := hX) rfl rfl ?_
    refine g_callV (rest := []) hX (c_X5_readFigure l D cC cI cJ cO a la na len (pl + 1) T G (by omega) hl hT) ok_X5_readFigure rfl 0 rfl rfl (fun _ => rfl) (hd := dX5_readNumber_13) gX5_readNumber_X5_readFigure ⟨by decide, by decide⟩ rfl (Nat.le_of_ble_eq_true rfl) ⟨Nat.zero_le _, Nat.zero_le _⟩ [0, 1, 2] (by decide) rfl rfl ?_
    intro ⟨r_13, q_13⟩ e_13
    rcases e_13 with ⟨p_13, e_13⟩ | ⟨p_13, e_13⟩ <;> cases e_13
    · show GW X [(a, .inr (5, [.ref la, .ref na, .int (nI len), .int (nI (pl + 1 + 1))])), (la, .inl (cC, 200, .inl (fun j_ => nI (T j_)))), (na, .inl (cI, 3, .inl G))] [(0, .ref a), (1, .int (nI (T pl - 48)))] [.int (nI (T (pl + 1) - 48))] 16 0 0
      refine g_istore_n [(0, .ref a), (1, .int (nI (T pl - 48))), (2, .int (nI (T (pl + 1) - 48)))] [1, 2, 0] (hd := dX5_readNumber_16) (C := hX) rfl (by decide) rfl ?_
      have hq2 := dg_le p_13
      refine g_iload_n 2 (hd := dX5_readNumber_17) (C := hX) rfl rfl ?_
      refine g_iconst (v := (-1)) hX dX5_readNumber_18 (by decide) ?_
      refine g_icmp_ne 26 (hd := dX5_readNumber_19) (C := hX) (by decide) (fun c_19 => ?_) (fun c_19 => absurd c_19 (nI_neg (by decide) (by omega)))
      refine g_bipush (v := nI 10) hX dX5_readNumber_26 (by decide) ?_
      refine g_iload_n 1 (hd := dX5_readNumber_28) (C := hX) rfl rfl ?_
      refine g_imul hX dX5_readNumber_29 ?_
      refine g_top (y := (nI (10 * (T pl - 48)))) (pk_mul _ _) ?_
      refine g_iload_n 2 (hd := dX5_readNumber_30) (C := hX) rfl rfl ?_
      refine g_iadd hX dX5_readNumber_31 ?_
      refine g_top (y := (nI ((10 * (T pl - 48)) + (T (pl + 1) - 48)))) (nI_add _ _) ?_
      exact (hret ((nI ((10 * (T pl - 48)) + (T (pl + 1) - 48))), pl + 1 + 1) _ _ (Or.inl ⟨_, _, by simp [nmS, p_1, p_13], rfl⟩)).2.1 _ rfl rfl dX5_readNumber_32
    · show GW X [(a, .inr (5, [.ref la, .ref na, .int (nI len), .int (nI (pl + 1))])), (la, .inl (cC, 200, .inl (fun j_ => nI (T j_)))), (na, .inl (cI, 3, .inl G))] [(0, .ref a), (1, .int (nI (T pl - 48)))] [.int (-1)] 16 0 0
      refine g_istore_n [(0, .ref a), (1, .int (nI (T pl - 48))), (2, .int (-1))] [1, 2, 0] (hd := dX5_readNumber_16) (C := hX) rfl (by decide) rfl ?_
      refine g_iload_n 2 (hd := dX5_readNumber_17) (C := hX) rfl rfl ?_
      refine g_iconst (v := (-1)) hX dX5_readNumber_18 (by decide) ?_
      refine g_icmp_ne 26 (hd := dX5_readNumber_19) (C := hX) (by decide) (fun c_19 => absurd c_19 (by decide)) (fun c_19 => ?_)
      refine g_iload_n 1 (hd := dX5_readNumber_22) (C := hX) rfl rfl ?_
      refine g_goto 32 (hd := dX5_readNumber_23) (C := hX) (by decide) ?_
      exact (hret ((nI (T pl - 48)), pl + 1) _ _ (Or.inl ⟨_, _, by simp [nmS, p_1, p_13], rfl⟩)).2.1 _ rfl rfl dX5_readNumber_32
  · show GW X [(a, .inr (5, [.ref la, .ref na, .int (nI len), .int (nI pl)])), (la, .inl (cC, 200, .inl (fun j_ => nI (T j_)))), (na, .inl (cI, 3, .inl G))] [(0, .ref a)] [.int (-1)] 4 0 0
    refine g_istore_n [(0, .ref a), (1, .int (-1))] [1, 0] (hd := dX5_readNumber_4) (C := hX) rfl (by decide) rfl ?_
    refine g_iload_n 1 (hd := dX5_readNumber_5) (C := hX) rfl rfl ?_
    refine g_iconst (v := (-1)) hX dX5_readNumber_6 (by decide) ?_
    refine g_icmp_ne 12 (hd := dX5_readNumber_7) (C := hX) (by decide) (fun c_7 => absurd c_7 (by decide)) (fun c_7 => ?_)
    refine g_iconst (v := (-1)) hX dX5_readNumber_10 (by decide) ?_
    exact (hret ((-1), pl) _ _ (Or.inr ⟨by simp [nmS, p_1], rfl⟩)).2.1 _ rfl rfl dX5_readNumber_11
