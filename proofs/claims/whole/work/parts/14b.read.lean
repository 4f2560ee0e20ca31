theorem in_X5_readItem_5 : ∀ w ∈ wsX50, w ∈ wsX5_readItem := fun _ h => List.mem_cons_of_mem _ (List.mem_append_left _ (List.mem_append_right _ h))
theorem in_X5_readItem_0 : ∀ w ∈ wsX00, w ∈ wsX5_readItem := fun _ h => List.mem_cons_of_mem _ (List.mem_append_right _ h)
theorem ok_X5_readItem : gOK yX5_readItem wsX5_readItem ({ frames := 4, cells := 0, slots := 0, locals := 90 }) 4 1 := ⟨⟨_, _, _, rfl⟩, rfl, rfl, by decide, by decide, by decide +kernel⟩
set_option maxRecDepth 100000 in
set_option maxHeartbeats 4000000 in
theorem c_X5_readItem (l : Launch) (D : va_G) (cC cI cJ cO : ClassId) (a : Nat) (la : Nat) (na : Nat) (len : Nat) (pl : Nat) (T : Nat → Nat) (G : Nat → Int32) (h : Nat) (k : Nat) (f : Nat) (s : Nat) (b : Nat → Nat) (hpl : pl < len) (hl : len ≤ 200) (hT : ∀ p, p < len → T p < 128) (h0 : b 0 ≤ 8) (h1 : b 1 ≤ 24) : CM (S := Int32 × Nat × (Nat → Nat) × (Nat → Int32)) l D (tyL cC cI cJ cO) yX5_readItem wsX5_readItem ({ frames := 4, cells := 0, slots := 0, locals := 90 }) [.ref a, .ref h] [(a, .inr (5, [.ref la, .ref na, .int (nI len), .int (nI pl)])), (la, .inl (cC, 200, .inl (fun j_ => nI (T j_)))), (na, .inl (cI, 3, .inl G)), (h, .inr (0, [.ref k, .ref f, .ref s, .int (nI (b 0)), .int (nI (b 1)), .int (nI (b 2)), .int (nI (b 3)), .int (nI (b 4)), .int (nI (b 5))])), (k, .inl (cI, 24, .inl (fun j_ => nI (b (6 + 3 * j_))))), (f, .inl (cI, 24, .inl (fun j_ => nI (b (7 + 3 * j_))))), (s, .inl (cI, 24, .inl (fun j_ => nI (b (8 + 3 * j_)))))] (fun u => some (.int u.1)) (fun u => (∃ c e, itS T len b pl = some (c, e) ∧ u.1 = nI 1 ∧ u.2.1 = e ∧ u.2.2.1 = c) ∨ (itS T len b pl = none ∧ u.1 = nI 0)) (fun u_ => [(a, .inr (5, [.ref la, .ref na, .int (nI len), .int (nI u_.2.1)])), (la, .inl (cC, 200, .inl (fun j_ => nI (T j_)))), (na, .inl (cI, 3, .inl u_.2.2.2)), (h, .inr (0, [.ref k, .ref f, .ref s, .int (nI (u_.2.2.1 0)), .int (nI (u_.2.2.1 1)), .int (nI (u_.2.2.1 2)), .int (nI (u_.2.2.1 3)), .int (nI (u_.2.2.1 4)), .int (nI (u_.2.2.1 5))])), (k, .inl (cI, 24, .inl (fun j_ => nI (u_.2.2.1 (6 + 3 * j_))))), (f, .inl (cI, 24, .inl (fun j_ => nI (u_.2.2.1 (7 + 3 * j_))))), (s, .inl (cI, 24, .inl (fun j_ => nI (u_.2.2.1 (8 + 3 * j_)))))]) := by
  refine CM_in (cc := cX5_readItem) (maxL := 4) (ret := (some .boolean)) (by decide) rfl (Nat.le_of_ble_eq_true rfl) ?_
  intro X hX hret
  show GW X [(a, .inr (5, [.ref la, .ref na, .int (nI len), .int (nI pl)])), (la, .inl (cC, 200, .inl (fun j_ => nI (T j_)))), (na, .inl (cI, 3, .inl G)), (h, .inr (0, [.ref k, .ref f, .ref s, .int (nI (b 0)), .int (nI (b 1)), .int (nI (b 2)), .int (nI (b 3)), .int (nI (b 4)), .int (nI (b 5))])), (k, .inl (cI, 24, .inl (fun j_ => nI (b (6 + 3 * j_))))), (f, .inl (cI, 24, .inl (fun j_ => nI (b (7 + 3 * j_))))), (s, .inl (cI, 24, .inl (fun j_ => nI (b (8 + 3 * j_)))))] [(0, .ref a), (1, .ref h)] [] 0 0 0
  have hq := hT pl hpl
  refine g_aload_n 0 (hd := dX5_readItem_0) (C := hX) rfl rfl ?_
  refine g_get (hd := dX5_readItem_1) (C := hX) 0 0 rfl rfl in_X5_readItem_5 (by decide) (by decide +kernel) rfl ?_
  refine g_aload_n 0 (hd := dX5_readItem_4) (C := hX) rfl rfl ?_
  refine g_get (hd := dX5_readItem_5) (C := hX) 0 3 rfl rfl in_X5_readItem_5 (by decide) (by decide +kernel) rfl ?_
  refine g_cald (hd := dX5_readItem_8) (C := hX) 1 0 rfl rfl (by omega) (by decide) ?_
  refine g_istore_n [(0, .ref a), (1, .ref h), (2, .int (nI (T pl)))] [1, 2, 0] (hd := dX5_readItem_9) (C := hX) rfl (by decide) rfl ?_
  refine g_aload_n 0 (hd := dX5_readItem_10) (C := hX) rfl rfl ?_
  refine g_dup hX dX5_readItem_11 rfl ?_
  refine g_get (hd := dX5_readItem_12) (C := hX) 0 3 rfl rfl in_X5_readItem_5 (by decide) (by decide +kernel) rfl ?_
  refine g_iconst (v := nI 1) hX dX5_readItem_15 (by decide) ?_
  refine g_iadd hX dX5_readItem_16 ?_
  refine g_top (y := (nI (pl + 1))) (nI_add _ _) ?_
  refine g_put (hd := dX5_readItem_17) (C := hX) 0 3 [(a, .inr (5, [.ref la, .ref na, .int (nI len), .int (nI (pl + 1))])), (la, .inl (cC, 200, .inl (fun j_ => nI (T j_)))), (na, .inl (cI, 3, .inl G)), (h, .inr (0, [.ref k, .ref f, .ref s, .int (nI (b 0)), .int (nI (b 1)), .int (nI (b 2)), .int (nI (b 3)), .int (nI (b 4)), .int (nI (b 5))])), (k, .inl (cI, 24, .inl (fun j_ => nI (b (6 + 3 * j_))))), (f, .inl (cI, 24, .inl (fun j_ => nI (b (7 + 3 * j_))))), (s, .inl (cI, 24, .inl (fun j_ => nI (b (8 + 3 * j_)))))] rfl rfl in_X5_readItem_5 tyX5_ok nmX5 (by decide) (by decide +kernel) rfl rfl rfl (Nat.le_of_ble_eq_true rfl) rfl ?_
  refine g_iload_n 2 (hd := dX5_readItem_20) (C := hX) rfl rfl ?_
  refine g_callS (rest := []) hX (c_X5_numbersBehind l D cC cI cJ cO (T pl) (by omega)) ok_X5_numbersBehind (fun _ => rfl) (hd := dX5_readItem_21) gX5_readItem_X5_numbersBehind ⟨by decide, by decide⟩ rfl (Nat.le_of_ble_eq_true rfl) ⟨Nat.zero_le _, Nat.zero_le _⟩ [] (by decide) rfl rfl ?_
  intro r_21 e_21
  rcases nbS_cs (T pl) with p_21 | p_21 | p_21 | p_21
  · rw [p_21] at e_21
    subst e_21
    show GW X [(a, .inr (5, [.ref la, .ref na, .int (nI len), .int (nI (pl + 1))])), (la, .inl (cC, 200, .inl (fun j_ => nI (T j_)))), (na, .inl (cI, 3, .inl G)), (h, .inr (0, [.ref k, .ref f, .ref s, .int (nI (b 0)), .int (nI (b 1)), .int (nI (b 2)), .int (nI (b 3)), .int (nI (b 4)), .int (nI (b 5))])), (k, .inl (cI, 24, .inl (fun j_ => nI (b (6 + 3 * j_))))), (f, .inl (cI, 24, .inl (fun j_ => nI (b (7 + 3 * j_))))), (s, .inl (cI, 24, .inl (fun j_ => nI (b (8 + 3 * j_)))))] [(0, .ref a), (1, .ref h), (2, .int (nI (T pl)))] [.int (nI 1)] 24 0 0
    refine g_istore_n [(0, .ref a), (1, .ref h), (2, .int (nI (T pl))), (3, .int (nI 1))] [1, 2, 3, 0] (hd := dX5_readItem_24) (C := hX) rfl (by decide) rfl ?_
    refine g_iload_n 3 (hd := dX5_readItem_25) (C := hX) rfl rfl ?_
    refine g_if_le 50 (hd := dX5_readItem_26) (C := hX) (by decide) (fun c_26 => absurd c_26 (by decide)) (fun c_26 => ?_)
    refine g_aload_n 0 (hd := dX5_readItem_29) (C := hX) rfl rfl ?_
    refine g_iload_n 3 (hd := dX5_readItem_30) (C := hX) rfl rfl ?_
    refine g_callV (rest := []) hX (c_X5_readNumbers l D cC cI cJ cO a la na len (pl + 1) T G 1 (by decide) (by omega) hl hT) ok_X5_readNumbers rfl 0 rfl rfl (fun _ => rfl) (hd := dX5_readItem_31) gX5_readItem_X5_readNumbers ⟨by decide, by decide⟩ rfl (Nat.le_of_ble_eq_true rfl) ⟨Nat.zero_le _, Nat.zero_le _⟩ [0, 1, 2] (by decide) rfl rfl ?_
    intro ⟨r_31, q_31, g_31⟩ e_31
    rcases e_31 with ⟨v_31, z_31, p_31, e_31, e2_31, hg_31⟩ | ⟨p_31, e_31⟩
    · simp only at e_31 e2_31
      subst e_31
      subst e2_31
      show GW X [(a, .inr (5, [.ref la, .ref na, .int (nI len), .int (nI q_31)])), (la, .inl (cC, 200, .inl (fun j_ => nI (T j_)))), (na, .inl (cI, 3, .inl g_31)), (h, .inr (0, [.ref k, .ref f, .ref s, .int (nI (b 0)), .int (nI (b 1)), .int (nI (b 2)), .int (nI (b 3)), .int (nI (b 4)), .int (nI (b 5))])), (k, .inl (cI, 24, .inl (fun j_ => nI (b (6 + 3 * j_))))), (f, .inl (cI, 24, .inl (fun j_ => nI (b (7 + 3 * j_))))), (s, .inl (cI, 24, .inl (fun j_ => nI (b (8 + 3 * j_)))))] [(0, .ref a), (1, .ref h), (2, .int (nI (T pl))), (3, .int (nI 1))] [.int (nI 1)] 34 0 0
      refine g_if_eqN 50 (hd := dX5_readItem_34) (C := hX) (by decide) (by decide) (fun c_34 => absurd c_34 (by decide)) (fun c_34 => ?_)
      refine g_aload_n 0 (hd := dX5_readItem_37) (C := hX) rfl rfl ?_
      refine g_aload_n 1 (hd := dX5_readItem_38) (C := hX) rfl rfl ?_
      refine g_iload_n 2 (hd := dX5_readItem_39) (C := hX) rfl rfl ?_
      refine g_callV (rest := []) hX (c_X5_tellItem l D cC cI cJ cO a la na len q_31 T g_31 h k f s b (T pl) (v_31.getD 0 0) (v_31.getD 1 0) (v_31.getD 2 0) (by first | (have := nbS_1 p_21; omega) | (have := nbS_2 p_21; omega) | (have := nbS_3 p_21; omega)) (hg_31 0 (by decide)) (by first | exact fun _ => hg_31 1 (by decide) | (intro q; have := nbS_1 p_21; omega)) (by first | exact fun _ => hg_31 2 (by decide) | (intro q; have := nbS_1 p_21; omega) | (intro q; have := nbS_2 p_21; omega)) ⟨(rdK_lt _ _ _ _ p_31).2.1 0, (rdK_lt _ _ _ _ p_31).2.1 1, (rdK_lt _ _ _ _ p_31).2.1 2⟩ h0 h1) ok_X5_tellItem rfl 0 rfl rfl (fun _ => rfl) (hd := dX5_readItem_40) gX5_readItem_X5_tellItem ⟨by decide, by decide⟩ rfl (Nat.le_of_ble_eq_true rfl) ⟨Nat.zero_le _, Nat.zero_le _⟩ [0, 1, 2, 3, 4, 5, 6] (by decide) rfl rfl ?_
      intro ⟨r_40, n_40⟩ e_40
      rcases e_40 with ⟨m_40, p_40, e_40⟩ | ⟨p_40, e_40⟩ <;> cases e_40
      · show GW X [(a, .inr (5, [.ref la, .ref na, .int (nI len), .int (nI q_31)])), (la, .inl (cC, 200, .inl (fun j_ => nI (T j_)))), (na, .inl (cI, 3, .inl g_31)), (h, .inr (0, [.ref k, .ref f, .ref s, .int (nI (n_40 0)), .int (nI (n_40 1)), .int (nI (n_40 2)), .int (nI (n_40 3)), .int (nI (n_40 4)), .int (nI (n_40 5))])), (k, .inl (cI, 24, .inl (fun j_ => nI (n_40 (6 + 3 * j_))))), (f, .inl (cI, 24, .inl (fun j_ => nI (n_40 (7 + 3 * j_))))), (s, .inl (cI, 24, .inl (fun j_ => nI (n_40 (8 + 3 * j_)))))] [(0, .ref a), (1, .ref h), (2, .int (nI (T pl))), (3, .int (nI 1))] [.int (nI 1)] 43 0 0
        refine g_if_eqN 50 (hd := dX5_readItem_43) (C := hX) (by decide) (by decide) (fun c_43 => absurd c_43 (by decide)) (fun c_43 => ?_)
        refine g_iconst (v := nI 1) hX dX5_readItem_46 (by decide) ?_
        refine g_goto 51 (hd := dX5_readItem_47) (C := hX) (by decide) ?_
        exact (hret ((nI 1), q_31, n_40, g_31) _ _ (Or.inl ⟨_, _, by unfold itS; rw [if_neg (by omega), p_21]; simp only [p_31, p_40], rfl, rfl, rfl⟩)).2.2.1 _ rfl rfl (by decide) dX5_readItem_51
      · show GW X [(a, .inr (5, [.ref la, .ref na, .int (nI len), .int (nI q_31)])), (la, .inl (cC, 200, .inl (fun j_ => nI (T j_)))), (na, .inl (cI, 3, .inl g_31)), (h, .inr (0, [.ref k, .ref f, .ref s, .int (nI (b 0)), .int (nI (b 1)), .int (nI (b 2)), .int (nI (b 3)), .int (nI (b 4)), .int (nI (b 5))])), (k, .inl (cI, 24, .inl (fun j_ => nI (b (6 + 3 * j_))))), (f, .inl (cI, 24, .inl (fun j_ => nI (b (7 + 3 * j_))))), (s, .inl (cI, 24, .inl (fun j_ => nI (b (8 + 3 * j_)))))] [(0, .ref a), (1, .ref h), (2, .int (nI (T pl))), (3, .int (nI 1))] [.int (nI 0)] 43 0 0
        refine g_if_eqN 50 (hd := dX5_readItem_43) (C := hX) (by decide) (by decide) (fun c_43 => ?_) (fun c_43 => absurd c_43 (by decide))
        refine g_iconst (v := nI 0) hX dX5_readItem_50 (by decide) ?_
        exact (hret ((nI 0), q_31, b, g_31) _ _ (Or.inr ⟨by unfold itS; rw [if_neg (by omega), p_21]; simp only [p_31, p_40], rfl⟩)).2.2.1 _ rfl rfl (by decide) dX5_readItem_51
    · simp only at e_31
      subst e_31
      show GW X [(a, .inr (5, [.ref la, .ref na, .int (nI len), .int (nI q_31)])), (la, .inl (cC, 200, .inl (fun j_ => nI (T j_)))), (na, .inl (cI, 3, .inl g_31)), (h, .inr (0, [.ref k, .ref f, .ref s, .int (nI (b 0)), .int (nI (b 1)), .int (nI (b 2)), .int (nI (b 3)), .int (nI (b 4)), .int (nI (b 5))])), (k, .inl (cI, 24, .inl (fun j_ => nI (b (6 + 3 * j_))))), (f, .inl (cI, 24, .inl (fun j_ => nI (b (7 + 3 * j_))))), (s, .inl (cI, 24, .inl (fun j_ => nI (b (8 + 3 * j_)))))] [(0, .ref a), (1, .ref h), (2, .int (nI (T pl))), (3, .int (nI 1))] [.int (nI 0)] 34 0 0
      refine g_if_eqN 50 (hd := dX5_readItem_34) (C := hX) (by decide) (by decide) (fun c_34 => ?_) (fun c_34 => absurd c_34 (by decide))
      refine g_iconst (v := nI 0) hX dX5_readItem_50 (by decide) ?_
      exact (hret ((nI 0), q_31, b, g_31) _ _ (Or.inr ⟨by unfold itS; rw [if_neg (by omega), p_21]; simp only [p_31], rfl⟩)).2.2.1 _ rfl rfl (by decide) dX5_readItem_51
  · rw [p_21] at e_21
    subst e_21
    show GW X [(a, .inr (5, [.ref la, .ref na, .int (nI len), .int (nI (pl + 1))])), (la, .inl (cC, 200, .inl (fun j_ => nI (T j_)))), (na, .inl (cI, 3, .inl G)), (h, .inr (0, [.ref k, .ref f, .ref s, .int (nI (b 0)), .int (nI (b 1)), .int (nI (b 2)), .int (nI (b 3)), .int (nI (b 4)), .int (nI (b 5))])), (k, .inl (cI, 24, .inl (fun j_ => nI (b (6 + 3 * j_))))), (f, .inl (cI, 24, .inl (fun j_ => nI (b (7 + 3 * j_))))), (s, .inl (cI, 24, .inl (fun j_ => nI (b (8 + 3 * j_)))))] [(0, .ref a), (1, .ref h), (2, .int (nI (T pl)))] [.int (nI 2)] 24 0 0
    refine g_istore_n [(0, .ref a), (1, .ref h), (2, .int (nI (T pl))), (3, .int (nI 2))] [1, 2, 3, 0] (hd := dX5_readItem_24) (C := hX) rfl (by decide) rfl ?_
    refine g_iload_n 3 (hd := dX5_readItem_25) (C := hX) rfl rfl ?_
    refine g_if_le 50 (hd := dX5_readItem_26) (C := hX) (by decide) (fun c_26 => absurd c_26 (by decide)) (fun c_26 => ?_)
    refine g_aload_n 0 (hd := dX5_readItem_29) (C := hX) rfl rfl ?_
    refine g_iload_n 3 (hd := dX5_readItem_30) (C := hX) rfl rfl ?_
    refine g_callV (rest := []) hX (c_X5_readNumbers l D cC cI cJ cO a la na len (pl + 1) T G 2 (by decide) (by omega) hl hT) ok_X5_readNumbers rfl 0 rfl rfl (fun _ => rfl) (hd := dX5_readItem_31) gX5_readItem_X5_readNumbers ⟨by decide, by decide⟩ rfl (Nat.le_of_ble_eq_true rfl) ⟨Nat.zero_le _, Nat.zero_le _⟩ [0, 1, 2] (by decide) rfl rfl ?_
    intro ⟨r_31, q_31, g_31⟩ e_31
    rcases e_31 with ⟨v_31, z_31, p_31, e_31, e2_31, hg_31⟩ | ⟨p_31, e_31⟩
    · simp only at e_31 e2_31
      subst e_31
      subst e2_31
      show GW X [(a, .inr (5, [.ref la, .ref na, .int (nI len), .int (nI q_31)])), (la, .inl (cC, 200, .inl (fun j_ => nI (T j_)))), (na, .inl (cI, 3, .inl g_31)), (h, .inr (0, [.ref k, .ref f, .ref s, .int (nI (b 0)), .int (nI (b 1)), .int (nI (b 2)), .int (nI (b 3)), .int (nI (b 4)), .int (nI (b 5))])), (k, .inl (cI, 24, .inl (fun j_ => nI (b (6 + 3 * j_))))), (f, .inl (cI, 24, .inl (fun j_ => nI (b (7 + 3 * j_))))), (s, .inl (cI, 24, .inl (fun j_ => nI (b (8 + 3 * j_)))))] [(0, .ref a), (1, .ref h), (2, .int (nI (T pl))), (3, .int (nI 2))] [.int (nI 1)] 34 0 0
      refine g_if_eqN 50 (hd := dX5_readItem_34) (C := hX) (by decide) (by decide) (fun c_34 => absurd c_34 (by decide)) (fun c_34 => ?_)
      refine g_aload_n 0 (hd := dX5_readItem_37) (C := hX) rfl rfl ?_
      refine g_aload_n 1 (hd := dX5_readItem_38) (C := hX) rfl rfl ?_
      refine g_iload_n 2 (hd := dX5_readItem_39) (C := hX) rfl rfl ?_
      refine g_callV (rest := []) hX (c_X5_tellItem l D cC cI cJ cO a la na len q_31 T g_31 h k f s b (T pl) (v_31.getD 0 0) (v_31.getD 1 0) (v_31.getD 2 0) (by first | (have := nbS_1 p_21; omega) | (have := nbS_2 p_21; omega) | (have := nbS_3 p_21; omega)) (hg_31 0 (by decide)) (by first | exact fun _ => hg_31 1 (by decide) | (intro q; have := nbS_1 p_21; omega)) (by first | exact fun _ => hg_31 2 (by decide) | (intro q; have := nbS_1 p_21; omega) | (intro q; have := nbS_2 p_21; omega)) ⟨(rdK_lt _ _ _ _ p_31).2.1 0, (rdK_lt _ _ _ _ p_31).2.1 1, (rdK_lt _ _ _ _ p_31).2.1 2⟩ h0 h1) ok_X5_tellItem rfl 0 rfl rfl (fun _ => rfl) (hd := dX5_readItem_40) gX5_readItem_X5_tellItem ⟨by decide, by decide⟩ rfl (Nat.le_of_ble_eq_true rfl) ⟨Nat.zero_le _, Nat.zero_le _⟩ [0, 1, 2, 3, 4, 5, 6] (by decide) rfl rfl ?_
      intro ⟨r_40, n_40⟩ e_40
      rcases e_40 with ⟨m_40, p_40, e_40⟩ | ⟨p_40, e_40⟩ <;> cases e_40
      · show GW X [(a, .inr (5, [.ref la, .ref na, .int (nI len), .int (nI q_31)])), (la, .inl (cC, 200, .inl (fun j_ => nI (T j_)))), (na, .inl (cI, 3, .inl g_31)), (h, .inr (0, [.ref k, .ref f, .ref s, .int (nI (n_40 0)), .int (nI (n_40 1)), .int (nI (n_40 2)), .int (nI (n_40 3)), .int (nI (n_40 4)), .int (nI (n_40 5))])), (k, .inl (cI, 24, .inl (fun j_ => nI (n_40 (6 + 3 * j_))))), (f, .inl (cI, 24, .inl (fun j_ => nI (n_40 (7 + 3 * j_))))), (s, .inl (cI, 24, .inl (fun j_ => nI (n_40 (8 + 3 * j_)))))] [(0, .ref a), (1, .ref h), (2, .int (nI (T pl))), (3, .int (nI 2))] [.int (nI 1)] 43 0 0
        refine g_if_eqN 50 (hd := dX5_readItem_43) (C := hX) (by decide) (by decide) (fun c_43 => absurd c_43 (by decide)) (fun c_43 => ?_)
        refine g_iconst (v := nI 1) hX dX5_readItem_46 (by decide) ?_
        refine g_goto 51 (hd := dX5_readItem_47) (C := hX) (by decide) ?_
        exact (hret ((nI 1), q_31, n_40, g_31) _ _ (Or.inl ⟨_, _, by unfold itS; rw [if_neg (by omega), p_21]; simp only [p_31, p_40], rfl, rfl, rfl⟩)).2.2.1 _ rfl rfl (by decide) dX5_readItem_51
      · show GW X [(a, .inr (5, [.ref la, .ref na, .int (nI len), .int (nI q_31)])), (la, .inl (cC, 200, .inl (fun j_ => nI (T j_)))), (na, .inl (cI, 3, .inl g_31)), (h, .inr (0, [.ref k, .ref f, .ref s, .int (nI (b 0)), .int (nI (b 1)), .int (nI (b 2)), .int (nI (b 3)), .int (nI (b 4)), .int (nI (b 5))])), (k, .inl (cI, 24, .inl (fun j_ => nI (b (6 + 3 * j_))))), (f, .inl (cI, 24, .inl (fun j_ => nI (b (7 + 3 * j_))))), (s, .inl (cI, 24, .inl (fun j_ => nI (b (8 + 3 * j_)))))] [(0, .ref a), (1, .ref h), (2, .int (nI (T pl))), (3, .int (nI 2))] [.int (nI 0)] 43 0 0
        refine g_if_eqN 50 (hd := dX5_readItem_43) (C := hX) (by decide) (by decide) (fun c_43 => ?_) (fun c_43 => absurd c_43 (by decide))
        refine g_iconst (v := nI 0) hX dX5_readItem_50 (by decide) ?_
        exact (hret ((nI 0), q_31, b, g_31) _ _ (Or.inr ⟨by unfold itS; rw [if_neg (by omega), p_21]; simp only [p_31, p_40], rfl⟩)).2.2.1 _ rfl rfl (by decide) dX5_readItem_51
    · simp only at e_31
      subst e_31
      show GW X [(a, .inr (5, [.ref la, .ref na, .int (nI len), .int (nI q_31)])), (la, .inl (cC, 200, .inl (fun j_ => nI (T j_)))), (na, .inl (cI, 3, .inl g_31)), (h, .inr (0, [.ref k, .ref f, .ref s, .int (nI (b 0)), .int (nI (b 1)), .int (nI (b 2)), .int (nI (b 3)), .int (nI (b 4)), .int (nI (b 5))])), (k, .inl (cI, 24, .inl (fun j_ => nI (b (6 + 3 * j_))))), (f, .inl (cI, 24, .inl (fun j_ => nI (b (7 + 3 * j_))))), (s, .inl (cI, 24, .inl (fun j_ => nI (b (8 + 3 * j_)))))] [(0, .ref a), (1, .ref h), (2, .int (nI (T pl))), (3, .int (nI 2))] [.int (nI 0)] 34 0 0
      refine g_if_eqN 50 (hd := dX5_readItem_34) (C := hX) (by decide) (by decide) (fun c_34 => ?_) (fun c_34 => absurd c_34 (by decide))
      refine g_iconst (v := nI 0) hX dX5_readItem_50 (by decide) ?_
      exact (hret ((nI 0), q_31, b, g_31) _ _ (Or.inr ⟨by unfold itS; rw [if_neg (by omega), p_21]; simp only [p_31], rfl⟩)).2.2.1 _ rfl rfl (by decide) dX5_readItem_51
  · rw [p_21] at e_21
    subst e_21
    show GW X [(a, .inr (5, [.ref la, .ref na, .int (nI len), .int (nI (pl + 1))])), (la, .inl (cC, 200, .inl (fun j_ => nI (T j_)))), (na, .inl (cI, 3, .inl G)), (h, .inr (0, [.ref k, .ref f, .ref s, .int (nI (b 0)), .int (nI (b 1)), .int (nI (b 2)), .int (nI (b 3)), .int (nI (b 4)), .int (nI (b 5))])), (k, .inl (cI, 24, .inl (fun j_ => nI (b (6 + 3 * j_))))), (f, .inl (cI, 24, .inl (fun j_ => nI (b (7 + 3 * j_))))), (s, .inl (cI, 24, .inl (fun j_ => nI (b (8 + 3 * j_)))))] [(0, .ref a), (1, .ref h), (2, .int (nI (T pl)))] [.int (nI 3)] 24 0 0
    refine g_istore_n [(0, .ref a), (1, .ref h), (2, .int (nI (T pl))), (3, .int (nI 3))] [1, 2, 3, 0] (hd := dX5_readItem_24) (C := hX) rfl (by decide) rfl ?_
    refine g_iload_n 3 (hd := dX5_readItem_25) (C := hX) rfl rfl ?_
    refine g_if_le 50 (hd := dX5_readItem_26) (C := hX) (by decide) (fun c_26 => absurd c_26 (by decide)) (fun c_26 => ?_)
    refine g_aload_n 0 (hd := dX5_readItem_29) (C := hX) rfl rfl ?_
    refine g_iload_n 3 (hd := dX5_readItem_30) (C := hX) rfl rfl ?_
    refine g_callV (rest := []) hX (c_X5_readNumbers l D cC cI cJ cO a la na len (pl + 1) T G 3 (by decide) (by omega) hl hT) ok_X5_readNumbers rfl 0 rfl rfl (fun _ => rfl) (hd := dX5_readItem_31) gX5_readItem_X5_readNumbers ⟨by decide, by decide⟩ rfl (Nat.le_of_ble_eq_true rfl) ⟨Nat.zero_le _, Nat.zero_le _⟩ [0, 1, 2] (by decide) rfl rfl ?_
    intro ⟨r_31, q_31, g_31⟩ e_31
    rcases e_31 with ⟨v_31, z_31, p_31, e_31, e2_31, hg_31⟩ | ⟨p_31, e_31⟩
    · simp only at e_31 e2_31
      subst e_31
      subst e2_31
      show GW X [(a, .inr (5, [.ref la, .ref na, .int (nI len), .int (nI q_31)])), (la, .inl (cC, 200, .inl (fun j_ => nI (T j_)))), (na, .inl (cI, 3, .inl g_31)), (h, .inr (0, [.ref k, .ref f, .ref s, .int (nI (b 0)), .int (nI (b 1)), .int (nI (b 2)), .int (nI (b 3)), .int (nI (b 4)), .int (nI (b 5))])), (k, .inl (cI, 24, .inl (fun j_ => nI (b (6 + 3 * j_))))), (f, .inl (cI, 24, .inl (fun j_ => nI (b (7 + 3 * j_))))), (s, .inl (cI, 24, .inl (fun j_ => nI (b (8 + 3 * j_)))))] [(0, .ref a), (1, .ref h), (2, .int (nI (T pl))), (3, .int (nI 3))] [.int (nI 1)] 34 0 0
      refine g_if_eqN 50 (hd := dX5_readItem_34) (C := hX) (by decide) (by decide) (fun c_34 => absurd c_34 (by decide)) (fun c_34 => ?_)
      refine g_aload_n 0 (hd := dX5_readItem_37) (C := hX) rfl rfl ?_
      refine g_aload_n 1 (hd := dX5_readItem_38) (C := hX) rfl rfl ?_
      refine g_iload_n 2 (hd := dX5_readItem_39) (C := hX) rfl rfl ?_
      refine g_callV (rest := []) hX (c_X5_tellItem l D cC cI cJ cO a la na len q_31 T g_31 h k f s b (T pl) (v_31.getD 0 0) (v_31.getD 1 0) (v_31.getD 2 0) (by first | (have := nbS_1 p_21; omega) | (have := nbS_2 p_21; omega) | (have := nbS_3 p_21; omega)) (hg_31 0 (by decide)) (by first | exact fun _ => hg_31 1 (by decide) | (intro q; have := nbS_1 p_21; omega)) (by first | exact fun _ => hg_31 2 (by decide) | (intro q; have := nbS_1 p_21; omega) | (intro q; have := nbS_2 p_21; omega)) ⟨(rdK_lt _ _ _ _ p_31).2.1 0, (rdK_lt _ _ _ _ p_31).2.1 1, (rdK_lt _ _ _ _ p_31).2.1 2⟩ h0 h1) ok_X5_tellItem rfl 0 rfl rfl (fun _ => rfl) (hd := dX5_readItem_40) gX5_readItem_X5_tellItem ⟨by decide, by decide⟩ rfl (Nat.le_of_ble_eq_true rfl) ⟨Nat.zero_le _, Nat.zero_le _⟩ [0, 1, 2, 3, 4, 5, 6] (by decide) rfl rfl ?_
      intro ⟨r_40, n_40⟩ e_40
      rcases e_40 with ⟨m_40, p_40, e_40⟩ | ⟨p_40, e_40⟩ <;> cases e_40
      · show GW X [(a, .inr (5, [.ref la, .ref na, .int (nI len), .int (nI q_31)])), (la, .inl (cC, 200, .inl (fun j_ => nI (T j_)))), (na, .inl (cI, 3, .inl g_31)), (h, .inr (0, [.ref k, .ref f, .ref s, .int (nI (n_40 0)), .int (nI (n_40 1)), .int (nI (n_40 2)), .int (nI (n_40 3)), .int (nI (n_40 4)), .int (nI (n_40 5))])), (k, .inl (cI, 24, .inl (fun j_ => nI (n_40 (6 + 3 * j_))))), (f, .inl (cI, 24, .inl (fun j_ => nI (n_40 (7 + 3 * j_))))), (s, .inl (cI, 24, .inl (fun j_ => nI (n_40 (8 + 3 * j_)))))] [(0, .ref a), (1, .ref h), (2, .int (nI (T pl))), (3, .int (nI 3))] [.int (nI 1)] 43 0 0
        refine g_if_eqN 50 (hd := dX5_readItem_43) (C := hX) (by decide) (by decide) (fun c_43 => absurd c_43 (by decide)) (fun c_43 => ?_)
        refine g_iconst (v := nI 1) hX dX5_readItem_46 (by decide) ?_
        refine g_goto 51 (hd := dX5_readItem_47) (C := hX) (by decide) ?_
        exact (hret ((nI 1), q_31, n_40, g_31) _ _ (Or.inl ⟨_, _, by unfold itS; rw [if_neg (by omega), p_21]; simp only [p_31, p_40], rfl, rfl, rfl⟩)).2.2.1 _ rfl rfl (by decide) dX5_readItem_51
      · show GW X [(a, .inr (5, [.ref la, .ref na, .int (nI len), .int (nI q_31)])), (la, .inl (cC, 200, .inl (fun j_ => nI (T j_)))), (na, .inl (cI, 3, .inl g_31)), (h, .inr (0, [.ref k, .ref f, .ref s, .int (nI (b 0)), .int (nI (b 1)), .int (nI (b 2)), .int (nI (b 3)), .int (nI (b 4)), .int (nI (b 5))])), (k, .inl (cI, 24, .inl (fun j_ => nI (b (6 + 3 * j_))))), (f, .inl (cI, 24, .inl (fun j_ => nI (b (7 + 3 * j_))))), (s, .inl (cI, 24, .inl (fun j_ => nI (b (8 + 3 * j_)))))] [(0, .ref a), (1, .ref h), (2, .int (nI (T pl))), (3, .int (nI 3))] [.int (nI 0)] 43 0 0
        refine g_if_eqN 50 (hd := dX5_readItem_43) (C := hX) (by decide) (by decide) (fun c_43 => ?_) (fun c_43 => absurd c_43 (by decide))
        refine g_iconst (v := nI 0) hX dX5_readItem_50 (by decide) ?_
        exact (hret ((nI 0), q_31, b, g_31) _ _ (Or.inr ⟨by unfold itS; rw [if_neg (by omega), p_21]; simp only [p_31, p_40], rfl⟩)).2.2.1 _ rfl rfl (by decide) dX5_readItem_51
    · simp only at e_31
      subst e_31
      show GW X [(a, .inr (5, [.ref la, .ref na, .int (nI len), .int (nI q_31)])), (la, .inl (cC, 200, .inl (fun j_ => nI (T j_)))), (na, .inl (cI, 3, .inl g_31)), (h, .inr (0, [.ref k, .ref f, .ref s, .int (nI (b 0)), .int (nI (b 1)), .int (nI (b 2)), .int (nI (b 3)), .int (nI (b 4)), .int (nI (b 5))])), (k, .inl (cI, 24, .inl (fun j_ => nI (b (6 + 3 * j_))))), (f, .inl (cI, 24, .inl (fun j_ => nI (b (7 + 3 * j_))))), (s, .inl (cI, 24, .inl (fun j_ => nI (b (8 + 3 * j_)))))] [(0, .ref a), (1, .ref h), (2, .int (nI (T pl))), (3, .int (nI 3))] [.int (nI 0)] 34 0 0
      refine g_if_eqN 50 (hd := dX5_readItem_34) (C := hX) (by decide) (by decide) (fun c_34 => ?_) (fun c_34 => absurd c_34 (by decide))
      refine g_iconst (v := nI 0) hX dX5_readItem_50 (by decide) ?_
      exact (hret ((nI 0), q_31, b, g_31) _ _ (Or.inr ⟨by unfold itS; rw [if_neg (by omega), p_21]; simp only [p_31], rfl⟩)).2.2.1 _ rfl rfl (by decide) dX5_readItem_51
  · rw [p_21] at e_21
    subst e_21
    show GW X [(a, .inr (5, [.ref la, .ref na, .int (nI len), .int (nI (pl + 1))])), (la, .inl (cC, 200, .inl (fun j_ => nI (T j_)))), (na, .inl (cI, 3, .inl G)), (h, .inr (0, [.ref k, .ref f, .ref s, .int (nI (b 0)), .int (nI (b 1)), .int (nI (b 2)), .int (nI (b 3)), .int (nI (b 4)), .int (nI (b 5))])), (k, .inl (cI, 24, .inl (fun j_ => nI (b (6 + 3 * j_))))), (f, .inl (cI, 24, .inl (fun j_ => nI (b (7 + 3 * j_))))), (s, .inl (cI, 24, .inl (fun j_ => nI (b (8 + 3 * j_)))))] [(0, .ref a), (1, .ref h), (2, .int (nI (T pl)))] [.int (nI 0)] 24 0 0
    refine g_istore_n [(0, .ref a), (1, .ref h), (2, .int (nI (T pl))), (3, .int (nI 0))] [1, 2, 3, 0] (hd := dX5_readItem_24) (C := hX) rfl (by decide) rfl ?_
    refine g_iload_n 3 (hd := dX5_readItem_25) (C := hX) rfl rfl ?_
    refine g_if_le 50 (hd := dX5_readItem_26) (C := hX) (by decide) (fun c_26 => ?_) (fun c_26 => absurd c_26 (by decide))
    refine g_iconst (v := nI 0) hX dX5_readItem_50 (by decide) ?_
    exact (hret ((nI 0), pl + 1, b, G) _ _ (Or.inr ⟨by unfold itS; rw [if_pos p_21], rfl⟩)).2.2.1 _ rfl rfl (by decide) dX5_readItem_51

theorem psS_end {T b : Nat → Nat} {len p n : Nat} (h : len ≤ p) : psS T len n b p = (none, b) := by
  cases n with
  | zero => rfl
  | succ n => simp only [psS]; rw [if_neg (by omega)]
theorem psS_bad {T b : Nat → Nat} {len p n : Nat} (h : p < len) (hi : itS T len b p = none) : psS T len (n + 1) b p = (some p, b) := by
  simp only [psS]; rw [if_pos h]; simp only [hi]
theorem psS_go {T b c : Nat → Nat} {len p e n : Nat} (h : p < len) (hi : itS T len b p = some (c, e)) : psS T len (n + 1) b p = psS T len n c e := by
  simp only [psS]; rw [if_pos h]; simp only [hi]
def psI (r : Option Nat × (Nat → Nat)) : Int32 := match r.1 with
  | none => -4
  | some p => nI p
theorem itS_e {T b c : Nat → Nat} {len p e : Nat} (h : itS T len b p = some (c, e)) : p + 1 < e ∧ e ≤ len := by
  unfold itS at h
  split at h
  · cases h
  · rename_i h0
    split at h
    · cases h
    · rename_i ve h1
      split at h
      · cases h
      · cases h
        obtain ⟨vs, e⟩ := ve
        exact (rdK_lt _ _ _ _ h1).1 (by omega)

theorem in_X5_readInto_5 : ∀ w ∈ wsX50, w ∈ wsX5_readInto := fun _ h => List.mem_cons_of_mem _ (List.mem_append_left _ (List.mem_append_right _ h))
theorem in_X5_readInto_0 : ∀ w ∈ wsX00, w ∈ wsX5_readInto := fun _ h => List.mem_cons_of_mem _ (List.mem_append_right _ h)
theorem ok_X5_readInto : gOK yX5_readInto wsX5_readInto ({ frames := 5, cells := 0, slots := 0, locals := 113 }) 4 1 := ⟨⟨_, _, _, rfl⟩, rfl, rfl, by decide, by decide, by decide +kernel⟩
set_option maxRecDepth 100000 in
set_option maxHeartbeats 4000000 in
theorem c_X5_readInto (l : Launch) (D : va_G) (cC cI cJ cO : ClassId) (a : Nat) (la : Nat) (na : Nat) (len : Nat) (pl : Nat) (T : Nat → Nat) (G : Nat → Int32) (h : Nat) (k : Nat) (f : Nat) (s : Nat) (b : Nat → Nat) (hl : len ≤ 200) (hT : ∀ p, p < len → T p < 128) : CM (S := Int32 × Nat × (Nat → Nat) × (Nat → Int32)) l D (tyL cC cI cJ cO) yX5_readInto wsX5_readInto ({ frames := 5, cells := 0, slots := 0, locals := 113 }) [.ref a, .ref h] [(a, .inr (5, [.ref la, .ref na, .int (nI len), .int (nI pl)])), (la, .inl (cC, 200, .inl (fun j_ => nI (T j_)))), (na, .inl (cI, 3, .inl G)), (h, .inr (0, [.ref k, .ref f, .ref s, .int (nI (b 0)), .int (nI (b 1)), .int (nI (b 2)), .int (nI (b 3)), .int (nI (b 4)), .int (nI (b 5))])), (k, .inl (cI, 24, .inl (fun j_ => nI (b (6 + 3 * j_))))), (f, .inl (cI, 24, .inl (fun j_ => nI (b (7 + 3 * j_))))), (s, .inl (cI, 24, .inl (fun j_ => nI (b (8 + 3 * j_)))))] (fun u => some (.int u.1)) (fun u => u.1 = psI (psS T len 200 (stC b 0) 0) ∧ ((psS T len 200 (stC b 0) 0).1 = none → u.2.2.1 = (psS T len 200 (stC b 0) 0).2)) (fun u_ => [(a, .inr (5, [.ref la, .ref na, .int (nI len), .int (nI u_.2.1)])), (la, .inl (cC, 200, .inl (fun j_ => nI (T j_)))), (na, .inl (cI, 3, .inl u_.2.2.2)), (h, .inr (0, [.ref k, .ref f, .ref s, .int (nI (u_.2.2.1 0)), .int (nI (u_.2.2.1 1)), .int (nI (u_.2.2.1 2)), .int (nI (u_.2.2.1 3)), .int (nI (u_.2.2.1 4)), .int (nI (u_.2.2.1 5))])), (k, .inl (cI, 24, .inl (fun j_ => nI (u_.2.2.1 (6 + 3 * j_))))), (f, .inl (cI, 24, .inl (fun j_ => nI (u_.2.2.1 (7 + 3 * j_))))), (s, .inl (cI, 24, .inl (fun j_ => nI (u_.2.2.1 (8 + 3 * j_)))))]) := by
  refine CM_in (cc := cX5_readInto) (maxL := 4) (ret := (some .int)) (by decide) rfl (Nat.le_of_ble_eq_true rfl) ?_
  intro X hX hret
  show GW X [(a, .inr (5, [.ref la, .ref na, .int (nI len), .int (nI pl)])), (la, .inl (cC, 200, .inl (fun j_ => nI (T j_)))), (na, .inl (cI, 3, .inl G)), (h, .inr (0, [.ref k, .ref f, .ref s, .int (nI (b 0)), .int (nI (b 1)), .int (nI (b 2)), .int (nI (b 3)), .int (nI (b 4)), .int (nI (b 5))])), (k, .inl (cI, 24, .inl (fun j_ => nI (b (6 + 3 * j_))))), (f, .inl (cI, 24, .inl (fun j_ => nI (b (7 + 3 * j_))))), (s, .inl (cI, 24, .inl (fun j_ => nI (b (8 + 3 * j_)))))] [(0, .ref a), (1, .ref h)] [] 0 0 0
  refine g_aload_n 1 (hd := dX5_readInto_0) (C := hX) rfl rfl ?_
  refine g_iconst (v := nI 0) hX dX5_readInto_1 (by decide) ?_
  refine g_callV (rest := []) hX (c_X0_start l D cC cI cJ cO h k f s b 0) ok_X0_start rfl 0 rfl rfl (fun _ => rfl) (hd := dX5_readInto_2) gX5_readInto_X0_start ⟨by decide, by decide⟩ rfl (Nat.le_of_ble_eq_true rfl) ⟨Nat.zero_le _, Nat.zero_le _⟩ [3, 4, 5, 6] (by decide) rfl rfl ?_
  intro _u2 _p2
  show GW X [(a, .inr (5, [.ref la, .ref na, .int (nI len), .int (nI pl)])), (la, .inl (cC, 200, .inl (fun j_ => nI (T j_)))), (na, .inl (cI, 3, .inl G)), (h, .inr (0, [.ref k, .ref f, .ref s, .int (nI ((stC b 0) 0)), .int (nI ((stC b 0) 1)), .int (nI ((stC b 0) 2)), .int (nI ((stC b 0) 3)), .int (nI ((stC b 0) 4)), .int (nI ((stC b 0) 5))])), (k, .inl (cI, 24, .inl (fun j_ => nI ((stC b 0) (6 + 3 * j_))))), (f, .inl (cI, 24, .inl (fun j_ => nI ((stC b 0) (7 + 3 * j_))))), (s, .inl (cI, 24, .inl (fun j_ => nI ((stC b 0) (8 + 3 * j_)))))] [(0, .ref a), (1, .ref h)] [] 5 0 0
  refine g_aload_n 0 (hd := dX5_readInto_5) (C := hX) rfl rfl ?_
  refine g_iconst (v := nI 0) hX dX5_readInto_6 (by decide) ?_
  refine g_put (hd := dX5_readInto_7) (C := hX) 0 3 [(a, .inr (5, [.ref la, .ref na, .int (nI len), .int (nI 0)])), (la, .inl (cC, 200, .inl (fun j_ => nI (T j_)))), (na, .inl (cI, 3, .inl G)), (h, .inr (0, [.ref k, .ref f, .ref s, .int (nI ((stC b 0) 0)), .int (nI ((stC b 0) 1)), .int (nI ((stC b 0) 2)), .int (nI ((stC b 0) 3)), .int (nI ((stC b 0) 4)), .int (nI ((stC b 0) 5))])), (k, .inl (cI, 24, .inl (fun j_ => nI ((stC b 0) (6 + 3 * j_))))), (f, .inl (cI, 24, .inl (fun j_ => nI ((stC b 0) (7 + 3 * j_))))), (s, .inl (cI, 24, .inl (fun j_ => nI ((stC b 0) (8 + 3 * j_)))))] rfl rfl in_X5_readInto_5 tyX5_ok nmX5 (by decide) (by decide +kernel) rfl rfl rfl (Nat.le_of_ble_eq_true rfl) rfl ?_
  refine g_iconst (v := nI 0) hX dX5_readInto_10 (by decide) ?_
  refine g_istore_n [(0, .ref a), (1, .ref h), (2, .int (nI 0))] [1, 2, 0] (hd := dX5_readInto_11) (C := hX) rfl (by decide) rfl ?_
  have L_12 : ∀ (n_12 : Nat) (i : Nat) (p : Nat) (c : Nat → Nat) (g : Nat → Int32), 200 - i < n_12 → i ≤ 200 → p ≤ 200 → c 0 ≤ 8 → c 1 ≤ 24 → psS T len 200 (stC b 0) 0 = psS T len (200 - i) c p → GW X [(a, .inr (5, [.ref la, .ref na, .int (nI len), .int (nI p)])), (la, .inl (cC, 200, .inl (fun j_ => nI (T j_)))), (na, .inl (cI, 3, .inl g)), (h, .inr (0, [.ref k, .ref f, .ref s, .int (nI (c 0)), .int (nI (c 1)), .int (nI (c 2)), .int (nI (c 3)), .int (nI (c 4)), .int (nI (c 5))])), (k, .inl (cI, 24, .inl (fun j_ => nI (c (6 + 3 * j_))))), (f, .inl (cI, 24, .inl (fun j_ => nI (c (7 + 3 * j_))))), (s, .inl (cI, 24, .inl (fun j_ => nI (c (8 + 3 * j_)))))] [(0, .ref a), (1, .ref h), (2, .int (nI i))] [] 12 0 0 := by
    intro n_12
    induction n_12 with
    | zero => intro i p c g hm_12; exact absurd hm_12 (Nat.not_lt_zero _)
    | succ n_12 ih_12 =>
      intro i p c g hm_12 hi hp hc0 hc1 hR
      refine g_iload_n 2 (hd := dX5_readInto_12) (C := hX) rfl rfl ?_
      refine g_sipush (v := nI 200) hX dX5_readInto_13 (by decide) ?_
      refine g_icmp_geN 51 (hd := dX5_readInto_16) (C := hX) (by decide) (by omega) (by omega) (fun c_16 => ?_) (fun c_16 => ?_)
      · refine g_bipush (v := (-4)) hX dX5_readInto_51 (by decide) ?_
        exact (hret ((-4), p, c, g) _ _ (by first | (rw [hR, psS_end c_27]; exact ⟨rfl, fun _ => rfl⟩) | (rw [hR, show 200 - i = 0 from by omega]; exact ⟨rfl, fun _ => rfl⟩))).2.1 _ rfl rfl dX5_readInto_53
      · refine g_aload_n 0 (hd := dX5_readInto_19) (C := hX) rfl rfl ?_
        refine g_get (hd := dX5_readInto_20) (C := hX) 0 3 rfl rfl in_X5_readInto_5 (by decide) (by decide +kernel) rfl ?_
        refine g_aload_n 0 (hd := dX5_readInto_23) (C := hX) rfl rfl ?_
        refine g_get (hd := dX5_readInto_24) (C := hX) 0 2 rfl rfl in_X5_readInto_5 (by decide) (by decide +kernel) rfl ?_
        refine g_icmp_geN 51 (hd := dX5_readInto_27) (C := hX) (by decide) (by omega) (by omega) (fun c_27 => ?_) (fun c_27 => ?_)
        · refine g_bipush (v := (-4)) hX dX5_readInto_51 (by decide) ?_
          exact (hret ((-4), p, c, g) _ _ (by first | (rw [hR, psS_end c_27]; exact ⟨rfl, fun _ => rfl⟩) | (rw [hR, show 200 - i = 0 from by omega]; exact ⟨rfl, fun _ => rfl⟩))).2.1 _ rfl rfl dX5_readInto_53
        · refine g_aload_n 0 (hd := dX5_readInto_30) (C := hX) rfl rfl ?_
          refine g_get (hd := dX5_readInto_31) (C := hX) 0 3 rfl rfl in_X5_readInto_5 (by decide) (by decide +kernel) rfl ?_
          refine g_istore_n [(0, .ref a), (1, .ref h), (2, .int (nI i)), (3, .int (nI p))] [1, 2, 3, 0] (hd := dX5_readInto_34) (C := hX) rfl (by decide) rfl ?_
          refine g_aload_n 0 (hd := dX5_readInto_35) (C := hX) rfl rfl ?_
          refine g_aload_n 1 (hd := dX5_readInto_36) (C := hX) rfl rfl ?_
          refine g_callV (rest := []) hX (c_X5_readItem l D cC cI cJ cO a la na len p T g h k f s c c_27 hl hT hc0 hc1) ok_X5_readItem rfl 0 rfl rfl (fun _ => rfl) (hd := dX5_readInto_37) gX5_readInto_X5_readItem ⟨by decide, by decide⟩ rfl (Nat.le_of_ble_eq_true rfl) ⟨Nat.zero_le _, Nat.zero_le _⟩ [0, 1, 2, 3, 4, 5, 6] (by decide) rfl rfl ?_
          intro ⟨r_37, q_37, n_37, g_37⟩ e_37
          rcases e_37 with ⟨m_37, z_37, p_37, e_37, e2_37, e3_37⟩ | ⟨p_37, e_37⟩
          · simp only at e_37 e2_37 e3_37
            subst e_37
            subst e2_37
            subst e3_37
            show GW X [(a, .inr (5, [.ref la, .ref na, .int (nI len), .int (nI q_37)])), (la, .inl (cC, 200, .inl (fun j_ => nI (T j_)))), (na, .inl (cI, 3, .inl g_37)), (h, .inr (0, [.ref k, .ref f, .ref s, .int (nI (n_37 0)), .int (nI (n_37 1)), .int (nI (n_37 2)), .int (nI (n_37 3)), .int (nI (n_37 4)), .int (nI (n_37 5))])), (k, .inl (cI, 24, .inl (fun j_ => nI (n_37 (6 + 3 * j_))))), (f, .inl (cI, 24, .inl (fun j_ => nI (n_37 (7 + 3 * j_))))), (s, .inl (cI, 24, .inl (fun j_ => nI (n_37 (8 + 3 * j_)))))] [(0, .ref a), (1, .ref h), (2, .int (nI i)), (3, .int (nI p))] [.int (nI 1)] 40 0 0
            refine g_if_neN 45 (hd := dX5_readInto_40) (C := hX) (by decide) (by decide) (fun c_40 => ?_) (fun c_40 => absurd c_40 (by decide))
            refine g_iinc (v := (nI (i + 1))) 2 [(0, .ref a), (1, .ref h), (2, .int (nI (i + 1))), (3, .int (nI p))] [1, 2, 0, 3] (hd := dX5_readInto_45) (C := hX) rfl (nI_1 _) (by decide) rfl ?_
            refine g_goto 12 (hd := dX5_readInto_48) (C := hX) (by decide) ?_
            refine g_lv [(0, .ref a), (1, .ref h), (2, .int (nI (i + 1)))] [0, 1, 2] rfl ?_
            exact ih_12 (i + 1) q_37 n_37 g_37 (by omega) (by omega) (by have := (itS_e p_37).2; omega) (itS_bd hc0 hc1 p_37).1 (itS_bd hc0 hc1 p_37).2 (by rw [hR, show 200 - i = (200 - (i + 1)) + 1 from by omega, psS_go c_27 p_37])
          · simp only at e_37
            subst e_37
            show GW X [(a, .inr (5, [.ref la, .ref na, .int (nI len), .int (nI q_37)])), (la, .inl (cC, 200, .inl (fun j_ => nI (T j_)))), (na, .inl (cI, 3, .inl g_37)), (h, .inr (0, [.ref k, .ref f, .ref s, .int (nI (n_37 0)), .int (nI (n_37 1)), .int (nI (n_37 2)), .int (nI (n_37 3)), .int (nI (n_37 4)), .int (nI (n_37 5))])), (k, .inl (cI, 24, .inl (fun j_ => nI (n_37 (6 + 3 * j_))))), (f, .inl (cI, 24, .inl (fun j_ => nI (n_37 (7 + 3 * j_))))), (s, .inl (cI, 24, .inl (fun j_ => nI (n_37 (8 + 3 * j_)))))] [(0, .ref a), (1, .ref h), (2, .int (nI i)), (3, .int (nI p))] [.int (nI 0)] 40 0 0
            refine g_if_neN 45 (hd := dX5_readInto_40) (C := hX) (by decide) (by decide) (fun c_40 => absurd c_40 (by decide)) (fun c_40 => ?_)
            refine g_iload_n 3 (hd := dX5_readInto_43) (C := hX) rfl rfl ?_
            exact (hret ((nI p), q_37, n_37, g_37) _ _ (by rw [hR, show 200 - i = (199 - i) + 1 from by omega, psS_bad c_27 p_37]; exact ⟨rfl, fun w => by cases w⟩)).2.1 _ rfl rfl dX5_readInto_44
  exact L_12 _ 0 0 (stC b 0) G (Nat.lt_succ_self _) (by decide) (by decide) (by rw [stC_0]; decide) (by rw [stC_1]; decide) rfl
