theorem ok_J6_bitCount_0f7a4 : gOK yJ6_bitCount_0f7a4 wsJ6_bitCount_0f7a4 ({ frames := 0, cells := 0, slots := 0, locals := 0 }) 1 1 := ⟨⟨_, _, _, rfl⟩, rfl, rfl, by decide, by decide, by decide +kernel⟩
set_option maxRecDepth 100000 in
set_option maxHeartbeats 4000000 in
theorem c_J6_bitCount_0f7a4 (l : Launch) (D : va_G) (cC cI cJ cO : ClassId) (w : Nat) (hw : w < 256) : CM (S := Int32) l D (tyL cC cI cJ cO) yJ6_bitCount_0f7a4 wsJ6_bitCount_0f7a4 ({ frames := 0, cells := 0, slots := 0, locals := 0 }) [.int (nI w)] [] (fun r => some (.int r)) (fun r => r = nI (ones8 w)) (fun u_ => []) := by
  refine CM_in (cc := cJ6_bitCount_0f7a4) (maxL := 1) (ret := (some .int)) (by decide) rfl (Nat.le_of_ble_eq_true rfl) ?_
  intro X hX hret
  show GW X [] [(0, .int (nI w))] [] 0 0 0
  refine g_iload_n 0 (hd := dJ6_bitCount_0f7a4_0) (C := hX) rfl rfl ?_
  refine g_iload_n 0 (hd := dJ6_bitCount_0f7a4_1) (C := hX) rfl rfl ?_
  refine g_iconst (v := nI 1) hX dJ6_bitCount_0f7a4_2 (by decide) ?_
  refine g_iushr (v := (((nI w).toUInt32 >>> ((nI 1).toUInt32 &&& Int32.toUInt32 31)).toInt32)) hX dJ6_bitCount_0f7a4_3 rfl ?_
  refine g_ldcw (v := 1431655765) hX dJ6_bitCount_0f7a4_4 (by decide +kernel) ?_
  refine g_iand hX dJ6_bitCount_0f7a4_7 ?_
  refine g_isub hX dJ6_bitCount_0f7a4_8 ?_
  obtain ⟨i1, e_i1⟩ : ∃ y_ : Int32, y_ = ((nI w) - ((((nI w).toUInt32 >>> ((nI 1).toUInt32 &&& Int32.toUInt32 31)).toInt32) &&& 1431655765)) := ⟨_, rfl⟩
  refine g_top (y := i1) e_i1.symm ?_
  refine g_istore_n [(0, .int i1)] [0] (hd := dJ6_bitCount_0f7a4_9) (C := hX) rfl (by decide) rfl ?_
  refine g_iload_n 0 (hd := dJ6_bitCount_0f7a4_10) (C := hX) rfl rfl ?_
  refine g_ldcw (v := 858993459) hX dJ6_bitCount_0f7a4_11 (by decide +kernel) ?_
  refine g_iand hX dJ6_bitCount_0f7a4_14 ?_
  refine g_iload_n 0 (hd := dJ6_bitCount_0f7a4_15) (C := hX) rfl rfl ?_
  refine g_iconst (v := nI 2) hX dJ6_bitCount_0f7a4_16 (by decide) ?_
  refine g_iushr (v := ((i1.toUInt32 >>> ((nI 2).toUInt32 &&& Int32.toUInt32 31)).toInt32)) hX dJ6_bitCount_0f7a4_17 rfl ?_
  refine g_ldcw (v := 858993459) hX dJ6_bitCount_0f7a4_18 (by decide +kernel) ?_
  refine g_iand hX dJ6_bitCount_0f7a4_21 ?_
  refine g_iadd hX dJ6_bitCount_0f7a4_22 ?_
  obtain ⟨i2, e_i2⟩ : ∃ y_ : Int32, y_ = ((i1 &&& 858993459) + (((i1.toUInt32 >>> ((nI 2).toUInt32 &&& Int32.toUInt32 31)).toInt32) &&& 858993459)) := ⟨_, rfl⟩
  refine g_top (y := i2) e_i2.symm ?_
  refine g_istore_n [(0, .int i2)] [0] (hd := dJ6_bitCount_0f7a4_23) (C := hX) rfl (by decide) rfl ?_
  refine g_iload_n 0 (hd := dJ6_bitCount_0f7a4_24) (C := hX) rfl rfl ?_
  refine g_iload_n 0 (hd := dJ6_bitCount_0f7a4_25) (C := hX) rfl rfl ?_
  refine g_iconst (v := nI 4) hX dJ6_bitCount_0f7a4_26 (by decide) ?_
  refine g_iushr (v := ((i2.toUInt32 >>> ((nI 4).toUInt32 &&& Int32.toUInt32 31)).toInt32)) hX dJ6_bitCount_0f7a4_27 rfl ?_
  refine g_iadd hX dJ6_bitCount_0f7a4_28 ?_
  refine g_ldcw (v := 252645135) hX dJ6_bitCount_0f7a4_29 (by decide +kernel) ?_
  refine g_iand hX dJ6_bitCount_0f7a4_32 ?_
  obtain ⟨i3, e_i3⟩ : ∃ y_ : Int32, y_ = ((i2 + ((i2.toUInt32 >>> ((nI 4).toUInt32 &&& Int32.toUInt32 31)).toInt32)) &&& 252645135) := ⟨_, rfl⟩
  refine g_top (y := i3) e_i3.symm ?_
  refine g_istore_n [(0, .int i3)] [0] (hd := dJ6_bitCount_0f7a4_33) (C := hX) rfl (by decide) rfl ?_
  refine g_iload_n 0 (hd := dJ6_bitCount_0f7a4_34) (C := hX) rfl rfl ?_
  refine g_iload_n 0 (hd := dJ6_bitCount_0f7a4_35) (C := hX) rfl rfl ?_
  refine g_bipush (v := nI 8) hX dJ6_bitCount_0f7a4_36 (by decide) ?_
  refine g_iushr (v := ((i3.toUInt32 >>> ((nI 8).toUInt32 &&& Int32.toUInt32 31)).toInt32)) hX dJ6_bitCount_0f7a4_38 rfl ?_
  refine g_iadd hX dJ6_bitCount_0f7a4_39 ?_
  obtain ⟨i4, e_i4⟩ : ∃ y_ : Int32, y_ = (i3 + ((i3.toUInt32 >>> ((nI 8).toUInt32 &&& Int32.toUInt32 31)).toInt32)) := ⟨_, rfl⟩
  refine g_top (y := i4) e_i4.symm ?_
  refine g_istore_n [(0, .int i4)] [0] (hd := dJ6_bitCount_0f7a4_40) (C := hX) rfl (by decide) rfl ?_
  refine g_iload_n 0 (hd := dJ6_bitCount_0f7a4_41) (C := hX) rfl rfl ?_
  refine g_iload_n 0 (hd := dJ6_bitCount_0f7a4_42) (C := hX) rfl rfl ?_
  refine g_bipush (v := nI 16) hX dJ6_bitCount_0f7a4_43 (by decide) ?_
  refine g_iushr (v := ((i4.toUInt32 >>> ((nI 16).toUInt32 &&& Int32.toUInt32 31)).toInt32)) hX dJ6_bitCount_0f7a4_45 rfl ?_
  refine g_iadd hX dJ6_bitCount_0f7a4_46 ?_
  obtain ⟨i5, e_i5⟩ : ∃ y_ : Int32, y_ = (i4 + ((i4.toUInt32 >>> ((nI 16).toUInt32 &&& Int32.toUInt32 31)).toInt32)) := ⟨_, rfl⟩
  refine g_top (y := i5) e_i5.symm ?_
  refine g_istore_n [(0, .int i5)] [0] (hd := dJ6_bitCount_0f7a4_47) (C := hX) rfl (by decide) rfl ?_
  refine g_iload_n 0 (hd := dJ6_bitCount_0f7a4_48) (C := hX) rfl rfl ?_
  refine g_bipush (v := nI 63) hX dJ6_bitCount_0f7a4_49 (by decide) ?_
  refine g_iand hX dJ6_bitCount_0f7a4_51 ?_
  exact (hret (i5 &&& (nI 63)) _ _ (by subst e_i5 e_i4 e_i3 e_i2 e_i1; exact sw32_ok w hw)).2.1 _ rfl rfl dJ6_bitCount_0f7a4_52

theorem in_X0_tellsItsZeros_0 : ∀ w ∈ wsX00, w ∈ wsX0_tellsItsZeros := fun _ h => List.mem_cons_of_mem _ (List.mem_append_right _ h)
theorem ok_X0_tellsItsZeros : gOK yX0_tellsItsZeros wsX0_tellsItsZeros ({ frames := 1, cells := 0, slots := 0, locals := 20 }) 4 1 := ⟨⟨_, _, _, rfl⟩, rfl, rfl, by decide, by decide, by decide +kernel⟩
set_option maxRecDepth 100000 in
set_option maxHeartbeats 4000000 in
theorem c_X0_tellsItsZeros (l : Launch) (D : va_G) (cC cI cJ cO : ClassId) (h : Nat) (k : Nat) (f : Nat) (s : Nat) (b : Nat → Nat) (w : Nat) (hw : w < 256) (h0 : b 0 ≤ 8) (h5 : b 5 ≤ b 0) : CM (S := Int32) l D (tyL cC cI cJ cO) yX0_tellsItsZeros wsX0_tellsItsZeros ({ frames := 1, cells := 0, slots := 0, locals := 20 }) [.ref h, .int (nI w)] [(h, .inr (0, [.ref k, .ref f, .ref s, .int (nI (b 0)), .int (nI (b 1)), .int (nI (b 2)), .int (nI (b 3)), .int (nI (b 4)), .int (nI (b 5))])), (k, .inl (cI, 24, .inl (fun j_ => nI (b (6 + 3 * j_))))), (f, .inl (cI, 24, .inl (fun j_ => nI (b (7 + 3 * j_))))), (s, .inl (cI, 24, .inl (fun j_ => nI (b (8 + 3 * j_)))))] (fun r => some (.int r)) (fun r => isB r ((w / 2 ^ b 5 == (b 5 - ones8 (w % 2 ^ b 5)) % 2 ^ (b 0 - b 5)) = true)) (fun u_ => [(h, .inr (0, [.ref k, .ref f, .ref s, .int (nI (b 0)), .int (nI (b 1)), .int (nI (b 2)), .int (nI (b 3)), .int (nI (b 4)), .int (nI (b 5))])), (k, .inl (cI, 24, .inl (fun j_ => nI (b (6 + 3 * j_))))), (f, .inl (cI, 24, .inl (fun j_ => nI (b (7 + 3 * j_))))), (s, .inl (cI, 24, .inl (fun j_ => nI (b (8 + 3 * j_)))))]) := by
  refine CM_in (cc := cX0_tellsItsZeros) (maxL := 4) (ret := (some .boolean)) (by decide) rfl (Nat.le_of_ble_eq_true rfl) ?_
  intro X hX hret
  show GW X [(h, .inr (0, [.ref k, .ref f, .ref s, .int (nI (b 0)), .int (nI (b 1)), .int (nI (b 2)), .int (nI (b 3)), .int (nI (b 4)), .int (nI (b 5))])), (k, .inl (cI, 24, .inl (fun j_ => nI (b (6 + 3 * j_))))), (f, .inl (cI, 24, .inl (fun j_ => nI (b (7 + 3 * j_))))), (s, .inl (cI, 24, .inl (fun j_ => nI (b (8 + 3 * j_)))))] [(0, .ref h), (1, .int (nI w))] [] 0 0 0
  refine g_iload_n 1 (hd := dX0_tellsItsZeros_0) (C := hX) rfl rfl ?_
  refine g_aload_n 0 (hd := dX0_tellsItsZeros_1) (C := hX) rfl rfl ?_
  refine g_get (hd := dX0_tellsItsZeros_2) (C := hX) 0 8 rfl rfl in_X0_tellsItsZeros_0 (by decide) (by decide +kernel) rfl ?_
  refine g_callS (rest := [.int (nI w)]) hX (c_X0_lowBits l D cC cI cJ cO (b 5) (by omega)) ok_X0_lowBits (fun _ => rfl) (hd := dX0_tellsItsZeros_5) gX0_tellsItsZeros_X0_lowBits ⟨by decide, by decide⟩ rfl (Nat.le_of_ble_eq_true rfl) ⟨Nat.zero_le _, Nat.zero_le _⟩ [] (by decide) rfl rfl ?_
  intro r_5 e_5
  subst e_5
  show GW X [(h, .inr (0, [.ref k, .ref f, .ref s, .int (nI (b 0)), .int (nI (b 1)), .int (nI (b 2)), .int (nI (b 3)), .int (nI (b 4)), .int (nI (b 5))])), (k, .inl (cI, 24, .inl (fun j_ => nI (b (6 + 3 * j_))))), (f, .inl (cI, 24, .inl (fun j_ => nI (b (7 + 3 * j_))))), (s, .inl (cI, 24, .inl (fun j_ => nI (b (8 + 3 * j_)))))] [(0, .ref h), (1, .int (nI w))] [.int (nI (2 ^ (b 5) - 1)), .int (nI w)] 8 0 0
  refine g_iand hX dX0_tellsItsZeros_8 ?_
  refine g_top (y := (nI (w &&& (2 ^ (b 5) - 1)))) (nx_and _ _) ?_
  refine g_istore_n [(0, .ref h), (1, .int (nI w)), (2, .int (nI (w &&& (2 ^ (b 5) - 1))))] [1, 2, 0] (hd := dX0_tellsItsZeros_9) (C := hX) rfl (by decide) rfl ?_
  refine g_aload_n 0 (hd := dX0_tellsItsZeros_10) (C := hX) rfl rfl ?_
  refine g_get (hd := dX0_tellsItsZeros_11) (C := hX) 0 8 rfl rfl in_X0_tellsItsZeros_0 (by decide) (by decide +kernel) rfl ?_
  refine g_iload_n 2 (hd := dX0_tellsItsZeros_14) (C := hX) rfl rfl ?_
  refine g_callS (rest := [.int (nI (b 5))]) hX (c_J6_bitCount_0f7a4 l D cC cI cJ cO (w &&& (2 ^ (b 5) - 1)) (Nat.lt_of_le_of_lt Nat.and_le_left hw)) ok_J6_bitCount_0f7a4 (fun _ => rfl) (hd := dX0_tellsItsZeros_15) gX0_tellsItsZeros_J6_bitCount_0f7a4 ⟨by decide, by decide⟩ rfl (Nat.le_of_ble_eq_true rfl) ⟨Nat.zero_le _, Nat.zero_le _⟩ [] (by decide) rfl rfl ?_
  intro r_15 e_15
  subst e_15
  show GW X [(h, .inr (0, [.ref k, .ref f, .ref s, .int (nI (b 0)), .int (nI (b 1)), .int (nI (b 2)), .int (nI (b 3)), .int (nI (b 4)), .int (nI (b 5))])), (k, .inl (cI, 24, .inl (fun j_ => nI (b (6 + 3 * j_))))), (f, .inl (cI, 24, .inl (fun j_ => nI (b (7 + 3 * j_))))), (s, .inl (cI, 24, .inl (fun j_ => nI (b (8 + 3 * j_)))))] [(0, .ref h), (1, .int (nI w)), (2, .int (nI (w &&& (2 ^ (b 5) - 1))))] [.int (nI (ones8 (w &&& (2 ^ (b 5) - 1)))), .int (nI (b 5))] 18 0 0
  refine g_isub hX dX0_tellsItsZeros_18 ?_
  refine g_top (y := (nI ((b 5) - (ones8 (w &&& (2 ^ (b 5) - 1)))))) (pk_sub (on_le (b 5) (by omega) w hw)) ?_
  refine g_istore_n [(0, .ref h), (1, .int (nI w)), (2, .int (nI (w &&& (2 ^ (b 5) - 1)))), (3, .int (nI ((b 5) - (ones8 (w &&& (2 ^ (b 5) - 1))))))] [1, 2, 3, 0] (hd := dX0_tellsItsZeros_19) (C := hX) rfl (by decide) rfl ?_
  refine g_iload_n 1 (hd := dX0_tellsItsZeros_20) (C := hX) rfl rfl ?_
  refine g_aload_n 0 (hd := dX0_tellsItsZeros_21) (C := hX) rfl rfl ?_
  refine g_get (hd := dX0_tellsItsZeros_22) (C := hX) 0 8 rfl rfl in_X0_tellsItsZeros_0 (by decide) (by decide +kernel) rfl ?_
  refine g_ishr hX dX0_tellsItsZeros_25 ?_
  refine g_top (y := (nI (w / 2 ^ b 5))) (gl_shr (by omega) (by omega)) ?_
  refine g_iload_n 3 (hd := dX0_tellsItsZeros_26) (C := hX) rfl rfl ?_
  refine g_aload_n 0 (hd := dX0_tellsItsZeros_27) (C := hX) rfl rfl ?_
  refine g_get (hd := dX0_tellsItsZeros_28) (C := hX) 0 3 rfl rfl in_X0_tellsItsZeros_0 (by decide) (by decide +kernel) rfl ?_
  refine g_aload_n 0 (hd := dX0_tellsItsZeros_31) (C := hX) rfl rfl ?_
  refine g_get (hd := dX0_tellsItsZeros_32) (C := hX) 0 8 rfl rfl in_X0_tellsItsZeros_0 (by decide) (by decide +kernel) rfl ?_
  refine g_isub hX dX0_tellsItsZeros_35 ?_
  refine g_top (y := (nI ((b 0) - (b 5)))) (pk_sub (by omega)) ?_
  refine g_callS (rest := [.int (nI ((b 5) - (ones8 (w &&& (2 ^ (b 5) - 1))))), .int (nI (w / 2 ^ b 5))]) hX (c_X0_lowBits l D cC cI cJ cO ((b 0) - (b 5)) (by omega)) ok_X0_lowBits (fun _ => rfl) (hd := dX0_tellsItsZeros_36) gX0_tellsItsZeros_X0_lowBits ⟨by decide, by decide⟩ rfl (Nat.le_of_ble_eq_true rfl) ⟨Nat.zero_le _, Nat.zero_le _⟩ [] (by decide) rfl rfl ?_
  intro r_36 e_36
  subst e_36
  show GW X [(h, .inr (0, [.ref k, .ref f, .ref s, .int (nI (b 0)), .int (nI (b 1)), .int (nI (b 2)), .int (nI (b 3)), .int (nI (b 4)), .int (nI (b 5))])), (k, .inl (cI, 24, .inl (fun j_ => nI (b (6 + 3 * j_))))), (f, .inl (cI, 24, .inl (fun j_ => nI (b (7 + 3 * j_))))), (s, .inl (cI, 24, .inl (fun j_ => nI (b (8 + 3 * j_)))))] [(0, .ref h), (1, .int (nI w)), (2, .int (nI (w &&& (2 ^ (b 5) - 1)))), (3, .int (nI ((b 5) - (ones8 (w &&& (2 ^ (b 5) - 1))))))] [.int (nI (2 ^ ((b 0) - (b 5)) - 1)), .int (nI ((b 5) - (ones8 (w &&& (2 ^ (b 5) - 1))))), .int (nI (w / 2 ^ b 5))] 39 0 0
  refine g_iand hX dX0_tellsItsZeros_39 ?_
  refine g_top (y := (nI (((b 5) - (ones8 (w &&& (2 ^ (b 5) - 1)))) &&& (2 ^ ((b 0) - (b 5)) - 1)))) (nx_and _ _) ?_
  have q1 : w / 2 ^ b 5 ≤ w := Nat.div_le_self _ _
  have q2 : (b 5 - ones8 (w &&& (2 ^ b 5 - 1))) &&& (2 ^ (b 0 - b 5) - 1) ≤ b 5 - ones8 (w &&& (2 ^ b 5 - 1)) := Nat.and_le_left
  refine g_icmp_neN 47 (hd := dX0_tellsItsZeros_40) (C := hX) (by decide) (by omega) (by omega) (fun c_40 => ?_) (fun c_40 => ?_)
  · refine g_iconst (v := nI 0) hX dX0_tellsItsZeros_47 (by decide) ?_
    exact (hret (nI 0) _ _ (by have z := in_zer (b 0) (by omega) (b 5) (by omega) h5 w hw; rw [← z]; first | exact Or.inl ⟨rfl, beq_iff_eq.mpr c_40⟩ | exact Or.inr ⟨rfl, fun y => c_40 (beq_iff_eq.mp y)⟩)).2.2.1 _ rfl rfl (by decide) dX0_tellsItsZeros_48
  · refine g_iconst (v := nI 1) hX dX0_tellsItsZeros_43 (by decide) ?_
    refine g_goto 48 (hd := dX0_tellsItsZeros_44) (C := hX) (by decide) ?_
    exact (hret (nI 1) _ _ (by have z := in_zer (b 0) (by omega) (b 5) (by omega) h5 w hw; rw [← z]; first | exact Or.inl ⟨rfl, beq_iff_eq.mpr c_40⟩ | exact Or.inr ⟨rfl, fun y => c_40 (beq_iff_eq.mp y)⟩)).2.2.1 _ rfl rfl (by decide) dX0_tellsItsZeros_48

theorem in_X0_hasUnlikePairs_0 : ∀ w ∈ wsX00, w ∈ wsX0_hasUnlikePairs := fun _ h => List.mem_cons_of_mem _ (List.mem_append_right _ h)
theorem ok_X0_hasUnlikePairs : gOK yX0_hasUnlikePairs wsX0_hasUnlikePairs ({ frames := 1, cells := 0, slots := 0, locals := 20 }) 3 1 := ⟨⟨_, _, _, rfl⟩, rfl, rfl, by decide, by decide, by decide +kernel⟩
set_option maxRecDepth 100000 in
set_option maxHeartbeats 4000000 in
theorem c_X0_hasUnlikePairs (l : Launch) (D : va_G) (cC cI cJ cO : ClassId) (h : Nat) (k : Nat) (f : Nat) (s : Nat) (b : Nat → Nat) (w : Nat) (hw : w < 256) (h0 : b 0 ≤ 8) (he : b 0 % 2 = 0) : CM (S := Int32) l D (tyL cC cI cJ cO) yX0_hasUnlikePairs wsX0_hasUnlikePairs ({ frames := 1, cells := 0, slots := 0, locals := 20 }) [.ref h, .int (nI w)] [(h, .inr (0, [.ref k, .ref f, .ref s, .int (nI (b 0)), .int (nI (b 1)), .int (nI (b 2)), .int (nI (b 3)), .int (nI (b 4)), .int (nI (b 5))])), (k, .inl (cI, 24, .inl (fun j_ => nI (b (6 + 3 * j_))))), (f, .inl (cI, 24, .inl (fun j_ => nI (b (7 + 3 * j_))))), (s, .inl (cI, 24, .inl (fun j_ => nI (b (8 + 3 * j_)))))] (fun r => some (.int r)) (fun r => isB r (prs w (b 0 / 2) = true)) (fun u_ => [(h, .inr (0, [.ref k, .ref f, .ref s, .int (nI (b 0)), .int (nI (b 1)), .int (nI (b 2)), .int (nI (b 3)), .int (nI (b 4)), .int (nI (b 5))])), (k, .inl (cI, 24, .inl (fun j_ => nI (b (6 + 3 * j_))))), (f, .inl (cI, 24, .inl (fun j_ => nI (b (7 + 3 * j_))))), (s, .inl (cI, 24, .inl (fun j_ => nI (b (8 + 3 * j_)))))]) := by
  refine CM_in (cc := cX0_hasUnlikePairs) (maxL := 3) (ret := (some .boolean)) (by decide) rfl (Nat.le_of_ble_eq_true rfl) ?_
  intro X hX hret
  show GW X [(h, .inr (0, [.ref k, .ref f, .ref s, .int (nI (b 0)), .int (nI (b 1)), .int (nI (b 2)), .int (nI (b 3)), .int (nI (b 4)), .int (nI (b 5))])), (k, .inl (cI, 24, .inl (fun j_ => nI (b (6 + 3 * j_))))), (f, .inl (cI, 24, .inl (fun j_ => nI (b (7 + 3 * j_))))), (s, .inl (cI, 24, .inl (fun j_ => nI (b (8 + 3 * j_)))))] [(0, .ref h), (1, .int (nI w))] [] 0 0 0
  refine g_bipush (v := nI 85) hX dX0_hasUnlikePairs_0 (by decide) ?_
  refine g_aload_n 0 (hd := dX0_hasUnlikePairs_2) (C := hX) rfl rfl ?_
  refine g_get (hd := dX0_hasUnlikePairs_3) (C := hX) 0 3 rfl rfl in_X0_hasUnlikePairs_0 (by decide) (by decide +kernel) rfl ?_
  refine g_callS (rest := [.int (nI 85)]) hX (c_X0_lowBits l D cC cI cJ cO (b 0) (by omega)) ok_X0_lowBits (fun _ => rfl) (hd := dX0_hasUnlikePairs_6) gX0_hasUnlikePairs_X0_lowBits ⟨by decide, by decide⟩ rfl (Nat.le_of_ble_eq_true rfl) ⟨Nat.zero_le _, Nat.zero_le _⟩ [] (by decide) rfl rfl ?_
  intro r_6 e_6
  subst e_6
  show GW X [(h, .inr (0, [.ref k, .ref f, .ref s, .int (nI (b 0)), .int (nI (b 1)), .int (nI (b 2)), .int (nI (b 3)), .int (nI (b 4)), .int (nI (b 5))])), (k, .inl (cI, 24, .inl (fun j_ => nI (b (6 + 3 * j_))))), (f, .inl (cI, 24, .inl (fun j_ => nI (b (7 + 3 * j_))))), (s, .inl (cI, 24, .inl (fun j_ => nI (b (8 + 3 * j_)))))] [(0, .ref h), (1, .int (nI w))] [.int (nI (2 ^ (b 0) - 1)), .int (nI 85)] 9 0 0
  refine g_iand hX dX0_hasUnlikePairs_9 ?_
  refine g_top (y := (nI (85 &&& (2 ^ (b 0) - 1)))) (nx_and _ _) ?_
  refine g_istore_n [(0, .ref h), (1, .int (nI w)), (2, .int (nI (85 &&& (2 ^ (b 0) - 1))))] [1, 2, 0] (hd := dX0_hasUnlikePairs_10) (C := hX) rfl (by decide) rfl ?_
  refine g_iload_n 1 (hd := dX0_hasUnlikePairs_11) (C := hX) rfl rfl ?_
  refine g_iload_n 1 (hd := dX0_hasUnlikePairs_12) (C := hX) rfl rfl ?_
  refine g_iconst (v := nI 1) hX dX0_hasUnlikePairs_13 (by decide) ?_
  refine g_ishr hX dX0_hasUnlikePairs_14 ?_
  refine g_top (y := (nI (w / 2 ^ 1))) (gl_shr (by omega) (by omega)) ?_
  refine g_ixor hX dX0_hasUnlikePairs_15 ?_
  refine g_top (y := (nI (w ^^^ (w / 2 ^ 1)))) (nx_xor _ _) ?_
  refine g_iload_n 2 (hd := dX0_hasUnlikePairs_16) (C := hX) rfl rfl ?_
  refine g_iand hX dX0_hasUnlikePairs_17 ?_
  refine g_top (y := (nI ((w ^^^ (w / 2 ^ 1)) &&& (85 &&& (2 ^ (b 0) - 1))))) (nx_and _ _) ?_
  refine g_iload_n 2 (hd := dX0_hasUnlikePairs_18) (C := hX) rfl rfl ?_
  have q1 : (w ^^^ w / 2 ^ 1) &&& (85 &&& (2 ^ b 0 - 1)) ≤ 85 &&& (2 ^ b 0 - 1) := Nat.and_le_right
  have q2 : 85 &&& (2 ^ b 0 - 1) ≤ 85 := Nat.and_le_left
  refine g_icmp_neN 26 (hd := dX0_hasUnlikePairs_19) (C := hX) (by decide) (by omega) (by omega) (fun c_19 => ?_) (fun c_19 => ?_)
  · refine g_iconst (v := nI 0) hX dX0_hasUnlikePairs_26 (by decide) ?_
    exact (hret (nI 0) _ _ (by have z := in_prs (b 0) (by omega) he w hw; rw [← z]; first | exact Or.inl ⟨rfl, beq_iff_eq.mpr c_19⟩ | exact Or.inr ⟨rfl, fun y => c_19 (beq_iff_eq.mp y)⟩)).2.2.1 _ rfl rfl (by decide) dX0_hasUnlikePairs_27
  · refine g_iconst (v := nI 1) hX dX0_hasUnlikePairs_22 (by decide) ?_
    refine g_goto 27 (hd := dX0_hasUnlikePairs_23) (C := hX) (by decide) ?_
    exact (hret (nI 1) _ _ (by have z := in_prs (b 0) (by omega) he w hw; rw [← z]; first | exact Or.inl ⟨rfl, beq_iff_eq.mpr c_19⟩ | exact Or.inr ⟨rfl, fun y => c_19 (beq_iff_eq.mp y)⟩)).2.2.1 _ rfl rfl (by decide) dX0_hasUnlikePairs_27

theorem in_X0_isInCode_0 : ∀ w ∈ wsX00, w ∈ wsX0_isInCode := fun _ h => List.mem_cons_of_mem _ (List.mem_append_right _ h)
theorem ok_X0_isInCode : gOK yX0_isInCode wsX0_isInCode ({ frames := 2, cells := 0, slots := 0, locals := 43 }) 2 1 := ⟨⟨_, _, _, rfl⟩, rfl, rfl, by decide, by decide, by decide +kernel⟩
set_option maxRecDepth 100000 in
set_option maxHeartbeats 4000000 in
theorem c_X0_isInCode (l : Launch) (D : va_G) (cC cI cJ cO : ClassId) (h : Nat) (k : Nat) (f : Nat) (s : Nat) (b : Nat → Nat) (w : Nat) (hw : w < 256) (h0 : b 0 ≤ 8) (hcd : cdOK (b 0) (b 4) (b 5)) : CM (S := Int32) l D (tyL cC cI cJ cO) yX0_isInCode wsX0_isInCode ({ frames := 2, cells := 0, slots := 0, locals := 43 }) [.ref h, .int (nI w)] [(h, .inr (0, [.ref k, .ref f, .ref s, .int (nI (b 0)), .int (nI (b 1)), .int (nI (b 2)), .int (nI (b 3)), .int (nI (b 4)), .int (nI (b 5))])), (k, .inl (cI, 24, .inl (fun j_ => nI (b (6 + 3 * j_))))), (f, .inl (cI, 24, .inl (fun j_ => nI (b (7 + 3 * j_))))), (s, .inl (cI, 24, .inl (fun j_ => nI (b (8 + 3 * j_)))))] (fun r => some (.int r)) (fun r => isB r (inB b w = true)) (fun u_ => [(h, .inr (0, [.ref k, .ref f, .ref s, .int (nI (b 0)), .int (nI (b 1)), .int (nI (b 2)), .int (nI (b 3)), .int (nI (b 4)), .int (nI (b 5))])), (k, .inl (cI, 24, .inl (fun j_ => nI (b (6 + 3 * j_))))), (f, .inl (cI, 24, .inl (fun j_ => nI (b (7 + 3 * j_))))), (s, .inl (cI, 24, .inl (fun j_ => nI (b (8 + 3 * j_)))))]) := by
  refine CM_in (cc := cX0_isInCode) (maxL := 2) (ret := (some .boolean)) (by decide) rfl (Nat.le_of_ble_eq_true rfl) ?_
  intro X hX hret
  show GW X [(h, .inr (0, [.ref k, .ref f, .ref s, .int (nI (b 0)), .int (nI (b 1)), .int (nI (b 2)), .int (nI (b 3)), .int (nI (b 4)), .int (nI (b 5))])), (k, .inl (cI, 24, .inl (fun j_ => nI (b (6 + 3 * j_))))), (f, .inl (cI, 24, .inl (fun j_ => nI (b (7 + 3 * j_))))), (s, .inl (cI, 24, .inl (fun j_ => nI (b (8 + 3 * j_)))))] [(0, .ref h), (1, .int (nI w))] [] 0 0 0
  refine g_aload_n 0 (hd := dX0_isInCode_0) (C := hX) rfl rfl ?_
  refine g_get (hd := dX0_isInCode_1) (C := hX) 0 7 rfl rfl in_X0_isInCode_0 (by decide) (by decide +kernel) rfl ?_
  rcases cp_four hcd with k_4 | k_4 | k_4 | k_4
  · refine g_top (y := nI 0) (by rw [k_4]) ?_
    refine g_tableOut 61 (hd := dX0_isInCode_4) (C := hX) (by decide) (by decide) ?_
    refine g_iconst (v := nI 1) hX dX0_isInCode_61 (by decide) ?_
    exact (hret (nI 1) _ _ (Or.inl ⟨rfl, by simp [inB, inC, k_4]⟩)).2.2.1 _ rfl rfl (by decide) dX0_isInCode_62
  · refine g_top (y := nI 1) (by rw [k_4]) ?_
    refine g_tableIn 32 (hd := dX0_isInCode_4) (C := hX) (by decide) (by decide) rfl (by decide) ?_
    refine g_iload_n 1 (hd := dX0_isInCode_32) (C := hX) rfl rfl ?_
    refine g_callS (rest := []) hX (c_J6_bitCount_0f7a4 l D cC cI cJ cO w (by omega)) ok_J6_bitCount_0f7a4 (fun _ => rfl) (hd := dX0_isInCode_33) gX0_isInCode_J6_bitCount_0f7a4 ⟨by decide, by decide⟩ rfl (Nat.le_of_ble_eq_true rfl) ⟨Nat.zero_le _, Nat.zero_le _⟩ [] (by decide) rfl rfl ?_
    intro r_33 e_33
    subst e_33
    show GW X [(h, .inr (0, [.ref k, .ref f, .ref s, .int (nI (b 0)), .int (nI (b 1)), .int (nI (b 2)), .int (nI (b 3)), .int (nI (b 4)), .int (nI (b 5))])), (k, .inl (cI, 24, .inl (fun j_ => nI (b (6 + 3 * j_))))), (f, .inl (cI, 24, .inl (fun j_ => nI (b (7 + 3 * j_))))), (s, .inl (cI, 24, .inl (fun j_ => nI (b (8 + 3 * j_)))))] [(0, .ref h), (1, .int (nI w))] [.int (nI (ones8 w))] 36 0 0
    refine g_aload_n 0 (hd := dX0_isInCode_36) (C := hX) rfl rfl ?_
    refine g_get (hd := dX0_isInCode_37) (C := hX) 0 8 rfl rfl in_X0_isInCode_0 (by decide) (by decide +kernel) rfl ?_
    have q1 : ones8 w ≤ 8 := by unfold ones8; omega
    have q2 : b 5 ≤ b 0 := by rcases hcd with h | h | h | h <;> omega
    refine g_icmp_neN 47 (hd := dX0_isInCode_40) (C := hX) (by decide) (by omega) (by omega) (fun c_40 => ?_) (fun c_40 => ?_)
    · refine g_iconst (v := nI 0) hX dX0_isInCode_47 (by decide) ?_
      exact (hret (nI 0) _ _ (by first | exact Or.inl ⟨rfl, by simp [inB, inC, k_4, c_40]⟩ | exact Or.inr ⟨rfl, by simp [inB, inC, k_4, c_40]⟩)).2.2.1 _ rfl rfl (by decide) dX0_isInCode_48
    · refine g_iconst (v := nI 1) hX dX0_isInCode_43 (by decide) ?_
      refine g_goto 48 (hd := dX0_isInCode_44) (C := hX) (by decide) ?_
      exact (hret (nI 1) _ _ (by first | exact Or.inl ⟨rfl, by simp [inB, inC, k_4, c_40]⟩ | exact Or.inr ⟨rfl, by simp [inB, inC, k_4, c_40]⟩)).2.2.1 _ rfl rfl (by decide) dX0_isInCode_48
  · refine g_top (y := nI 2) (by rw [k_4]) ?_
    refine g_tableIn 49 (hd := dX0_isInCode_4) (C := hX) (by decide) (by decide) rfl (by decide) ?_
    refine g_aload_n 0 (hd := dX0_isInCode_49) (C := hX) rfl rfl ?_
    refine g_iload_n 1 (hd := dX0_isInCode_50) (C := hX) rfl rfl ?_
    refine g_callV (rest := []) hX (c_X0_tellsItsZeros l D cC cI cJ cO h k f s b w (by omega) (by omega) (by rcases hcd with h | h | h | h <;> omega)) ok_X0_tellsItsZeros rfl 0 rfl rfl (fun _ => rfl) (hd := dX0_isInCode_51) gX0_isInCode_X0_tellsItsZeros ⟨by decide, by decide⟩ rfl (Nat.le_of_ble_eq_true rfl) ⟨Nat.zero_le _, Nat.zero_le _⟩ [0, 1, 2, 3] (by decide) rfl rfl ?_
    intro r_51 e_51
    rcases e_51 with ⟨rfl, p_51⟩ | ⟨rfl, p_51⟩
    · show GW X [(h, .inr (0, [.ref k, .ref f, .ref s, .int (nI (b 0)), .int (nI (b 1)), .int (nI (b 2)), .int (nI (b 3)), .int (nI (b 4)), .int (nI (b 5))])), (k, .inl (cI, 24, .inl (fun j_ => nI (b (6 + 3 * j_))))), (f, .inl (cI, 24, .inl (fun j_ => nI (b (7 + 3 * j_))))), (s, .inl (cI, 24, .inl (fun j_ => nI (b (8 + 3 * j_)))))] [(0, .ref h), (1, .int (nI w))] [.int (nI 1)] 54 0 0
      exact (hret (nI 1) _ _ (by first | exact Or.inl ⟨rfl, by simpa [inB, inC, k_4] using p_51⟩ | exact Or.inr ⟨rfl, by simpa [inB, inC, k_4] using p_51⟩)).2.2.1 _ rfl rfl (by decide) dX0_isInCode_54
    · show GW X [(h, .inr (0, [.ref k, .ref f, .ref s, .int (nI (b 0)), .int (nI (b 1)), .int (nI (b 2)), .int (nI (b 3)), .int (nI (b 4)), .int (nI (b 5))])), (k, .inl (cI, 24, .inl (fun j_ => nI (b (6 + 3 * j_))))), (f, .inl (cI, 24, .inl (fun j_ => nI (b (7 + 3 * j_))))), (s, .inl (cI, 24, .inl (fun j_ => nI (b (8 + 3 * j_)))))] [(0, .ref h), (1, .int (nI w))] [.int (nI 0)] 54 0 0
      exact (hret (nI 0) _ _ (by first | exact Or.inl ⟨rfl, by simpa [inB, inC, k_4] using p_51⟩ | exact Or.inr ⟨rfl, by simpa [inB, inC, k_4] using p_51⟩)).2.2.1 _ rfl rfl (by decide) dX0_isInCode_54
  · refine g_top (y := nI 3) (by rw [k_4]) ?_
    refine g_tableIn 55 (hd := dX0_isInCode_4) (C := hX) (by decide) (by decide) rfl (by decide) ?_
    refine g_aload_n 0 (hd := dX0_isInCode_55) (C := hX) rfl rfl ?_
    refine g_iload_n 1 (hd := dX0_isInCode_56) (C := hX) rfl rfl ?_
    refine g_callV (rest := []) hX (c_X0_hasUnlikePairs l D cC cI cJ cO h k f s b w (by omega) (by omega) (by rcases hcd with h | h | h | h <;> omega)) ok_X0_hasUnlikePairs rfl 0 rfl rfl (fun _ => rfl) (hd := dX0_isInCode_57) gX0_isInCode_X0_hasUnlikePairs ⟨by decide, by decide⟩ rfl (Nat.le_of_ble_eq_true rfl) ⟨Nat.zero_le _, Nat.zero_le _⟩ [0, 1, 2, 3] (by decide) rfl rfl ?_
    intro r_57 e_57
    rcases e_57 with ⟨rfl, p_57⟩ | ⟨rfl, p_57⟩
    · show GW X [(h, .inr (0, [.ref k, .ref f, .ref s, .int (nI (b 0)), .int (nI (b 1)), .int (nI (b 2)), .int (nI (b 3)), .int (nI (b 4)), .int (nI (b 5))])), (k, .inl (cI, 24, .inl (fun j_ => nI (b (6 + 3 * j_))))), (f, .inl (cI, 24, .inl (fun j_ => nI (b (7 + 3 * j_))))), (s, .inl (cI, 24, .inl (fun j_ => nI (b (8 + 3 * j_)))))] [(0, .ref h), (1, .int (nI w))] [.int (nI 1)] 60 0 0
      exact (hret (nI 1) _ _ (by first | exact Or.inl ⟨rfl, by simpa [inB, inC, k_4] using p_57⟩ | exact Or.inr ⟨rfl, by simpa [inB, inC, k_4] using p_57⟩)).2.2.1 _ rfl rfl (by decide) dX0_isInCode_60
    · show GW X [(h, .inr (0, [.ref k, .ref f, .ref s, .int (nI (b 0)), .int (nI (b 1)), .int (nI (b 2)), .int (nI (b 3)), .int (nI (b 4)), .int (nI (b 5))])), (k, .inl (cI, 24, .inl (fun j_ => nI (b (6 + 3 * j_))))), (f, .inl (cI, 24, .inl (fun j_ => nI (b (7 + 3 * j_))))), (s, .inl (cI, 24, .inl (fun j_ => nI (b (8 + 3 * j_)))))] [(0, .ref h), (1, .int (nI w))] [.int (nI 0)] 60 0 0
      exact (hret (nI 0) _ _ (by first | exact Or.inl ⟨rfl, by simpa [inB, inC, k_4] using p_57⟩ | exact Or.inr ⟨rfl, by simpa [inB, inC, k_4] using p_57⟩)).2.2.1 _ rfl rfl (by decide) dX0_isInCode_60
