theorem ok_X3_inAllLanes : gOK yX3_inAllLanes wsX3_inAllLanes ({ frames := 0, cells := 0, slots := 0, locals := 0 }) 1 1 := ⟨⟨_, _, _, rfl⟩, rfl, rfl, by decide, by decide, by decide +kernel⟩
set_option maxRecDepth 100000 in
set_option maxHeartbeats 4000000 in
theorem c_X3_inAllLanes (l : Launch) (D : va_G) (cC cI cJ cO : ClassId) (v : Nat) : CM (S := Int64) l D (tyL cC cI cJ cO) yX3_inAllLanes wsX3_inAllLanes ({ frames := 0, cells := 0, slots := 0, locals := 0 }) [.int (nI v)] [] (fun r => some (.long r)) (fun r => r = iaL v) (fun u_ => []) := by
  refine CM_in (cc := cX3_inAllLanes) (maxL := 1) (ret := (some .long)) (by decide) rfl (Nat.le_of_ble_eq_true rfl) ?_
  intro X hX hret
  show GW X [] [(0, .int (nI v))] [] 0 0 0
  refine g_iload_n 0 (hd := dX3_inAllLanes_0) (C := hX) rfl rfl ?_
  refine g_i2l (v := ((nI v).toInt64)) hX dX3_inAllLanes_1 rfl ?_
  refine g_lneg hX dX3_inAllLanes_2 ?_
  exact (hret (-((nI v).toInt64)) _ _ rfl).2.2.2.1 _ rfl rfl dX3_inAllLanes_3

theorem ok_X3_laneWithout : gOK yX3_laneWithout wsX3_laneWithout ({ frames := 0, cells := 0, slots := 0, locals := 0 }) 1 1 := ⟨⟨_, _, _, rfl⟩, rfl, rfl, by decide, by decide, by decide +kernel⟩
set_option maxRecDepth 100000 in
set_option maxHeartbeats 4000000 in
theorem c_X3_laneWithout (l : Launch) (D : va_G) (cC cI cJ cO : ClassId) (w : Nat) : CM (S := Int32) l D (tyL cC cI cJ cO) yX3_laneWithout wsX3_laneWithout ({ frames := 0, cells := 0, slots := 0, locals := 0 }) [.int (nI w)] [] (fun r => some (.int r)) (fun r => r = nI (w % 2)) (fun u_ => []) := by
  refine CM_in (cc := cX3_laneWithout) (maxL := 1) (ret := (some .int)) (by decide) rfl (Nat.le_of_ble_eq_true rfl) ?_
  intro X hX hret
  show GW X [] [(0, .int (nI w))] [] 0 0 0
  refine g_iload_n 0 (hd := dX3_laneWithout_0) (C := hX) rfl rfl ?_
  refine g_iconst (v := nI 1) hX dX3_laneWithout_1 (by decide) ?_
  refine g_iand hX dX3_laneWithout_2 ?_
  refine g_top (y := (nI (w % 2))) (by rw [nx_and, Nat.and_one_is_mod]) ?_
  exact (hret (nI (w % 2)) _ _ rfl).2.1 _ rfl rfl dX3_laneWithout_3

theorem ok_X3_withOwnStucks : gOK yX3_withOwnStucks wsX3_withOwnStucks ({ frames := 0, cells := 0, slots := 0, locals := 0 }) 7 2 := ⟨⟨_, _, _, rfl⟩, rfl, rfl, by decide, by decide, by decide +kernel⟩
set_option maxRecDepth 100000 in
set_option maxHeartbeats 4000000 in
theorem c_X3_withOwnStucks (l : Launch) (D : va_G) (cC cI cJ cO : ClassId) (x : Int64) (w : Nat) : CM (S := Int64) l D (tyL cC cI cJ cO) yX3_withOwnStucks wsX3_withOwnStucks ({ frames := 0, cells := 0, slots := 0, locals := 0 }) [.long x, .int (nI w)] [] (fun r => some (.long r)) (fun r => r = owS x w) (fun u_ => []) := by
  refine CM_in (cc := cX3_withOwnStucks) (maxL := 7) (ret := (some .long)) (by decide) rfl (Nat.le_of_ble_eq_true rfl) ?_
  intro X hX hret
  show GW X [] [(0, .long x), (2, .int (nI w))] [] 0 0 0
  refine g_lconst (v := 1) hX dX3_withOwnStucks_0 rfl ?_
  refine g_iconst (v := nI 2) hX dX3_withOwnStucks_1 (by decide) ?_
  refine g_iload_n 1 (hd := dX3_withOwnStucks_2) (C := hX) rfl rfl ?_
  refine g_imul hX dX3_withOwnStucks_3 ?_
  refine g_top (y := (nI (2 * w))) (pk_mul _ _) ?_
  refine g_lshl (v := ((1 : Int64) <<< ((nI (2 * w)).toInt64 &&& 63))) hX dX3_withOwnStucks_4 rfl ?_
  refine g_lstore_n [(0, .long x), (2, .int (nI w)), (3, .long ((1 : Int64) <<< ((nI (2 * w)).toInt64 &&& 63)))] [1, 2, 0] (hd := dX3_withOwnStucks_5) (C := hX) rfl (by decide) rfl ?_
  refine g_ldc2 (v := 2) hX dX3_withOwnStucks_6 (by decide +kernel) ?_
  refine g_iconst (v := nI 2) hX dX3_withOwnStucks_9 (by decide) ?_
  refine g_iload_n 1 (hd := dX3_withOwnStucks_10) (C := hX) rfl rfl ?_
  refine g_imul hX dX3_withOwnStucks_11 ?_
  refine g_top (y := (nI (2 * w))) (pk_mul _ _) ?_
  refine g_lshl (v := ((2 : Int64) <<< ((nI (2 * w)).toInt64 &&& 63))) hX dX3_withOwnStucks_12 rfl ?_
  refine g_lstore [(0, .long x), (2, .int (nI w)), (3, .long ((1 : Int64) <<< ((nI (2 * w)).toInt64 &&& 63))), (5, .long ((2 : Int64) <<< ((nI (2 * w)).toInt64 &&& 63)))] [1, 2, 3, 0] (hd := dX3_withOwnStucks_13) (C := hX) (by decide) rfl ?_
  refine g_lload_n 0 (hd := dX3_withOwnStucks_15) (C := hX) rfl rfl ?_
  refine g_lload_n 2 (hd := dX3_withOwnStucks_16) (C := hX) rfl rfl ?_
  refine g_ldc2 (v := (-1)) hX dX3_withOwnStucks_17 (by decide +kernel) ?_
  refine g_lxor hX dX3_withOwnStucks_20 ?_
  refine g_land hX dX3_withOwnStucks_21 ?_
  refine g_lload 3 (hd := dX3_withOwnStucks_22) (C := hX) rfl ?_
  refine g_lor hX dX3_withOwnStucks_24 ?_
  exact (hret ((x &&& (((1 : Int64) <<< ((nI (2 * w)).toInt64 &&& 63)) ^^^ ((-1) : Int64))) ||| ((2 : Int64) <<< ((nI (2 * w)).toInt64 &&& 63))) _ _ rfl).2.2.2.1 _ rfl rfl dX3_withOwnStucks_25

theorem ok_X6_bit : gOK yX6_bit wsX6_bit ({ frames := 0, cells := 0, slots := 0, locals := 0 }) 3 2 := ⟨⟨_, _, _, rfl⟩, rfl, rfl, by decide, by decide, by decide +kernel⟩
set_option maxRecDepth 100000 in
set_option maxHeartbeats 4000000 in
theorem c_X6_bit (l : Launch) (D : va_G) (cC cI cJ cO : ClassId) (x : Int64) (t : Nat) (ht : t < 64) : CM (S := Int32) l D (tyL cC cI cJ cO) yX6_bit wsX6_bit ({ frames := 0, cells := 0, slots := 0, locals := 0 }) [.long x, .int (nI t)] [] (fun r => some (.int r)) (fun r => r = nI (tb x t)) (fun u_ => []) := by
  refine CM_in (cc := cX6_bit) (maxL := 3) (ret := (some .int)) (by decide) rfl (Nat.le_of_ble_eq_true rfl) ?_
  intro X hX hret
  show GW X [] [(0, .long x), (2, .int (nI t))] [] 0 0 0
  refine g_lload_n 0 (hd := dX6_bit_0) (C := hX) rfl rfl ?_
  refine g_iload_n 1 (hd := dX6_bit_1) (C := hX) rfl rfl ?_
  refine g_lushr (v := ((x.toUInt64 >>> ((nI t).toInt64.toUInt64 &&& Int64.toUInt64 63)).toInt64)) hX dX6_bit_2 rfl ?_
  refine g_lconst (v := 1) hX dX6_bit_3 rfl ?_
  refine g_land hX dX6_bit_4 ?_
  refine g_l2i (v := ((((x.toUInt64 >>> ((nI t).toInt64.toUInt64 &&& Int64.toUInt64 63)).toInt64) &&& (1 : Int64)).toInt32)) hX dX6_bit_5 rfl ?_
  exact (hret ((((x.toUInt64 >>> ((nI t).toInt64.toUInt64 &&& Int64.toUInt64 63)).toInt64) &&& (1 : Int64)).toInt32) _ _ (tb_bit x ht)).2.1 _ rfl rfl dX6_bit_6

theorem ok_X6_isValid : gOK yX6_isValid wsX6_isValid ({ frames := 0, cells := 0, slots := 0, locals := 0 }) 1 1 := ⟨⟨_, _, _, rfl⟩, rfl, rfl, by decide, by decide, by decide +kernel⟩
set_option maxRecDepth 100000 in
set_option maxHeartbeats 4000000 in
theorem c_X6_isValid (l : Launch) (D : va_G) (cC cI cJ cO : ClassId) (o : Nat) (ho : o < 4) : CM (S := Int32) l D (tyL cC cI cJ cO) yX6_isValid wsX6_isValid ({ frames := 0, cells := 0, slots := 0, locals := 0 }) [.int (nI o)] [] (fun r => some (.int r)) (fun r => isB r (o = 1 ∨ o = 2)) (fun u_ => []) := by
  refine CM_in (cc := cX6_isValid) (maxL := 1) (ret := (some .boolean)) (by decide) rfl (Nat.le_of_ble_eq_true rfl) ?_
  intro X hX hret
  show GW X [] [(0, .int (nI o))] [] 0 0 0
  refine g_iload_n 0 (hd := dX6_isValid_0) (C := hX) rfl rfl ?_
  refine g_iconst (v := nI 1) hX dX6_isValid_1 (by decide) ?_
  refine g_icmp_eqN 10 (hd := dX6_isValid_2) (C := hX) (by decide) (by omega) (by omega) (fun c_2 => ?_) (fun c_2 => ?_)
  · refine g_iconst (v := nI 1) hX dX6_isValid_10 (by decide) ?_
    refine g_goto 15 (hd := dX6_isValid_11) (C := hX) (by decide) ?_
    exact (hret (nI 1) _ _ (by first | exact Or.inl ⟨rfl, Or.inl c_2⟩ | exact Or.inl ⟨rfl, Or.inr c_7⟩ | exact Or.inr ⟨rfl, fun z => by omega⟩)).2.2.1 _ rfl rfl (by decide) dX6_isValid_15
  · refine g_iload_n 0 (hd := dX6_isValid_5) (C := hX) rfl rfl ?_
    refine g_iconst (v := nI 2) hX dX6_isValid_6 (by decide) ?_
    refine g_icmp_neN 14 (hd := dX6_isValid_7) (C := hX) (by decide) (by omega) (by omega) (fun c_7 => ?_) (fun c_7 => ?_)
    · refine g_iconst (v := nI 0) hX dX6_isValid_14 (by decide) ?_
      exact (hret (nI 0) _ _ (by first | exact Or.inl ⟨rfl, Or.inl c_2⟩ | exact Or.inl ⟨rfl, Or.inr c_7⟩ | exact Or.inr ⟨rfl, fun z => by omega⟩)).2.2.1 _ rfl rfl (by decide) dX6_isValid_15
    · refine g_iconst (v := nI 1) hX dX6_isValid_10 (by decide) ?_
      refine g_goto 15 (hd := dX6_isValid_11) (C := hX) (by decide) ?_
      exact (hret (nI 1) _ _ (by first | exact Or.inl ⟨rfl, Or.inl c_2⟩ | exact Or.inl ⟨rfl, Or.inr c_7⟩ | exact Or.inr ⟨rfl, fun z => by omega⟩)).2.2.1 _ rfl rfl (by decide) dX6_isValid_15

theorem in_X3_gateValue_3 : ∀ w ∈ wsX30, w ∈ wsX3_gateValue := fun _ h => List.mem_cons_of_mem _ (List.mem_append_left _ (List.mem_append_right _ h))
theorem in_X3_gateValue_0 : ∀ w ∈ wsX00, w ∈ wsX3_gateValue := fun _ h => List.mem_cons_of_mem _ (List.mem_append_right _ h)
theorem ok_X3_gateValue : gOK yX3_gateValue wsX3_gateValue ({ frames := 0, cells := 0, slots := 0, locals := 0 }) 7 2 := ⟨⟨_, _, _, rfl⟩, rfl, rfl, by decide, by decide, by decide +kernel⟩
set_option maxRecDepth 100000 in
set_option maxHeartbeats 4000000 in
theorem c_X3_gateValue (l : Launch) (D : va_G) (cC cI cJ cO : ClassId) (ln : Nat) (va : Nat) (V : Nat → Int64) (h : Nat) (k : Nat) (f : Nat) (s : Nat) (b : Nat → Nat) (g : Nat) (hg : g < 24) (hk : b (6 + 3 * g) ≤ 5) (hf : b (7 + 3 * g) < 32) (hs : b (8 + 3 * g) < 32) : CM (S := Int64) l D (tyL cC cI cJ cO) yX3_gateValue wsX3_gateValue ({ frames := 0, cells := 0, slots := 0, locals := 0 }) [.ref ln, .ref h, .int (nI g)] [(ln, .inr (3, [.ref va])), (va, .inl (cJ, 32, .inr (.inl V))), (h, .inr (0, [.ref k, .ref f, .ref s, .int (nI (b 0)), .int (nI (b 1)), .int (nI (b 2)), .int (nI (b 3)), .int (nI (b 4)), .int (nI (b 5))])), (k, .inl (cI, 24, .inl (fun j_ => nI (b (6 + 3 * j_))))), (f, .inl (cI, 24, .inl (fun j_ => nI (b (7 + 3 * j_))))), (s, .inl (cI, 24, .inl (fun j_ => nI (b (8 + 3 * j_)))))] (fun r => some (.long r)) (fun r => r = gvS (b (6 + 3 * g)) (V (b (7 + 3 * g))) (V (b (8 + 3 * g)))) (fun u_ => [(ln, .inr (3, [.ref va])), (va, .inl (cJ, 32, .inr (.inl V))), (h, .inr (0, [.ref k, .ref f, .ref s, .int (nI (b 0)), .int (nI (b 1)), .int (nI (b 2)), .int (nI (b 3)), .int (nI (b 4)), .int (nI (b 5))])), (k, .inl (cI, 24, .inl (fun j_ => nI (b (6 + 3 * j_))))), (f, .inl (cI, 24, .inl (fun j_ => nI (b (7 + 3 * j_))))), (s, .inl (cI, 24, .inl (fun j_ => nI (b (8 + 3 * j_)))))]) := by
  refine CM_in (cc := cX3_gateValue) (maxL := 7) (ret := (some .long)) (by decide) rfl (Nat.le_of_ble_eq_true rfl) ?_
  intro X hX hret
  show GW X [(ln, .inr (3, [.ref va])), (va, .inl (cJ, 32, .inr (.inl V))), (h, .inr (0, [.ref k, .ref f, .ref s, .int (nI (b 0)), .int (nI (b 1)), .int (nI (b 2)), .int (nI (b 3)), .int (nI (b 4)), .int (nI (b 5))])), (k, .inl (cI, 24, .inl (fun j_ => nI (b (6 + 3 * j_))))), (f, .inl (cI, 24, .inl (fun j_ => nI (b (7 + 3 * j_))))), (s, .inl (cI, 24, .inl (fun j_ => nI (b (8 + 3 * j_)))))] [(0, .ref ln), (1, .ref h), (2, .int (nI g))] [] 0 0 0
  refine g_aload_n 0 (hd := dX3_gateValue_0) (C := hX) rfl rfl ?_
  refine g_get (hd := dX3_gateValue_1) (C := hX) 0 0 rfl rfl in_X3_gateValue_3 (by decide) (by decide +kernel) rfl ?_
  refine g_aload_n 1 (hd := dX3_gateValue_4) (C := hX) rfl rfl ?_
  refine g_get (hd := dX3_gateValue_5) (C := hX) 2 1 rfl rfl in_X3_gateValue_0 (by decide) (by decide +kernel) rfl ?_
  refine g_iload_n 2 (hd := dX3_gateValue_8) (C := hX) rfl rfl ?_
  refine g_iald (hd := dX3_gateValue_9) (C := hX) 4 1 rfl rfl (by omega) (by decide) ?_
  refine g_lald (hd := dX3_gateValue_10) (C := hX) 1 2 rfl rfl (by omega) (by decide) ?_
  refine g_lstore_n [(0, .ref ln), (1, .ref h), (2, .int (nI g)), (3, .long (V (b (7 + 3 * g))))] [1, 2, 3, 0] (hd := dX3_gateValue_11) (C := hX) rfl (by decide) rfl ?_
  refine g_aload_n 0 (hd := dX3_gateValue_12) (C := hX) rfl rfl ?_
  refine g_get (hd := dX3_gateValue_13) (C := hX) 0 0 rfl rfl in_X3_gateValue_3 (by decide) (by decide +kernel) rfl ?_
  refine g_aload_n 1 (hd := dX3_gateValue_16) (C := hX) rfl rfl ?_
  refine g_get (hd := dX3_gateValue_17) (C := hX) 2 2 rfl rfl in_X3_gateValue_0 (by decide) (by decide +kernel) rfl ?_
  refine g_iload_n 2 (hd := dX3_gateValue_20) (C := hX) rfl rfl ?_
  refine g_iald (hd := dX3_gateValue_21) (C := hX) 5 1 rfl rfl (by omega) (by decide) ?_
  refine g_lald (hd := dX3_gateValue_22) (C := hX) 1 2 rfl rfl (by omega) (by decide) ?_
  refine g_lstore [(0, .ref ln), (1, .ref h), (2, .int (nI g)), (3, .long (V (b (7 + 3 * g)))), (5, .long (V (b (8 + 3 * g))))] [1, 2, 3, 4, 0] (hd := dX3_gateValue_23) (C := hX) (by decide) rfl ?_
  refine g_aload_n 1 (hd := dX3_gateValue_25) (C := hX) rfl rfl ?_
  refine g_get (hd := dX3_gateValue_26) (C := hX) 2 0 rfl rfl in_X3_gateValue_0 (by decide) (by decide +kernel) rfl ?_
  refine g_iload_n 2 (hd := dX3_gateValue_29) (C := hX) rfl rfl ?_
  refine g_iald (hd := dX3_gateValue_30) (C := hX) 3 1 rfl rfl (by omega) (by decide) ?_
  rcases (show b (6 + 3 * g) = 0 ∨ b (6 + 3 * g) = 1 ∨ b (6 + 3 * g) = 2 ∨ b (6 + 3 * g) = 3 ∨ b (6 + 3 * g) = 4 ∨ b (6 + 3 * g) = 5 by omega) with k_31 | k_31 | k_31 | k_31 | k_31 | k_31
  · refine g_top (y := nI 0) (by rw [k_31]) ?_
    refine g_tableIn 64 (hd := dX3_gateValue_31) (C := hX) (by decide) (by decide) rfl (by decide) ?_
    refine g_lload_n 3 (hd := dX3_gateValue_64) (C := hX) rfl rfl ?_
    refine g_lload 4 (hd := dX3_gateValue_65) (C := hX) rfl ?_
    refine g_land hX dX3_gateValue_67 ?_
    exact (hret ((V (b (7 + 3 * g))) &&& (V (b (8 + 3 * g)))) _ _ (by simp [gvS, k_31])).2.2.2.1 _ rfl rfl dX3_gateValue_68
  · refine g_top (y := nI 1) (by rw [k_31]) ?_
    refine g_tableIn 69 (hd := dX3_gateValue_31) (C := hX) (by decide) (by decide) rfl (by decide) ?_
    refine g_lload_n 3 (hd := dX3_gateValue_69) (C := hX) rfl rfl ?_
    refine g_lload 4 (hd := dX3_gateValue_70) (C := hX) rfl ?_
    refine g_lor hX dX3_gateValue_72 ?_
    exact (hret ((V (b (7 + 3 * g))) ||| (V (b (8 + 3 * g)))) _ _ (by simp [gvS, k_31])).2.2.2.1 _ rfl rfl dX3_gateValue_73
  · refine g_top (y := nI 2) (by rw [k_31]) ?_
    refine g_tableIn 74 (hd := dX3_gateValue_31) (C := hX) (by decide) (by decide) rfl (by decide) ?_
    refine g_lload_n 3 (hd := dX3_gateValue_74) (C := hX) rfl rfl ?_
    refine g_lload 4 (hd := dX3_gateValue_75) (C := hX) rfl ?_
    refine g_lxor hX dX3_gateValue_77 ?_
    exact (hret ((V (b (7 + 3 * g))) ^^^ (V (b (8 + 3 * g)))) _ _ (by simp [gvS, k_31])).2.2.2.1 _ rfl rfl dX3_gateValue_78
  · refine g_top (y := nI 3) (by rw [k_31]) ?_
    refine g_tableIn 79 (hd := dX3_gateValue_31) (C := hX) (by decide) (by decide) rfl (by decide) ?_
    refine g_lload_n 3 (hd := dX3_gateValue_79) (C := hX) rfl rfl ?_
    refine g_lload 4 (hd := dX3_gateValue_80) (C := hX) rfl ?_
    refine g_land hX dX3_gateValue_82 ?_
    refine g_ldc2 (v := (-1)) hX dX3_gateValue_83 (by decide +kernel) ?_
    refine g_lxor hX dX3_gateValue_86 ?_
    exact (hret (((V (b (7 + 3 * g))) &&& (V (b (8 + 3 * g)))) ^^^ ((-1) : Int64)) _ _ (by simp [gvS, k_31])).2.2.2.1 _ rfl rfl dX3_gateValue_87
  · refine g_top (y := nI 4) (by rw [k_31]) ?_
    refine g_tableIn 88 (hd := dX3_gateValue_31) (C := hX) (by decide) (by decide) rfl (by decide) ?_
    refine g_lload_n 3 (hd := dX3_gateValue_88) (C := hX) rfl rfl ?_
    refine g_lload 4 (hd := dX3_gateValue_89) (C := hX) rfl ?_
    refine g_lor hX dX3_gateValue_91 ?_
    refine g_ldc2 (v := (-1)) hX dX3_gateValue_92 (by decide +kernel) ?_
    refine g_lxor hX dX3_gateValue_95 ?_
    exact (hret (((V (b (7 + 3 * g))) ||| (V (b (8 + 3 * g)))) ^^^ ((-1) : Int64)) _ _ (by simp [gvS, k_31])).2.2.2.1 _ rfl rfl dX3_gateValue_96
  · refine g_top (y := nI 5) (by rw [k_31]) ?_
    refine g_tableOut 97 (hd := dX3_gateValue_31) (C := hX) (by decide) (by decide) ?_
    refine g_lload_n 3 (hd := dX3_gateValue_97) (C := hX) rfl rfl ?_
    refine g_lload 4 (hd := dX3_gateValue_98) (C := hX) rfl ?_
    refine g_lxor hX dX3_gateValue_100 ?_
    refine g_ldc2 (v := (-1)) hX dX3_gateValue_101 (by decide +kernel) ?_
    refine g_lxor hX dX3_gateValue_104 ?_
    exact (hret (((V (b (7 + 3 * g))) ^^^ (V (b (8 + 3 * g)))) ^^^ ((-1) : Int64)) _ _ (by simp [gvS, k_31])).2.2.2.1 _ rfl rfl dX3_gateValue_105

theorem in_X3_settle_0 : ∀ w ∈ wsX00, w ∈ wsX3_settle := fun _ h => List.mem_cons_of_mem _ (List.mem_append_left _ (List.mem_append_right _ h))
theorem in_X3_settle_3 : ∀ w ∈ wsX30, w ∈ wsX3_settle := fun _ h => List.mem_cons_of_mem _ (List.mem_append_right _ h)
theorem ok_X3_settle : gOK yX3_settle wsX3_settle ({ frames := 1, cells := 0, slots := 0, locals := 26 }) 7 3 := ⟨⟨_, _, _, rfl⟩, rfl, rfl, by decide, by decide, by decide +kernel⟩
set_option maxRecDepth 100000 in
set_option maxHeartbeats 4000000 in
theorem c_X3_settle (l : Launch) (D : va_G) (cC cI cJ cO : ClassId) (ln : Nat) (va : Nat) (V : Nat → Int64) (h : Nat) (k : Nat) (f : Nat) (s : Nat) (b : Nat → Nat) (wd : Nat) (hw : wd < 256) (hok : okC b) : CM (S := Unit) l D (tyL cC cI cJ cO) yX3_settle wsX3_settle ({ frames := 1, cells := 0, slots := 0, locals := 26 }) [.ref ln, .ref h, .int (nI wd), .int (-1)] [(ln, .inr (3, [.ref va])), (va, .inl (cJ, 32, .inr (.inl V))), (h, .inr (0, [.ref k, .ref f, .ref s, .int (nI (b 0)), .int (nI (b 1)), .int (nI (b 2)), .int (nI (b 3)), .int (nI (b 4)), .int (nI (b 5))])), (k, .inl (cI, 24, .inl (fun j_ => nI (b (6 + 3 * j_))))), (f, .inl (cI, 24, .inl (fun j_ => nI (b (7 + 3 * j_))))), (s, .inl (cI, 24, .inl (fun j_ => nI (b (8 + 3 * j_)))))] (fun _ => none) (fun _ => True) (fun u_ => [(ln, .inr (3, [.ref va])), (va, .inl (cJ, 32, .inr (.inl (lnA b wd fzN V (b 0 + b 1))))), (h, .inr (0, [.ref k, .ref f, .ref s, .int (nI (b 0)), .int (nI (b 1)), .int (nI (b 2)), .int (nI (b 3)), .int (nI (b 4)), .int (nI (b 5))])), (k, .inl (cI, 24, .inl (fun j_ => nI (b (6 + 3 * j_))))), (f, .inl (cI, 24, .inl (fun j_ => nI (b (7 + 3 * j_))))), (s, .inl (cI, 24, .inl (fun j_ => nI (b (8 + 3 * j_)))))]) := by
  refine CM_in (cc := cX3_settle) (maxL := 7) (ret := none) (by decide) rfl (Nat.le_of_ble_eq_true rfl) ?_
  intro X hX hret
  show GW X [(ln, .inr (3, [.ref va])), (va, .inl (cJ, 32, .inr (.inl V))), (h, .inr (0, [.ref k, .ref f, .ref s, .int (nI (b 0)), .int (nI (b 1)), .int (nI (b 2)), .int (nI (b 3)), .int (nI (b 4)), .int (nI (b 5))])), (k, .inl (cI, 24, .inl (fun j_ => nI (b (6 + 3 * j_))))), (f, .inl (cI, 24, .inl (fun j_ => nI (b (7 + 3 * j_))))), (s, .inl (cI, 24, .inl (fun j_ => nI (b (8 + 3 * j_)))))] [(0, .ref ln), (1, .ref h), (2, .int (nI wd)), (3, .int (-1))] [] 0 0 0
  have hk0 := hok.2.1
  have hk1 := hok.2.2.1
  refine g_iconst (v := nI 0) hX dX3_settle_0 (by decide) ?_
  refine g_istore [(0, .ref ln), (1, .ref h), (2, .int (nI wd)), (3, .int (-1)), (4, .int (nI 0))] [1, 2, 3, 4, 0] (hd := dX3_settle_1) (C := hX) (by decide) rfl ?_
  have L_3 : ∀ (n_3 : Nat) (i : Nat), b 0 + b 1 - i < n_3 → i ≤ b 0 + b 1 → GW X [(ln, .inr (3, [.ref va])), (va, .inl (cJ, 32, .inr (.inl (lnA b wd fzN V i)))), (h, .inr (0, [.ref k, .ref f, .ref s, .int (nI (b 0)), .int (nI (b 1)), .int (nI (b 2)), .int (nI (b 3)), .int (nI (b 4)), .int (nI (b 5))])), (k, .inl (cI, 24, .inl (fun j_ => nI (b (6 + 3 * j_))))), (f, .inl (cI, 24, .inl (fun j_ => nI (b (7 + 3 * j_))))), (s, .inl (cI, 24, .inl (fun j_ => nI (b (8 + 3 * j_)))))] [(0, .ref ln), (1, .ref h), (2, .int (nI wd)), (3, .int (-1)), (4, .int (nI i))] [] 3 0 0 := by
    intro n_3
    induction n_3 with
    | zero => intro i hm_3; exact absurd hm_3 (Nat.not_lt_zero _)
    | succ n_3 ih_3 =>
      intro i hm_3 hi
      refine g_iload 4 (hd := dX3_settle_3) (C := hX) rfl ?_
      refine g_aload_n 1 (hd := dX3_settle_5) (C := hX) rfl rfl ?_
      refine g_callV (rest := [.int (nI i)]) hX (c_X0_wires l D cC cI cJ cO h k f s b) ok_X0_wires rfl 0 rfl rfl (fun _ => rfl) (hd := dX3_settle_6) gX3_settle_X0_wires ⟨by decide, by decide⟩ rfl (Nat.le_of_ble_eq_true rfl) ⟨Nat.zero_le _, Nat.zero_le _⟩ [2, 3, 4, 5] (by decide) rfl rfl ?_
      intro r_6 e_6
      subst e_6
      show GW X [(ln, .inr (3, [.ref va])), (va, .inl (cJ, 32, .inr (.inl (lnA b wd fzN V i)))), (h, .inr (0, [.ref k, .ref f, .ref s, .int (nI (b 0)), .int (nI (b 1)), .int (nI (b 2)), .int (nI (b 3)), .int (nI (b 4)), .int (nI (b 5))])), (k, .inl (cI, 24, .inl (fun j_ => nI (b (6 + 3 * j_))))), (f, .inl (cI, 24, .inl (fun j_ => nI (b (7 + 3 * j_))))), (s, .inl (cI, 24, .inl (fun j_ => nI (b (8 + 3 * j_)))))] [(0, .ref ln), (1, .ref h), (2, .int (nI wd)), (3, .int (-1)), (4, .int (nI i))] [.int (nI (b 0 + b 1)), .int (nI i)] 9 0 0
      refine g_icmp_geN 84 (hd := dX3_settle_9) (C := hX) (by decide) (by omega) (by omega) (fun c_9 => ?_) (fun c_9 => ?_)
      · refine g_w [(ln, .inr (3, [.ref va])), (va, .inl (cJ, 32, .inr (.inl (lnA b wd fzN V (b 0 + b 1))))), (h, .inr (0, [.ref k, .ref f, .ref s, .int (nI (b 0)), .int (nI (b 1)), .int (nI (b 2)), .int (nI (b 3)), .int (nI (b 4)), .int (nI (b 5))])), (k, .inl (cI, 24, .inl (fun j_ => nI (b (6 + 3 * j_))))), (f, .inl (cI, 24, .inl (fun j_ => nI (b (7 + 3 * j_))))), (s, .inl (cI, 24, .inl (fun j_ => nI (b (8 + 3 * j_)))))] (by rw [show i = b 0 + b 1 from by omega]) ?_
        exact (hret () _ _ trivial).1 rfl rfl dX3_settle_84
      · refine g_iload 4 (hd := dX3_settle_12) (C := hX) rfl ?_
        refine g_aload_n 1 (hd := dX3_settle_14) (C := hX) rfl rfl ?_
        refine g_get (hd := dX3_settle_15) (C := hX) 2 3 rfl rfl in_X3_settle_0 (by decide) (by decide +kernel) rfl ?_
        refine g_icmp_geN 33 (hd := dX3_settle_18) (C := hX) (by decide) (by omega) (by omega) (fun c_18 => ?_) (fun c_18 => ?_)
        · have hq := hok.2.2.2.2.2.2 (i - b 0) (by omega)
          refine g_aload_n 0 (hd := dX3_settle_33) (C := hX) rfl rfl ?_
          refine g_aload_n 1 (hd := dX3_settle_34) (C := hX) rfl rfl ?_
          refine g_iload 4 (hd := dX3_settle_35) (C := hX) rfl ?_
          refine g_aload_n 1 (hd := dX3_settle_37) (C := hX) rfl rfl ?_
          refine g_get (hd := dX3_settle_38) (C := hX) 2 3 rfl rfl in_X3_settle_0 (by decide) (by decide +kernel) rfl ?_
          refine g_isub hX dX3_settle_41 ?_
          refine g_top (y := (nI (i - (b 0)))) (pk_sub (by omega)) ?_
          refine g_callV (rest := []) hX (c_X3_gateValue l D cC cI cJ cO ln va (lnA b wd fzN V i) h k f s b (i - (b 0)) (by omega) (by omega) (by omega) (by omega)) ok_X3_gateValue rfl 0 rfl rfl (fun _ => rfl) (hd := dX3_settle_42) gX3_settle_X3_gateValue ⟨by decide, by decide⟩ rfl (Nat.le_of_ble_eq_true rfl) ⟨Nat.zero_le _, Nat.zero_le _⟩ [0, 1, 2, 3, 4, 5] (by decide) rfl rfl ?_
          intro r_42 e_42
          subst e_42
          show GW X [(ln, .inr (3, [.ref va])), (va, .inl (cJ, 32, .inr (.inl (lnA b wd fzN V i)))), (h, .inr (0, [.ref k, .ref f, .ref s, .int (nI (b 0)), .int (nI (b 1)), .int (nI (b 2)), .int (nI (b 3)), .int (nI (b 4)), .int (nI (b 5))])), (k, .inl (cI, 24, .inl (fun j_ => nI (b (6 + 3 * j_))))), (f, .inl (cI, 24, .inl (fun j_ => nI (b (7 + 3 * j_))))), (s, .inl (cI, 24, .inl (fun j_ => nI (b (8 + 3 * j_)))))] [(0, .ref ln), (1, .ref h), (2, .int (nI wd)), (3, .int (-1)), (4, .int (nI i))] [.long (gvS (b (6 + 3 * (i - (b 0)))) ((lnA b wd fzN V i) (b (7 + 3 * (i - (b 0))))) ((lnA b wd fzN V i) (b (8 + 3 * (i - (b 0))))))] 45 0 0
          refine g_lstore [(0, .ref ln), (1, .ref h), (2, .int (nI wd)), (3, .int (-1)), (4, .int (nI i)), (5, .long (gvS (b (6 + 3 * (i - (b 0)))) ((lnA b wd fzN V i) (b (7 + 3 * (i - (b 0))))) ((lnA b wd fzN V i) (b (8 + 3 * (i - (b 0)))))))] [1, 2, 3, 4, 5, 0] (hd := dX3_settle_45) (C := hX) (by decide) rfl ?_
          refine g_aload_n 0 (hd := dX3_settle_47) (C := hX) rfl rfl ?_
          refine g_get (hd := dX3_settle_48) (C := hX) 0 0 rfl rfl in_X3_settle_3 (by decide) (by decide +kernel) rfl ?_
          refine g_iload 4 (hd := dX3_settle_51) (C := hX) rfl ?_
          refine g_iload_n 3 (hd := dX3_settle_53) (C := hX) rfl rfl ?_
          refine g_iconst (v := nI 1) hX dX3_settle_54 (by decide) ?_
          refine g_ishr hX dX3_settle_55 ?_
          refine g_top (y := (-1)) (by decide) ?_
          refine g_iload 4 (hd := dX3_settle_56) (C := hX) rfl ?_
          refine g_icmp_ne 70 (hd := dX3_settle_58) (C := hX) (by decide) (fun c_58 => ?_) (fun c_58 => absurd c_58.symm (nI_neg (by decide) (by omega)))
          refine g_lload 5 (hd := dX3_settle_70) (C := hX) rfl ?_
          refine g_iload 4 (hd := dX3_settle_72) (C := hX) rfl ?_
          refine g_callS (rest := [.int (nI i), .ref va]) hX (c_X3_withOwnStucks l D cC cI cJ cO (gvS (b (6 + 3 * (i - (b 0)))) ((lnA b wd fzN V i) (b (7 + 3 * (i - (b 0))))) ((lnA b wd fzN V i) (b (8 + 3 * (i - (b 0)))))) i) ok_X3_withOwnStucks (fun _ => rfl) (hd := dX3_settle_74) gX3_settle_X3_withOwnStucks ⟨by decide, by decide⟩ rfl (Nat.le_of_ble_eq_true rfl) ⟨Nat.zero_le _, Nat.zero_le _⟩ [] (by decide) rfl rfl ?_
          intro r_74 e_74
          subst e_74
          show GW X [(ln, .inr (3, [.ref va])), (va, .inl (cJ, 32, .inr (.inl (lnA b wd fzN V i)))), (h, .inr (0, [.ref k, .ref f, .ref s, .int (nI (b 0)), .int (nI (b 1)), .int (nI (b 2)), .int (nI (b 3)), .int (nI (b 4)), .int (nI (b 5))])), (k, .inl (cI, 24, .inl (fun j_ => nI (b (6 + 3 * j_))))), (f, .inl (cI, 24, .inl (fun j_ => nI (b (7 + 3 * j_))))), (s, .inl (cI, 24, .inl (fun j_ => nI (b (8 + 3 * j_)))))] [(0, .ref ln), (1, .ref h), (2, .int (nI wd)), (3, .int (-1)), (4, .int (nI i)), (5, .long (gvS (b (6 + 3 * (i - (b 0)))) ((lnA b wd fzN V i) (b (7 + 3 * (i - (b 0))))) ((lnA b wd fzN V i) (b (8 + 3 * (i - (b 0)))))))] [.long (owS (gvS (b (6 + 3 * (i - (b 0)))) ((lnA b wd fzN V i) (b (7 + 3 * (i - (b 0))))) ((lnA b wd fzN V i) (b (8 + 3 * (i - (b 0)))))) i), .int (nI i), .ref va] 77 0 0
          refine g_last (hd := dX3_settle_77) (C := hX) 1 2 [(ln, .inr (3, [.ref va])), (va, .inl (cJ, 32, .inr (.inl (vp_updL (lnA b wd fzN V i) i (owS (gvS (b (6 + 3 * (i - (b 0)))) ((lnA b wd fzN V i) (b (7 + 3 * (i - (b 0))))) ((lnA b wd fzN V i) (b (8 + 3 * (i - (b 0)))))) i))))), (h, .inr (0, [.ref k, .ref f, .ref s, .int (nI (b 0)), .int (nI (b 1)), .int (nI (b 2)), .int (nI (b 3)), .int (nI (b 4)), .int (nI (b 5))])), (k, .inl (cI, 24, .inl (fun j_ => nI (b (6 + 3 * j_))))), (f, .inl (cI, 24, .inl (fun j_ => nI (b (7 + 3 * j_))))), (s, .inl (cI, 24, .inl (fun j_ => nI (b (8 + 3 * j_)))))] rfl rfl (by omega) (by decide) rfl ?_
          refine g_iinc (v := (nI (i + 1))) 4 [(0, .ref ln), (1, .ref h), (2, .int (nI wd)), (3, .int (-1)), (4, .int (nI (i + 1))), (5, .long (gvS (b (6 + 3 * (i - (b 0)))) ((lnA b wd fzN V i) (b (7 + 3 * (i - (b 0))))) ((lnA b wd fzN V i) (b (8 + 3 * (i - (b 0)))))))] [1, 2, 3, 4, 0, 5] (hd := dX3_settle_78) (C := hX) rfl (nI_1 _) (by decide) rfl ?_
          refine g_goto 3 (hd := dX3_settle_81) (C := hX) (by decide) ?_
          refine g_w [(ln, .inr (3, [.ref va])), (va, .inl (cJ, 32, .inr (.inl (lnA b wd fzN V (i + 1))))), (h, .inr (0, [.ref k, .ref f, .ref s, .int (nI (b 0)), .int (nI (b 1)), .int (nI (b 2)), .int (nI (b 3)), .int (nI (b 4)), .int (nI (b 5))])), (k, .inl (cI, 24, .inl (fun j_ => nI (b (6 + 3 * j_))))), (f, .inl (cI, 24, .inl (fun j_ => nI (b (7 + 3 * j_))))), (s, .inl (cI, 24, .inl (fun j_ => nI (b (8 + 3 * j_)))))] (by simp only [lnA]; first | rw [lx_in rfl c_18] | rw [lx_gt rfl c_18] | rw [lx_fz (fzT_y c_58)]) ?_
          refine g_lv [(0, .ref ln), (1, .ref h), (2, .int (nI wd)), (3, .int (-1)), (4, .int (nI (i + 1)))] [0, 1, 2, 3, 4] rfl ?_
          exact ih_3 (i + 1) (by omega) (by omega)
        · refine g_iload_n 2 (hd := dX3_settle_21) (C := hX) rfl rfl ?_
          refine g_iload 4 (hd := dX3_settle_22) (C := hX) rfl ?_
          refine g_ishr hX dX3_settle_24 ?_
          refine g_top (y := (nI (wd / 2 ^ i))) (gl_shr (by omega) (by omega)) ?_
          refine g_iconst (v := nI 1) hX dX3_settle_25 (by decide) ?_
          refine g_iand hX dX3_settle_26 ?_
          refine g_top (y := (nI (wd / 2 ^ i % 2))) (by rw [nx_and, Nat.and_one_is_mod]) ?_
          refine g_callS (rest := []) hX (c_X3_inAllLanes l D cC cI cJ cO (wd / 2 ^ i % 2)) ok_X3_inAllLanes (fun _ => rfl) (hd := dX3_settle_27) gX3_settle_X3_inAllLanes ⟨by decide, by decide⟩ rfl (Nat.le_of_ble_eq_true rfl) ⟨Nat.zero_le _, Nat.zero_le _⟩ [] (by decide) rfl rfl ?_
          intro r_27 e_27
          subst e_27
          show GW X [(ln, .inr (3, [.ref va])), (va, .inl (cJ, 32, .inr (.inl (lnA b wd fzN V i)))), (h, .inr (0, [.ref k, .ref f, .ref s, .int (nI (b 0)), .int (nI (b 1)), .int (nI (b 2)), .int (nI (b 3)), .int (nI (b 4)), .int (nI (b 5))])), (k, .inl (cI, 24, .inl (fun j_ => nI (b (6 + 3 * j_))))), (f, .inl (cI, 24, .inl (fun j_ => nI (b (7 + 3 * j_))))), (s, .inl (cI, 24, .inl (fun j_ => nI (b (8 + 3 * j_)))))] [(0, .ref ln), (1, .ref h), (2, .int (nI wd)), (3, .int (-1)), (4, .int (nI i))] [.long (iaL (wd / 2 ^ i % 2))] 30 0 0
          refine g_goto 45 (hd := dX3_settle_30) (C := hX) (by decide) ?_
          refine g_lstore [(0, .ref ln), (1, .ref h), (2, .int (nI wd)), (3, .int (-1)), (4, .int (nI i)), (5, .long (iaL (wd / 2 ^ i % 2)))] [1, 2, 3, 4, 5, 0] (hd := dX3_settle_45) (C := hX) (by decide) rfl ?_
          refine g_aload_n 0 (hd := dX3_settle_47) (C := hX) rfl rfl ?_
          refine g_get (hd := dX3_settle_48) (C := hX) 0 0 rfl rfl in_X3_settle_3 (by decide) (by decide +kernel) rfl ?_
          refine g_iload 4 (hd := dX3_settle_51) (C := hX) rfl ?_
          refine g_iload_n 3 (hd := dX3_settle_53) (C := hX) rfl rfl ?_
          refine g_iconst (v := nI 1) hX dX3_settle_54 (by decide) ?_
          refine g_ishr hX dX3_settle_55 ?_
          refine g_top (y := (-1)) (by decide) ?_
          refine g_iload 4 (hd := dX3_settle_56) (C := hX) rfl ?_
          refine g_icmp_ne 70 (hd := dX3_settle_58) (C := hX) (by decide) (fun c_58 => ?_) (fun c_58 => absurd c_58.symm (nI_neg (by decide) (by omega)))
          refine g_lload 5 (hd := dX3_settle_70) (C := hX) rfl ?_
          refine g_iload 4 (hd := dX3_settle_72) (C := hX) rfl ?_
          refine g_callS (rest := [.int (nI i), .ref va]) hX (c_X3_withOwnStucks l D cC cI cJ cO (iaL (wd / 2 ^ i % 2)) i) ok_X3_withOwnStucks (fun _ => rfl) (hd := dX3_settle_74) gX3_settle_X3_withOwnStucks ⟨by decide, by decide⟩ rfl (Nat.le_of_ble_eq_true rfl) ⟨Nat.zero_le _, Nat.zero_le _⟩ [] (by decide) rfl rfl ?_
          intro r_74 e_74
          subst e_74
          show GW X [(ln, .inr (3, [.ref va])), (va, .inl (cJ, 32, .inr (.inl (lnA b wd fzN V i)))), (h, .inr (0, [.ref k, .ref f, .ref s, .int (nI (b 0)), .int (nI (b 1)), .int (nI (b 2)), .int (nI (b 3)), .int (nI (b 4)), .int (nI (b 5))])), (k, .inl (cI, 24, .inl (fun j_ => nI (b (6 + 3 * j_))))), (f, .inl (cI, 24, .inl (fun j_ => nI (b (7 + 3 * j_))))), (s, .inl (cI, 24, .inl (fun j_ => nI (b (8 + 3 * j_)))))] [(0, .ref ln), (1, .ref h), (2, .int (nI wd)), (3, .int (-1)), (4, .int (nI i)), (5, .long (iaL (wd / 2 ^ i % 2)))] [.long (owS (iaL (wd / 2 ^ i % 2)) i), .int (nI i), .ref va] 77 0 0
          refine g_last (hd := dX3_settle_77) (C := hX) 1 2 [(ln, .inr (3, [.ref va])), (va, .inl (cJ, 32, .inr (.inl (vp_updL (lnA b wd fzN V i) i (owS (iaL (wd / 2 ^ i % 2)) i))))), (h, .inr (0, [.ref k, .ref f, .ref s, .int (nI (b 0)), .int (nI (b 1)), .int (nI (b 2)), .int (nI (b 3)), .int (nI (b 4)), .int (nI (b 5))])), (k, .inl (cI, 24, .inl (fun j_ => nI (b (6 + 3 * j_))))), (f, .inl (cI, 24, .inl (fun j_ => nI (b (7 + 3 * j_))))), (s, .inl (cI, 24, .inl (fun j_ => nI (b (8 + 3 * j_)))))] rfl rfl (by omega) (by decide) rfl ?_
          refine g_iinc (v := (nI (i + 1))) 4 [(0, .ref ln), (1, .ref h), (2, .int (nI wd)), (3, .int (-1)), (4, .int (nI (i + 1))), (5, .long (iaL (wd / 2 ^ i % 2)))] [1, 2, 3, 4, 0, 5] (hd := dX3_settle_78) (C := hX) rfl (nI_1 _) (by decide) rfl ?_
          refine g_goto 3 (hd := dX3_settle_81) (C := hX) (by decide) ?_
          refine g_w [(ln, .inr (3, [.ref va])), (va, .inl (cJ, 32, .inr (.inl (lnA b wd fzN V (i + 1))))), (h, .inr (0, [.ref k, .ref f, .ref s, .int (nI (b 0)), .int (nI (b 1)), .int (nI (b 2)), .int (nI (b 3)), .int (nI (b 4)), .int (nI (b 5))])), (k, .inl (cI, 24, .inl (fun j_ => nI (b (6 + 3 * j_))))), (f, .inl (cI, 24, .inl (fun j_ => nI (b (7 + 3 * j_))))), (s, .inl (cI, 24, .inl (fun j_ => nI (b (8 + 3 * j_)))))] (by simp only [lnA]; first | rw [lx_in rfl c_18] | rw [lx_gt rfl c_18] | rw [lx_fz (fzT_y c_58)]) ?_
          refine g_lv [(0, .ref ln), (1, .ref h), (2, .int (nI wd)), (3, .int (-1)), (4, .int (nI (i + 1)))] [0, 1, 2, 3, 4] rfl ?_
          exact ih_3 (i + 1) (by omega) (by omega)
  refine g_w [(ln, .inr (3, [.ref va])), (va, .inl (cJ, 32, .inr (.inl (lnA b wd fzN V 0)))), (h, .inr (0, [.ref k, .ref f, .ref s, .int (nI (b 0)), .int (nI (b 1)), .int (nI (b 2)), .int (nI (b 3)), .int (nI (b 4)), .int (nI (b 5))])), (k, .inl (cI, 24, .inl (fun j_ => nI (b (6 + 3 * j_))))), (f, .inl (cI, 24, .inl (fun j_ => nI (b (7 + 3 * j_))))), (s, .inl (cI, 24, .inl (fun j_ => nI (b (8 + 3 * j_)))))] rfl ?_
  exact L_3 _ 0 (Nat.lt_succ_self _) (Nat.zero_le _)

theorem ok_X3_settleT : gOK yX3_settle wsX3_settle ({ frames := 1, cells := 0, slots := 0, locals := 26 }) 7 3 := ⟨⟨_, _, _, rfl⟩, rfl, rfl, by decide, by decide, by decide +kernel⟩
set_option maxRecDepth 100000 in
set_option maxHeartbeats 4000000 in
theorem c_X3_settleT (l : Launch) (D : va_G) (cC cI cJ cO : ClassId) (ln : Nat) (va : Nat) (V : Nat → Int64) (h : Nat) (k : Nat) (f : Nat) (s : Nat) (b : Nat → Nat) (wd : Nat) (t : Nat) (ht : t < 64) (hw : wd < 256) (hok : okC b) : CM (S := Unit) l D (tyL cC cI cJ cO) yX3_settle wsX3_settle ({ frames := 1, cells := 0, slots := 0, locals := 26 }) [.ref ln, .ref h, .int (nI wd), .int (nI t)] [(ln, .inr (3, [.ref va])), (va, .inl (cJ, 32, .inr (.inl V))), (h, .inr (0, [.ref k, .ref f, .ref s, .int (nI (b 0)), .int (nI (b 1)), .int (nI (b 2)), .int (nI (b 3)), .int (nI (b 4)), .int (nI (b 5))])), (k, .inl (cI, 24, .inl (fun j_ => nI (b (6 + 3 * j_))))), (f, .inl (cI, 24, .inl (fun j_ => nI (b (7 + 3 * j_))))), (s, .inl (cI, 24, .inl (fun j_ => nI (b (8 + 3 * j_)))))] (fun _ => none) (fun _ => True) (fun u_ => [(ln, .inr (3, [.ref va])), (va, .inl (cJ, 32, .inr (.inl (lnA b wd (fzT t) V (b 0 + b 1))))), (h, .inr (0, [.ref k, .ref f, .ref s, .int (nI (b 0)), .int (nI (b 1)), .int (nI (b 2)), .int (nI (b 3)), .int (nI (b 4)), .int (nI (b 5))])), (k, .inl (cI, 24, .inl (fun j_ => nI (b (6 + 3 * j_))))), (f, .inl (cI, 24, .inl (fun j_ => nI (b (7 + 3 * j_))))), (s, .inl (cI, 24, .inl (fun j_ => nI (b (8 + 3 * j_)))))]) := by
  refine CM_in (cc := cX3_settle) (maxL := 7) (ret := none) (by decide) rfl (Nat.le_of_ble_eq_true rfl) ?_
  intro X hX hret
  show GW X [(ln, .inr (3, [.ref va])), (va, .inl (cJ, 32, .inr (.inl V))), (h, .inr (0, [.ref k, .ref f, .ref s, .int (nI (b 0)), .int (nI (b 1)), .int (nI (b 2)), .int (nI (b 3)), .int (nI (b 4)), .int (nI (b 5))])), (k, .inl (cI, 24, .inl (fun j_ => nI (b (6 + 3 * j_))))), (f, .inl (cI, 24, .inl (fun j_ => nI (b (7 + 3 * j_))))), (s, .inl (cI, 24, .inl (fun j_ => nI (b (8 + 3 * j_)))))] [(0, .ref ln), (1, .ref h), (2, .int (nI wd)), (3, .int (nI t))] [] 0 0 0
  have hk0 := hok.2.1
  have hk1 := hok.2.2.1
  refine g_iconst (v := nI 0) hX dX3_settle_0 (by decide) ?_
  refine g_istore [(0, .ref ln), (1, .ref h), (2, .int (nI wd)), (3, .int (nI t)), (4, .int (nI 0))] [1, 2, 3, 4, 0] (hd := dX3_settle_1) (C := hX) (by decide) rfl ?_
  have L_3 : ∀ (n_3 : Nat) (i : Nat), b 0 + b 1 - i < n_3 → i ≤ b 0 + b 1 → GW X [(ln, .inr (3, [.ref va])), (va, .inl (cJ, 32, .inr (.inl (lnA b wd (fzT t) V i)))), (h, .inr (0, [.ref k, .ref f, .ref s, .int (nI (b 0)), .int (nI (b 1)), .int (nI (b 2)), .int (nI (b 3)), .int (nI (b 4)), .int (nI (b 5))])), (k, .inl (cI, 24, .inl (fun j_ => nI (b (6 + 3 * j_))))), (f, .inl (cI, 24, .inl (fun j_ => nI (b (7 + 3 * j_))))), (s, .inl (cI, 24, .inl (fun j_ => nI (b (8 + 3 * j_)))))] [(0, .ref ln), (1, .ref h), (2, .int (nI wd)), (3, .int (nI t)), (4, .int (nI i))] [] 3 0 0 := by
    intro n_3
    induction n_3 with
    | zero => intro i hm_3; exact absurd hm_3 (Nat.not_lt_zero _)
    | succ n_3 ih_3 =>
      intro i hm_3 hi
      refine g_iload 4 (hd := dX3_settle_3) (C := hX) rfl ?_
      refine g_aload_n 1 (hd := dX3_settle_5) (C := hX) rfl rfl ?_
      refine g_callV (rest := [.int (nI i)]) hX (c_X0_wires l D cC cI cJ cO h k f s b) ok_X0_wires rfl 0 rfl rfl (fun _ => rfl) (hd := dX3_settle_6) gX3_settle_X0_wires ⟨by decide, by decide⟩ rfl (Nat.le_of_ble_eq_true rfl) ⟨Nat.zero_le _, Nat.zero_le _⟩ [2, 3, 4, 5] (by decide) rfl rfl ?_
      intro r_6 e_6
      subst e_6
      show GW X [(ln, .inr (3, [.ref va])), (va, .inl (cJ, 32, .inr (.inl (lnA b wd (fzT t) V i)))), (h, .inr (0, [.ref k, .ref f, .ref s, .int (nI (b 0)), .int (nI (b 1)), .int (nI (b 2)), .int (nI (b 3)), .int (nI (b 4)), .int (nI (b 5))])), (k, .inl (cI, 24, .inl (fun j_ => nI (b (6 + 3 * j_))))), (f, .inl (cI, 24, .inl (fun j_ => nI (b (7 + 3 * j_))))), (s, .inl (cI, 24, .inl (fun j_ => nI (b (8 + 3 * j_)))))] [(0, .ref ln), (1, .ref h), (2, .int (nI wd)), (3, .int (nI t)), (4, .int (nI i))] [.int (nI (b 0 + b 1)), .int (nI i)] 9 0 0
      refine g_icmp_geN 84 (hd := dX3_settle_9) (C := hX) (by decide) (by omega) (by omega) (fun c_9 => ?_) (fun c_9 => ?_)
      · refine g_w [(ln, .inr (3, [.ref va])), (va, .inl (cJ, 32, .inr (.inl (lnA b wd (fzT t) V (b 0 + b 1))))), (h, .inr (0, [.ref k, .ref f, .ref s, .int (nI (b 0)), .int (nI (b 1)), .int (nI (b 2)), .int (nI (b 3)), .int (nI (b 4)), .int (nI (b 5))])), (k, .inl (cI, 24, .inl (fun j_ => nI (b (6 + 3 * j_))))), (f, .inl (cI, 24, .inl (fun j_ => nI (b (7 + 3 * j_))))), (s, .inl (cI, 24, .inl (fun j_ => nI (b (8 + 3 * j_)))))] (by rw [show i = b 0 + b 1 from by omega]) ?_
        exact (hret () _ _ trivial).1 rfl rfl dX3_settle_84
      · refine g_iload 4 (hd := dX3_settle_12) (C := hX) rfl ?_
        refine g_aload_n 1 (hd := dX3_settle_14) (C := hX) rfl rfl ?_
        refine g_get (hd := dX3_settle_15) (C := hX) 2 3 rfl rfl in_X3_settle_0 (by decide) (by decide +kernel) rfl ?_
        refine g_icmp_geN 33 (hd := dX3_settle_18) (C := hX) (by decide) (by omega) (by omega) (fun c_18 => ?_) (fun c_18 => ?_)
        · have hq := hok.2.2.2.2.2.2 (i - b 0) (by omega)
          refine g_aload_n 0 (hd := dX3_settle_33) (C := hX) rfl rfl ?_
          refine g_aload_n 1 (hd := dX3_settle_34) (C := hX) rfl rfl ?_
          refine g_iload 4 (hd := dX3_settle_35) (C := hX) rfl ?_
          refine g_aload_n 1 (hd := dX3_settle_37) (C := hX) rfl rfl ?_
          refine g_get (hd := dX3_settle_38) (C := hX) 2 3 rfl rfl in_X3_settle_0 (by decide) (by decide +kernel) rfl ?_
          refine g_isub hX dX3_settle_41 ?_
          refine g_top (y := (nI (i - (b 0)))) (pk_sub (by omega)) ?_
          refine g_callV (rest := []) hX (c_X3_gateValue l D cC cI cJ cO ln va (lnA b wd (fzT t) V i) h k f s b (i - (b 0)) (by omega) (by omega) (by omega) (by omega)) ok_X3_gateValue rfl 0 rfl rfl (fun _ => rfl) (hd := dX3_settle_42) gX3_settle_X3_gateValue ⟨by decide, by decide⟩ rfl (Nat.le_of_ble_eq_true rfl) ⟨Nat.zero_le _, Nat.zero_le _⟩ [0, 1, 2, 3, 4, 5] (by decide) rfl rfl ?_
          intro r_42 e_42
          subst e_42
          show GW X [(ln, .inr (3, [.ref va])), (va, .inl (cJ, 32, .inr (.inl (lnA b wd (fzT t) V i)))), (h, .inr (0, [.ref k, .ref f, .ref s, .int (nI (b 0)), .int (nI (b 1)), .int (nI (b 2)), .int (nI (b 3)), .int (nI (b 4)), .int (nI (b 5))])), (k, .inl (cI, 24, .inl (fun j_ => nI (b (6 + 3 * j_))))), (f, .inl (cI, 24, .inl (fun j_ => nI (b (7 + 3 * j_))))), (s, .inl (cI, 24, .inl (fun j_ => nI (b (8 + 3 * j_)))))] [(0, .ref ln), (1, .ref h), (2, .int (nI wd)), (3, .int (nI t)), (4, .int (nI i))] [.long (gvS (b (6 + 3 * (i - (b 0)))) ((lnA b wd (fzT t) V i) (b (7 + 3 * (i - (b 0))))) ((lnA b wd (fzT t) V i) (b (8 + 3 * (i - (b 0))))))] 45 0 0
          refine g_lstore [(0, .ref ln), (1, .ref h), (2, .int (nI wd)), (3, .int (nI t)), (4, .int (nI i)), (5, .long (gvS (b (6 + 3 * (i - (b 0)))) ((lnA b wd (fzT t) V i) (b (7 + 3 * (i - (b 0))))) ((lnA b wd (fzT t) V i) (b (8 + 3 * (i - (b 0)))))))] [1, 2, 3, 4, 5, 0] (hd := dX3_settle_45) (C := hX) (by decide) rfl ?_
          refine g_aload_n 0 (hd := dX3_settle_47) (C := hX) rfl rfl ?_
          refine g_get (hd := dX3_settle_48) (C := hX) 0 0 rfl rfl in_X3_settle_3 (by decide) (by decide +kernel) rfl ?_
          refine g_iload 4 (hd := dX3_settle_51) (C := hX) rfl ?_
          refine g_iload_n 3 (hd := dX3_settle_53) (C := hX) rfl rfl ?_
          refine g_iconst (v := nI 1) hX dX3_settle_54 (by decide) ?_
          refine g_ishr hX dX3_settle_55 ?_
          refine g_top (y := (nI (t / 2 ^ 1))) (gl_shr (by omega) (by omega)) ?_
          refine g_iload 4 (hd := dX3_settle_56) (C := hX) rfl ?_
          have hq9 : t / 2 ^ 1 ≤ t := Nat.div_le_self _ _
          refine g_icmp_neN 70 (hd := dX3_settle_58) (C := hX) (by decide) (by omega) (by omega) (fun c_58 => ?_) (fun c_58 => ?_)
          · refine g_lload 5 (hd := dX3_settle_70) (C := hX) rfl ?_
            refine g_iload 4 (hd := dX3_settle_72) (C := hX) rfl ?_
            refine g_callS (rest := [.int (nI i), .ref va]) hX (c_X3_withOwnStucks l D cC cI cJ cO (gvS (b (6 + 3 * (i - (b 0)))) ((lnA b wd (fzT t) V i) (b (7 + 3 * (i - (b 0))))) ((lnA b wd (fzT t) V i) (b (8 + 3 * (i - (b 0)))))) i) ok_X3_withOwnStucks (fun _ => rfl) (hd := dX3_settle_74) gX3_settle_X3_withOwnStucks ⟨by decide, by decide⟩ rfl (Nat.le_of_ble_eq_true rfl) ⟨Nat.zero_le _, Nat.zero_le _⟩ [] (by decide) rfl rfl ?_
            intro r_74 e_74
            subst e_74
            show GW X [(ln, .inr (3, [.ref va])), (va, .inl (cJ, 32, .inr (.inl (lnA b wd (fzT t) V i)))), (h, .inr (0, [.ref k, .ref f, .ref s, .int (nI (b 0)), .int (nI (b 1)), .int (nI (b 2)), .int (nI (b 3)), .int (nI (b 4)), .int (nI (b 5))])), (k, .inl (cI, 24, .inl (fun j_ => nI (b (6 + 3 * j_))))), (f, .inl (cI, 24, .inl (fun j_ => nI (b (7 + 3 * j_))))), (s, .inl (cI, 24, .inl (fun j_ => nI (b (8 + 3 * j_)))))] [(0, .ref ln), (1, .ref h), (2, .int (nI wd)), (3, .int (nI t)), (4, .int (nI i)), (5, .long (gvS (b (6 + 3 * (i - (b 0)))) ((lnA b wd (fzT t) V i) (b (7 + 3 * (i - (b 0))))) ((lnA b wd (fzT t) V i) (b (8 + 3 * (i - (b 0)))))))] [.long (owS (gvS (b (6 + 3 * (i - (b 0)))) ((lnA b wd (fzT t) V i) (b (7 + 3 * (i - (b 0))))) ((lnA b wd (fzT t) V i) (b (8 + 3 * (i - (b 0)))))) i), .int (nI i), .ref va] 77 0 0
            refine g_last (hd := dX3_settle_77) (C := hX) 1 2 [(ln, .inr (3, [.ref va])), (va, .inl (cJ, 32, .inr (.inl (vp_updL (lnA b wd (fzT t) V i) i (owS (gvS (b (6 + 3 * (i - (b 0)))) ((lnA b wd (fzT t) V i) (b (7 + 3 * (i - (b 0))))) ((lnA b wd (fzT t) V i) (b (8 + 3 * (i - (b 0)))))) i))))), (h, .inr (0, [.ref k, .ref f, .ref s, .int (nI (b 0)), .int (nI (b 1)), .int (nI (b 2)), .int (nI (b 3)), .int (nI (b 4)), .int (nI (b 5))])), (k, .inl (cI, 24, .inl (fun j_ => nI (b (6 + 3 * j_))))), (f, .inl (cI, 24, .inl (fun j_ => nI (b (7 + 3 * j_))))), (s, .inl (cI, 24, .inl (fun j_ => nI (b (8 + 3 * j_)))))] rfl rfl (by omega) (by decide) rfl ?_
            refine g_iinc (v := (nI (i + 1))) 4 [(0, .ref ln), (1, .ref h), (2, .int (nI wd)), (3, .int (nI t)), (4, .int (nI (i + 1))), (5, .long (gvS (b (6 + 3 * (i - (b 0)))) ((lnA b wd (fzT t) V i) (b (7 + 3 * (i - (b 0))))) ((lnA b wd (fzT t) V i) (b (8 + 3 * (i - (b 0)))))))] [1, 2, 3, 4, 0, 5] (hd := dX3_settle_78) (C := hX) rfl (nI_1 _) (by decide) rfl ?_
            refine g_goto 3 (hd := dX3_settle_81) (C := hX) (by decide) ?_
            refine g_w [(ln, .inr (3, [.ref va])), (va, .inl (cJ, 32, .inr (.inl (lnA b wd (fzT t) V (i + 1))))), (h, .inr (0, [.ref k, .ref f, .ref s, .int (nI (b 0)), .int (nI (b 1)), .int (nI (b 2)), .int (nI (b 3)), .int (nI (b 4)), .int (nI (b 5))])), (k, .inl (cI, 24, .inl (fun j_ => nI (b (6 + 3 * j_))))), (f, .inl (cI, 24, .inl (fun j_ => nI (b (7 + 3 * j_))))), (s, .inl (cI, 24, .inl (fun j_ => nI (b (8 + 3 * j_)))))] (by simp only [lnA]; first | rw [lx_in (fzT_n c_58) c_18] | rw [lx_gt (fzT_n c_58) c_18] | rw [lx_fz (fzT_y c_58)]) ?_
            refine g_lv [(0, .ref ln), (1, .ref h), (2, .int (nI wd)), (3, .int (nI t)), (4, .int (nI (i + 1)))] [0, 1, 2, 3, 4] rfl ?_
            exact ih_3 (i + 1) (by omega) (by omega)
          · refine g_iload_n 3 (hd := dX3_settle_61) (C := hX) rfl rfl ?_
            refine g_iconst (v := nI 1) hX dX3_settle_62 (by decide) ?_
            refine g_iand hX dX3_settle_63 ?_
            refine g_top (y := (nI (t % 2))) (by rw [nx_and, Nat.and_one_is_mod]) ?_
            refine g_callS (rest := [.int (nI i), .ref va]) hX (c_X3_inAllLanes l D cC cI cJ cO (t % 2)) ok_X3_inAllLanes (fun _ => rfl) (hd := dX3_settle_64) gX3_settle_X3_inAllLanes ⟨by decide, by decide⟩ rfl (Nat.le_of_ble_eq_true rfl) ⟨Nat.zero_le _, Nat.zero_le _⟩ [] (by decide) rfl rfl ?_
            intro r_64 e_64
            subst e_64
            show GW X [(ln, .inr (3, [.ref va])), (va, .inl (cJ, 32, .inr (.inl (lnA b wd (fzT t) V i)))), (h, .inr (0, [.ref k, .ref f, .ref s, .int (nI (b 0)), .int (nI (b 1)), .int (nI (b 2)), .int (nI (b 3)), .int (nI (b 4)), .int (nI (b 5))])), (k, .inl (cI, 24, .inl (fun j_ => nI (b (6 + 3 * j_))))), (f, .inl (cI, 24, .inl (fun j_ => nI (b (7 + 3 * j_))))), (s, .inl (cI, 24, .inl (fun j_ => nI (b (8 + 3 * j_)))))] [(0, .ref ln), (1, .ref h), (2, .int (nI wd)), (3, .int (nI t)), (4, .int (nI i)), (5, .long (gvS (b (6 + 3 * (i - (b 0)))) ((lnA b wd (fzT t) V i) (b (7 + 3 * (i - (b 0))))) ((lnA b wd (fzT t) V i) (b (8 + 3 * (i - (b 0)))))))] [.long (iaL (t % 2)), .int (nI i), .ref va] 67 0 0
            refine g_goto 77 (hd := dX3_settle_67) (C := hX) (by decide) ?_
            refine g_last (hd := dX3_settle_77) (C := hX) 1 2 [(ln, .inr (3, [.ref va])), (va, .inl (cJ, 32, .inr (.inl (vp_updL (lnA b wd (fzT t) V i) i (iaL (t % 2)))))), (h, .inr (0, [.ref k, .ref f, .ref s, .int (nI (b 0)), .int (nI (b 1)), .int (nI (b 2)), .int (nI (b 3)), .int (nI (b 4)), .int (nI (b 5))])), (k, .inl (cI, 24, .inl (fun j_ => nI (b (6 + 3 * j_))))), (f, .inl (cI, 24, .inl (fun j_ => nI (b (7 + 3 * j_))))), (s, .inl (cI, 24, .inl (fun j_ => nI (b (8 + 3 * j_)))))] rfl rfl (by omega) (by decide) rfl ?_
            refine g_iinc (v := (nI (i + 1))) 4 [(0, .ref ln), (1, .ref h), (2, .int (nI wd)), (3, .int (nI t)), (4, .int (nI (i + 1))), (5, .long (gvS (b (6 + 3 * (i - (b 0)))) ((lnA b wd (fzT t) V i) (b (7 + 3 * (i - (b 0))))) ((lnA b wd (fzT t) V i) (b (8 + 3 * (i - (b 0)))))))] [1, 2, 3, 4, 0, 5] (hd := dX3_settle_78) (C := hX) rfl (nI_1 _) (by decide) rfl ?_
            refine g_goto 3 (hd := dX3_settle_81) (C := hX) (by decide) ?_
            refine g_w [(ln, .inr (3, [.ref va])), (va, .inl (cJ, 32, .inr (.inl (lnA b wd (fzT t) V (i + 1))))), (h, .inr (0, [.ref k, .ref f, .ref s, .int (nI (b 0)), .int (nI (b 1)), .int (nI (b 2)), .int (nI (b 3)), .int (nI (b 4)), .int (nI (b 5))])), (k, .inl (cI, 24, .inl (fun j_ => nI (b (6 + 3 * j_))))), (f, .inl (cI, 24, .inl (fun j_ => nI (b (7 + 3 * j_))))), (s, .inl (cI, 24, .inl (fun j_ => nI (b (8 + 3 * j_)))))] (by simp only [lnA]; first | rw [lx_in (fzT_n c_58) c_18] | rw [lx_gt (fzT_n c_58) c_18] | rw [lx_fz (fzT_y c_58)]) ?_
            refine g_lv [(0, .ref ln), (1, .ref h), (2, .int (nI wd)), (3, .int (nI t)), (4, .int (nI (i + 1)))] [0, 1, 2, 3, 4] rfl ?_
            exact ih_3 (i + 1) (by omega) (by omega)
        · refine g_iload_n 2 (hd := dX3_settle_21) (C := hX) rfl rfl ?_
          refine g_iload 4 (hd := dX3_settle_22) (C := hX) rfl ?_
          refine g_ishr hX dX3_settle_24 ?_
          refine g_top (y := (nI (wd / 2 ^ i))) (gl_shr (by omega) (by omega)) ?_
          refine g_iconst (v := nI 1) hX dX3_settle_25 (by decide) ?_
          refine g_iand hX dX3_settle_26 ?_
          refine g_top (y := (nI (wd / 2 ^ i % 2))) (by rw [nx_and, Nat.and_one_is_mod]) ?_
          refine g_callS (rest := []) hX (c_X3_inAllLanes l D cC cI cJ cO (wd / 2 ^ i % 2)) ok_X3_inAllLanes (fun _ => rfl) (hd := dX3_settle_27) gX3_settle_X3_inAllLanes ⟨by decide, by decide⟩ rfl (Nat.le_of_ble_eq_true rfl) ⟨Nat.zero_le _, Nat.zero_le _⟩ [] (by decide) rfl rfl ?_
          intro r_27 e_27
          subst e_27
          show GW X [(ln, .inr (3, [.ref va])), (va, .inl (cJ, 32, .inr (.inl (lnA b wd (fzT t) V i)))), (h, .inr (0, [.ref k, .ref f, .ref s, .int (nI (b 0)), .int (nI (b 1)), .int (nI (b 2)), .int (nI (b 3)), .int (nI (b 4)), .int (nI (b 5))])), (k, .inl (cI, 24, .inl (fun j_ => nI (b (6 + 3 * j_))))), (f, .inl (cI, 24, .inl (fun j_ => nI (b (7 + 3 * j_))))), (s, .inl (cI, 24, .inl (fun j_ => nI (b (8 + 3 * j_)))))] [(0, .ref ln), (1, .ref h), (2, .int (nI wd)), (3, .int (nI t)), (4, .int (nI i))] [.long (iaL (wd / 2 ^ i % 2))] 30 0 0
          refine g_goto 45 (hd := dX3_settle_30) (C := hX) (by decide) ?_
          refine g_lstore [(0, .ref ln), (1, .ref h), (2, .int (nI wd)), (3, .int (nI t)), (4, .int (nI i)), (5, .long (iaL (wd / 2 ^ i % 2)))] [1, 2, 3, 4, 5, 0] (hd := dX3_settle_45) (C := hX) (by decide) rfl ?_
          refine g_aload_n 0 (hd := dX3_settle_47) (C := hX) rfl rfl ?_
          refine g_get (hd := dX3_settle_48) (C := hX) 0 0 rfl rfl in_X3_settle_3 (by decide) (by decide +kernel) rfl ?_
          refine g_iload 4 (hd := dX3_settle_51) (C := hX) rfl ?_
          refine g_iload_n 3 (hd := dX3_settle_53) (C := hX) rfl rfl ?_
          refine g_iconst (v := nI 1) hX dX3_settle_54 (by decide) ?_
          refine g_ishr hX dX3_settle_55 ?_
          refine g_top (y := (nI (t / 2 ^ 1))) (gl_shr (by omega) (by omega)) ?_
          refine g_iload 4 (hd := dX3_settle_56) (C := hX) rfl ?_
          have hq9 : t / 2 ^ 1 ≤ t := Nat.div_le_self _ _
          refine g_icmp_neN 70 (hd := dX3_settle_58) (C := hX) (by decide) (by omega) (by omega) (fun c_58 => ?_) (fun c_58 => ?_)
          · refine g_lload 5 (hd := dX3_settle_70) (C := hX) rfl ?_
            refine g_iload 4 (hd := dX3_settle_72) (C := hX) rfl ?_
            refine g_callS (rest := [.int (nI i), .ref va]) hX (c_X3_withOwnStucks l D cC cI cJ cO (iaL (wd / 2 ^ i % 2)) i) ok_X3_withOwnStucks (fun _ => rfl) (hd := dX3_settle_74) gX3_settle_X3_withOwnStucks ⟨by decide, by decide⟩ rfl (Nat.le_of_ble_eq_true rfl) ⟨Nat.zero_le _, Nat.zero_le _⟩ [] (by decide) rfl rfl ?_
            intro r_74 e_74
            subst e_74
            show GW X [(ln, .inr (3, [.ref va])), (va, .inl (cJ, 32, .inr (.inl (lnA b wd (fzT t) V i)))), (h, .inr (0, [.ref k, .ref f, .ref s, .int (nI (b 0)), .int (nI (b 1)), .int (nI (b 2)), .int (nI (b 3)), .int (nI (b 4)), .int (nI (b 5))])), (k, .inl (cI, 24, .inl (fun j_ => nI (b (6 + 3 * j_))))), (f, .inl (cI, 24, .inl (fun j_ => nI (b (7 + 3 * j_))))), (s, .inl (cI, 24, .inl (fun j_ => nI (b (8 + 3 * j_)))))] [(0, .ref ln), (1, .ref h), (2, .int (nI wd)), (3, .int (nI t)), (4, .int (nI i)), (5, .long (iaL (wd / 2 ^ i % 2)))] [.long (owS (iaL (wd / 2 ^ i % 2)) i), .int (nI i), .ref va] 77 0 0
            refine g_last (hd := dX3_settle_77) (C := hX) 1 2 [(ln, .inr (3, [.ref va])), (va, .inl (cJ, 32, .inr (.inl (vp_updL (lnA b wd (fzT t) V i) i (owS (iaL (wd / 2 ^ i % 2)) i))))), (h, .inr (0, [.ref k, .ref f, .ref s, .int (nI (b 0)), .int (nI (b 1)), .int (nI (b 2)), .int (nI (b 3)), .int (nI (b 4)), .int (nI (b 5))])), (k, .inl (cI, 24, .inl (fun j_ => nI (b (6 + 3 * j_))))), (f, .inl (cI, 24, .inl (fun j_ => nI (b (7 + 3 * j_))))), (s, .inl (cI, 24, .inl (fun j_ => nI (b (8 + 3 * j_)))))] rfl rfl (by omega) (by decide) rfl ?_
            refine g_iinc (v := (nI (i + 1))) 4 [(0, .ref ln), (1, .ref h), (2, .int (nI wd)), (3, .int (nI t)), (4, .int (nI (i + 1))), (5, .long (iaL (wd / 2 ^ i % 2)))] [1, 2, 3, 4, 0, 5] (hd := dX3_settle_78) (C := hX) rfl (nI_1 _) (by decide) rfl ?_
            refine g_goto 3 (hd := dX3_settle_81) (C := hX) (by decide) ?_
            refine g_w [(ln, .inr (3, [.ref va])), (va, .inl (cJ, 32, .inr (.inl (lnA b wd (fzT t) V (i + 1))))), (h, .inr (0, [.ref k, .ref f, .ref s, .int (nI (b 0)), .int (nI (b 1)), .int (nI (b 2)), .int (nI (b 3)), .int (nI (b 4)), .int (nI (b 5))])), (k, .inl (cI, 24, .inl (fun j_ => nI (b (6 + 3 * j_))))), (f, .inl (cI, 24, .inl (fun j_ => nI (b (7 + 3 * j_))))), (s, .inl (cI, 24, .inl (fun j_ => nI (b (8 + 3 * j_)))))] (by simp only [lnA]; first | rw [lx_in (fzT_n c_58) c_18] | rw [lx_gt (fzT_n c_58) c_18] | rw [lx_fz (fzT_y c_58)]) ?_
            refine g_lv [(0, .ref ln), (1, .ref h), (2, .int (nI wd)), (3, .int (nI t)), (4, .int (nI (i + 1)))] [0, 1, 2, 3, 4] rfl ?_
            exact ih_3 (i + 1) (by omega) (by omega)
          · refine g_iload_n 3 (hd := dX3_settle_61) (C := hX) rfl rfl ?_
            refine g_iconst (v := nI 1) hX dX3_settle_62 (by decide) ?_
            refine g_iand hX dX3_settle_63 ?_
            refine g_top (y := (nI (t % 2))) (by rw [nx_and, Nat.and_one_is_mod]) ?_
            refine g_callS (rest := [.int (nI i), .ref va]) hX (c_X3_inAllLanes l D cC cI cJ cO (t % 2)) ok_X3_inAllLanes (fun _ => rfl) (hd := dX3_settle_64) gX3_settle_X3_inAllLanes ⟨by decide, by decide⟩ rfl (Nat.le_of_ble_eq_true rfl) ⟨Nat.zero_le _, Nat.zero_le _⟩ [] (by decide) rfl rfl ?_
            intro r_64 e_64
            subst e_64
            show GW X [(ln, .inr (3, [.ref va])), (va, .inl (cJ, 32, .inr (.inl (lnA b wd (fzT t) V i)))), (h, .inr (0, [.ref k, .ref f, .ref s, .int (nI (b 0)), .int (nI (b 1)), .int (nI (b 2)), .int (nI (b 3)), .int (nI (b 4)), .int (nI (b 5))])), (k, .inl (cI, 24, .inl (fun j_ => nI (b (6 + 3 * j_))))), (f, .inl (cI, 24, .inl (fun j_ => nI (b (7 + 3 * j_))))), (s, .inl (cI, 24, .inl (fun j_ => nI (b (8 + 3 * j_)))))] [(0, .ref ln), (1, .ref h), (2, .int (nI wd)), (3, .int (nI t)), (4, .int (nI i)), (5, .long (iaL (wd / 2 ^ i % 2)))] [.long (iaL (t % 2)), .int (nI i), .ref va] 67 0 0
            refine g_goto 77 (hd := dX3_settle_67) (C := hX) (by decide) ?_
            refine g_last (hd := dX3_settle_77) (C := hX) 1 2 [(ln, .inr (3, [.ref va])), (va, .inl (cJ, 32, .inr (.inl (vp_updL (lnA b wd (fzT t) V i) i (iaL (t % 2)))))), (h, .inr (0, [.ref k, .ref f, .ref s, .int (nI (b 0)), .int (nI (b 1)), .int (nI (b 2)), .int (nI (b 3)), .int (nI (b 4)), .int (nI (b 5))])), (k, .inl (cI, 24, .inl (fun j_ => nI (b (6 + 3 * j_))))), (f, .inl (cI, 24, .inl (fun j_ => nI (b (7 + 3 * j_))))), (s, .inl (cI, 24, .inl (fun j_ => nI (b (8 + 3 * j_)))))] rfl rfl (by omega) (by decide) rfl ?_
            refine g_iinc (v := (nI (i + 1))) 4 [(0, .ref ln), (1, .ref h), (2, .int (nI wd)), (3, .int (nI t)), (4, .int (nI (i + 1))), (5, .long (iaL (wd / 2 ^ i % 2)))] [1, 2, 3, 4, 0, 5] (hd := dX3_settle_78) (C := hX) rfl (nI_1 _) (by decide) rfl ?_
            refine g_goto 3 (hd := dX3_settle_81) (C := hX) (by decide) ?_
            refine g_w [(ln, .inr (3, [.ref va])), (va, .inl (cJ, 32, .inr (.inl (lnA b wd (fzT t) V (i + 1))))), (h, .inr (0, [.ref k, .ref f, .ref s, .int (nI (b 0)), .int (nI (b 1)), .int (nI (b 2)), .int (nI (b 3)), .int (nI (b 4)), .int (nI (b 5))])), (k, .inl (cI, 24, .inl (fun j_ => nI (b (6 + 3 * j_))))), (f, .inl (cI, 24, .inl (fun j_ => nI (b (7 + 3 * j_))))), (s, .inl (cI, 24, .inl (fun j_ => nI (b (8 + 3 * j_)))))] (by simp only [lnA]; first | rw [lx_in (fzT_n c_58) c_18] | rw [lx_gt (fzT_n c_58) c_18] | rw [lx_fz (fzT_y c_58)]) ?_
            refine g_lv [(0, .ref ln), (1, .ref h), (2, .int (nI wd)), (3, .int (nI t)), (4, .int (nI (i + 1)))] [0, 1, 2, 3, 4] rfl ?_
            exact ih_3 (i + 1) (by omega) (by omega)
  refine g_w [(ln, .inr (3, [.ref va])), (va, .inl (cJ, 32, .inr (.inl (lnA b wd (fzT t) V 0)))), (h, .inr (0, [.ref k, .ref f, .ref s, .int (nI (b 0)), .int (nI (b 1)), .int (nI (b 2)), .int (nI (b 3)), .int (nI (b 4)), .int (nI (b 5))])), (k, .inl (cI, 24, .inl (fun j_ => nI (b (6 + 3 * j_))))), (f, .inl (cI, 24, .inl (fun j_ => nI (b (7 + 3 * j_))))), (s, .inl (cI, 24, .inl (fun j_ => nI (b (8 + 3 * j_)))))] rfl ?_
  exact L_3 _ 0 (Nat.lt_succ_self _) (Nat.zero_le _)

theorem in_X3_valueAt_3 : ∀ w ∈ wsX30, w ∈ wsX3_valueAt := fun _ h => List.mem_cons_of_mem _ (List.mem_append_right _ h)
theorem ok_X3_valueAt : gOK yX3_valueAt wsX3_valueAt ({ frames := 1, cells := 0, slots := 0, locals := 22 }) 3 2 := ⟨⟨_, _, _, rfl⟩, rfl, rfl, by decide, by decide, by decide +kernel⟩
set_option maxRecDepth 100000 in
set_option maxHeartbeats 4000000 in
theorem c_X3_valueAt (l : Launch) (D : va_G) (cC cI cJ cO : ClassId) (ln : Nat) (va : Nat) (V : Nat → Int64) (w : Nat) (t : Nat) (hw : w < 32) (ht : t < 64) : CM (S := Int32) l D (tyL cC cI cJ cO) yX3_valueAt wsX3_valueAt ({ frames := 1, cells := 0, slots := 0, locals := 22 }) [.ref ln, .int (nI w), .int (nI t)] [(ln, .inr (3, [.ref va])), (va, .inl (cJ, 32, .inr (.inl V)))] (fun r => some (.int r)) (fun r => r = nI (tb (V w) t)) (fun u_ => [(ln, .inr (3, [.ref va])), (va, .inl (cJ, 32, .inr (.inl V)))]) := by
  refine CM_in (cc := cX3_valueAt) (maxL := 3) (ret := (some .int)) (by decide) rfl (Nat.le_of_ble_eq_true rfl) ?_
  intro X hX hret
  show GW X [(ln, .inr (3, [.ref va])), (va, .inl (cJ, 32, .inr (.inl V)))] [(0, .ref ln), (1, .int (nI w)), (2, .int (nI t))] [] 0 0 0
  refine g_aload_n 0 (hd := dX3_valueAt_0) (C := hX) rfl rfl ?_
  refine g_get (hd := dX3_valueAt_1) (C := hX) 0 0 rfl rfl in_X3_valueAt_3 (by decide) (by decide +kernel) rfl ?_
  refine g_iload_n 1 (hd := dX3_valueAt_4) (C := hX) rfl rfl ?_
  refine g_lald (hd := dX3_valueAt_5) (C := hX) 1 2 rfl rfl (by omega) (by decide) ?_
  refine g_iload_n 2 (hd := dX3_valueAt_6) (C := hX) rfl rfl ?_
  refine g_callSN (rest := []) hX (c_X6_bit l D cC cI cJ cO (V w) t (by omega)) ok_X6_bit (fun _ => rfl) (fun _ h => h.2.1) (by decide +kernel) (by decide +kernel) (hd := dX3_valueAt_7) gX3_valueAt_X6_bit_n51 ⟨by decide, by decide⟩ rfl (Nat.le_of_ble_eq_true rfl) ⟨Nat.zero_le _, Nat.zero_le _⟩ [] (by decide) rfl rfl ?_
  intro r_7 e_7
  subst e_7
  show GW X [(ln, .inr (3, [.ref va])), (va, .inl (cJ, 32, .inr (.inl V)))] [(0, .ref ln), (1, .int (nI w)), (2, .int (nI t))] [.int (nI (tb (V w) t))] 10 0 0
  exact (hret (nI (tb (V w) t)) _ _ rfl).2.1 _ rfl rfl dX3_valueAt_10

theorem in_X3_outAt_0 : ∀ w ∈ wsX00, w ∈ wsX3_outAt := fun _ h => List.mem_cons_of_mem _ (List.mem_append_left _ (List.mem_append_right _ h))
theorem in_X3_outAt_3 : ∀ w ∈ wsX30, w ∈ wsX3_outAt := fun _ h => List.mem_cons_of_mem _ (List.mem_append_right _ h)
theorem ok_X3_outAt : gOK yX3_outAt wsX3_outAt ({ frames := 2, cells := 0, slots := 0, locals := 44 }) 3 2 := ⟨⟨_, _, _, rfl⟩, rfl, rfl, by decide, by decide, by decide +kernel⟩
set_option maxRecDepth 100000 in
set_option maxHeartbeats 4000000 in
theorem c_X3_outAt (l : Launch) (D : va_G) (cC cI cJ cO : ClassId) (ln : Nat) (va : Nat) (V : Nat → Int64) (h : Nat) (k : Nat) (f : Nat) (s : Nat) (b : Nat → Nat) (t : Nat) (ht : t < 64) (h2 : b 2 < 32) (h3 : b 3 < 32) : CM (S := Int32) l D (tyL cC cI cJ cO) yX3_outAt wsX3_outAt ({ frames := 2, cells := 0, slots := 0, locals := 44 }) [.ref ln, .ref h, .int (nI t)] [(ln, .inr (3, [.ref va])), (va, .inl (cJ, 32, .inr (.inl V))), (h, .inr (0, [.ref k, .ref f, .ref s, .int (nI (b 0)), .int (nI (b 1)), .int (nI (b 2)), .int (nI (b 3)), .int (nI (b 4)), .int (nI (b 5))])), (k, .inl (cI, 24, .inl (fun j_ => nI (b (6 + 3 * j_))))), (f, .inl (cI, 24, .inl (fun j_ => nI (b (7 + 3 * j_))))), (s, .inl (cI, 24, .inl (fun j_ => nI (b (8 + 3 * j_)))))] (fun r => some (.int r)) (fun r => r = nI (2 * tb (V (b 2)) t + tb (V (b 3)) t)) (fun u_ => [(ln, .inr (3, [.ref va])), (va, .inl (cJ, 32, .inr (.inl V))), (h, .inr (0, [.ref k, .ref f, .ref s, .int (nI (b 0)), .int (nI (b 1)), .int (nI (b 2)), .int (nI (b 3)), .int (nI (b 4)), .int (nI (b 5))])), (k, .inl (cI, 24, .inl (fun j_ => nI (b (6 + 3 * j_))))), (f, .inl (cI, 24, .inl (fun j_ => nI (b (7 + 3 * j_))))), (s, .inl (cI, 24, .inl (fun j_ => nI (b (8 + 3 * j_)))))]) := by
  refine CM_in (cc := cX3_outAt) (maxL := 3) (ret := (some .int)) (by decide) rfl (Nat.le_of_ble_eq_true rfl) ?_
  intro X hX hret
  show GW X [(ln, .inr (3, [.ref va])), (va, .inl (cJ, 32, .inr (.inl V))), (h, .inr (0, [.ref k, .ref f, .ref s, .int (nI (b 0)), .int (nI (b 1)), .int (nI (b 2)), .int (nI (b 3)), .int (nI (b 4)), .int (nI (b 5))])), (k, .inl (cI, 24, .inl (fun j_ => nI (b (6 + 3 * j_))))), (f, .inl (cI, 24, .inl (fun j_ => nI (b (7 + 3 * j_))))), (s, .inl (cI, 24, .inl (fun j_ => nI (b (8 + 3 * j_)))))] [(0, .ref ln), (1, .ref h), (2, .int (nI t))] [] 0 0 0
  refine g_iconst (v := nI 2) hX dX3_outAt_0 (by decide) ?_
  refine g_aload_n 0 (hd := dX3_outAt_1) (C := hX) rfl rfl ?_
  refine g_aload_n 1 (hd := dX3_outAt_2) (C := hX) rfl rfl ?_
  refine g_get (hd := dX3_outAt_3) (C := hX) 2 5 rfl rfl in_X3_outAt_0 (by decide) (by decide +kernel) rfl ?_
  refine g_iload_n 2 (hd := dX3_outAt_6) (C := hX) rfl rfl ?_
  refine g_callV (rest := [.int (nI 2)]) hX (c_X3_valueAt l D cC cI cJ cO ln va V (b 2) t (by omega) (by omega)) ok_X3_valueAt rfl 0 rfl rfl (fun _ => rfl) (hd := dX3_outAt_7) gX3_outAt_X3_valueAt ⟨by decide, by decide⟩ rfl (Nat.le_of_ble_eq_true rfl) ⟨Nat.zero_le _, Nat.zero_le _⟩ [0, 1] (by decide) rfl rfl ?_
  intro r_7 e_7
  subst e_7
  show GW X [(ln, .inr (3, [.ref va])), (va, .inl (cJ, 32, .inr (.inl V))), (h, .inr (0, [.ref k, .ref f, .ref s, .int (nI (b 0)), .int (nI (b 1)), .int (nI (b 2)), .int (nI (b 3)), .int (nI (b 4)), .int (nI (b 5))])), (k, .inl (cI, 24, .inl (fun j_ => nI (b (6 + 3 * j_))))), (f, .inl (cI, 24, .inl (fun j_ => nI (b (7 + 3 * j_))))), (s, .inl (cI, 24, .inl (fun j_ => nI (b (8 + 3 * j_)))))] [(0, .ref ln), (1, .ref h), (2, .int (nI t))] [.int (nI (tb (V (b 2)) t)), .int (nI 2)] 10 0 0
  refine g_imul hX dX3_outAt_10 ?_
  refine g_top (y := (nI (2 * (tb (V (b 2)) t)))) (pk_mul _ _) ?_
  refine g_aload_n 0 (hd := dX3_outAt_11) (C := hX) rfl rfl ?_
  refine g_aload_n 1 (hd := dX3_outAt_12) (C := hX) rfl rfl ?_
  refine g_get (hd := dX3_outAt_13) (C := hX) 2 6 rfl rfl in_X3_outAt_0 (by decide) (by decide +kernel) rfl ?_
  refine g_iload_n 2 (hd := dX3_outAt_16) (C := hX) rfl rfl ?_
  refine g_callV (rest := [.int (nI (2 * (tb (V (b 2)) t)))]) hX (c_X3_valueAt l D cC cI cJ cO ln va V (b 3) t (by omega) (by omega)) ok_X3_valueAt rfl 0 rfl rfl (fun _ => rfl) (hd := dX3_outAt_17) gX3_outAt_X3_valueAt ⟨by decide, by decide⟩ rfl (Nat.le_of_ble_eq_true rfl) ⟨Nat.zero_le _, Nat.zero_le _⟩ [0, 1] (by decide) rfl rfl ?_
  intro r_17 e_17
  subst e_17
  show GW X [(ln, .inr (3, [.ref va])), (va, .inl (cJ, 32, .inr (.inl V))), (h, .inr (0, [.ref k, .ref f, .ref s, .int (nI (b 0)), .int (nI (b 1)), .int (nI (b 2)), .int (nI (b 3)), .int (nI (b 4)), .int (nI (b 5))])), (k, .inl (cI, 24, .inl (fun j_ => nI (b (6 + 3 * j_))))), (f, .inl (cI, 24, .inl (fun j_ => nI (b (7 + 3 * j_))))), (s, .inl (cI, 24, .inl (fun j_ => nI (b (8 + 3 * j_)))))] [(0, .ref ln), (1, .ref h), (2, .int (nI t))] [.int (nI (tb (V (b 3)) t)), .int (nI (2 * (tb (V (b 2)) t)))] 20 0 0
  refine g_iadd hX dX3_outAt_20 ?_
  refine g_top (y := (nI ((2 * (tb (V (b 2)) t)) + (tb (V (b 3)) t)))) (nI_add _ _) ?_
  exact (hret (nI ((2 * (tb (V (b 2)) t)) + (tb (V (b 3)) t))) _ _ rfl).2.1 _ rfl rfl dX3_outAt_21
