theorem in_X0_wires_0 : ∀ w ∈ wsX00, w ∈ wsX0_wires := fun _ h => List.mem_cons_of_mem _ (List.mem_append_right _ h)
theorem ok_X0_wires : gOK yX0_wires wsX0_wires ({ frames := 0, cells := 0, slots := 0, locals := 0 }) 1 0 := ⟨⟨_, _, _, rfl⟩, rfl, rfl, by decide, by decide, by decide +kernel⟩
set_option maxRecDepth 100000 in
set_option maxHeartbeats 4000000 in
theorem c_X0_wires (l : Launch) (D : va_G) (cC cI cJ cO : ClassId) (h : Nat) (k : Nat) (f : Nat) (s : Nat) (b : Nat → Nat) : CM (S := Int32) l D (tyL cC cI cJ cO) yX0_wires wsX0_wires ({ frames := 0, cells := 0, slots := 0, locals := 0 }) [.ref h] [(h, .inr (0, [.ref k, .ref f, .ref s, .int (nI (b 0)), .int (nI (b 1)), .int (nI (b 2)), .int (nI (b 3)), .int (nI (b 4)), .int (nI (b 5))])), (k, .inl (cI, 24, .inl (fun j_ => nI (b (6 + 3 * j_))))), (f, .inl (cI, 24, .inl (fun j_ => nI (b (7 + 3 * j_))))), (s, .inl (cI, 24, .inl (fun j_ => nI (b (8 + 3 * j_)))))] (fun r => some (.int r)) (fun r => r = nI (b 0 + b 1)) (fun u_ => [(h, .inr (0, [.ref k, .ref f, .ref s, .int (nI (b 0)), .int (nI (b 1)), .int (nI (b 2)), .int (nI (b 3)), .int (nI (b 4)), .int (nI (b 5))])), (k, .inl (cI, 24, .inl (fun j_ => nI (b (6 + 3 * j_))))), (f, .inl (cI, 24, .inl (fun j_ => nI (b (7 + 3 * j_))))), (s, .inl (cI, 24, .inl (fun j_ => nI (b (8 + 3 * j_)))))]) := by
  refine CM_in (cc := cX0_wires) (maxL := 1) (ret := (some .int)) (by decide) rfl (Nat.le_of_ble_eq_true rfl) ?_
  intro X hX hret
  show GW X [(h, .inr (0, [.ref k, .ref f, .ref s, .int (nI (b 0)), .int (nI (b 1)), .int (nI (b 2)), .int (nI (b 3)), .int (nI (b 4)), .int (nI (b 5))])), (k, .inl (cI, 24, .inl (fun j_ => nI (b (6 + 3 * j_))))), (f, .inl (cI, 24, .inl (fun j_ => nI (b (7 + 3 * j_))))), (s, .inl (cI, 24, .inl (fun j_ => nI (b (8 + 3 * j_)))))] [(0, .ref h)] [] 0 0 0
  refine g_aload_n 0 (hd := dX0_wires_0) (C := hX) rfl rfl ?_
  refine g_get (hd := dX0_wires_1) (C := hX) 0 3 rfl rfl in_X0_wires_0 (by decide) (by decide +kernel) rfl ?_
  refine g_aload_n 0 (hd := dX0_wires_4) (C := hX) rfl rfl ?_
  refine g_get (hd := dX0_wires_5) (C := hX) 0 4 rfl rfl in_X0_wires_0 (by decide) (by decide +kernel) rfl ?_
  refine g_iadd hX dX0_wires_8 ?_
  refine g_top (y := (nI ((b 0) + (b 1)))) (nI_add _ _) ?_
  exact (hret (nI ((b 0) + (b 1))) _ _ rfl).2.1 _ rfl rfl dX0_wires_9

theorem in_X0_wordCount_0 : ∀ w ∈ wsX00, w ∈ wsX0_wordCount := fun _ h => List.mem_cons_of_mem _ (List.mem_append_right _ h)
theorem ok_X0_wordCount : gOK yX0_wordCount wsX0_wordCount ({ frames := 0, cells := 0, slots := 0, locals := 0 }) 1 0 := ⟨⟨_, _, _, rfl⟩, rfl, rfl, by decide, by decide, by decide +kernel⟩
set_option maxRecDepth 100000 in
set_option maxHeartbeats 4000000 in
theorem c_X0_wordCount (l : Launch) (D : va_G) (cC cI cJ cO : ClassId) (h : Nat) (k : Nat) (f : Nat) (s : Nat) (b : Nat → Nat) (h0 : b 0 ≤ 8) : CM (S := Int32) l D (tyL cC cI cJ cO) yX0_wordCount wsX0_wordCount ({ frames := 0, cells := 0, slots := 0, locals := 0 }) [.ref h] [(h, .inr (0, [.ref k, .ref f, .ref s, .int (nI (b 0)), .int (nI (b 1)), .int (nI (b 2)), .int (nI (b 3)), .int (nI (b 4)), .int (nI (b 5))])), (k, .inl (cI, 24, .inl (fun j_ => nI (b (6 + 3 * j_))))), (f, .inl (cI, 24, .inl (fun j_ => nI (b (7 + 3 * j_))))), (s, .inl (cI, 24, .inl (fun j_ => nI (b (8 + 3 * j_)))))] (fun r => some (.int r)) (fun r => r = nI (2 ^ b 0)) (fun u_ => [(h, .inr (0, [.ref k, .ref f, .ref s, .int (nI (b 0)), .int (nI (b 1)), .int (nI (b 2)), .int (nI (b 3)), .int (nI (b 4)), .int (nI (b 5))])), (k, .inl (cI, 24, .inl (fun j_ => nI (b (6 + 3 * j_))))), (f, .inl (cI, 24, .inl (fun j_ => nI (b (7 + 3 * j_))))), (s, .inl (cI, 24, .inl (fun j_ => nI (b (8 + 3 * j_)))))]) := by
  refine CM_in (cc := cX0_wordCount) (maxL := 1) (ret := (some .int)) (by decide) rfl (Nat.le_of_ble_eq_true rfl) ?_
  intro X hX hret
  show GW X [(h, .inr (0, [.ref k, .ref f, .ref s, .int (nI (b 0)), .int (nI (b 1)), .int (nI (b 2)), .int (nI (b 3)), .int (nI (b 4)), .int (nI (b 5))])), (k, .inl (cI, 24, .inl (fun j_ => nI (b (6 + 3 * j_))))), (f, .inl (cI, 24, .inl (fun j_ => nI (b (7 + 3 * j_))))), (s, .inl (cI, 24, .inl (fun j_ => nI (b (8 + 3 * j_)))))] [(0, .ref h)] [] 0 0 0
  refine g_iconst (v := nI 1) hX dX0_wordCount_0 (by decide) ?_
  refine g_aload_n 0 (hd := dX0_wordCount_1) (C := hX) rfl rfl ?_
  refine g_get (hd := dX0_wordCount_2) (C := hX) 0 3 rfl rfl in_X0_wordCount_0 (by decide) (by decide +kernel) rfl ?_
  refine g_ishl hX dX0_wordCount_5 ?_
  refine g_top (y := (nI (2 ^ b 0))) (gl_shl1 (by omega)) ?_
  exact (hret (nI (2 ^ b 0)) _ _ rfl).2.1 _ rfl rfl dX0_wordCount_6

theorem in_X0_hasGate_0 : ∀ w ∈ wsX00, w ∈ wsX0_hasGate := fun _ h => List.mem_cons_of_mem _ (List.mem_append_right _ h)
theorem ok_X0_hasGate : gOK yX0_hasGate wsX0_hasGate ({ frames := 0, cells := 0, slots := 0, locals := 0 }) 2 1 := ⟨⟨_, _, _, rfl⟩, rfl, rfl, by decide, by decide, by decide +kernel⟩
set_option maxRecDepth 100000 in
set_option maxHeartbeats 4000000 in
theorem c_X0_hasGate (l : Launch) (D : va_G) (cC cI cJ cO : ClassId) (h : Nat) (k : Nat) (f : Nat) (s : Nat) (b : Nat → Nat) (w : Int32) (h0 : b 0 ≤ 8) (h1 : b 1 ≤ 24) : CM (S := Int32) l D (tyL cC cI cJ cO) yX0_hasGate wsX0_hasGate ({ frames := 0, cells := 0, slots := 0, locals := 0 }) [.ref h, .int w] [(h, .inr (0, [.ref k, .ref f, .ref s, .int (nI (b 0)), .int (nI (b 1)), .int (nI (b 2)), .int (nI (b 3)), .int (nI (b 4)), .int (nI (b 5))])), (k, .inl (cI, 24, .inl (fun j_ => nI (b (6 + 3 * j_))))), (f, .inl (cI, 24, .inl (fun j_ => nI (b (7 + 3 * j_))))), (s, .inl (cI, 24, .inl (fun j_ => nI (b (8 + 3 * j_)))))] (fun r => some (.int r)) (fun r => isB r (vp_in w (b 1))) (fun u_ => [(h, .inr (0, [.ref k, .ref f, .ref s, .int (nI (b 0)), .int (nI (b 1)), .int (nI (b 2)), .int (nI (b 3)), .int (nI (b 4)), .int (nI (b 5))])), (k, .inl (cI, 24, .inl (fun j_ => nI (b (6 + 3 * j_))))), (f, .inl (cI, 24, .inl (fun j_ => nI (b (7 + 3 * j_))))), (s, .inl (cI, 24, .inl (fun j_ => nI (b (8 + 3 * j_)))))]) := by
  refine CM_in (cc := cX0_hasGate) (maxL := 2) (ret := (some .boolean)) (by decide) rfl (Nat.le_of_ble_eq_true rfl) ?_
  intro X hX hret
  show GW X [(h, .inr (0, [.ref k, .ref f, .ref s, .int (nI (b 0)), .int (nI (b 1)), .int (nI (b 2)), .int (nI (b 3)), .int (nI (b 4)), .int (nI (b 5))])), (k, .inl (cI, 24, .inl (fun j_ => nI (b (6 + 3 * j_))))), (f, .inl (cI, 24, .inl (fun j_ => nI (b (7 + 3 * j_))))), (s, .inl (cI, 24, .inl (fun j_ => nI (b (8 + 3 * j_)))))] [(0, .ref h), (1, .int w)] [] 0 0 0
  refine g_iload_n 1 (hd := dX0_hasGate_0) (C := hX) rfl rfl ?_
  refine g_if_lt 16 (hd := dX0_hasGate_1) (C := hX) (by decide) (fun c_1 => ?_) (fun c_1 => ?_)
  · refine g_iconst (v := nI 0) hX dX0_hasGate_16 (by decide) ?_
    exact (hret (nI 0) _ _ (by first | exact Or.inl ⟨rfl, gv_mk (by omega) c_1 c_6⟩ | exact Or.inr ⟨rfl, gv_hi (by omega) c_6⟩ | exact Or.inr ⟨rfl, gv_lo c_1⟩ | exact Or.inl ⟨rfl, gv_mk (by omega) c_1 c_9⟩ | exact Or.inr ⟨rfl, gv_hi (by omega) c_9⟩)).2.2.1 _ rfl rfl (by decide) dX0_hasGate_17
  · refine g_iload_n 1 (hd := dX0_hasGate_4) (C := hX) rfl rfl ?_
    refine g_aload_n 0 (hd := dX0_hasGate_5) (C := hX) rfl rfl ?_
    refine g_get (hd := dX0_hasGate_6) (C := hX) 0 4 rfl rfl in_X0_hasGate_0 (by decide) (by decide +kernel) rfl ?_
    refine g_icmp_ge 16 (hd := dX0_hasGate_9) (C := hX) (by decide) (fun c_9 => ?_) (fun c_9 => ?_)
    · refine g_iconst (v := nI 0) hX dX0_hasGate_16 (by decide) ?_
      exact (hret (nI 0) _ _ (by first | exact Or.inl ⟨rfl, gv_mk (by omega) c_1 c_6⟩ | exact Or.inr ⟨rfl, gv_hi (by omega) c_6⟩ | exact Or.inr ⟨rfl, gv_lo c_1⟩ | exact Or.inl ⟨rfl, gv_mk (by omega) c_1 c_9⟩ | exact Or.inr ⟨rfl, gv_hi (by omega) c_9⟩)).2.2.1 _ rfl rfl (by decide) dX0_hasGate_17
    · refine g_iconst (v := nI 1) hX dX0_hasGate_12 (by decide) ?_
      refine g_goto 17 (hd := dX0_hasGate_13) (C := hX) (by decide) ?_
      exact (hret (nI 1) _ _ (by first | exact Or.inl ⟨rfl, gv_mk (by omega) c_1 c_6⟩ | exact Or.inr ⟨rfl, gv_hi (by omega) c_6⟩ | exact Or.inr ⟨rfl, gv_lo c_1⟩ | exact Or.inl ⟨rfl, gv_mk (by omega) c_1 c_9⟩ | exact Or.inr ⟨rfl, gv_hi (by omega) c_9⟩)).2.2.1 _ rfl rfl (by decide) dX0_hasGate_17

theorem in_X0_hasWire_0 : ∀ w ∈ wsX00, w ∈ wsX0_hasWire := fun _ h => List.mem_cons_of_mem _ (List.mem_append_right _ h)
theorem ok_X0_hasWire : gOK yX0_hasWire wsX0_hasWire ({ frames := 1, cells := 0, slots := 0, locals := 20 }) 2 1 := ⟨⟨_, _, _, rfl⟩, rfl, rfl, by decide, by decide, by decide +kernel⟩
set_option maxRecDepth 100000 in
set_option maxHeartbeats 4000000 in
theorem c_X0_hasWire (l : Launch) (D : va_G) (cC cI cJ cO : ClassId) (h : Nat) (k : Nat) (f : Nat) (s : Nat) (b : Nat → Nat) (w : Int32) (h0 : b 0 ≤ 8) (h1 : b 1 ≤ 24) : CM (S := Int32) l D (tyL cC cI cJ cO) yX0_hasWire wsX0_hasWire ({ frames := 1, cells := 0, slots := 0, locals := 20 }) [.ref h, .int w] [(h, .inr (0, [.ref k, .ref f, .ref s, .int (nI (b 0)), .int (nI (b 1)), .int (nI (b 2)), .int (nI (b 3)), .int (nI (b 4)), .int (nI (b 5))])), (k, .inl (cI, 24, .inl (fun j_ => nI (b (6 + 3 * j_))))), (f, .inl (cI, 24, .inl (fun j_ => nI (b (7 + 3 * j_))))), (s, .inl (cI, 24, .inl (fun j_ => nI (b (8 + 3 * j_)))))] (fun r => some (.int r)) (fun r => isB r (vp_in w (b 0 + b 1))) (fun u_ => [(h, .inr (0, [.ref k, .ref f, .ref s, .int (nI (b 0)), .int (nI (b 1)), .int (nI (b 2)), .int (nI (b 3)), .int (nI (b 4)), .int (nI (b 5))])), (k, .inl (cI, 24, .inl (fun j_ => nI (b (6 + 3 * j_))))), (f, .inl (cI, 24, .inl (fun j_ => nI (b (7 + 3 * j_))))), (s, .inl (cI, 24, .inl (fun j_ => nI (b (8 + 3 * j_)))))]) := by
  refine CM_in (cc := cX0_hasWire) (maxL := 2) (ret := (some .boolean)) (by decide) rfl (Nat.le_of_ble_eq_true rfl) ?_
  intro X hX hret
  show GW X [(h, .inr (0, [.ref k, .ref f, .ref s, .int (nI (b 0)), .int (nI (b 1)), .int (nI (b 2)), .int (nI (b 3)), .int (nI (b 4)), .int (nI (b 5))])), (k, .inl (cI, 24, .inl (fun j_ => nI (b (6 + 3 * j_))))), (f, .inl (cI, 24, .inl (fun j_ => nI (b (7 + 3 * j_))))), (s, .inl (cI, 24, .inl (fun j_ => nI (b (8 + 3 * j_)))))] [(0, .ref h), (1, .int w)] [] 0 0 0
  refine g_iload_n 1 (hd := dX0_hasWire_0) (C := hX) rfl rfl ?_
  refine g_if_lt 16 (hd := dX0_hasWire_1) (C := hX) (by decide) (fun c_1 => ?_) (fun c_1 => ?_)
  · refine g_iconst (v := nI 0) hX dX0_hasWire_16 (by decide) ?_
    exact (hret (nI 0) _ _ (by first | exact Or.inr ⟨rfl, gv_lo c_1⟩ | exact Or.inl ⟨rfl, gv_mk (by omega) c_1 c_9⟩ | exact Or.inr ⟨rfl, gv_hi (by omega) c_9⟩)).2.2.1 _ rfl rfl (by decide) dX0_hasWire_17
  · refine g_iload_n 1 (hd := dX0_hasWire_4) (C := hX) rfl rfl ?_
    refine g_aload_n 0 (hd := dX0_hasWire_5) (C := hX) rfl rfl ?_
    refine g_callV (rest := [.int w]) hX (c_X0_wires l D cC cI cJ cO h k f s b) ok_X0_wires rfl 0 rfl rfl (fun _ => rfl) (hd := dX0_hasWire_6) gX0_hasWire_X0_wires ⟨by decide, by decide⟩ rfl (Nat.le_of_ble_eq_true rfl) ⟨Nat.zero_le _, Nat.zero_le _⟩ [0, 1, 2, 3] (by decide) rfl rfl ?_
    intro r_6 e_6
    subst e_6
    show GW X [(h, .inr (0, [.ref k, .ref f, .ref s, .int (nI (b 0)), .int (nI (b 1)), .int (nI (b 2)), .int (nI (b 3)), .int (nI (b 4)), .int (nI (b 5))])), (k, .inl (cI, 24, .inl (fun j_ => nI (b (6 + 3 * j_))))), (f, .inl (cI, 24, .inl (fun j_ => nI (b (7 + 3 * j_))))), (s, .inl (cI, 24, .inl (fun j_ => nI (b (8 + 3 * j_)))))] [(0, .ref h), (1, .int w)] [.int (nI (b 0 + b 1)), .int w] 9 0 0
    refine g_icmp_ge 16 (hd := dX0_hasWire_9) (C := hX) (by decide) (fun c_9 => ?_) (fun c_9 => ?_)
    · refine g_iconst (v := nI 0) hX dX0_hasWire_16 (by decide) ?_
      exact (hret (nI 0) _ _ (by first | exact Or.inr ⟨rfl, gv_lo c_1⟩ | exact Or.inl ⟨rfl, gv_mk (by omega) c_1 c_9⟩ | exact Or.inr ⟨rfl, gv_hi (by omega) c_9⟩)).2.2.1 _ rfl rfl (by decide) dX0_hasWire_17
    · refine g_iconst (v := nI 1) hX dX0_hasWire_12 (by decide) ?_
      refine g_goto 17 (hd := dX0_hasWire_13) (C := hX) (by decide) ?_
      exact (hret (nI 1) _ _ (by first | exact Or.inr ⟨rfl, gv_lo c_1⟩ | exact Or.inl ⟨rfl, gv_mk (by omega) c_1 c_9⟩ | exact Or.inr ⟨rfl, gv_hi (by omega) c_9⟩)).2.2.1 _ rfl rfl (by decide) dX0_hasWire_17

theorem in_X0_hasStuck_0 : ∀ w ∈ wsX00, w ∈ wsX0_hasStuck := fun _ h => List.mem_cons_of_mem _ (List.mem_append_right _ h)
theorem ok_X0_hasStuck : gOK yX0_hasStuck wsX0_hasStuck ({ frames := 1, cells := 0, slots := 0, locals := 20 }) 2 1 := ⟨⟨_, _, _, rfl⟩, rfl, rfl, by decide, by decide, by decide +kernel⟩
set_option maxRecDepth 100000 in
set_option maxHeartbeats 4000000 in
theorem c_X0_hasStuck (l : Launch) (D : va_G) (cC cI cJ cO : ClassId) (h : Nat) (k : Nat) (f : Nat) (s : Nat) (b : Nat → Nat) (w : Int32) (h0 : b 0 ≤ 8) (h1 : b 1 ≤ 24) : CM (S := Int32) l D (tyL cC cI cJ cO) yX0_hasStuck wsX0_hasStuck ({ frames := 1, cells := 0, slots := 0, locals := 20 }) [.ref h, .int w] [(h, .inr (0, [.ref k, .ref f, .ref s, .int (nI (b 0)), .int (nI (b 1)), .int (nI (b 2)), .int (nI (b 3)), .int (nI (b 4)), .int (nI (b 5))])), (k, .inl (cI, 24, .inl (fun j_ => nI (b (6 + 3 * j_))))), (f, .inl (cI, 24, .inl (fun j_ => nI (b (7 + 3 * j_))))), (s, .inl (cI, 24, .inl (fun j_ => nI (b (8 + 3 * j_)))))] (fun r => some (.int r)) (fun r => isB r (vp_in w (2 * (b 0 + b 1)))) (fun u_ => [(h, .inr (0, [.ref k, .ref f, .ref s, .int (nI (b 0)), .int (nI (b 1)), .int (nI (b 2)), .int (nI (b 3)), .int (nI (b 4)), .int (nI (b 5))])), (k, .inl (cI, 24, .inl (fun j_ => nI (b (6 + 3 * j_))))), (f, .inl (cI, 24, .inl (fun j_ => nI (b (7 + 3 * j_))))), (s, .inl (cI, 24, .inl (fun j_ => nI (b (8 + 3 * j_)))))]) := by
  refine CM_in (cc := cX0_hasStuck) (maxL := 2) (ret := (some .boolean)) (by decide) rfl (Nat.le_of_ble_eq_true rfl) ?_
  intro X hX hret
  show GW X [(h, .inr (0, [.ref k, .ref f, .ref s, .int (nI (b 0)), .int (nI (b 1)), .int (nI (b 2)), .int (nI (b 3)), .int (nI (b 4)), .int (nI (b 5))])), (k, .inl (cI, 24, .inl (fun j_ => nI (b (6 + 3 * j_))))), (f, .inl (cI, 24, .inl (fun j_ => nI (b (7 + 3 * j_))))), (s, .inl (cI, 24, .inl (fun j_ => nI (b (8 + 3 * j_)))))] [(0, .ref h), (1, .int w)] [] 0 0 0
  refine g_iload_n 1 (hd := dX0_hasStuck_0) (C := hX) rfl rfl ?_
  refine g_if_lt 18 (hd := dX0_hasStuck_1) (C := hX) (by decide) (fun c_1 => ?_) (fun c_1 => ?_)
  · refine g_iconst (v := nI 0) hX dX0_hasStuck_18 (by decide) ?_
    exact (hret (nI 0) _ _ (by first | exact Or.inr ⟨rfl, gv_lo c_1⟩ | exact Or.inl ⟨rfl, gv_mk (by omega) c_1 c_11⟩ | exact Or.inr ⟨rfl, gv_hi (by omega) c_11⟩)).2.2.1 _ rfl rfl (by decide) dX0_hasStuck_19
  · refine g_iload_n 1 (hd := dX0_hasStuck_4) (C := hX) rfl rfl ?_
    refine g_iconst (v := nI 2) hX dX0_hasStuck_5 (by decide) ?_
    refine g_aload_n 0 (hd := dX0_hasStuck_6) (C := hX) rfl rfl ?_
    refine g_callV (rest := [.int (nI 2), .int w]) hX (c_X0_wires l D cC cI cJ cO h k f s b) ok_X0_wires rfl 0 rfl rfl (fun _ => rfl) (hd := dX0_hasStuck_7) gX0_hasStuck_X0_wires ⟨by decide, by decide⟩ rfl (Nat.le_of_ble_eq_true rfl) ⟨Nat.zero_le _, Nat.zero_le _⟩ [0, 1, 2, 3] (by decide) rfl rfl ?_
    intro r_7 e_7
    subst e_7
    show GW X [(h, .inr (0, [.ref k, .ref f, .ref s, .int (nI (b 0)), .int (nI (b 1)), .int (nI (b 2)), .int (nI (b 3)), .int (nI (b 4)), .int (nI (b 5))])), (k, .inl (cI, 24, .inl (fun j_ => nI (b (6 + 3 * j_))))), (f, .inl (cI, 24, .inl (fun j_ => nI (b (7 + 3 * j_))))), (s, .inl (cI, 24, .inl (fun j_ => nI (b (8 + 3 * j_)))))] [(0, .ref h), (1, .int w)] [.int (nI (b 0 + b 1)), .int (nI 2), .int w] 10 0 0
    refine g_imul hX dX0_hasStuck_10 ?_
    refine g_top (y := (nI (2 * (b 0 + b 1)))) (pk_mul _ _) ?_
    refine g_icmp_ge 18 (hd := dX0_hasStuck_11) (C := hX) (by decide) (fun c_11 => ?_) (fun c_11 => ?_)
    · refine g_iconst (v := nI 0) hX dX0_hasStuck_18 (by decide) ?_
      exact (hret (nI 0) _ _ (by first | exact Or.inr ⟨rfl, gv_lo c_1⟩ | exact Or.inl ⟨rfl, gv_mk (by omega) c_1 c_11⟩ | exact Or.inr ⟨rfl, gv_hi (by omega) c_11⟩)).2.2.1 _ rfl rfl (by decide) dX0_hasStuck_19
    · refine g_iconst (v := nI 1) hX dX0_hasStuck_14 (by decide) ?_
      refine g_goto 19 (hd := dX0_hasStuck_15) (C := hX) (by decide) ?_
      exact (hret (nI 1) _ _ (by first | exact Or.inr ⟨rfl, gv_lo c_1⟩ | exact Or.inl ⟨rfl, gv_mk (by omega) c_1 c_11⟩ | exact Or.inr ⟨rfl, gv_hi (by omega) c_11⟩)).2.2.1 _ rfl rfl (by decide) dX0_hasStuck_19

theorem in_X0_hasWord_0 : ∀ w ∈ wsX00, w ∈ wsX0_hasWord := fun _ h => List.mem_cons_of_mem _ (List.mem_append_right _ h)
theorem ok_X0_hasWord : gOK yX0_hasWord wsX0_hasWord ({ frames := 1, cells := 0, slots := 0, locals := 20 }) 2 1 := ⟨⟨_, _, _, rfl⟩, rfl, rfl, by decide, by decide, by decide +kernel⟩
set_option maxRecDepth 100000 in
set_option maxHeartbeats 4000000 in
theorem c_X0_hasWord (l : Launch) (D : va_G) (cC cI cJ cO : ClassId) (h : Nat) (k : Nat) (f : Nat) (s : Nat) (b : Nat → Nat) (w : Int32) (h0 : b 0 ≤ 8) : CM (S := Int32) l D (tyL cC cI cJ cO) yX0_hasWord wsX0_hasWord ({ frames := 1, cells := 0, slots := 0, locals := 20 }) [.ref h, .int w] [(h, .inr (0, [.ref k, .ref f, .ref s, .int (nI (b 0)), .int (nI (b 1)), .int (nI (b 2)), .int (nI (b 3)), .int (nI (b 4)), .int (nI (b 5))])), (k, .inl (cI, 24, .inl (fun j_ => nI (b (6 + 3 * j_))))), (f, .inl (cI, 24, .inl (fun j_ => nI (b (7 + 3 * j_))))), (s, .inl (cI, 24, .inl (fun j_ => nI (b (8 + 3 * j_)))))] (fun r => some (.int r)) (fun r => isB r (vp_in w (2 ^ b 0))) (fun u_ => [(h, .inr (0, [.ref k, .ref f, .ref s, .int (nI (b 0)), .int (nI (b 1)), .int (nI (b 2)), .int (nI (b 3)), .int (nI (b 4)), .int (nI (b 5))])), (k, .inl (cI, 24, .inl (fun j_ => nI (b (6 + 3 * j_))))), (f, .inl (cI, 24, .inl (fun j_ => nI (b (7 + 3 * j_))))), (s, .inl (cI, 24, .inl (fun j_ => nI (b (8 + 3 * j_)))))]) := by
  refine CM_in (cc := cX0_hasWord) (maxL := 2) (ret := (some .boolean)) (by decide) rfl (Nat.le_of_ble_eq_true rfl) ?_
  intro X hX hret
  show GW X [(h, .inr (0, [.ref k, .ref f, .ref s, .int (nI (b 0)), .int (nI (b 1)), .int (nI (b 2)), .int (nI (b 3)), .int (nI (b 4)), .int (nI (b 5))])), (k, .inl (cI, 24, .inl (fun j_ => nI (b (6 + 3 * j_))))), (f, .inl (cI, 24, .inl (fun j_ => nI (b (7 + 3 * j_))))), (s, .inl (cI, 24, .inl (fun j_ => nI (b (8 + 3 * j_)))))] [(0, .ref h), (1, .int w)] [] 0 0 0
  refine g_iload_n 1 (hd := dX0_hasWord_0) (C := hX) rfl rfl ?_
  refine g_if_lt 16 (hd := dX0_hasWord_1) (C := hX) (by decide) (fun c_1 => ?_) (fun c_1 => ?_)
  · refine g_iconst (v := nI 0) hX dX0_hasWord_16 (by decide) ?_
    exact (hret (nI 0) _ _ (by have := p2_8 h0; first | exact Or.inr ⟨rfl, gv_lo c_1⟩ | exact Or.inl ⟨rfl, gv_mk (by omega) c_1 c_9⟩ | exact Or.inr ⟨rfl, gv_hi (by omega) c_9⟩)).2.2.1 _ rfl rfl (by decide) dX0_hasWord_17
  · refine g_iload_n 1 (hd := dX0_hasWord_4) (C := hX) rfl rfl ?_
    refine g_aload_n 0 (hd := dX0_hasWord_5) (C := hX) rfl rfl ?_
    refine g_callV (rest := [.int w]) hX (c_X0_wordCount l D cC cI cJ cO h k f s b (by omega)) ok_X0_wordCount rfl 0 rfl rfl (fun _ => rfl) (hd := dX0_hasWord_6) gX0_hasWord_X0_wordCount ⟨by decide, by decide⟩ rfl (Nat.le_of_ble_eq_true rfl) ⟨Nat.zero_le _, Nat.zero_le _⟩ [0, 1, 2, 3] (by decide) rfl rfl ?_
    intro r_6 e_6
    subst e_6
    show GW X [(h, .inr (0, [.ref k, .ref f, .ref s, .int (nI (b 0)), .int (nI (b 1)), .int (nI (b 2)), .int (nI (b 3)), .int (nI (b 4)), .int (nI (b 5))])), (k, .inl (cI, 24, .inl (fun j_ => nI (b (6 + 3 * j_))))), (f, .inl (cI, 24, .inl (fun j_ => nI (b (7 + 3 * j_))))), (s, .inl (cI, 24, .inl (fun j_ => nI (b (8 + 3 * j_)))))] [(0, .ref h), (1, .int w)] [.int (nI (2 ^ b 0)), .int w] 9 0 0
    refine g_icmp_ge 16 (hd := dX0_hasWord_9) (C := hX) (by decide) (fun c_9 => ?_) (fun c_9 => ?_)
    · refine g_iconst (v := nI 0) hX dX0_hasWord_16 (by decide) ?_
      exact (hret (nI 0) _ _ (by have := p2_8 h0; first | exact Or.inr ⟨rfl, gv_lo c_1⟩ | exact Or.inl ⟨rfl, gv_mk (by omega) c_1 c_9⟩ | exact Or.inr ⟨rfl, gv_hi (by omega) c_9⟩)).2.2.1 _ rfl rfl (by decide) dX0_hasWord_17
    · refine g_iconst (v := nI 1) hX dX0_hasWord_12 (by decide) ?_
      refine g_goto 17 (hd := dX0_hasWord_13) (C := hX) (by decide) ?_
      exact (hret (nI 1) _ _ (by have := p2_8 h0; first | exact Or.inr ⟨rfl, gv_lo c_1⟩ | exact Or.inl ⟨rfl, gv_mk (by omega) c_1 c_9⟩ | exact Or.inr ⟨rfl, gv_hi (by omega) c_9⟩)).2.2.1 _ rfl rfl (by decide) dX0_hasWord_17

theorem ok_X0_lowBits : gOK yX0_lowBits wsX0_lowBits ({ frames := 0, cells := 0, slots := 0, locals := 0 }) 1 1 := ⟨⟨_, _, _, rfl⟩, rfl, rfl, by decide, by decide, by decide +kernel⟩
set_option maxRecDepth 100000 in
set_option maxHeartbeats 4000000 in
theorem c_X0_lowBits (l : Launch) (D : va_G) (cC cI cJ cO : ClassId) (n : Nat) (hn : n ≤ 8) : CM (S := Int32) l D (tyL cC cI cJ cO) yX0_lowBits wsX0_lowBits ({ frames := 0, cells := 0, slots := 0, locals := 0 }) [.int (nI n)] [] (fun r => some (.int r)) (fun r => r = nI (2 ^ n - 1)) (fun u_ => []) := by
  refine CM_in (cc := cX0_lowBits) (maxL := 1) (ret := (some .int)) (by decide) rfl (Nat.le_of_ble_eq_true rfl) ?_
  intro X hX hret
  show GW X [] [(0, .int (nI n))] [] 0 0 0
  refine g_iconst (v := nI 1) hX dX0_lowBits_0 (by decide) ?_
  refine g_iload_n 0 (hd := dX0_lowBits_1) (C := hX) rfl rfl ?_
  refine g_ishl hX dX0_lowBits_2 ?_
  refine g_top (y := (nI (2 ^ n))) (gl_shl1 (by omega)) ?_
  refine g_iconst (v := nI 1) hX dX0_lowBits_3 (by decide) ?_
  refine g_isub hX dX0_lowBits_4 ?_
  refine g_top (y := (nI (2 ^ n - 1))) (pk_sub (Nat.one_le_two_pow)) ?_
  exact (hret (nI (2 ^ n - 1)) _ _ rfl).2.1 _ rfl rfl dX0_lowBits_5

theorem in_X0_canHaveGate_0 : ∀ w ∈ wsX00, w ∈ wsX0_canHaveGate := fun _ h => List.mem_cons_of_mem _ (List.mem_append_right _ h)
theorem ok_X0_canHaveGate : gOK yX0_canHaveGate wsX0_canHaveGate ({ frames := 0, cells := 0, slots := 0, locals := 0 }) 6 4 := ⟨⟨_, _, _, rfl⟩, rfl, rfl, by decide, by decide, by decide +kernel⟩
set_option maxRecDepth 100000 in
set_option maxHeartbeats 4000000 in
theorem c_X0_canHaveGate (l : Launch) (D : va_G) (cC cI cJ cO : ClassId) (h : Nat) (k : Nat) (f : Nat) (s : Nat) (b : Nat → Nat) (g : Nat) (kd : Int32) (x : Int32) (y : Int32) (h0 : b 0 ≤ 8) (hg : g ≤ 24) : CM (S := Int32) l D (tyL cC cI cJ cO) yX0_canHaveGate wsX0_canHaveGate ({ frames := 0, cells := 0, slots := 0, locals := 0 }) [.ref h, .int (nI g), .int kd, .int x, .int y] [(h, .inr (0, [.ref k, .ref f, .ref s, .int (nI (b 0)), .int (nI (b 1)), .int (nI (b 2)), .int (nI (b 3)), .int (nI (b 4)), .int (nI (b 5))])), (k, .inl (cI, 24, .inl (fun j_ => nI (b (6 + 3 * j_))))), (f, .inl (cI, 24, .inl (fun j_ => nI (b (7 + 3 * j_))))), (s, .inl (cI, 24, .inl (fun j_ => nI (b (8 + 3 * j_)))))] (fun r => some (.int r)) (fun r => isB r (vp_in kd 6 ∧ vp_in x (b 0 + g) ∧ vp_in y (b 0 + g))) (fun u_ => [(h, .inr (0, [.ref k, .ref f, .ref s, .int (nI (b 0)), .int (nI (b 1)), .int (nI (b 2)), .int (nI (b 3)), .int (nI (b 4)), .int (nI (b 5))])), (k, .inl (cI, 24, .inl (fun j_ => nI (b (6 + 3 * j_))))), (f, .inl (cI, 24, .inl (fun j_ => nI (b (7 + 3 * j_))))), (s, .inl (cI, 24, .inl (fun j_ => nI (b (8 + 3 * j_)))))]) := by
  refine CM_in (cc := cX0_canHaveGate) (maxL := 6) (ret := (some .boolean)) (by decide) rfl (Nat.le_of_ble_eq_true rfl) ?_
  intro X hX hret
  show GW X [(h, .inr (0, [.ref k, .ref f, .ref s, .int (nI (b 0)), .int (nI (b 1)), .int (nI (b 2)), .int (nI (b 3)), .int (nI (b 4)), .int (nI (b 5))])), (k, .inl (cI, 24, .inl (fun j_ => nI (b (6 + 3 * j_))))), (f, .inl (cI, 24, .inl (fun j_ => nI (b (7 + 3 * j_))))), (s, .inl (cI, 24, .inl (fun j_ => nI (b (8 + 3 * j_)))))] [(0, .ref h), (1, .int (nI g)), (2, .int kd), (3, .int x), (4, .int y)] [] 0 0 0
  refine g_aload_n 0 (hd := dX0_canHaveGate_0) (C := hX) rfl rfl ?_
  refine g_get (hd := dX0_canHaveGate_1) (C := hX) 0 3 rfl rfl in_X0_canHaveGate_0 (by decide) (by decide +kernel) rfl ?_
  refine g_iload_n 1 (hd := dX0_canHaveGate_4) (C := hX) rfl rfl ?_
  refine g_iadd hX dX0_canHaveGate_5 ?_
  refine g_top (y := (nI ((b 0) + g))) (nI_add _ _) ?_
  refine g_istore [(0, .ref h), (1, .int (nI g)), (2, .int kd), (3, .int x), (4, .int y), (5, .int (nI ((b 0) + g)))] [1, 2, 3, 4, 5, 0] (hd := dX0_canHaveGate_6) (C := hX) (by decide) rfl ?_
  refine g_iload_n 2 (hd := dX0_canHaveGate_8) (C := hX) rfl rfl ?_
  refine g_if_lt 43 (hd := dX0_canHaveGate_9) (C := hX) (by decide) (fun c_9 => ?_) (fun c_9 => ?_)
  · refine g_iconst (v := nI 0) hX dX0_canHaveGate_43 (by decide) ?_
    exact (hret (nI 0) _ _ (by first | exact Or.inl ⟨rfl, gv_mk6 c_9 c_14, gv_mk (by omega) c_18 c_24, gv_mk (by omega) c_29 c_36⟩ | exact Or.inr ⟨rfl, fun z => gv_hi (by omega) c_36 z.2.2⟩ | exact Or.inr ⟨rfl, fun z => gv_lo c_29 z.2.2⟩ | exact Or.inr ⟨rfl, fun z => gv_hi (by omega) c_24 z.2.1⟩ | exact Or.inr ⟨rfl, fun z => gv_lo c_18 z.2.1⟩ | exact Or.inr ⟨rfl, fun z => gv_hi6 c_14 z.1⟩ | exact Or.inr ⟨rfl, fun z => gv_lo c_9 z.1⟩)).2.2.1 _ rfl rfl (by decide) dX0_canHaveGate_44
  · refine g_iload_n 2 (hd := dX0_canHaveGate_12) (C := hX) rfl rfl ?_
    refine g_iconst (v := nI 5) hX dX0_canHaveGate_13 (by decide) ?_
    refine g_icmp_gt 43 (hd := dX0_canHaveGate_14) (C := hX) (by decide) (fun c_14 => ?_) (fun c_14 => ?_)
    · refine g_iconst (v := nI 0) hX dX0_canHaveGate_43 (by decide) ?_
      exact (hret (nI 0) _ _ (by first | exact Or.inl ⟨rfl, gv_mk6 c_9 c_14, gv_mk (by omega) c_18 c_24, gv_mk (by omega) c_29 c_36⟩ | exact Or.inr ⟨rfl, fun z => gv_hi (by omega) c_36 z.2.2⟩ | exact Or.inr ⟨rfl, fun z => gv_lo c_29 z.2.2⟩ | exact Or.inr ⟨rfl, fun z => gv_hi (by omega) c_24 z.2.1⟩ | exact Or.inr ⟨rfl, fun z => gv_lo c_18 z.2.1⟩ | exact Or.inr ⟨rfl, fun z => gv_hi6 c_14 z.1⟩ | exact Or.inr ⟨rfl, fun z => gv_lo c_9 z.1⟩)).2.2.1 _ rfl rfl (by decide) dX0_canHaveGate_44
    · refine g_iload_n 3 (hd := dX0_canHaveGate_17) (C := hX) rfl rfl ?_
      refine g_if_lt 43 (hd := dX0_canHaveGate_18) (C := hX) (by decide) (fun c_18 => ?_) (fun c_18 => ?_)
      · refine g_iconst (v := nI 0) hX dX0_canHaveGate_43 (by decide) ?_
        exact (hret (nI 0) _ _ (by first | exact Or.inl ⟨rfl, gv_mk6 c_9 c_14, gv_mk (by omega) c_18 c_24, gv_mk (by omega) c_29 c_36⟩ | exact Or.inr ⟨rfl, fun z => gv_hi (by omega) c_36 z.2.2⟩ | exact Or.inr ⟨rfl, fun z => gv_lo c_29 z.2.2⟩ | exact Or.inr ⟨rfl, fun z => gv_hi (by omega) c_24 z.2.1⟩ | exact Or.inr ⟨rfl, fun z => gv_lo c_18 z.2.1⟩ | exact Or.inr ⟨rfl, fun z => gv_hi6 c_14 z.1⟩ | exact Or.inr ⟨rfl, fun z => gv_lo c_9 z.1⟩)).2.2.1 _ rfl rfl (by decide) dX0_canHaveGate_44
      · refine g_iload_n 3 (hd := dX0_canHaveGate_21) (C := hX) rfl rfl ?_
        refine g_iload 5 (hd := dX0_canHaveGate_22) (C := hX) rfl ?_
        refine g_icmp_ge 43 (hd := dX0_canHaveGate_24) (C := hX) (by decide) (fun c_24 => ?_) (fun c_24 => ?_)
        · refine g_iconst (v := nI 0) hX dX0_canHaveGate_43 (by decide) ?_
          exact (hret (nI 0) _ _ (by first | exact Or.inl ⟨rfl, gv_mk6 c_9 c_14, gv_mk (by omega) c_18 c_24, gv_mk (by omega) c_29 c_36⟩ | exact Or.inr ⟨rfl, fun z => gv_hi (by omega) c_36 z.2.2⟩ | exact Or.inr ⟨rfl, fun z => gv_lo c_29 z.2.2⟩ | exact Or.inr ⟨rfl, fun z => gv_hi (by omega) c_24 z.2.1⟩ | exact Or.inr ⟨rfl, fun z => gv_lo c_18 z.2.1⟩ | exact Or.inr ⟨rfl, fun z => gv_hi6 c_14 z.1⟩ | exact Or.inr ⟨rfl, fun z => gv_lo c_9 z.1⟩)).2.2.1 _ rfl rfl (by decide) dX0_canHaveGate_44
        · refine g_iload 4 (hd := dX0_canHaveGate_27) (C := hX) rfl ?_
          refine g_if_lt 43 (hd := dX0_canHaveGate_29) (C := hX) (by decide) (fun c_29 => ?_) (fun c_29 => ?_)
          · refine g_iconst (v := nI 0) hX dX0_canHaveGate_43 (by decide) ?_
            exact (hret (nI 0) _ _ (by first | exact Or.inl ⟨rfl, gv_mk6 c_9 c_14, gv_mk (by omega) c_18 c_24, gv_mk (by omega) c_29 c_36⟩ | exact Or.inr ⟨rfl, fun z => gv_hi (by omega) c_36 z.2.2⟩ | exact Or.inr ⟨rfl, fun z => gv_lo c_29 z.2.2⟩ | exact Or.inr ⟨rfl, fun z => gv_hi (by omega) c_24 z.2.1⟩ | exact Or.inr ⟨rfl, fun z => gv_lo c_18 z.2.1⟩ | exact Or.inr ⟨rfl, fun z => gv_hi6 c_14 z.1⟩ | exact Or.inr ⟨rfl, fun z => gv_lo c_9 z.1⟩)).2.2.1 _ rfl rfl (by decide) dX0_canHaveGate_44
          · refine g_iload 4 (hd := dX0_canHaveGate_32) (C := hX) rfl ?_
            refine g_iload 5 (hd := dX0_canHaveGate_34) (C := hX) rfl ?_
            refine g_icmp_ge 43 (hd := dX0_canHaveGate_36) (C := hX) (by decide) (fun c_36 => ?_) (fun c_36 => ?_)
            · refine g_iconst (v := nI 0) hX dX0_canHaveGate_43 (by decide) ?_
              exact (hret (nI 0) _ _ (by first | exact Or.inl ⟨rfl, gv_mk6 c_9 c_14, gv_mk (by omega) c_18 c_24, gv_mk (by omega) c_29 c_36⟩ | exact Or.inr ⟨rfl, fun z => gv_hi (by omega) c_36 z.2.2⟩ | exact Or.inr ⟨rfl, fun z => gv_lo c_29 z.2.2⟩ | exact Or.inr ⟨rfl, fun z => gv_hi (by omega) c_24 z.2.1⟩ | exact Or.inr ⟨rfl, fun z => gv_lo c_18 z.2.1⟩ | exact Or.inr ⟨rfl, fun z => gv_hi6 c_14 z.1⟩ | exact Or.inr ⟨rfl, fun z => gv_lo c_9 z.1⟩)).2.2.1 _ rfl rfl (by decide) dX0_canHaveGate_44
            · refine g_iconst (v := nI 1) hX dX0_canHaveGate_39 (by decide) ?_
              refine g_goto 44 (hd := dX0_canHaveGate_40) (C := hX) (by decide) ?_
              exact (hret (nI 1) _ _ (by first | exact Or.inl ⟨rfl, gv_mk6 c_9 c_14, gv_mk (by omega) c_18 c_24, gv_mk (by omega) c_29 c_36⟩ | exact Or.inr ⟨rfl, fun z => gv_hi (by omega) c_36 z.2.2⟩ | exact Or.inr ⟨rfl, fun z => gv_lo c_29 z.2.2⟩ | exact Or.inr ⟨rfl, fun z => gv_hi (by omega) c_24 z.2.1⟩ | exact Or.inr ⟨rfl, fun z => gv_lo c_18 z.2.1⟩ | exact Or.inr ⟨rfl, fun z => gv_hi6 c_14 z.1⟩ | exact Or.inr ⟨rfl, fun z => gv_lo c_9 z.1⟩)).2.2.1 _ rfl rfl (by decide) dX0_canHaveGate_44

theorem in_X0_setRails_0 : ∀ w ∈ wsX00, w ∈ wsX0_setRails := fun _ h => List.mem_cons_of_mem _ (List.mem_append_right _ h)
theorem ok_X0_setRails : gOK yX0_setRails wsX0_setRails ({ frames := 0, cells := 0, slots := 0, locals := 0 }) 3 2 := ⟨⟨_, _, _, rfl⟩, rfl, rfl, by decide, by decide, by decide +kernel⟩
set_option maxRecDepth 100000 in
set_option maxHeartbeats 4000000 in
theorem c_X0_setRails (l : Launch) (D : va_G) (cC cI cJ cO : ClassId) (h : Nat) (k : Nat) (f : Nat) (s : Nat) (b : Nat → Nat) (p : Nat) (q : Nat) : CM (S := Unit) l D (tyL cC cI cJ cO) yX0_setRails wsX0_setRails ({ frames := 0, cells := 0, slots := 0, locals := 0 }) [.ref h, .int (nI p), .int (nI q)] [(h, .inr (0, [.ref k, .ref f, .ref s, .int (nI (b 0)), .int (nI (b 1)), .int (nI (b 2)), .int (nI (b 3)), .int (nI (b 4)), .int (nI (b 5))])), (k, .inl (cI, 24, .inl (fun j_ => nI (b (6 + 3 * j_))))), (f, .inl (cI, 24, .inl (fun j_ => nI (b (7 + 3 * j_))))), (s, .inl (cI, 24, .inl (fun j_ => nI (b (8 + 3 * j_)))))] (fun _ => none) (fun _ => True) (fun u_ => [(h, .inr (0, [.ref k, .ref f, .ref s, .int (nI ((srC b p q) 0)), .int (nI ((srC b p q) 1)), .int (nI ((srC b p q) 2)), .int (nI ((srC b p q) 3)), .int (nI ((srC b p q) 4)), .int (nI ((srC b p q) 5))])), (k, .inl (cI, 24, .inl (fun j_ => nI ((srC b p q) (6 + 3 * j_))))), (f, .inl (cI, 24, .inl (fun j_ => nI ((srC b p q) (7 + 3 * j_))))), (s, .inl (cI, 24, .inl (fun j_ => nI ((srC b p q) (8 + 3 * j_)))))]) := by
  refine CM_in (cc := cX0_setRails) (maxL := 3) (ret := none) (by decide) rfl (Nat.le_of_ble_eq_true rfl) ?_
  intro X hX hret
  show GW X [(h, .inr (0, [.ref k, .ref f, .ref s, .int (nI (b 0)), .int (nI (b 1)), .int (nI (b 2)), .int (nI (b 3)), .int (nI (b 4)), .int (nI (b 5))])), (k, .inl (cI, 24, .inl (fun j_ => nI (b (6 + 3 * j_))))), (f, .inl (cI, 24, .inl (fun j_ => nI (b (7 + 3 * j_))))), (s, .inl (cI, 24, .inl (fun j_ => nI (b (8 + 3 * j_)))))] [(0, .ref h), (1, .int (nI p)), (2, .int (nI q))] [] 0 0 0
  refine g_aload_n 0 (hd := dX0_setRails_0) (C := hX) rfl rfl ?_
  refine g_iload_n 1 (hd := dX0_setRails_1) (C := hX) rfl rfl ?_
  refine g_put (hd := dX0_setRails_2) (C := hX) 0 5 [(h, .inr (0, [.ref k, .ref f, .ref s, .int (nI (b 0)), .int (nI (b 1)), .int (nI p), .int (nI (b 3)), .int (nI (b 4)), .int (nI (b 5))])), (k, .inl (cI, 24, .inl (fun j_ => nI (b (6 + 3 * j_))))), (f, .inl (cI, 24, .inl (fun j_ => nI (b (7 + 3 * j_))))), (s, .inl (cI, 24, .inl (fun j_ => nI (b (8 + 3 * j_)))))] rfl rfl in_X0_setRails_0 tyX0_ok nmX0 (by decide) (by decide +kernel) rfl rfl rfl (Nat.le_of_ble_eq_true rfl) rfl ?_
  refine g_aload_n 0 (hd := dX0_setRails_5) (C := hX) rfl rfl ?_
  refine g_iload_n 2 (hd := dX0_setRails_6) (C := hX) rfl rfl ?_
  refine g_put (hd := dX0_setRails_7) (C := hX) 0 6 [(h, .inr (0, [.ref k, .ref f, .ref s, .int (nI (b 0)), .int (nI (b 1)), .int (nI p), .int (nI q), .int (nI (b 4)), .int (nI (b 5))])), (k, .inl (cI, 24, .inl (fun j_ => nI (b (6 + 3 * j_))))), (f, .inl (cI, 24, .inl (fun j_ => nI (b (7 + 3 * j_))))), (s, .inl (cI, 24, .inl (fun j_ => nI (b (8 + 3 * j_)))))] rfl rfl in_X0_setRails_0 tyX0_ok nmX0 (by decide) (by decide +kernel) rfl rfl rfl (Nat.le_of_ble_eq_true rfl) rfl ?_
  refine g_w [(h, .inr (0, [.ref k, .ref f, .ref s, .int (nI ((srC b p q) 0)), .int (nI ((srC b p q) 1)), .int (nI ((srC b p q) 2)), .int (nI ((srC b p q) 3)), .int (nI ((srC b p q) 4)), .int (nI ((srC b p q) 5))])), (k, .inl (cI, 24, .inl (fun j_ => nI ((srC b p q) (6 + 3 * j_))))), (f, .inl (cI, 24, .inl (fun j_ => nI ((srC b p q) (7 + 3 * j_))))), (s, .inl (cI, 24, .inl (fun j_ => nI ((srC b p q) (8 + 3 * j_)))))] (by simp only [srC_0, srC_1, srC_2, srC_3, srC_4, srC_5, srC_k, srC_f, srC_s]) ?_
  exact (hret () _ _ trivial).1 rfl rfl dX0_setRails_10

theorem in_X0_setCode_0 : ∀ w ∈ wsX00, w ∈ wsX0_setCode := fun _ h => List.mem_cons_of_mem _ (List.mem_append_right _ h)
theorem ok_X0_setCode : gOK yX0_setCode wsX0_setCode ({ frames := 0, cells := 0, slots := 0, locals := 0 }) 3 2 := ⟨⟨_, _, _, rfl⟩, rfl, rfl, by decide, by decide, by decide +kernel⟩
set_option maxRecDepth 100000 in
set_option maxHeartbeats 4000000 in
theorem c_X0_setCode (l : Launch) (D : va_G) (cC cI cJ cO : ClassId) (h : Nat) (k : Nat) (f : Nat) (s : Nat) (b : Nat → Nat) (p : Nat) (q : Nat) : CM (S := Unit) l D (tyL cC cI cJ cO) yX0_setCode wsX0_setCode ({ frames := 0, cells := 0, slots := 0, locals := 0 }) [.ref h, .int (nI p), .int (nI q)] [(h, .inr (0, [.ref k, .ref f, .ref s, .int (nI (b 0)), .int (nI (b 1)), .int (nI (b 2)), .int (nI (b 3)), .int (nI (b 4)), .int (nI (b 5))])), (k, .inl (cI, 24, .inl (fun j_ => nI (b (6 + 3 * j_))))), (f, .inl (cI, 24, .inl (fun j_ => nI (b (7 + 3 * j_))))), (s, .inl (cI, 24, .inl (fun j_ => nI (b (8 + 3 * j_)))))] (fun _ => none) (fun _ => True) (fun u_ => [(h, .inr (0, [.ref k, .ref f, .ref s, .int (nI ((scC b p q) 0)), .int (nI ((scC b p q) 1)), .int (nI ((scC b p q) 2)), .int (nI ((scC b p q) 3)), .int (nI ((scC b p q) 4)), .int (nI ((scC b p q) 5))])), (k, .inl (cI, 24, .inl (fun j_ => nI ((scC b p q) (6 + 3 * j_))))), (f, .inl (cI, 24, .inl (fun j_ => nI ((scC b p q) (7 + 3 * j_))))), (s, .inl (cI, 24, .inl (fun j_ => nI ((scC b p q) (8 + 3 * j_)))))]) := by
  refine CM_in (cc := cX0_setCode) (maxL := 3) (ret := none) (by decide) rfl (Nat.le_of_ble_eq_true rfl) ?_
  intro X hX hret
  show GW X [(h, .inr (0, [.ref k, .ref f, .ref s, .int (nI (b 0)), .int (nI (b 1)), .int (nI (b 2)), .int (nI (b 3)), .int (nI (b 4)), .int (nI (b 5))])), (k, .inl (cI, 24, .inl (fun j_ => nI (b (6 + 3 * j_))))), (f, .inl (cI, 24, .inl (fun j_ => nI (b (7 + 3 * j_))))), (s, .inl (cI, 24, .inl (fun j_ => nI (b (8 + 3 * j_)))))] [(0, .ref h), (1, .int (nI p)), (2, .int (nI q))] [] 0 0 0
  refine g_aload_n 0 (hd := dX0_setCode_0) (C := hX) rfl rfl ?_
  refine g_iload_n 1 (hd := dX0_setCode_1) (C := hX) rfl rfl ?_
  refine g_put (hd := dX0_setCode_2) (C := hX) 0 7 [(h, .inr (0, [.ref k, .ref f, .ref s, .int (nI (b 0)), .int (nI (b 1)), .int (nI (b 2)), .int (nI (b 3)), .int (nI p), .int (nI (b 5))])), (k, .inl (cI, 24, .inl (fun j_ => nI (b (6 + 3 * j_))))), (f, .inl (cI, 24, .inl (fun j_ => nI (b (7 + 3 * j_))))), (s, .inl (cI, 24, .inl (fun j_ => nI (b (8 + 3 * j_)))))] rfl rfl in_X0_setCode_0 tyX0_ok nmX0 (by decide) (by decide +kernel) rfl rfl rfl (Nat.le_of_ble_eq_true rfl) rfl ?_
  refine g_aload_n 0 (hd := dX0_setCode_5) (C := hX) rfl rfl ?_
  refine g_iload_n 2 (hd := dX0_setCode_6) (C := hX) rfl rfl ?_
  refine g_put (hd := dX0_setCode_7) (C := hX) 0 8 [(h, .inr (0, [.ref k, .ref f, .ref s, .int (nI (b 0)), .int (nI (b 1)), .int (nI (b 2)), .int (nI (b 3)), .int (nI p), .int (nI q)])), (k, .inl (cI, 24, .inl (fun j_ => nI (b (6 + 3 * j_))))), (f, .inl (cI, 24, .inl (fun j_ => nI (b (7 + 3 * j_))))), (s, .inl (cI, 24, .inl (fun j_ => nI (b (8 + 3 * j_)))))] rfl rfl in_X0_setCode_0 tyX0_ok nmX0 (by decide) (by decide +kernel) rfl rfl rfl (Nat.le_of_ble_eq_true rfl) rfl ?_
  refine g_w [(h, .inr (0, [.ref k, .ref f, .ref s, .int (nI ((scC b p q) 0)), .int (nI ((scC b p q) 1)), .int (nI ((scC b p q) 2)), .int (nI ((scC b p q) 3)), .int (nI ((scC b p q) 4)), .int (nI ((scC b p q) 5))])), (k, .inl (cI, 24, .inl (fun j_ => nI ((scC b p q) (6 + 3 * j_))))), (f, .inl (cI, 24, .inl (fun j_ => nI ((scC b p q) (7 + 3 * j_))))), (s, .inl (cI, 24, .inl (fun j_ => nI ((scC b p q) (8 + 3 * j_)))))] (by simp only [scC_0, scC_1, scC_2, scC_3, scC_4, scC_5, scC_k, scC_f, scC_s]) ?_
  exact (hret () _ _ trivial).1 rfl rfl dX0_setCode_10

theorem in_X0_setGate_0 : ∀ w ∈ wsX00, w ∈ wsX0_setGate := fun _ h => List.mem_cons_of_mem _ (List.mem_append_right _ h)
theorem ok_X0_setGate : gOK yX0_setGate wsX0_setGate ({ frames := 0, cells := 0, slots := 0, locals := 0 }) 5 4 := ⟨⟨_, _, _, rfl⟩, rfl, rfl, by decide, by decide, by decide +kernel⟩
set_option maxRecDepth 100000 in
set_option maxHeartbeats 4000000 in
theorem c_X0_setGate (l : Launch) (D : va_G) (cC cI cJ cO : ClassId) (h : Nat) (k : Nat) (f : Nat) (s : Nat) (b : Nat → Nat) (g : Nat) (p : Nat) (x : Nat) (y : Nat) (hg : g < 24) : CM (S := Unit) l D (tyL cC cI cJ cO) yX0_setGate wsX0_setGate ({ frames := 0, cells := 0, slots := 0, locals := 0 }) [.ref h, .int (nI g), .int (nI p), .int (nI x), .int (nI y)] [(h, .inr (0, [.ref k, .ref f, .ref s, .int (nI (b 0)), .int (nI (b 1)), .int (nI (b 2)), .int (nI (b 3)), .int (nI (b 4)), .int (nI (b 5))])), (k, .inl (cI, 24, .inl (fun j_ => nI (b (6 + 3 * j_))))), (f, .inl (cI, 24, .inl (fun j_ => nI (b (7 + 3 * j_))))), (s, .inl (cI, 24, .inl (fun j_ => nI (b (8 + 3 * j_)))))] (fun _ => none) (fun _ => True) (fun u_ => [(h, .inr (0, [.ref k, .ref f, .ref s, .int (nI ((sgC b g p x y) 0)), .int (nI ((sgC b g p x y) 1)), .int (nI ((sgC b g p x y) 2)), .int (nI ((sgC b g p x y) 3)), .int (nI ((sgC b g p x y) 4)), .int (nI ((sgC b g p x y) 5))])), (k, .inl (cI, 24, .inl (fun j_ => nI ((sgC b g p x y) (6 + 3 * j_))))), (f, .inl (cI, 24, .inl (fun j_ => nI ((sgC b g p x y) (7 + 3 * j_))))), (s, .inl (cI, 24, .inl (fun j_ => nI ((sgC b g p x y) (8 + 3 * j_)))))]) := by
  refine CM_in (cc := cX0_setGate) (maxL := 5) (ret := none) (by decide) rfl (Nat.le_of_ble_eq_true rfl) ?_
  intro X hX hret
  show GW X [(h, .inr (0, [.ref k, .ref f, .ref s, .int (nI (b 0)), .int (nI (b 1)), .int (nI (b 2)), .int (nI (b 3)), .int (nI (b 4)), .int (nI (b 5))])), (k, .inl (cI, 24, .inl (fun j_ => nI (b (6 + 3 * j_))))), (f, .inl (cI, 24, .inl (fun j_ => nI (b (7 + 3 * j_))))), (s, .inl (cI, 24, .inl (fun j_ => nI (b (8 + 3 * j_)))))] [(0, .ref h), (1, .int (nI g)), (2, .int (nI p)), (3, .int (nI x)), (4, .int (nI y))] [] 0 0 0
  refine g_aload_n 0 (hd := dX0_setGate_0) (C := hX) rfl rfl ?_
  refine g_get (hd := dX0_setGate_1) (C := hX) 0 0 rfl rfl in_X0_setGate_0 (by decide) (by decide +kernel) rfl ?_
  refine g_iload_n 1 (hd := dX0_setGate_4) (C := hX) rfl rfl ?_
  refine g_iload_n 2 (hd := dX0_setGate_5) (C := hX) rfl rfl ?_
  refine g_iast (hd := dX0_setGate_6) (C := hX) 1 1 [(h, .inr (0, [.ref k, .ref f, .ref s, .int (nI (b 0)), .int (nI (b 1)), .int (nI (b 2)), .int (nI (b 3)), .int (nI (b 4)), .int (nI (b 5))])), (k, .inl (cI, 24, .inl (fun j_ => nI ((nup (fun j_ => b (6 + 3 * j_)) g p) j_)))), (f, .inl (cI, 24, .inl (fun j_ => nI (b (7 + 3 * j_))))), (s, .inl (cI, 24, .inl (fun j_ => nI (b (8 + 3 * j_)))))] rfl rfl (by omega) (by decide) (by rw [nup_I]; rfl) ?_
  refine g_aload_n 0 (hd := dX0_setGate_7) (C := hX) rfl rfl ?_
  refine g_get (hd := dX0_setGate_8) (C := hX) 0 1 rfl rfl in_X0_setGate_0 (by decide) (by decide +kernel) rfl ?_
  refine g_iload_n 1 (hd := dX0_setGate_11) (C := hX) rfl rfl ?_
  refine g_iload_n 3 (hd := dX0_setGate_12) (C := hX) rfl rfl ?_
  refine g_iast (hd := dX0_setGate_13) (C := hX) 2 1 [(h, .inr (0, [.ref k, .ref f, .ref s, .int (nI (b 0)), .int (nI (b 1)), .int (nI (b 2)), .int (nI (b 3)), .int (nI (b 4)), .int (nI (b 5))])), (k, .inl (cI, 24, .inl (fun j_ => nI ((nup (fun j_ => b (6 + 3 * j_)) g p) j_)))), (f, .inl (cI, 24, .inl (fun j_ => nI ((nup (fun j_ => b (7 + 3 * j_)) g x) j_)))), (s, .inl (cI, 24, .inl (fun j_ => nI (b (8 + 3 * j_)))))] rfl rfl (by omega) (by decide) (by rw [nup_I]; rfl) ?_
  refine g_aload_n 0 (hd := dX0_setGate_14) (C := hX) rfl rfl ?_
  refine g_get (hd := dX0_setGate_15) (C := hX) 0 2 rfl rfl in_X0_setGate_0 (by decide) (by decide +kernel) rfl ?_
  refine g_iload_n 1 (hd := dX0_setGate_18) (C := hX) rfl rfl ?_
  refine g_iload 4 (hd := dX0_setGate_19) (C := hX) rfl ?_
  refine g_iast (hd := dX0_setGate_21) (C := hX) 3 1 [(h, .inr (0, [.ref k, .ref f, .ref s, .int (nI (b 0)), .int (nI (b 1)), .int (nI (b 2)), .int (nI (b 3)), .int (nI (b 4)), .int (nI (b 5))])), (k, .inl (cI, 24, .inl (fun j_ => nI ((nup (fun j_ => b (6 + 3 * j_)) g p) j_)))), (f, .inl (cI, 24, .inl (fun j_ => nI ((nup (fun j_ => b (7 + 3 * j_)) g x) j_)))), (s, .inl (cI, 24, .inl (fun j_ => nI ((nup (fun j_ => b (8 + 3 * j_)) g y) j_))))] rfl rfl (by omega) (by decide) (by rw [nup_I]; rfl) ?_
  refine g_w [(h, .inr (0, [.ref k, .ref f, .ref s, .int (nI ((sgC b g p x y) 0)), .int (nI ((sgC b g p x y) 1)), .int (nI ((sgC b g p x y) 2)), .int (nI ((sgC b g p x y) 3)), .int (nI ((sgC b g p x y) 4)), .int (nI ((sgC b g p x y) 5))])), (k, .inl (cI, 24, .inl (fun j_ => nI ((sgC b g p x y) (6 + 3 * j_))))), (f, .inl (cI, 24, .inl (fun j_ => nI ((sgC b g p x y) (7 + 3 * j_))))), (s, .inl (cI, 24, .inl (fun j_ => nI ((sgC b g p x y) (8 + 3 * j_)))))] (by simp only [sgC_0, sgC_1, sgC_2, sgC_3, sgC_4, sgC_5, sgC_k, sgC_f, sgC_s]) ?_
  exact (hret () _ _ trivial).1 rfl rfl dX0_setGate_22

theorem in_X0_canHaveCode_0 : ∀ w ∈ wsX00, w ∈ wsX0_canHaveCode := fun _ h => List.mem_cons_of_mem _ (List.mem_append_right _ h)
theorem ok_X0_canHaveCode : gOK yX0_canHaveCode wsX0_canHaveCode ({ frames := 0, cells := 0, slots := 0, locals := 0 }) 3 2 := ⟨⟨_, _, _, rfl⟩, rfl, rfl, by decide, by decide, by decide +kernel⟩
set_option maxRecDepth 100000 in
set_option maxHeartbeats 4000000 in
theorem c_X0_canHaveCode (l : Launch) (D : va_G) (cC cI cJ cO : ClassId) (h : Nat) (k : Nat) (f : Nat) (s : Nat) (b : Nat → Nat) (kd : Int32) (nm : Int32) (h0 : b 0 ≤ 8) : CM (S := Int32) l D (tyL cC cI cJ cO) yX0_canHaveCode wsX0_canHaveCode ({ frames := 0, cells := 0, slots := 0, locals := 0 }) [.ref h, .int kd, .int nm] [(h, .inr (0, [.ref k, .ref f, .ref s, .int (nI (b 0)), .int (nI (b 1)), .int (nI (b 2)), .int (nI (b 3)), .int (nI (b 4)), .int (nI (b 5))])), (k, .inl (cI, 24, .inl (fun j_ => nI (b (6 + 3 * j_))))), (f, .inl (cI, 24, .inl (fun j_ => nI (b (7 + 3 * j_))))), (s, .inl (cI, 24, .inl (fun j_ => nI (b (8 + 3 * j_)))))] (fun r => some (.int r)) (fun r => isB r (cdI (b 0) kd nm)) (fun u_ => [(h, .inr (0, [.ref k, .ref f, .ref s, .int (nI (b 0)), .int (nI (b 1)), .int (nI (b 2)), .int (nI (b 3)), .int (nI (b 4)), .int (nI (b 5))])), (k, .inl (cI, 24, .inl (fun j_ => nI (b (6 + 3 * j_))))), (f, .inl (cI, 24, .inl (fun j_ => nI (b (7 + 3 * j_))))), (s, .inl (cI, 24, .inl (fun j_ => nI (b (8 + 3 * j_)))))]) := by
  refine CM_in (cc := cX0_canHaveCode) (maxL := 3) (ret := (some .boolean)) (by decide) rfl (Nat.le_of_ble_eq_true rfl) ?_
  intro X hX hret
  show GW X [(h, .inr (0, [.ref k, .ref f, .ref s, .int (nI (b 0)), .int (nI (b 1)), .int (nI (b 2)), .int (nI (b 3)), .int (nI (b 4)), .int (nI (b 5))])), (k, .inl (cI, 24, .inl (fun j_ => nI (b (6 + 3 * j_))))), (f, .inl (cI, 24, .inl (fun j_ => nI (b (7 + 3 * j_))))), (s, .inl (cI, 24, .inl (fun j_ => nI (b (8 + 3 * j_)))))] [(0, .ref h), (1, .int kd), (2, .int nm)] [] 0 0 0
  refine g_iload_n 1 (hd := dX0_canHaveCode_0) (C := hX) rfl rfl ?_
  rcases sw_raw kd 3 (by decide) with ⟨j_1, hj_1, ej_1⟩ | o_1
  · rcases (show j_1 = 0 ∨ j_1 = 1 ∨ j_1 = 2 ∨ j_1 = 3 by omega) with rfl | rfl | rfl | rfl
    · subst ej_1
      refine g_tableIn 32 (hd := dX0_canHaveCode_1) (C := hX) (by decide) (by decide) rfl (by decide) ?_
      refine g_iload_n 2 (hd := dX0_canHaveCode_32) (C := hX) rfl rfl ?_
      refine g_if_ne 40 (hd := dX0_canHaveCode_33) (C := hX) (by decide) (fun c_33 => ?_) (fun c_33 => ?_)
      · refine g_iconst (v := nI 0) hX dX0_canHaveCode_40 (by decide) ?_
        exact (hret (nI 0) _ _ (by first | exact Or.inl ⟨rfl, cd0 c_33⟩ | exact Or.inr ⟨rfl, cd0n c_33⟩ | exact Or.inl ⟨rfl, cd12 (by decide) h0 c_43 c_51⟩ | exact Or.inr ⟨rfl, cd12hi (by decide) h0 c_51⟩ | exact Or.inr ⟨rfl, cd12lo (by decide) h0 c_43⟩ | exact Or.inl ⟨rfl, cd3 c_61 c_70⟩ | exact Or.inr ⟨rfl, cd3m c_70⟩ | exact Or.inr ⟨rfl, cd3n c_61⟩ | exact Or.inr ⟨rfl, cdo o_1⟩)).2.2.1 _ rfl rfl (by decide) dX0_canHaveCode_41
      · refine g_iconst (v := nI 1) hX dX0_canHaveCode_36 (by decide) ?_
        refine g_goto 41 (hd := dX0_canHaveCode_37) (C := hX) (by decide) ?_
        exact (hret (nI 1) _ _ (by first | exact Or.inl ⟨rfl, cd0 c_33⟩ | exact Or.inr ⟨rfl, cd0n c_33⟩ | exact Or.inl ⟨rfl, cd12 (by decide) h0 c_43 c_51⟩ | exact Or.inr ⟨rfl, cd12hi (by decide) h0 c_51⟩ | exact Or.inr ⟨rfl, cd12lo (by decide) h0 c_43⟩ | exact Or.inl ⟨rfl, cd3 c_61 c_70⟩ | exact Or.inr ⟨rfl, cd3m c_70⟩ | exact Or.inr ⟨rfl, cd3n c_61⟩ | exact Or.inr ⟨rfl, cdo o_1⟩)).2.2.1 _ rfl rfl (by decide) dX0_canHaveCode_41
    · subst ej_1
      refine g_tableIn 42 (hd := dX0_canHaveCode_1) (C := hX) (by decide) (by decide) rfl (by decide) ?_
      refine g_iload_n 2 (hd := dX0_canHaveCode_42) (C := hX) rfl rfl ?_
      refine g_if_lt 58 (hd := dX0_canHaveCode_43) (C := hX) (by decide) (fun c_43 => ?_) (fun c_43 => ?_)
      · refine g_iconst (v := nI 0) hX dX0_canHaveCode_58 (by decide) ?_
        exact (hret (nI 0) _ _ (by first | exact Or.inl ⟨rfl, cd0 c_33⟩ | exact Or.inr ⟨rfl, cd0n c_33⟩ | exact Or.inl ⟨rfl, cd12 (by decide) h0 c_43 c_51⟩ | exact Or.inr ⟨rfl, cd12hi (by decide) h0 c_51⟩ | exact Or.inr ⟨rfl, cd12lo (by decide) h0 c_43⟩ | exact Or.inl ⟨rfl, cd3 c_61 c_70⟩ | exact Or.inr ⟨rfl, cd3m c_70⟩ | exact Or.inr ⟨rfl, cd3n c_61⟩ | exact Or.inr ⟨rfl, cdo o_1⟩)).2.2.1 _ rfl rfl (by decide) dX0_canHaveCode_59
      · refine g_iload_n 2 (hd := dX0_canHaveCode_46) (C := hX) rfl rfl ?_
        refine g_aload_n 0 (hd := dX0_canHaveCode_47) (C := hX) rfl rfl ?_
        refine g_get (hd := dX0_canHaveCode_48) (C := hX) 0 3 rfl rfl in_X0_canHaveCode_0 (by decide) (by decide +kernel) rfl ?_
        refine g_icmp_gt 58 (hd := dX0_canHaveCode_51) (C := hX) (by decide) (fun c_51 => ?_) (fun c_51 => ?_)
        · refine g_iconst (v := nI 0) hX dX0_canHaveCode_58 (by decide) ?_
          exact (hret (nI 0) _ _ (by first | exact Or.inl ⟨rfl, cd0 c_33⟩ | exact Or.inr ⟨rfl, cd0n c_33⟩ | exact Or.inl ⟨rfl, cd12 (by decide) h0 c_43 c_51⟩ | exact Or.inr ⟨rfl, cd12hi (by decide) h0 c_51⟩ | exact Or.inr ⟨rfl, cd12lo (by decide) h0 c_43⟩ | exact Or.inl ⟨rfl, cd3 c_61 c_70⟩ | exact Or.inr ⟨rfl, cd3m c_70⟩ | exact Or.inr ⟨rfl, cd3n c_61⟩ | exact Or.inr ⟨rfl, cdo o_1⟩)).2.2.1 _ rfl rfl (by decide) dX0_canHaveCode_59
        · refine g_iconst (v := nI 1) hX dX0_canHaveCode_54 (by decide) ?_
          refine g_goto 59 (hd := dX0_canHaveCode_55) (C := hX) (by decide) ?_
          exact (hret (nI 1) _ _ (by first | exact Or.inl ⟨rfl, cd0 c_33⟩ | exact Or.inr ⟨rfl, cd0n c_33⟩ | exact Or.inl ⟨rfl, cd12 (by decide) h0 c_43 c_51⟩ | exact Or.inr ⟨rfl, cd12hi (by decide) h0 c_51⟩ | exact Or.inr ⟨rfl, cd12lo (by decide) h0 c_43⟩ | exact Or.inl ⟨rfl, cd3 c_61 c_70⟩ | exact Or.inr ⟨rfl, cd3m c_70⟩ | exact Or.inr ⟨rfl, cd3n c_61⟩ | exact Or.inr ⟨rfl, cdo o_1⟩)).2.2.1 _ rfl rfl (by decide) dX0_canHaveCode_59
    · subst ej_1
      refine g_tableIn 42 (hd := dX0_canHaveCode_1) (C := hX) (by decide) (by decide) rfl (by decide) ?_
      refine g_iload_n 2 (hd := dX0_canHaveCode_42) (C := hX) rfl rfl ?_
      refine g_if_lt 58 (hd := dX0_canHaveCode_43) (C := hX) (by decide) (fun c_43 => ?_) (fun c_43 => ?_)
      · refine g_iconst (v := nI 0) hX dX0_canHaveCode_58 (by decide) ?_
        exact (hret (nI 0) _ _ (by first | exact Or.inl ⟨rfl, cd0 c_33⟩ | exact Or.inr ⟨rfl, cd0n c_33⟩ | exact Or.inl ⟨rfl, cd12 (by decide) h0 c_43 c_51⟩ | exact Or.inr ⟨rfl, cd12hi (by decide) h0 c_51⟩ | exact Or.inr ⟨rfl, cd12lo (by decide) h0 c_43⟩ | exact Or.inl ⟨rfl, cd3 c_61 c_70⟩ | exact Or.inr ⟨rfl, cd3m c_70⟩ | exact Or.inr ⟨rfl, cd3n c_61⟩ | exact Or.inr ⟨rfl, cdo o_1⟩)).2.2.1 _ rfl rfl (by decide) dX0_canHaveCode_59
      · refine g_iload_n 2 (hd := dX0_canHaveCode_46) (C := hX) rfl rfl ?_
        refine g_aload_n 0 (hd := dX0_canHaveCode_47) (C := hX) rfl rfl ?_
        refine g_get (hd := dX0_canHaveCode_48) (C := hX) 0 3 rfl rfl in_X0_canHaveCode_0 (by decide) (by decide +kernel) rfl ?_
        refine g_icmp_gt 58 (hd := dX0_canHaveCode_51) (C := hX) (by decide) (fun c_51 => ?_) (fun c_51 => ?_)
        · refine g_iconst (v := nI 0) hX dX0_canHaveCode_58 (by decide) ?_
          exact (hret (nI 0) _ _ (by first | exact Or.inl ⟨rfl, cd0 c_33⟩ | exact Or.inr ⟨rfl, cd0n c_33⟩ | exact Or.inl ⟨rfl, cd12 (by decide) h0 c_43 c_51⟩ | exact Or.inr ⟨rfl, cd12hi (by decide) h0 c_51⟩ | exact Or.inr ⟨rfl, cd12lo (by decide) h0 c_43⟩ | exact Or.inl ⟨rfl, cd3 c_61 c_70⟩ | exact Or.inr ⟨rfl, cd3m c_70⟩ | exact Or.inr ⟨rfl, cd3n c_61⟩ | exact Or.inr ⟨rfl, cdo o_1⟩)).2.2.1 _ rfl rfl (by decide) dX0_canHaveCode_59
        · refine g_iconst (v := nI 1) hX dX0_canHaveCode_54 (by decide) ?_
          refine g_goto 59 (hd := dX0_canHaveCode_55) (C := hX) (by decide) ?_
          exact (hret (nI 1) _ _ (by first | exact Or.inl ⟨rfl, cd0 c_33⟩ | exact Or.inr ⟨rfl, cd0n c_33⟩ | exact Or.inl ⟨rfl, cd12 (by decide) h0 c_43 c_51⟩ | exact Or.inr ⟨rfl, cd12hi (by decide) h0 c_51⟩ | exact Or.inr ⟨rfl, cd12lo (by decide) h0 c_43⟩ | exact Or.inl ⟨rfl, cd3 c_61 c_70⟩ | exact Or.inr ⟨rfl, cd3m c_70⟩ | exact Or.inr ⟨rfl, cd3n c_61⟩ | exact Or.inr ⟨rfl, cdo o_1⟩)).2.2.1 _ rfl rfl (by decide) dX0_canHaveCode_59
    · subst ej_1
      refine g_tableIn 60 (hd := dX0_canHaveCode_1) (C := hX) (by decide) (by decide) rfl (by decide) ?_
      refine g_iload_n 2 (hd := dX0_canHaveCode_60) (C := hX) rfl rfl ?_
      refine g_if_ne 77 (hd := dX0_canHaveCode_61) (C := hX) (by decide) (fun c_61 => ?_) (fun c_61 => ?_)
      · refine g_iconst (v := nI 0) hX dX0_canHaveCode_77 (by decide) ?_
        exact (hret (nI 0) _ _ (by first | exact Or.inl ⟨rfl, cd0 c_33⟩ | exact Or.inr ⟨rfl, cd0n c_33⟩ | exact Or.inl ⟨rfl, cd12 (by decide) h0 c_43 c_51⟩ | exact Or.inr ⟨rfl, cd12hi (by decide) h0 c_51⟩ | exact Or.inr ⟨rfl, cd12lo (by decide) h0 c_43⟩ | exact Or.inl ⟨rfl, cd3 c_61 c_70⟩ | exact Or.inr ⟨rfl, cd3m c_70⟩ | exact Or.inr ⟨rfl, cd3n c_61⟩ | exact Or.inr ⟨rfl, cdo o_1⟩)).2.2.1 _ rfl rfl (by decide) dX0_canHaveCode_78
      · refine g_aload_n 0 (hd := dX0_canHaveCode_64) (C := hX) rfl rfl ?_
        refine g_get (hd := dX0_canHaveCode_65) (C := hX) 0 3 rfl rfl in_X0_canHaveCode_0 (by decide) (by decide +kernel) rfl ?_
        refine g_iconst (v := nI 2) hX dX0_canHaveCode_68 (by decide) ?_
        refine g_irem hX dX0_canHaveCode_69 (by decide) ?_
        refine g_top (y := (nI (b 0 % 2))) (pk_rem (by omega) (by omega) (by omega)) ?_
        refine g_if_neN 77 (hd := dX0_canHaveCode_70) (C := hX) (by decide) (by omega) (fun c_70 => ?_) (fun c_70 => ?_)
        · refine g_iconst (v := nI 0) hX dX0_canHaveCode_77 (by decide) ?_
          exact (hret (nI 0) _ _ (by first | exact Or.inl ⟨rfl, cd0 c_33⟩ | exact Or.inr ⟨rfl, cd0n c_33⟩ | exact Or.inl ⟨rfl, cd12 (by decide) h0 c_43 c_51⟩ | exact Or.inr ⟨rfl, cd12hi (by decide) h0 c_51⟩ | exact Or.inr ⟨rfl, cd12lo (by decide) h0 c_43⟩ | exact Or.inl ⟨rfl, cd3 c_61 c_70⟩ | exact Or.inr ⟨rfl, cd3m c_70⟩ | exact Or.inr ⟨rfl, cd3n c_61⟩ | exact Or.inr ⟨rfl, cdo o_1⟩)).2.2.1 _ rfl rfl (by decide) dX0_canHaveCode_78
        · refine g_iconst (v := nI 1) hX dX0_canHaveCode_73 (by decide) ?_
          refine g_goto 78 (hd := dX0_canHaveCode_74) (C := hX) (by decide) ?_
          exact (hret (nI 1) _ _ (by first | exact Or.inl ⟨rfl, cd0 c_33⟩ | exact Or.inr ⟨rfl, cd0n c_33⟩ | exact Or.inl ⟨rfl, cd12 (by decide) h0 c_43 c_51⟩ | exact Or.inr ⟨rfl, cd12hi (by decide) h0 c_51⟩ | exact Or.inr ⟨rfl, cd12lo (by decide) h0 c_43⟩ | exact Or.inl ⟨rfl, cd3 c_61 c_70⟩ | exact Or.inr ⟨rfl, cd3m c_70⟩ | exact Or.inr ⟨rfl, cd3n c_61⟩ | exact Or.inr ⟨rfl, cdo o_1⟩)).2.2.1 _ rfl rfl (by decide) dX0_canHaveCode_78
  · refine g_tableOut 79 (hd := dX0_canHaveCode_1) (C := hX) o_1 (by decide) ?_
    refine g_iconst (v := nI 0) hX dX0_canHaveCode_79 (by decide) ?_
    exact (hret (nI 0) _ _ (by first | exact Or.inl ⟨rfl, cd0 c_33⟩ | exact Or.inr ⟨rfl, cd0n c_33⟩ | exact Or.inl ⟨rfl, cd12 (by decide) h0 c_43 c_51⟩ | exact Or.inr ⟨rfl, cd12hi (by decide) h0 c_51⟩ | exact Or.inr ⟨rfl, cd12lo (by decide) h0 c_43⟩ | exact Or.inl ⟨rfl, cd3 c_61 c_70⟩ | exact Or.inr ⟨rfl, cd3m c_70⟩ | exact Or.inr ⟨rfl, cd3n c_61⟩ | exact Or.inr ⟨rfl, cdo o_1⟩)).2.2.1 _ rfl rfl (by decide) dX0_canHaveCode_80

theorem in_X0_start_0 : ∀ w ∈ wsX00, w ∈ wsX0_start := fun _ h => List.mem_cons_of_mem _ (List.mem_append_right _ h)
theorem ok_X0_start : gOK yX0_start wsX0_start ({ frames := 1, cells := 0, slots := 0, locals := 22 }) 2 1 := ⟨⟨_, _, _, rfl⟩, rfl, rfl, by decide, by decide, by decide +kernel⟩
set_option maxRecDepth 100000 in
set_option maxHeartbeats 4000000 in
theorem c_X0_start (l : Launch) (D : va_G) (cC cI cJ cO : ClassId) (h : Nat) (k : Nat) (f : Nat) (s : Nat) (b : Nat → Nat) (n : Nat) : CM (S := Unit) l D (tyL cC cI cJ cO) yX0_start wsX0_start ({ frames := 1, cells := 0, slots := 0, locals := 22 }) [.ref h, .int (nI n)] [(h, .inr (0, [.ref k, .ref f, .ref s, .int (nI (b 0)), .int (nI (b 1)), .int (nI (b 2)), .int (nI (b 3)), .int (nI (b 4)), .int (nI (b 5))])), (k, .inl (cI, 24, .inl (fun j_ => nI (b (6 + 3 * j_))))), (f, .inl (cI, 24, .inl (fun j_ => nI (b (7 + 3 * j_))))), (s, .inl (cI, 24, .inl (fun j_ => nI (b (8 + 3 * j_)))))] (fun _ => none) (fun _ => True) (fun u_ => [(h, .inr (0, [.ref k, .ref f, .ref s, .int (nI ((stC b n) 0)), .int (nI ((stC b n) 1)), .int (nI ((stC b n) 2)), .int (nI ((stC b n) 3)), .int (nI ((stC b n) 4)), .int (nI ((stC b n) 5))])), (k, .inl (cI, 24, .inl (fun j_ => nI ((stC b n) (6 + 3 * j_))))), (f, .inl (cI, 24, .inl (fun j_ => nI ((stC b n) (7 + 3 * j_))))), (s, .inl (cI, 24, .inl (fun j_ => nI ((stC b n) (8 + 3 * j_)))))]) := by
  refine CM_in (cc := cX0_start) (maxL := 2) (ret := none) (by decide) rfl (Nat.le_of_ble_eq_true rfl) ?_
  intro X hX hret
  show GW X [(h, .inr (0, [.ref k, .ref f, .ref s, .int (nI (b 0)), .int (nI (b 1)), .int (nI (b 2)), .int (nI (b 3)), .int (nI (b 4)), .int (nI (b 5))])), (k, .inl (cI, 24, .inl (fun j_ => nI (b (6 + 3 * j_))))), (f, .inl (cI, 24, .inl (fun j_ => nI (b (7 + 3 * j_))))), (s, .inl (cI, 24, .inl (fun j_ => nI (b (8 + 3 * j_)))))] [(0, .ref h), (1, .int (nI n))] [] 0 0 0
  refine g_aload_n 0 (hd := dX0_start_0) (C := hX) rfl rfl ?_
  refine g_iload_n 1 (hd := dX0_start_1) (C := hX) rfl rfl ?_
  refine g_put (hd := dX0_start_2) (C := hX) 0 3 [(h, .inr (0, [.ref k, .ref f, .ref s, .int (nI n), .int (nI (b 1)), .int (nI (b 2)), .int (nI (b 3)), .int (nI (b 4)), .int (nI (b 5))])), (k, .inl (cI, 24, .inl (fun j_ => nI (b (6 + 3 * j_))))), (f, .inl (cI, 24, .inl (fun j_ => nI (b (7 + 3 * j_))))), (s, .inl (cI, 24, .inl (fun j_ => nI (b (8 + 3 * j_)))))] rfl rfl in_X0_start_0 tyX0_ok nmX0 (by decide) (by decide +kernel) rfl rfl rfl (Nat.le_of_ble_eq_true rfl) rfl ?_
  refine g_aload_n 0 (hd := dX0_start_5) (C := hX) rfl rfl ?_
  refine g_iconst (v := nI 0) hX dX0_start_6 (by decide) ?_
  refine g_put (hd := dX0_start_7) (C := hX) 0 4 [(h, .inr (0, [.ref k, .ref f, .ref s, .int (nI n), .int (nI 0), .int (nI (b 2)), .int (nI (b 3)), .int (nI (b 4)), .int (nI (b 5))])), (k, .inl (cI, 24, .inl (fun j_ => nI (b (6 + 3 * j_))))), (f, .inl (cI, 24, .inl (fun j_ => nI (b (7 + 3 * j_))))), (s, .inl (cI, 24, .inl (fun j_ => nI (b (8 + 3 * j_)))))] rfl rfl in_X0_start_0 tyX0_ok nmX0 (by decide) (by decide +kernel) rfl rfl rfl (Nat.le_of_ble_eq_true rfl) rfl ?_
  refine g_w [(h, .inr (0, [.ref k, .ref f, .ref s, .int (nI ((nup (nup b 0 n) 1 0) 0)), .int (nI ((nup (nup b 0 n) 1 0) 1)), .int (nI ((nup (nup b 0 n) 1 0) 2)), .int (nI ((nup (nup b 0 n) 1 0) 3)), .int (nI ((nup (nup b 0 n) 1 0) 4)), .int (nI ((nup (nup b 0 n) 1 0) 5))])), (k, .inl (cI, 24, .inl (fun j_ => nI ((nup (nup b 0 n) 1 0) (6 + 3 * j_))))), (f, .inl (cI, 24, .inl (fun j_ => nI ((nup (nup b 0 n) 1 0) (7 + 3 * j_))))), (s, .inl (cI, 24, .inl (fun j_ => nI ((nup (nup b 0 n) 1 0) (8 + 3 * j_)))))] (by simp only [st1_0, st1_1, st1_2, st1_3, st1_4, st1_5, st1_k, st1_f, st1_s]) ?_
  refine g_aload_n 0 (hd := dX0_start_10) (C := hX) rfl rfl ?_
  refine g_iconst (v := nI 0) hX dX0_start_11 (by decide) ?_
  refine g_iconst (v := nI 0) hX dX0_start_12 (by decide) ?_
  refine g_callV (rest := []) hX (c_X0_setRails l D cC cI cJ cO h k f s (nup (nup b 0 n) 1 0) 0 0) ok_X0_setRails rfl 0 rfl rfl (fun _ => rfl) (hd := dX0_start_13) gX0_start_X0_setRails ⟨by decide, by decide⟩ rfl (Nat.le_of_ble_eq_true rfl) ⟨Nat.zero_le _, Nat.zero_le _⟩ [0, 1, 2, 3] (by decide) rfl rfl ?_
  intro _u13 _p13
  show GW X [(h, .inr (0, [.ref k, .ref f, .ref s, .int (nI ((srC (nup (nup b 0 n) 1 0) 0 0) 0)), .int (nI ((srC (nup (nup b 0 n) 1 0) 0 0) 1)), .int (nI ((srC (nup (nup b 0 n) 1 0) 0 0) 2)), .int (nI ((srC (nup (nup b 0 n) 1 0) 0 0) 3)), .int (nI ((srC (nup (nup b 0 n) 1 0) 0 0) 4)), .int (nI ((srC (nup (nup b 0 n) 1 0) 0 0) 5))])), (k, .inl (cI, 24, .inl (fun j_ => nI ((srC (nup (nup b 0 n) 1 0) 0 0) (6 + 3 * j_))))), (f, .inl (cI, 24, .inl (fun j_ => nI ((srC (nup (nup b 0 n) 1 0) 0 0) (7 + 3 * j_))))), (s, .inl (cI, 24, .inl (fun j_ => nI ((srC (nup (nup b 0 n) 1 0) 0 0) (8 + 3 * j_)))))] [(0, .ref h), (1, .int (nI n))] [] 16 0 0
  refine g_aload_n 0 (hd := dX0_start_16) (C := hX) rfl rfl ?_
  refine g_iconst (v := nI 0) hX dX0_start_17 (by decide) ?_
  refine g_iconst (v := nI 0) hX dX0_start_18 (by decide) ?_
  refine g_callV (rest := []) hX (c_X0_setCode l D cC cI cJ cO h k f s (srC (nup (nup b 0 n) 1 0) 0 0) 0 0) ok_X0_setCode rfl 0 rfl rfl (fun _ => rfl) (hd := dX0_start_19) gX0_start_X0_setCode ⟨by decide, by decide⟩ rfl (Nat.le_of_ble_eq_true rfl) ⟨Nat.zero_le _, Nat.zero_le _⟩ [0, 1, 2, 3] (by decide) rfl rfl ?_
  intro _u19 _p19
  show GW X [(h, .inr (0, [.ref k, .ref f, .ref s, .int (nI ((scC (srC (nup (nup b 0 n) 1 0) 0 0) 0 0) 0)), .int (nI ((scC (srC (nup (nup b 0 n) 1 0) 0 0) 0 0) 1)), .int (nI ((scC (srC (nup (nup b 0 n) 1 0) 0 0) 0 0) 2)), .int (nI ((scC (srC (nup (nup b 0 n) 1 0) 0 0) 0 0) 3)), .int (nI ((scC (srC (nup (nup b 0 n) 1 0) 0 0) 0 0) 4)), .int (nI ((scC (srC (nup (nup b 0 n) 1 0) 0 0) 0 0) 5))])), (k, .inl (cI, 24, .inl (fun j_ => nI ((scC (srC (nup (nup b 0 n) 1 0) 0 0) 0 0) (6 + 3 * j_))))), (f, .inl (cI, 24, .inl (fun j_ => nI ((scC (srC (nup (nup b 0 n) 1 0) 0 0) 0 0) (7 + 3 * j_))))), (s, .inl (cI, 24, .inl (fun j_ => nI ((scC (srC (nup (nup b 0 n) 1 0) 0 0) 0 0) (8 + 3 * j_)))))] [(0, .ref h), (1, .int (nI n))] [] 22 0 0
  refine g_w [(h, .inr (0, [.ref k, .ref f, .ref s, .int (nI ((stC b n) 0)), .int (nI ((stC b n) 1)), .int (nI ((stC b n) 2)), .int (nI ((stC b n) 3)), .int (nI ((stC b n) 4)), .int (nI ((stC b n) 5))])), (k, .inl (cI, 24, .inl (fun j_ => nI ((stC b n) (6 + 3 * j_))))), (f, .inl (cI, 24, .inl (fun j_ => nI ((stC b n) (7 + 3 * j_))))), (s, .inl (cI, 24, .inl (fun j_ => nI ((stC b n) (8 + 3 * j_)))))] (by simp only [stC_0, stC_1, stC_2, stC_3, stC_4, stC_5, stC_k, stC_f, stC_s, scC_0, scC_1, scC_2, scC_3, scC_4, scC_5, scC_k, scC_f, scC_s, srC_0, srC_1, srC_2, srC_3, srC_4, srC_5, srC_k, srC_f, srC_s, st1_0, st1_1, st1_k, st1_f, st1_s]) ?_
  exact (hret () _ _ trivial).1 rfl rfl dX0_start_22
