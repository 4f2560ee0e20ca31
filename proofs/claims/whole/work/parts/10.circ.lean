theorem in_X0_wires_0 : ∀ w ∈ wsX00, w ∈ wsX0_wires := fun _ h => List.mem_cons_of_mem _ (List.mem_append_right _ h)
theorem ok_X0_wires : gOK yX0_wires wsX0_wires ({ frames := 0, cells := 0, slots := 0, locals := 0 }) 1 0 := ⟨⟨_, _, _, rfl⟩, rfl, rfl, by decide, by decide, by decide +kernel⟩
set_option maxRecDepth 100000 in
set_option maxHeartbeats 4000000 in
theorem c_X0_wires (l : Launch) (D : va_G) (cC cI cJ cO : ClassId) (h : Nat) (k : Nat) (f : Nat) (s : Nat) (b : Nat → Nat) : CM (S := Int32) l D (tyL cC cI cJ cO) yX0_wires wsX0_wires ({ frames := 0, cells := 0, slots := 0, locals := 0 }) [.ref h] [(h, .inr (0, [.ref k, .ref f, .ref s, .int (nI (b 0)), .int (nI (b 1)), .int (nI (b 2)), .int (nI (b 3)), .int (nI (b 4)), .int (nI (b 5))])), (k, .inl (cI, 24, .inl (fun j_ => nI (b (6 + 3 * j_))))), (f, .inl (cI, 24, .inl (fun j_ => nI (b (7 + 3 * j_))))), (s, .inl (cI, 24, .inl (fun j_ => nI (b (8 + 3 * j_)))))] (fun r => some (.int r)) (fun r => r = nI (b 0 + b 1)) (fun u_ => [(h, .inr (0, [.ref k, .ref f, .ref s, .int (nI (b 0)), .int (nI (b 1)), .int (nI (b 2)), .int (nI (b 3)), .int (nI (b 4)), .int (nI (b 5))])), (k, .inl (cI, 24, .inl (fun j_ => nI (b (6 + 3 * j_))))), (f, .inl (cI, 24, .inl (fun j_ => nI (b (7 + 3 * j_))))), (s, .inl (cI, 24, .inl (fun j_ => nI (b (8 + 3 * j_)))))]) := by
  refine CM_in (cc := cX0_wires) (maxL := 1) (ret := (some .int)) (by decide) rfl (Nat.le_of_ble_eq_true rfl) ?_
  intro X hX hret
  show GW X [(h, .inr (0, [.ref k, .ref f, .ref s, .int (nI (b 0)), .int (nI (b 1)), .int (nI (b 2)), .int (nI (b 3)), .int (nI (b 4)), .int (nI (b 5))])), (k, .inl (cI, 24, .inl (fun j_ => nI (b (6 + 3 * j_))))), (f, .inl (cI, 24, .inl (fun j_ => nI (b (7 + 3 * j_))))), (s, .inl (cI, 24, .inl (fun j_ => nI (b (8 + 3 * j_)))))] [(0, .ref h)] [] 0 0 0
  refine g_aload_n 0 (hd := dX0_wires_0) (C := hX) rfl rfl ?_
  refine g_get (hd := dX0_wires_1) (C := hX) 0 3 rfl rfl in_X0_wires_0 (by decide) (by decide +kernel) rfl ?_
  refine g_aload_n 0 (hd := dX0_wires_4) (C := hX) rfl rfl ?_
  refine g_get (hd := dX0_wires_5) (C := hX) 0 4 rfl rfl in_X0_wires_0 (by decide) (by decide +kernel) rfl ?_
  refine g_iadd hX dX0_wires_8 ?_
  refine g_top (y := (nI ((b 0) + (b 1)))) (nI_add _ _) ?_
  exact (hret (nI ((b 0) + (b 1))) _ _ rfl).2.1 _ rfl rfl dX0_wires_9

theorem in_X0_wordCount_0 : ∀ w ∈ wsX00, w ∈ wsX0_wordCount := fun _ h => List.mem_cons_of_mem _ (List.mem_append_right _ h)
theorem ok_X0_wordCount : gOK yX0_wordCount wsX0_wordCount ({ frames := 0, cells := 0, slots := 0, locals := 0 }) 1 0 := ⟨⟨_, _, _, rfl⟩, rfl, rfl, by decide, by decide, by decide +kernel⟩
set_option maxRecDepth 100000 in
set_option maxHeartbeats 4000000 in
theorem c_X0_wordCount (l : Launch) (D : va_G) (cC cI cJ cO : ClassId) (h : Nat) (k : Nat) (f : Nat) (s : Nat) (b : Nat → Nat) (h0 : b 0 ≤ 8) : CM (S := Int32) l D (tyL cC cI cJ cO) yX0_wordCount wsX0_wordCount ({ frames := 0, cells := 0, slots := 0, locals := 0 }) [.ref h] [(h, .inr (0, [.ref k, .ref f, .ref s, .int (nI (b 0)), .int (nI (b 1)), .int (nI (b 2)), .int (nI (b 3)), .int (nI (b 4)), .int (nI (b 5))])), (k, .inl (cI, 24, .inl (fun j_ => nI (b (6 + 3 * j_))))), (f, .inl (cI, 24, .inl (fun j_ => nI (b (7 + 3 * j_))))), (s, .inl (cI, 24, .inl (fun j_ => nI (b (8 + 3 * j_)))))] (fun r => some (.int r)) (fun r => r = nI (2 ^ b 0)) (fun u_ => [(h, .inr (0, [.ref k, .ref f, .ref s, .int (nI (b 0)), .int (nI (b 1)), .int (nI (b 2)), .int (nI (b 3)), .int (nI (b 4)), .int (nI (b 5))])), (k, .inl (cI, 24, .inl (fun j_ => nI (b (6 + 3 * j_))))), (f, .inl (cI, 24, .inl (fun j_ => nI (b (7 + 3 * j_))))), (s, .inl (cI, 24, .inl (fun j_ => nI (b (8 + 3 * j_)))))]) := by
  refine CM_in (cc := cX0_wordCount) (maxL := 1) (ret := (some .int)) (by decide) rfl (Nat.le_of_ble_eq_true rfl) ?_
  intro X hX hret
  show GW X [(h, .inr (0, [.ref k, .ref f, .ref s, .int (nI (b 0)), .int (nI (b 1)), .int (nI (b 2)), .int (nI (b 3)), .int (nI (b 4)), .int (nI (b 5))])), (k, .inl (cI, 24, .inl (fun j_ => nI (b (6 + 3 * j_))))), (f, .inl (cI, 24, .inl (fun j_ => nI (b (7 + 3 * j_))))), (s, .inl (cI, 24, .inl (fun j_ => nI (b (8 + 3 * j_)))))] [(0, .ref h)] [] 0 0 0
  refine g_iconst (v := nI 1) hX dX0_wordCount_0 (by decide) ?_
  refine g_aload_n 0 (hd := dX0_wordCount_1) (C := hX) rfl rfl ?_
  refine g_get (hd := dX0_wordCount_2) (C := hX) 0 3 rfl rfl in_X0_wordCount_0 (by decide) (by decide +kernel) rfl ?_
  refine g_ishl hX dX0_wordCount_5 ?_
  refine g_top (y := (nI (2 ^ b 0))) (gl_shl1 (by omega)) ?_
  exact (hret (nI (2 ^ b 0)) _ _ rfl).2.1 _ rfl rfl dX0_wordCount_6

theorem in_X0_hasGate_0 : ∀ w ∈ wsX00, w ∈ wsX0_hasGate := fun _ h => List.mem_cons_of_mem _ (List.mem_append_right _ h)
theorem ok_X0_hasGate : gOK yX0_hasGate wsX0_hasGate ({ frames := 0, cells := 0, slots := 0, locals := 0 }) 2 1 := ⟨⟨_, _, _, rfl⟩, rfl, rfl, by decide, by decide, by decide +kernel⟩
set_option maxRecDepth 100000 in
set_option maxHeartbeats 4000000 in
theorem c_X0_hasGate (l : Launch) (D : va_G) (cC cI cJ cO : ClassId) (h : Nat) (k : Nat) (f : Nat) (s : Nat) (b : Nat → Nat) (w : Int32) (h0 : b 0 ≤ 8) (h1 : b 1 ≤ 24) : CM (S := Int32) l D (tyL cC cI cJ cO) yX0_hasGate wsX0_hasGate ({ frames := 0, cells := 0, slots := 0, locals := 0 }) [.ref h, .int w] [(h, .inr (0, [.ref k, .ref f, .ref s, .int (nI (b 0)), .int (nI (b 1)), .int (nI (b 2)), .int (nI (b 3)), .int (nI (b 4)), .int (nI (b 5))])), (k, .inl (cI, 24, .inl (fun j_ => nI (b (6 + 3 * j_))))), (f, .inl (cI, 24, .inl (fun j_ => nI (b (7 + 3 * j_))))), (s, .inl (cI, 24, .inl (fun j_ => nI (b (8 + 3 * j_)))))] (fun r => some (.int r)) (fun r => isB r (vp_in w (b 1))) (fun u_ => [(h, .inr (0, [.ref k, .ref f, .ref s, .int (nI (b 0)), .int (nI (b 1)), .int (nI (b 2)), .int (nI (b 3)), .int (nI (b 4)), .int (nI (b 5))])), (k, .inl (cI, 24, .inl (fun j_ => nI (b (6 + 3 * j_))))), (f, .inl (cI, 24, .inl (fun j_ => nI (b (7 + 3 * j_))))), (s, .inl (cI, 24, .inl (fun j_ => nI (b (8 + 3 * j_)))))]) := by
  refine CM_in (cc := cX0_hasGate) (maxL := 2) (ret := (some .boolean)) (by decide) rfl (Nat.le_of_ble_eq_true rfl) ?_
  intro X hX hret
  show GW X [(h, .inr (0, [.ref k, .ref f, .ref s, .int (nI (b 0)), .int (nI (b 1)), .int (nI (b 2)), .int (nI (b 3)), .int (nI (b 4)), .int (nI (b 5))])), (k, .inl (cI, 24, .inl (fun j_ => nI (b (6 + 3 * j_))))), (f, .inl (cI, 24, .inl (fun j_ => nI (b (7 + 3 * j_))))), (s, .inl (cI, 24, .inl (fun j_ => nI (b (8 + 3 * j_)))))] [(0, .ref h), (1, .int w)] [] 0 0 0
  refine g_iload_n 1 (hd := dX0_hasGate_0) (C := hX) rfl rfl ?_
  refine g_if_lt 16 (hd := dX0_hasGate_1) (C := hX) (by decide) (fun c_1 => ?_) (fun c_1 => ?_)
  · refine g_iconst (v := nI 0) hX dX0_hasGate_16 (by decide) ?_
    exact (hret (nI 0) _ _ (by first | exact Or.inl ⟨rfl, gv_mk (by omega) c_1 c_6⟩ | exact Or.inr ⟨rfl, gv_hi (by omega) c_6⟩ | exact Or.inr ⟨rfl, gv_lo c_1⟩ | exact Or.inl ⟨rfl, gv_mk (by omega) c_1 c_9⟩ | exact Or.inr ⟨rfl, gv_hi (by omega) c_9⟩)).2.2.1 _ rfl rfl (by decide) dX0_hasGate_17
  · refine g_iload_n 1 (hd := dX0_hasGate_4) (C := hX) rfl rfl ?_
    refine g_aload_n 0 (hd := dX0_hasGate_5) (C := hX) rfl rfl ?_
    refine g_get (hd := dX0_hasGate_6) (C := hX) 0 4 rfl rfl in_X0_hasGate_0 (by decide) (by decide +kernel) rfl ?_
    refine g_icmp_ge 16 (hd := dX0_hasGate_9) (C := hX) (by decide) (fun c_9 => ?_) (fun c_9 => ?_)
    · refine g_iconst (v := nI 0) hX dX0_hasGate_16 (by decide) ?_
      exact (hret (nI 0) _ _ (by first | exact Or.inl ⟨rfl, gv_mk (by omega) c_1 c_6⟩ | exact Or.inr ⟨rfl, gv_hi (by omega) c_6⟩ | exact Or.inr ⟨rfl, gv_lo c_1⟩ | exact Or.inl ⟨rfl, gv_mk (by omega) c_1 c_9⟩ | exact Or.inr ⟨rfl, gv_hi (by omega) c_9⟩)).2.2.1 _ rfl rfl (by decide) dX0_hasGate_17
    · refine g_iconst (v := nI 1) hX dX0_hasGate_12 (by decide) ?_
      refine g_goto 17 (hd := dX0_hasGate_13) (C := hX) (by decide) ?_
      exact (hret (nI 1) _ _ (by first | exact Or.inl ⟨rfl, gv_mk (by omega) c_1 c_6⟩ | exact Or.inr ⟨rfl, gv_hi (by omega) c_6⟩ | exact Or.inr ⟨rfl, gv_lo c_1⟩ | exact Or.inl ⟨rfl, gv_mk (by omega) c_1 c_9⟩ | exact Or.inr ⟨rfl, gv_hi (by omega) c_9⟩)).2.2.1 _ rfl rfl (by decide) dX0_hasGate_17

theorem in_X0_hasWire_0 : ∀ w ∈ wsX00, w ∈ wsX0_hasWire := fun _ h => List.mem_cons_of_mem _ (List.mem_append_right _ h)
theorem ok_X0_hasWire : gOK yX0_hasWire wsX0_hasWire ({ frames := 1, cells := 0, slots := 0, locals := 20 }) 2 1 := ⟨⟨_, _, _, rfl⟩, rfl, rfl, by decide, by decide, by decide +kernel⟩
set_option maxRecDepth 100000 in
set_option maxHeartbeats 4000000 in
theorem c_X0_hasWire (l : Launch) (D : va_G) (cC cI cJ cO : ClassId) (h : Nat) (k : Nat) (f : Nat) (s : Nat) (b : Nat → Nat) (w : Int32) (h0 : b 0 ≤ 8) (h1 : b 1 ≤ 24) : CM (S := Int32) l D (tyL cC cI cJ cO) yX0_hasWire wsX0_hasWire ({ frames := 1, cells := 0, slots := 0, locals := 20 }) [.ref h, .int w] [(h, .inr (0, [.ref k, .ref f, .ref s, .int (nI (b 0)), .int (nI (b 1)), .int (nI (b 2)), .int (nI (b 3)), .int (nI (b 4)), .int (nI (b 5))])), (k, .inl (cI, 24, .inl (fun j_ => nI (b (6 + 3 * j_))))), (f, .inl (cI, 24, .inl (fun j_ => nI (b (7 + 3 * j_))))), (s, .inl (cI, 24, .inl (fun j_ => nI (b (8 + 3 * j_)))))] (fun r => some (.int r)) (fun r => isB r (vp_in w (b 0 + b 1))) (fun u_ => [(h, .inr (0, [.ref k, .ref f, .ref s, .int (nI (b 0)), .int (nI (b 1)), .int (nI (b 2)), .int (nI (b 3)), .int (nI (b 4)), .int (nI (b 5))])), (k, .inl (cI, 24, .inl (fun j_ => nI (b (6 + 3 * j_))))), (f, .inl (cI, 24, .inl (fun j_ => nI (b (7 + 3 * j_))))), (s, .inl (cI, 24, .inl (fun j_ => nI (b (8 + 3 * j_)))))]) := by
  refine CM_in (cc := cX0_hasWire) (maxL := 2) (ret := (some .boolean)) (by decide) rfl (Nat.le_of_ble_eq_true rfl) ?_
  intro X hX hret
  show GW X [(h, .inr (0, [.ref k, .ref f, .ref s, .int (nI (b 0)), .int (nI (b 1)), .int (nI (b 2)), .int (nI (b 3)), .int (nI (b 4)), .int (nI (b 5))])), (k, .inl (cI, 24, .inl (fun j_ => nI (b (6 + 3 * j_))))), (f, .inl (cI, 24, .inl (fun j_ => nI (b (7 + 3 * j_))))), (s, .inl (cI, 24, .inl (fun j_ => nI (b (8 + 3 * j_)))))] [(0, .ref h), (1, .int w)] [] 0 0 0
  refine g_iload_n 1 (hd := dX0_hasWire_0) (C := hX) rfl rfl ?_
  refine g_if_lt 16 (hd := dX0_hasWire_1) (C := hX) (by decide) (fun c_1 => ?_) (fun c_1 => ?_)
  · refine g_iconst (v := nI 0) hX dX0_hasWire_16 (by decide) ?_
    exact (hret (nI 0) _ _ (by first | exact Or.inr ⟨rfl, gv_lo c_1⟩ | exact Or.inl ⟨rfl, gv_mk (by omega) c_1 c_9⟩ | exact Or.inr ⟨rfl, gv_hi (by omega) c_9⟩)).2.2.1 _ rfl rfl (by decide) dX0_hasWire_17
  · refine g_iload_n 1 (hd := dX0_hasWire_4) (C := hX) rfl rfl ?_
    refine g_aload_n 0 (hd := dX0_hasWire_5) (C := hX) rfl rfl ?_
    refine g_callV (rest := [.int w]) hX (c_X0_wires l D cC cI cJ cO h k f s b) ok_X0_wires rfl 0 rfl rfl (fun _ => rfl) (hd := dX0_hasWire_6) gX0_hasWire_X0_wires ⟨by decide, by decide⟩ rfl (Nat.le_of_ble_eq_true rfl) ⟨Nat.zero_le _, Nat.zero_le _⟩ [0, 1, 2, 3] (by decide) rfl rfl ?_
    intro r_6 e_6
    subst e_6
    show GW X [(h, .inr (0, [.ref k, .ref f, .ref s, .int (nI (b 0)), .int (nI (b 1)), .int (nI (b 2)), .int (nI (b 3)), .int (nI (b 4)), .int (nI (b 5))])), (k, .inl (cI, 24, .inl (fun j_ => nI (b (6 + 3 * j_))))), (f, .inl (cI, 24, .inl (fun j_ => nI (b (7 + 3 * j_))))), (s, .inl (cI, 24, .inl (fun j_ => nI (b (8 + 3 * j_)))))] [(0, .ref h), (1, .int w)] [.int (nI (b 0 + b 1)), .int w] 9 0 0
    refine g_icmp_ge 16 (hd := dX0_hasWire_9) (C := hX) (by decide) (fun c_9 => ?_) (fun c_9 => ?_)
    · refine g_iconst (v := nI 0) hX dX0_hasWire_16 (by decide) ?_
      exact (hret (nI 0) _ _ (by first | exact Or.inr ⟨rfl, gv_lo c_1⟩ | exact Or.inl ⟨rfl, gv_mk (by omega) c_1 c_9⟩ | exact Or.inr ⟨rfl, gv_hi (by omega) c_9⟩)).2.2.1 _ rfl rfl (by decide) dX0_hasWire_17
    · refine g_iconst (v := nI 1) hX dX0_hasWire_12 (by decide) ?_
      refine g_goto 17 (hd := dX0_hasWire_13) (C := hX) (by decide) ?_
      exact (hret (nI 1) _ _ (by first | exact Or.inr ⟨rfl, gv_lo c_1⟩ | exact Or.inl ⟨rfl, gv_mk (by omega) c_1 c_9⟩ | exact Or.inr ⟨rfl, gv_hi (by omega) c_9⟩)).2.2.1 _ rfl rfl (by decide) dX0_hasWire_17

theorem in_X0_hasStuck_0 : ∀ w ∈ wsX00, w ∈ wsX0_hasStuck := fun _ h => List.mem_cons_of_mem _ (List.mem_append_right _ h)
theorem ok_X0_hasStuck : gOK yX0_hasStuck wsX0_hasStuck ({ frames := 1, cells := 0, slots := 0, locals := 20 }) 2 1 := ⟨⟨_, _, _, rfl⟩, rfl, rfl, by decide, by decide, by decide +kernel⟩
set_option maxRecDepth 100000 in
set_option maxHeartbeats 4000000 in
theorem c_X0_hasStuck (l : Launch) (D : va_G) (cC cI cJ cO : ClassId) (h : Nat) (k : Nat) (f : Nat) (s : Nat) (b : Nat → Nat) (w : Int32) (h0 : b 0 ≤ 8) (h1 : b 1 ≤ 24) : CM (S := Int32) l D (tyL cC cI cJ cO) yX0_hasStuck wsX0_hasStuck ({ frames := 1, cells := 0, slots := 0, locals := 20 }) [.ref h, .int w] [(h, .inr (0, [.ref k, .ref f, .ref s, .int (nI (b 0)), .int (nI (b 1)), .int (nI (b 2)), .int (nI (b 3)), .int (nI (b 4)), .int (nI (b 5))])), (k, .inl (cI, 24, .inl (fun j_ => nI (b (6 + 3 * j_))))), (f, .inl (cI, 24, .inl (fun j_ => nI (b (7 + 3 * j_))))), (s, .inl (cI, 24, .inl (fun j_ => nI (b (8 + 3 * j_)))))] (fun r => some (.int r)) (fun r => isB r (vp_in w (2 * (b 0 + b 1)))) (fun u_ => [(h, .inr (0, [.ref k, .ref f, .ref s, .int (nI (b 0)), .int (nI (b 1)), .int (nI (b 2)), .int (nI (b 3)), .int (nI (b 4)), .int (nI (b 5))])), (k, .inl (cI, 24, .inl (fun j_ => nI (b (6 + 3 * j_))))), (f, .inl (cI, 24, .inl (fun j_ => nI (b (7 + 3 * j_))))), (s, .inl (cI, 24, .inl (fun j_ => nI (b (8 + 3 * j_)))))]) := by
  refine CM_in (cc := cX0_hasStuck) (maxL := 2) (ret := (some .boolean)) (by decide) rfl (Nat.le_of_ble_eq_true rfl) ?_
  intro X hX hret
  show GW X [(h, .inr (0, [.ref k, .ref f, .ref s, .int (nI (b 0)), .int (nI (b 1)), .int (nI (b 2)), .int (nI (b 3)), .int (nI (b 4)), .int (nI (b 5))])), (k, .inl (cI, 24, .inl (fun j_ => nI (b (6 + 3 * j_))))), (f, .inl (cI, 24, .inl (fun j_ => nI (b (7 + 3 * j_))))), (s, .inl (cI, 24, .inl (fun j_ => nI (b (8 + 3 * j_)))))] [(0, .ref h), (1, .int w)] [] 0 0 0
  refine g_iload_n 1 (hd := dX0_hasStuck_0) (C := hX) rfl rfl ?_
  refine g_if_lt 18 (hd := dX0_hasStuck_1) (C := hX) (by decide) (fun c_1 => ?_) (fun c_1 => ?_)
  · refine g_iconst (v := nI 0) hX dX0_hasStuck_18 (by decide) ?_
    exact (hret (nI 0) _ _ (by first | exact Or.inr ⟨rfl, gv_lo c_1⟩ | exact Or.inl ⟨rfl, gv_mk (by omega) c_1 c_11⟩ | exact Or.inr ⟨rfl, gv_hi (by omega) c_11⟩)).2.2.1 _ rfl rfl (by decide) dX0_hasStuck_19
  · refine g_iload_n 1 (hd := dX0_hasStuck_4) (C := hX) rfl rfl ?_
    refine g_iconst (v := nI 2) hX dX0_hasStuck_5 (by decide) ?_
    refine g_aload_n 0 (hd := dX0_hasStuck_6) (C := hX) rfl rfl ?_
    refine g_callV (rest := [.int (nI 2), .int w]) hX (c_X0_wires l D cC cI cJ cO h k f s b) ok_X0_wires rfl 0 rfl rfl (fun _ => rfl) (hd := dX0_hasStuck_7) gX0_hasStuck_X0_wires ⟨by decide, by decide⟩ rfl (Nat.le_of_ble_eq_true rfl) ⟨Nat.zero_le _, Nat.zero_le _⟩ [0, 1, 2, 3] (by decide) rfl rfl ?_
    intro r_7 e_7
    subst e_7
    show GW X [(h, .inr (0, [.ref k, .ref f, .ref s, .int (nI (b 0)), .int (nI (b 1)), .int (nI (b 2)), .int (nI (b 3)), .int (nI (b 4)), .int (nI (b 5))])), (k, .inl (cI, 24, .inl (fun j_ => nI (b (6 + 3 * j_))))), (f, .inl (cI, 24, .inl (fun j_ => nI (b (7 + 3 * j_))))), (s, .inl (cI, 24, .inl (fun j_ => nI (b (8 + 3 * j_)))))] [(0, .ref h), (1, .int w)] [.int (nI (b 0 + b 1)), .int (nI 2), .int w] 10 0 0
    refine g_imul hX dX0_hasStuck_10 ?_
    refine g_top (y := (nI (2 * (b 0 + b 1)))) (pk_mul _ _) ?_
    refine g_icmp_ge 18 (hd := dX0_hasStuck_11) (C := hX) (by decide) (fun c_11 => ?_) (fun c_11 => ?_)
    · refine g_iconst (v := nI 0) hX dX0_hasStuck_18 (by decide) ?_
      exact (hret (nI 0) _ _ (by first | exact Or.inr ⟨rfl, gv_lo c_1⟩ | exact Or.inl ⟨rfl, gv_mk (by omega) c_1 c_11⟩ | exact Or.inr ⟨rfl, gv_hi (by omega) c_11⟩)).2.2.1 _ rfl rfl (by decide) dX0_hasStuck_19
    · refine g_iconst (v := nI 1) hX dX0_hasStuck_14 (by decide) ?_
      refine g_goto 19 (hd := dX0_hasStuck_15) (C := hX) (by decide) ?_
      exact (hret (nI 1) _ _ (by first | exact Or.inr ⟨rfl, gv_lo c_1⟩ | exact Or.inl ⟨rfl, gv_mk (by omega) c_1 c_11⟩ | exact Or.inr ⟨rfl, gv_hi (by omega) c_11⟩)).2.2.1 _ rfl rfl (by decide) dX0_hasStuck_19

theorem in_X0_hasWord_0 : ∀ w ∈ wsX00, w ∈ wsX0_hasWord := fun _ h => List.mem_cons_of_mem _ (List.mem_append_right _ h)
theorem ok_X0_hasWord : gOK yX0_hasWord wsX0_hasWord ({ frames := 1, cells := 0, slots := 0, locals := 20 }) 2 1 := ⟨⟨_, _, _, rfl⟩, rfl, rfl, by decide, by decide, by decide +kernel⟩
set_option maxRecDepth 100000 in
set_option maxHeartbeats 4000000 in
theorem c_X0_hasWord (l : Launch) (D : va_G) (cC cI cJ cO : ClassId) (h : Nat) (k : Nat) (f : Nat) (s : Nat) (b : Nat → Nat) (w : Int32) (h0 : b 0 ≤ 8) : CM (S := Int32) l D (tyL cC cI cJ cO) yX0_hasWord wsX0_hasWord ({ frames := 1, cells := 0, slots := 0, locals := 20 }) [.ref h, .int w] [(h, .inr (0, [.ref k, .ref f, .ref s, .int (nI (b 0)), .int (nI (b 1)), .int (nI (b 2)), .int (nI (b 3)), .int (nI (b 4)), .int (nI (b 5))])), (k, .inl (cI, 24, .inl (fun j_ => nI (b (6 + 3 * j_))))), (f, .inl (cI, 24, .inl (fun j_ => nI (b (7 + 3 * j_))))), (s, .inl (cI, 24, .inl (fun j_ => nI (b (8 + 3 * j_)))))] (fun r => some (.int r)) (fun r => isB r (vp_in w (2 ^ b 0))) (fun u_ => [(h, .inr (0, [.ref k, .ref f, .ref s, .int (nI (b 0)), .int (nI (b 1)), .int (nI (b 2)), .int (nI (b 3)), .int (nI (b 4)), .int (nI (b 5))])), (k, .inl (cI, 24, .inl (fun j_ => nI (b (6 + 3 * j_))))), (f, .inl (cI, 24, .inl (fun j_ => nI (b (7 + 3 * j_))))), (s, .inl (cI, 24, .inl (fun j_ => nI (b (8 + 3 * j_)))))]) := by
  refine CM_in (cc := cX0_hasWord) (maxL := 2) (ret := (some .boolean)) (by decide) rfl (Nat.le_of_ble_eq_true rfl) ?_
  intro X hX hret
  show GW X [(h, .inr (0, [.ref k, .ref f, .ref s, .int (nI (b 0)), .int (nI (b 1)), .int (nI (b 2)), .int (nI (b 3)), .int (nI (b 4)), .int (nI (b 5))])), (k, .inl (cI, 24, .inl (fun j_ => nI (b (6 + 3 * j_))))), (f, .inl (cI, 24, .inl (fun j_ => nI (b (7 + 3 * j_))))), (s, .inl (cI, 24, .inl (fun j_ => nI (b (8 + 3 * j_)))))] [(0, .ref h), (1, .int w)] [] 0 0 0
  refine g_iload_n 1 (hd := dX0_hasWord_0) (C := hX) rfl rfl ?_
  refine g_if_lt 16 (hd := dX0_hasWord_1) (C := hX) (by decide) (fun c_1 => ?_) (fun c_1 => ?_)
  · refine g_iconst (v := nI 0) hX dX0_hasWord_16 (by decide) ?_
    exact (hret (nI 0) _ _ (by have := p2_8 h0; first | exact Or.inr ⟨rfl, gv_lo c_1⟩ | exact Or.inl ⟨rfl, gv_mk (by omega) c_1 c_9⟩ | exact Or.inr ⟨rfl, gv_hi (by omega) c_9⟩)).2.2.1 _ rfl rfl (by decide) dX0_hasWord_17
  · refine g_iload_n 1 (hd := dX0_hasWord_4) (C := hX) rfl rfl ?_
    refine g_aload_n 0 (hd := dX0_hasWord_5) (C := hX) rfl rfl ?_
    refine g_callV (rest := [.int w]) hX (c_X0_wordCount l D cC cI cJ cO h k f s b (by omega)) ok_X0_wordCount rfl 0 rfl rfl (fun _ => rfl) (hd := dX0_hasWord_6) gX0_hasWord_X0_wordCount ⟨by decide, by decide⟩ rfl (Nat.le_of_ble_eq_true rfl) ⟨Nat.zero_le _, Nat.zero_le _⟩ [0, 1, 2, 3] (by decide) rfl rfl ?_
    intro r_6 e_6
    subst e_6
    show GW X [(h, .inr (0, [.ref k, .ref f, .ref s, .int (nI (b 0)), .int (nI (b 1)), .int (nI (b 2)), .int (nI (b 3)), .int (nI (b 4)), .int (nI (b 5))])), (k, .inl (cI, 24, .inl (fun j_ => nI (b (6 + 3 * j_))))), (f, .inl (cI, 24, .inl (fun j_ => nI (b (7 + 3 * j_))))), (s, .inl (cI, 24, .inl (fun j_ => nI (b (8 + 3 * j_)))))] [(0, .ref h), (1, .int w)] [.int (nI (2 ^ b 0)), .int w] 9 0 0
    refine g_icmp_ge 16 (hd := dX0_hasWord_9) (C := hX) (by decide) (fun c_9 => ?_) (fun c_9 => ?_)
    · refine g_iconst (v := nI 0) hX dX0_hasWord_16 (by decide) ?_
      exact (hret (nI 0) _ _ (by have := p2_8 h0; first | exact Or.inr ⟨rfl, gv_lo c_1⟩ | exact Or.inl ⟨rfl, gv_mk (by omega) c_1 c_9⟩ | exact Or.inr ⟨rfl, gv_hi (by omega) c_9⟩)).2.2.1 _ rfl rfl (by decide) dX0_hasWord_17
    · refine g_iconst (v := nI 1) hX dX0_hasWord_12 (by decide) ?_
      refine g_goto 17 (hd := dX0_hasWord_13) (C := hX) (by decide) ?_
      exact (hret (nI 1) _ _ (by have := p2_8 h0; first | exact Or.inr ⟨rfl, gv_lo c_1⟩ | exact Or.inl ⟨rfl, gv_mk (by omega) c_1 c_9⟩ | exact Or.inr ⟨rfl, gv_hi (by omega) c_9⟩)).2.2.1 _ rfl rfl (by decide) dX0_hasWord_17

theorem ok_X0_lowBits : gOK yX0_lowBits wsX0_lowBits ({ frames := 0, cells := 0, slots := 0, locals := 0 }) 1 1 := ⟨⟨_, _, _, rfl⟩, rfl, rfl, by decide, by decide, by decide +kernel⟩
set_option maxRecDepth 100000 in
set_option maxHeartbeats 4000000 in
theorem c_X0_lowBits (l : Launch) (D : va_G) (cC cI cJ cO : ClassId) (n : Nat) (hn : n ≤ 8) : CM (S := Int32) l D (tyL cC cI cJ cO) yX0_lowBits wsX0_lowBits ({ frames := 0, cells := 0, slots := 0, locals := 0 }) [.int (nI n)] [] (fun r => some (.int r)) (fun r => r = nI (2 ^ n - 1)) (fun u_ => []) := by
  refine CM_in (cc := cX0_lowBits) (maxL := 1) (ret := (some .int)) (by decide) rfl (Nat.le_of_ble_eq_true rfl) ?_
  intro X hX hret
  show GW X [] [(0, .int (nI n))] [] 0 0 0
  refine g_iconst (v := nI 1) hX dX0_lowBits_0 (by decide) ?_
  refine g_iload_n 0 (hd := dX0_lowBits_1) (C := hX) rfl rfl ?_
  refine g_ishl hX dX0_lowBits_2 ?_
  refine g_top (y := (nI (2 ^ n))) (gl_shl1 (by omega)) ?_
  refine g_iconst (v := nI 1) hX dX0_lowBits_3 (by decide) ?_
  refine g_isub hX dX0_lowBits_4 ?_
  refine g_top (y := (nI (2 ^ n - 1))) (pk_sub (Nat.one_le_two_pow)) ?_
  exact (hret (nI (2 ^ n - 1)) _ _ rfl).2.1 _ rfl rfl dX0_lowBits_5
