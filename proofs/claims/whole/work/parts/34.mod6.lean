/-! the reference reads a text -/
theorem lA_iff {T : Nat → Nat} {len p k : Nat} (hk : k ≠ 0) : lA T len p = k ↔ p < len ∧ T p = k := by
  unfold lA
  split
  · rename_i h; exact ⟨fun e => ⟨h, e⟩, fun e => e.2⟩
  · rename_i h; exact ⟨fun e => absurd e.symm hk, fun e => absurd e.1 h⟩
theorem lA_d {T : Nat → Nat} {len p : Nat} (h : 48 ≤ lA T len p) : p < len ∧ lA T len p = T p := by
  unfold lA at h ⊢
  split
  · rename_i q; exact ⟨q, rfl⟩
  · rename_i q; rw [if_neg q] at h; omega
theorem dg_lA (T : Nat → Nat) (len p : Nat) : dg T len p = true ↔ 48 ≤ lA T len p ∧ lA T len p ≤ 57 := by
  unfold lA
  split
  · rename_i h; simp [dg, h]
  · rename_i h; simp [dg, h]
theorem lA_lt {T : Nat → Nat} {len : Nat} (hT : ∀ j, j < len → T j < 1000) (p : Nat) : lA T len p < 1000 := by
  unfold lA
  split
  · rename_i h; exact hT p h
  · decide
theorem nm_0 {T : Nat → Nat} {len p : Nat} (h : lA T len p < 48 ∨ 57 < lA T len p) : nmS T len p = none := by
  unfold nmS
  rw [if_neg (fun z => by have := (dg_lA T len p).mp z; omega)]
theorem nm_1 {T : Nat → Nat} {len p : Nat} (h : 48 ≤ lA T len p) (h2 : lA T len p ≤ 57) (h3 : lA T len (p + 1) < 48 ∨ 57 < lA T len (p + 1)) : nmS T len p = some (0 + T p - 48, p + 1) := by
  unfold nmS
  rw [if_pos ((dg_lA T len p).mpr ⟨h, h2⟩), if_neg (fun z => by have := (dg_lA T len (p + 1)).mp z; omega), Nat.zero_add]
theorem nm_2 {T : Nat → Nat} {len p : Nat} (h : 48 ≤ lA T len p) (h2 : lA T len p ≤ 57) (h3 : 48 ≤ lA T len (p + 1)) (h4 : lA T len (p + 1) ≤ 57) : nmS T len p = some (10 * (0 + T p - 48) + T (p + 1) - 48, p + 1 + 1) := by
  have q := (lA_d h3).2
  unfold nmS
  rw [if_pos ((dg_lA T len p).mpr ⟨h, h2⟩), if_pos ((dg_lA T len (p + 1)).mpr ⟨h3, h4⟩), Nat.zero_add, Nat.add_sub_assoc (by omega)]
theorem rdK_s {T : Nat → Nat} {len n p : Nat} {z : List Nat × Nat} : rdK T len (n + 1) p = some z ↔ ∃ x q l e, nmS T len p = some (x, q) ∧ lA T len q = (if n = 0 then 59 else 44) ∧ rdK T len n (q + 1) = some (l, e) ∧ z = (x :: l, e) := by
  have hk : (if n = 0 then 59 else 44) ≠ 0 := by split <;> decide
  constructor
  · intro h
    cases e1 : nmS T len p with
    | none => simp only [rdK, e1] at h; cases h
    | some vq =>
      simp only [rdK, e1] at h
      by_cases h2 : vq.2 < len ∧ T vq.2 = (if n = 0 then 59 else 44)
      · rw [if_pos h2] at h
        cases e2 : rdK T len n (vq.2 + 1) with
        | none => rw [e2] at h; cases h
        | some z2 =>
          rw [e2] at h
          cases h
          exact ⟨vq.1, vq.2, z2.1, z2.2, rfl, (lA_iff hk).mpr h2, e2, rfl⟩
      · rw [if_neg h2] at h; cases h
  · rintro ⟨x, q, l, e, h1, h2, h3, rfl⟩
    simp only [rdK, h1]
    rw [if_pos ((lA_iff hk).mp h2), h3]
theorem it_i {T b c : Nat → Nat} {len p e : Nat} (h : itS T len b p = some (c, e)) : ∃ l, ¬ nbS (T p) = 0 ∧ rdK T len (nbS (T p)) (p + 1) = some (l, e) ∧ tlS b (T p) (l.getD 0 0) (l.getD 1 0) (l.getD 2 0) = some c := by
  unfold itS at h
  split at h
  · cases h
  · rename_i h0
    split at h
    · cases h
    · rename_i z e1
      split at h
      · cases h
      · rename_i c2 e2
        cases h
        exact ⟨z.1, h0, e1, e2⟩
theorem it_y {T b c : Nat → Nat} {len p e : Nat} {l : List Nat} (h0 : ¬ nbS (T p) = 0) (h1 : rdK T len (nbS (T p)) (p + 1) = some (l, e)) (h2 : tlS b (T p) (l.getD 0 0) (l.getD 1 0) (l.getD 2 0) = some c) : itS T len b p = some (c, e) := by
  unfold itS
  rw [if_neg h0, h1]
  simp only [h2]
theorem it_no {T b : Nat → Nat} {len p : Nat} (h : ∀ c e, ¬ itS T len b p = some (c, e)) : itS T len b p = none := by
  cases q : itS T len b p with
  | none => rfl
  | some ce => exact absurd q (h ce.1 ce.2)
def gtP (T : Nat → Nat) (len : Nat) (b : Nat → Nat) (p x y z q1 q2 e : Nat) : Prop := nmS T len (p + 1) = some (x, q1) ∧ lA T len q1 = 44 ∧ nmS T len (q1 + 1) = some (y, q2) ∧ lA T len q2 = 44 ∧ nmS T len (q2 + 1) = some (z, e) ∧ b 1 < 24 ∧ x < 6 ∧ y < b 0 + b 1 ∧ z < b 0 + b 1
theorem gt_i {T b c : Nat → Nat} {len p e : Nat} (hT : T p = 103) (h0 : ¬ b 0 = 0) (h : itS T len b p = some (c, e)) : ∃ x y z q1 q2 e1, gtP T len b p x y z q1 q2 e1 ∧ lA T len e1 = 59 ∧ c = agC b x y z ∧ e = e1 + 1 := by
  obtain ⟨l, -, h1, h2⟩ := it_i h
  rw [show nbS (T p) = 3 by rw [hT]; rfl] at h1
  obtain ⟨x, q1, l1, e1, a1, a2, a3, a4⟩ := rdK_s.mp h1
  obtain ⟨y, q2, l2, e2, c1, c2, c3, c4⟩ := rdK_s.mp a3
  obtain ⟨z, q3, l3, e3, d1, d2, d3, d4⟩ := rdK_s.mp c3
  cases d3
  cases d4
  cases c4
  cases a4
  rw [hT] at h2
  unfold tlS at h2
  rw [if_neg (by decide), if_neg h0, if_pos rfl] at h2
  split at h2
  · rename_i g
    cases h2
    exact ⟨x, y, z, q1, q2, q3, ⟨a1, a2, c1, c2, d1, g⟩, d2, rfl, rfl⟩
  · cases h2
theorem gt_y {T b : Nat → Nat} {len p x y z q1 q2 e1 : Nat} (hT : T p = 103) (h0 : ¬ b 0 = 0) (h : gtP T len b p x y z q1 q2 e1) (h9 : lA T len e1 = 59) : itS T len b p = some (agC b x y z, e1 + 1) := by
  obtain ⟨a1, a2, a3, a4, a5, g⟩ := h
  refine it_y (l := [x, y, z]) (by rw [hT]; decide) ?_ ?_
  · rw [show nbS (T p) = 3 by rw [hT]; rfl]
    exact rdK_s.mpr ⟨x, q1, [y, z], e1 + 1, a1, a2, rdK_s.mpr ⟨y, q2, [z], e1 + 1, a3, a4, rdK_s.mpr ⟨z, e1, [], e1 + 1, a5, h9, rfl, rfl⟩, rfl⟩, rfl⟩
  · rw [hT]
    unfold tlS
    rw [if_neg (by decide), if_neg h0, if_pos rfl]
    exact if_pos g
def prP (T : Nat → Nat) (len p x y q1 e : Nat) : Prop := nmS T len (p + 1) = some (x, q1) ∧ lA T len q1 = 44 ∧ nmS T len (q1 + 1) = some (y, e)
def prB (b : Nat → Nat) (hd x y : Nat) : Bool := if hd = 99 then cdB (b 0) x y else decide (x < b 0 + b 1 ∧ y < b 0 + b 1)
def prC (b : Nat → Nat) (hd x y : Nat) : Nat → Nat := if hd = 99 then scC b x y else srC b x y
theorem pr_i {T b c : Nat → Nat} {len p e : Nat} (hT : T p = 111 ∨ T p = 99) (h0 : ¬ b 0 = 0) (h : itS T len b p = some (c, e)) : ∃ x y q1 e1, prP T len p x y q1 e1 ∧ prB b (T p) x y = true ∧ lA T len e1 = 59 ∧ c = prC b (T p) x y ∧ e = e1 + 1 := by
  obtain ⟨l, -, h1, h2⟩ := it_i h
  rw [show nbS (T p) = 2 by rcases hT with q | q <;> rw [q] <;> rfl] at h1
  obtain ⟨x, q1, l1, e1, a1, a2, a3, a4⟩ := rdK_s.mp h1
  obtain ⟨y, q2, l2, e2, c1, c2, c3, c4⟩ := rdK_s.mp a3
  cases c3
  cases c4
  cases a4
  refine ⟨x, y, q1, q2, ⟨a1, a2, c1⟩, ?_⟩
  unfold tlS at h2
  unfold prB prC
  rcases hT with q | q
  · rw [q, if_neg (by decide), if_neg h0, if_neg (by decide), if_pos rfl] at h2
    rw [q, if_neg (by decide), if_neg (by decide)]
    split at h2
    · rename_i g; cases h2; exact ⟨decide_eq_true g, c2, rfl, rfl⟩
    · cases h2
  · rw [q, if_neg (by decide), if_neg h0, if_neg (by decide), if_neg (by decide)] at h2
    rw [q, if_pos rfl, if_pos rfl]
    split at h2
    · rename_i g; cases h2; exact ⟨g, c2, rfl, rfl⟩
    · cases h2
theorem pr_y {T b : Nat → Nat} {len p x y q1 e1 : Nat} (hT : T p = 111 ∨ T p = 99) (h0 : ¬ b 0 = 0) (h : prP T len p x y q1 e1) (hb : prB b (T p) x y = true) (h9 : lA T len e1 = 59) : itS T len b p = some (prC b (T p) x y, e1 + 1) := by
  obtain ⟨a1, a2, a3⟩ := h
  refine it_y (l := [x, y]) (by rcases hT with q | q <;> rw [q] <;> decide) ?_ ?_
  · rw [show nbS (T p) = 2 by rcases hT with q | q <;> rw [q] <;> rfl]
    exact rdK_s.mpr ⟨x, q1, [y], e1 + 1, a1, a2, rdK_s.mpr ⟨y, e1, [], e1 + 1, a3, h9, rfl, rfl⟩, rfl⟩
  · unfold tlS
    unfold prB at hb
    unfold prC
    rcases hT with q | q
    · rw [q, if_neg (by decide)] at hb
      rw [q, if_neg (by decide), if_neg h0, if_neg (by decide), if_pos rfl, if_neg (show ¬ (111 : Nat) = 99 by decide)]
      exact if_pos (of_decide_eq_true hb)
    · rw [q, if_pos rfl] at hb
      rw [q, if_neg (by decide), if_neg h0, if_neg (by decide), if_neg (by decide), if_pos rfl]
      exact if_pos hb
theorem nn_i {T b c : Nat → Nat} {len p e : Nat} (hT : T p = 110) (h : itS T len b p = some (c, e)) : ∃ x e1, nmS T len (p + 1) = some (x, e1) ∧ b 0 = 0 ∧ 1 ≤ x ∧ x ≤ 8 ∧ lA T len e1 = 59 ∧ c = stC b x ∧ e = e1 + 1 := by
  obtain ⟨l, -, h1, h2⟩ := it_i h
  rw [show nbS (T p) = 1 by rw [hT]; rfl] at h1
  obtain ⟨x, q1, l1, e1, a1, a2, a3, a4⟩ := rdK_s.mp h1
  cases a3
  cases a4
  rw [hT] at h2
  unfold tlS at h2
  rw [if_pos rfl] at h2
  split at h2
  · rename_i g; cases h2; exact ⟨x, q1, a1, g.1, g.2.1, g.2.2, a2, rfl, rfl⟩
  · cases h2
theorem nn_y {T b : Nat → Nat} {len p x e1 : Nat} (hT : T p = 110) (h1 : nmS T len (p + 1) = some (x, e1)) (h0 : b 0 = 0) (hx : 1 ≤ x) (hx2 : x ≤ 8) (h9 : lA T len e1 = 59) : itS T len b p = some (stC b x, e1 + 1) := by
  refine it_y (l := [x]) (by rw [hT]; decide) ?_ ?_
  · rw [show nbS (T p) = 1 by rw [hT]; rfl]
    exact rdK_s.mpr ⟨x, e1, [], e1 + 1, h1, h9, rfl, rfl⟩
  · rw [hT]
    unfold tlS
    rw [if_pos rfl]
    exact if_pos ⟨h0, hx, hx2⟩
theorem it_0 {T b : Nat → Nat} {len p : Nat} (hT : ¬ T p = 110) (h0 : b 0 = 0) : itS T len b p = none := it_no fun c e h => by
  obtain ⟨l, -, -, h2⟩ := it_i h
  unfold tlS at h2
  rw [if_neg hT, if_pos h0] at h2
  cases h2
theorem it_x {T b : Nat → Nat} {len p : Nat} (h1 : ¬ T p = 110) (h2 : ¬ T p = 103) (h3 : ¬ T p = 111) (h4 : ¬ T p = 99) : itS T len b p = none := it_no fun c e h => by
  obtain ⟨l, z, -, -⟩ := it_i h
  apply z
  unfold nbS
  rw [if_neg h1, if_neg (by omega), if_neg h2]
/-- an item told: yes, and then it hangs on what comes behind it; or no -/
def RI (T : Nat → Nat) (len : Nat) (b : Nat → Nat) (p : Nat) (r : Int32) (c : Nat → Nat) (e : Nat) : Prop := (r = nI 1 ∧ e ≤ len ∧ p < e ∧ (lA T len e = 59 → itS T len b p = some (c, e + 1)) ∧ (¬ lA T len e = 59 → itS T len b p = none)) ∨ (r = nI 0 ∧ itS T len b p = none)
theorem ri_g {T b : Nat → Nat} {len p x y z q1 q2 e : Nat} (hT : T p = 103) (h0 : ¬ b 0 = 0) (h : gtP T len b p x y z q1 q2 e) : RI T len b p (nI 1) (agC b x y z) e := by
  refine Or.inl ⟨rfl, (nmS_lt h.2.2.2.2.1).2.2, ?_, gt_y hT h0 h, fun h9 => it_no fun c e2 k => ?_⟩
  · have := nmS_lt h.1
    have := nmS_lt h.2.2.1
    have := nmS_lt h.2.2.2.2.1
    omega
  · obtain ⟨x', y', z', q1', q2', e1, ⟨a1, a2, a3, a4, a5, -⟩, k9, -, -⟩ := gt_i hT h0 k
    obtain ⟨c1, c2, c3, c4, c5, -⟩ := h
    rw [c1] at a1
    cases a1
    rw [c3] at a3
    cases a3
    rw [c5] at a5
    cases a5
    exact h9 k9
theorem ri_p {T b : Nat → Nat} {len p x y q1 e : Nat} (hT : T p = 111 ∨ T p = 99) (h0 : ¬ b 0 = 0) (h : prP T len p x y q1 e) (hb : prB b (T p) x y = true) : RI T len b p (nI 1) (prC b (T p) x y) e := by
  refine Or.inl ⟨rfl, (nmS_lt h.2.2).2.2, ?_, pr_y hT h0 h hb, fun h9 => it_no fun c e2 k => ?_⟩
  · have := nmS_lt h.1
    have := nmS_lt h.2.2
    omega
  · obtain ⟨x', y', q1', e1, ⟨a1, a2, a3⟩, -, k9, -, -⟩ := pr_i hT h0 k
    obtain ⟨c1, c2, c3⟩ := h
    rw [c1] at a1
    cases a1
    rw [c3] at a3
    cases a3
    exact h9 k9
theorem ri_pn {T b c : Nat → Nat} {len p x y q1 e e9 : Nat} (hT : T p = 111 ∨ T p = 99) (h0 : ¬ b 0 = 0) (h : prP T len p x y q1 e) (hb : ¬ prB b (T p) x y = true) : RI T len b p (nI 0) c e9 := by
  refine Or.inr ⟨rfl, it_no fun c e2 k => ?_⟩
  obtain ⟨x', y', q1', e1, ⟨a1, a2, a3⟩, k8, k9, -, -⟩ := pr_i hT h0 k
  obtain ⟨c1, c2, c3⟩ := h
  rw [c1] at a1
  cases a1
  rw [c3] at a3
  cases a3
  exact hb k8
theorem ri_n {T b : Nat → Nat} {len p x e : Nat} (hT : T p = 110) (h : nmS T len (p + 1) = some (x, e)) (h0 : b 0 = 0) (hx : 1 ≤ x) (hx2 : x ≤ 8) : RI T len b p (nI 1) (stC b x) e := by
  refine Or.inl ⟨rfl, (nmS_lt h).2.2, ?_, nn_y hT h h0 hx hx2, fun h9 => it_no fun c e2 k => ?_⟩
  · have := nmS_lt h; omega
  · obtain ⟨x', e1, a1, -, -, -, k9, -, -⟩ := nn_i hT k
    rw [h] at a1
    cases a1
    exact h9 k9
theorem st_nup {b : Nat → Nat} (h : ∀ j, j < 6 → b j = 0) (x : Nat) : nup b 0 x = stC b x := by
  funext j
  unfold nup stC
  by_cases h0 : j = 0
  · rw [if_pos h0, if_pos h0]
  · rw [if_neg h0, if_neg h0]
    by_cases h6 : j < 6
    · rw [if_pos h6, h j h6]
    · rw [if_neg h6]
theorem pr_c {b : Nat → Nat} (x y : Nat) : nup (nup b 4 x) 5 y = scC b x y := by
  funext j; unfold nup scC
  repeat' split
  all_goals first | rfl | omega
theorem pr_r {b : Nat → Nat} (x y : Nat) : nup (nup b 2 x) 3 y = srC b x y := by
  funext j; unfold nup srC
  repeat' split
  all_goals first | rfl | omega
theorem cdI_nat {n x y : Nat} (hn : n ≤ 8) (hx : x < 100) (hy : y < 100) : cdI n (nI x) (nI y) ↔ cdB n x y = true := by
  rw [cdB_iff]
  constructor
  · rintro ⟨a, b, e1, e2, h⟩
    have h1 : a ≤ 3 ∧ b ≤ 8 := by rcases h with h | h | h | h <;> omega
    rw [nI_inj (by omega) (by omega) e1, nI_inj (by omega) (by omega) e2]
    exact h
  · exact fun h => ⟨x, y, rfl, rfl, h⟩

theorem in_X7_number_7 : ∀ w ∈ wsX70, w ∈ wsX7_number := fun _ h => List.mem_cons_of_mem _ (List.mem_append_right _ h)
theorem ok_X7_number : gOK yX7_number wsX7_number ({ frames := 1, cells := 0, slots := 0, locals := 21 }) 2 1 := ⟨⟨_, _, _, rfl⟩, rfl, rfl, by decide, by decide, by decide +kernel⟩
set_option maxRecDepth 100000 in
set_option maxHeartbeats 4000000 in
theorem c_X7_number (l : Launch) (D : va_G) (cC cI cJ cO : ClassId) (o : Nat) (ot : Nat) (on : Nat) (od : Nat) (ow : Nat) (oi : Nat) (oe : Nat) (op : Nat) (len : Nat) (ch : Nat) (va : Nat) (en : Nat) (aE : Int64) (aP : Int64) (lt : Int64) (T : Nat → Nat) (c : Nat → Nat) (rd : Nat → Nat) (ww : Nat → Nat) (wi : Nat → Nat) (EX : Nat → Int64) (PA : Nat → Int64) (p : Nat) (hp : p < 500) (hl : len ≤ 200) (hT : ∀ j, j < len → T j < 1000) : CM (S := Int32 × Nat × Nat) l D (tyL cC cI cJ cO) yX7_number wsX7_number ({ frames := 1, cells := 0, slots := 0, locals := 21 }) [.ref o, .int (nI p)] [(o, .inr (7, [.int (nI len), .ref ot, .ref on, .ref od, .ref ow, .int (nI ch), .int (nI va), .int (nI en), .ref oi, .ref oe, .ref op, .long aE, .long aP, .long lt])), (ot, .inl (cI, 200, .inl (fun j_ => nI (T j_)))), (on, .inl (cI, 78, .inl (fun j_ => nI (c j_)))), (od, .inl (cI, 78, .inl (fun j_ => nI (rd j_)))), (ow, .inl (cI, 468, .inl (fun j_ => nI (ww j_)))), (oi, .inl (cI, 32, .inl (fun j_ => nI (wi j_)))), (oe, .inl (cJ, 256, .inr (.inl EX))), (op, .inl (cJ, 256, .inr (.inl PA)))] (fun u => some (.int u.1)) (fun u => (u.1 = nI 1 ∧ nmS T len p = some (u.2.1, u.2.2)) ∨ (u.1 = nI 0 ∧ nmS T len p = none)) (fun u_ => [(o, .inr (7, [.int (nI len), .ref ot, .ref on, .ref od, .ref ow, .int (nI ch), .int (nI u_.2.1), .int (nI u_.2.2), .ref oi, .ref oe, .ref op, .long aE, .long aP, .long lt])), (ot, .inl (cI, 200, .inl (fun j_ => nI (T j_)))), (on, .inl (cI, 78, .inl (fun j_ => nI (c j_)))), (od, .inl (cI, 78, .inl (fun j_ => nI (rd j_)))), (ow, .inl (cI, 468, .inl (fun j_ => nI (ww j_)))), (oi, .inl (cI, 32, .inl (fun j_ => nI (wi j_)))), (oe, .inl (cJ, 256, .inr (.inl EX))), (op, .inl (cJ, 256, .inr (.inl PA)))]) := by
  refine CM_in (cc := cX7_number) (maxL := 2) (ret := (some .boolean)) (by decide) rfl (Nat.le_of_ble_eq_true rfl) ?_
  intro X hX hret
  show GW X [(o, .inr (7, [.int (nI len), .ref ot, .ref on, .ref od, .ref ow, .int (nI ch), .int (nI va), .int (nI en), .ref oi, .ref oe, .ref op, .long aE, .long aP, .long lt])), (ot, .inl (cI, 200, .inl (fun j_ => nI (T j_)))), (on, .inl (cI, 78, .inl (fun j_ => nI (c j_)))), (od, .inl (cI, 78, .inl (fun j_ => nI (rd j_)))), (ow, .inl (cI, 468, .inl (fun j_ => nI (ww j_)))), (oi, .inl (cI, 32, .inl (fun j_ => nI (wi j_)))), (oe, .inl (cJ, 256, .inr (.inl EX))), (op, .inl (cJ, 256, .inr (.inl PA)))] [(0, .ref o), (1, .int (nI p))] [] 0 0 0
  refine g_aload_n 0 (hd := dX7_number_0) (C := hX) rfl rfl ?_
  refine g_iconst (v := nI 0) hX dX7_number_1 (by decide) ?_
  refine g_put (hd := dX7_number_2) (C := hX) 0 6 [(o, .inr (7, [.int (nI len), .ref ot, .ref on, .ref od, .ref ow, .int (nI ch), .int (nI 0), .int (nI en), .ref oi, .ref oe, .ref op, .long aE, .long aP, .long lt])), (ot, .inl (cI, 200, .inl (fun j_ => nI (T j_)))), (on, .inl (cI, 78, .inl (fun j_ => nI (c j_)))), (od, .inl (cI, 78, .inl (fun j_ => nI (rd j_)))), (ow, .inl (cI, 468, .inl (fun j_ => nI (ww j_)))), (oi, .inl (cI, 32, .inl (fun j_ => nI (wi j_)))), (oe, .inl (cJ, 256, .inr (.inl EX))), (op, .inl (cJ, 256, .inr (.inl PA)))] rfl rfl in_X7_number_7 tyX7_ok nmX7 (by decide) (by decide +kernel) rfl rfl rfl (Nat.le_of_ble_eq_true rfl) rfl ?_
  refine g_aload_n 0 (hd := dX7_number_5) (C := hX) rfl rfl ?_
  refine g_iload_n 1 (hd := dX7_number_6) (C := hX) rfl rfl ?_
  refine g_put (hd := dX7_number_7) (C := hX) 0 7 [(o, .inr (7, [.int (nI len), .ref ot, .ref on, .ref od, .ref ow, .int (nI ch), .int (nI 0), .int (nI p), .ref oi, .ref oe, .ref op, .long aE, .long aP, .long lt])), (ot, .inl (cI, 200, .inl (fun j_ => nI (T j_)))), (on, .inl (cI, 78, .inl (fun j_ => nI (c j_)))), (od, .inl (cI, 78, .inl (fun j_ => nI (rd j_)))), (ow, .inl (cI, 468, .inl (fun j_ => nI (ww j_)))), (oi, .inl (cI, 32, .inl (fun j_ => nI (wi j_)))), (oe, .inl (cJ, 256, .inr (.inl EX))), (op, .inl (cJ, 256, .inr (.inl PA)))] rfl rfl in_X7_number_7 tyX7_ok nmX7 (by decide) (by decide +kernel) rfl rfl rfl (Nat.le_of_ble_eq_true rfl) rfl ?_
  refine g_aload_n 0 (hd := dX7_number_10) (C := hX) rfl rfl ?_
  refine g_get (hd := dX7_number_11) (C := hX) 0 7 rfl rfl in_X7_number_7 (by decide) (by decide +kernel) rfl ?_
  refine g_iload_n 1 (hd := dX7_number_14) (C := hX) rfl rfl ?_
  refine g_iconst (v := nI 2) hX dX7_number_15 (by decide) ?_
  refine g_iadd hX dX7_number_16 ?_
  refine g_top (y := (nI (p + 2))) (nI_add _ _) ?_
  refine g_icmp_geN 83 (hd := dX7_number_17) (C := hX) (by decide) (by omega) (by omega) (fun c_17 => absurd c_17 (by omega)) (fun c_17 => ?_)
  refine g_aload_n 0 (hd := dX7_number_20) (C := hX) rfl rfl ?_
  refine g_aload_n 0 (hd := dX7_number_21) (C := hX) rfl rfl ?_
  refine g_get (hd := dX7_number_22) (C := hX) 0 7 rfl rfl in_X7_number_7 (by decide) (by decide +kernel) rfl ?_
  refine g_callVs (rest := []) hX (c_X7_letterAt l D cC cI cJ cO o ot on od ow oi oe op len ch 0 p aE aP lt T c rd ww wi EX PA p (by omega) hl) ok_X7_letterAt rfl 0 rfl rfl (hd := dX7_number_25) gX7_number_X7_letterAt ⟨by decide, by decide⟩ rfl (Nat.le_of_ble_eq_true rfl) ⟨Nat.zero_le _, Nat.zero_le _⟩ [0, 1, 2, 3, 4, 5, 6, 7] (by decide) rfl rfl ?_
  intro r_25_0 e_25_0
  subst e_25_0
  show GW X [(o, .inr (7, [.int (nI len), .ref ot, .ref on, .ref od, .ref ow, .int (nI ch), .int (nI 0), .int (nI p), .ref oi, .ref oe, .ref op, .long aE, .long aP, .long lt])), (ot, .inl (cI, 200, .inl (fun j_ => nI (T j_)))), (on, .inl (cI, 78, .inl (fun j_ => nI (c j_)))), (od, .inl (cI, 78, .inl (fun j_ => nI (rd j_)))), (ow, .inl (cI, 468, .inl (fun j_ => nI (ww j_)))), (oi, .inl (cI, 32, .inl (fun j_ => nI (wi j_)))), (oe, .inl (cJ, 256, .inr (.inl EX))), (op, .inl (cJ, 256, .inr (.inl PA)))] [(0, .ref o), (1, .int (nI p))] [.int (nI (lA T len p))] 28 0 0
  have q_0 := lA_lt hT (p)
  refine g_bipush (v := nI 48) hX dX7_number_28 (by decide) ?_
  refine g_icmp_ltN 83 (hd := dX7_number_30) (C := hX) (by decide) (by omega) (by omega) (fun c_30 => ?_) (fun c_30 => ?_)
  · refine g_aload_n 0 (hd := dX7_number_83) (C := hX) rfl rfl ?_
    refine g_get (hd := dX7_number_84) (C := hX) 0 7 rfl rfl in_X7_number_7 (by decide) (by decide +kernel) rfl ?_
    refine g_iload_n 1 (hd := dX7_number_87) (C := hX) rfl rfl ?_
    refine g_icmp_leN 95 (hd := dX7_number_88) (C := hX) (by decide) (by omega) (by omega) (fun c_88 => ?_) (fun c_88 => absurd c_88 (by omega))
    refine g_iconst (v := nI 0) hX dX7_number_95 (by decide) ?_
    exact (hret ((nI 0), 0, p) _ _ (Or.inr ⟨rfl, nm_0 (by first | exact Or.inl c_30 | exact Or.inr c_43)⟩)).2.2.1 _ rfl rfl (by decide) dX7_number_96
  · refine g_aload_n 0 (hd := dX7_number_33) (C := hX) rfl rfl ?_
    refine g_aload_n 0 (hd := dX7_number_34) (C := hX) rfl rfl ?_
    refine g_get (hd := dX7_number_35) (C := hX) 0 7 rfl rfl in_X7_number_7 (by decide) (by decide +kernel) rfl ?_
    refine g_callVs (rest := []) hX (c_X7_letterAt l D cC cI cJ cO o ot on od ow oi oe op len ch 0 p aE aP lt T c rd ww wi EX PA p (by omega) hl) ok_X7_letterAt rfl 0 rfl rfl (hd := dX7_number_38) gX7_number_X7_letterAt ⟨by decide, by decide⟩ rfl (Nat.le_of_ble_eq_true rfl) ⟨Nat.zero_le _, Nat.zero_le _⟩ [0, 1, 2, 3, 4, 5, 6, 7] (by decide) rfl rfl ?_
    intro r_38_0 e_38_0
    subst e_38_0
    show GW X [(o, .inr (7, [.int (nI len), .ref ot, .ref on, .ref od, .ref ow, .int (nI ch), .int (nI 0), .int (nI p), .ref oi, .ref oe, .ref op, .long aE, .long aP, .long lt])), (ot, .inl (cI, 200, .inl (fun j_ => nI (T j_)))), (on, .inl (cI, 78, .inl (fun j_ => nI (c j_)))), (od, .inl (cI, 78, .inl (fun j_ => nI (rd j_)))), (ow, .inl (cI, 468, .inl (fun j_ => nI (ww j_)))), (oi, .inl (cI, 32, .inl (fun j_ => nI (wi j_)))), (oe, .inl (cJ, 256, .inr (.inl EX))), (op, .inl (cJ, 256, .inr (.inl PA)))] [(0, .ref o), (1, .int (nI p))] [.int (nI (lA T len p))] 41 0 0
    refine g_bipush (v := nI 57) hX dX7_number_41 (by decide) ?_
    refine g_icmp_gtN 83 (hd := dX7_number_43) (C := hX) (by decide) (by omega) (by omega) (fun c_43 => ?_) (fun c_43 => ?_)
    · refine g_aload_n 0 (hd := dX7_number_83) (C := hX) rfl rfl ?_
      refine g_get (hd := dX7_number_84) (C := hX) 0 7 rfl rfl in_X7_number_7 (by decide) (by decide +kernel) rfl ?_
      refine g_iload_n 1 (hd := dX7_number_87) (C := hX) rfl rfl ?_
      refine g_icmp_leN 95 (hd := dX7_number_88) (C := hX) (by decide) (by omega) (by omega) (fun c_88 => ?_) (fun c_88 => absurd c_88 (by omega))
      refine g_iconst (v := nI 0) hX dX7_number_95 (by decide) ?_
      exact (hret ((nI 0), 0, p) _ _ (Or.inr ⟨rfl, nm_0 (by first | exact Or.inl c_30 | exact Or.inr c_43)⟩)).2.2.1 _ rfl rfl (by decide) dX7_number_96
    · have k1_0 : 48 ≤ lA T len (p) := c_30
      have k2_0 : lA T len (p) ≤ 57 := c_43
      have k3_0 := lA_d k1_0
      refine g_aload_n 0 (hd := dX7_number_46) (C := hX) rfl rfl ?_
      refine g_bipush (v := nI 10) hX dX7_number_47 (by decide) ?_
      refine g_aload_n 0 (hd := dX7_number_49) (C := hX) rfl rfl ?_
      refine g_get (hd := dX7_number_50) (C := hX) 0 6 rfl rfl in_X7_number_7 (by decide) (by decide +kernel) rfl ?_
      refine g_imul hX dX7_number_53 ?_
      refine g_top (y := (nI 0)) (by decide) ?_
      refine g_aload_n 0 (hd := dX7_number_54) (C := hX) rfl rfl ?_
      refine g_get (hd := dX7_number_55) (C := hX) 0 1 rfl rfl in_X7_number_7 (by decide) (by decide +kernel) rfl ?_
      refine g_aload_n 0 (hd := dX7_number_58) (C := hX) rfl rfl ?_
      refine g_get (hd := dX7_number_59) (C := hX) 0 7 rfl rfl in_X7_number_7 (by decide) (by decide +kernel) rfl ?_
      refine g_iald (hd := dX7_number_62) (C := hX) 1 1 rfl rfl (by omega) (by decide) ?_
      refine g_iadd hX dX7_number_63 ?_
      refine g_top (y := (nI (0 + (T p)))) (nI_add _ _) ?_
      refine g_bipush (v := nI 48) hX dX7_number_64 (by decide) ?_
      refine g_isub hX dX7_number_66 ?_
      refine g_top (y := (nI ((0 + (T p)) - 48))) (pk_sub (by omega)) ?_
      refine g_put (hd := dX7_number_67) (C := hX) 0 6 [(o, .inr (7, [.int (nI len), .ref ot, .ref on, .ref od, .ref ow, .int (nI ch), .int (nI ((0 + (T p)) - 48)), .int (nI p), .ref oi, .ref oe, .ref op, .long aE, .long aP, .long lt])), (ot, .inl (cI, 200, .inl (fun j_ => nI (T j_)))), (on, .inl (cI, 78, .inl (fun j_ => nI (c j_)))), (od, .inl (cI, 78, .inl (fun j_ => nI (rd j_)))), (ow, .inl (cI, 468, .inl (fun j_ => nI (ww j_)))), (oi, .inl (cI, 32, .inl (fun j_ => nI (wi j_)))), (oe, .inl (cJ, 256, .inr (.inl EX))), (op, .inl (cJ, 256, .inr (.inl PA)))] rfl rfl in_X7_number_7 tyX7_ok nmX7 (by decide) (by decide +kernel) rfl rfl rfl (Nat.le_of_ble_eq_true rfl) rfl ?_
      refine g_aload_n 0 (hd := dX7_number_70) (C := hX) rfl rfl ?_
      refine g_dup hX dX7_number_71 rfl ?_
      refine g_get (hd := dX7_number_72) (C := hX) 0 7 rfl rfl in_X7_number_7 (by decide) (by decide +kernel) rfl ?_
      refine g_iconst (v := nI 1) hX dX7_number_75 (by decide) ?_
      refine g_iadd hX dX7_number_76 ?_
      refine g_top (y := (nI (p + 1))) (nI_add _ _) ?_
      refine g_put (hd := dX7_number_77) (C := hX) 0 7 [(o, .inr (7, [.int (nI len), .ref ot, .ref on, .ref od, .ref ow, .int (nI ch), .int (nI ((0 + (T p)) - 48)), .int (nI (p + 1)), .ref oi, .ref oe, .ref op, .long aE, .long aP, .long lt])), (ot, .inl (cI, 200, .inl (fun j_ => nI (T j_)))), (on, .inl (cI, 78, .inl (fun j_ => nI (c j_)))), (od, .inl (cI, 78, .inl (fun j_ => nI (rd j_)))), (ow, .inl (cI, 468, .inl (fun j_ => nI (ww j_)))), (oi, .inl (cI, 32, .inl (fun j_ => nI (wi j_)))), (oe, .inl (cJ, 256, .inr (.inl EX))), (op, .inl (cJ, 256, .inr (.inl PA)))] rfl rfl in_X7_number_7 tyX7_ok nmX7 (by decide) (by decide +kernel) rfl rfl rfl (Nat.le_of_ble_eq_true rfl) rfl ?_
      refine g_goto 10 (hd := dX7_number_80) (C := hX) (by decide) ?_
      refine g_aload_n 0 (hd := dX7_number_10) (C := hX) rfl rfl ?_
      refine g_get (hd := dX7_number_11) (C := hX) 0 7 rfl rfl in_X7_number_7 (by decide) (by decide +kernel) rfl ?_
      refine g_iload_n 1 (hd := dX7_number_14) (C := hX) rfl rfl ?_
      refine g_iconst (v := nI 2) hX dX7_number_15 (by decide) ?_
      refine g_iadd hX dX7_number_16 ?_
      refine g_top (y := (nI (p + 2))) (nI_add _ _) ?_
      refine g_icmp_geN 83 (hd := dX7_number_17) (C := hX) (by decide) (by omega) (by omega) (fun c_17 => absurd c_17 (by omega)) (fun c_17 => ?_)
      refine g_aload_n 0 (hd := dX7_number_20) (C := hX) rfl rfl ?_
      refine g_aload_n 0 (hd := dX7_number_21) (C := hX) rfl rfl ?_
      refine g_get (hd := dX7_number_22) (C := hX) 0 7 rfl rfl in_X7_number_7 (by decide) (by decide +kernel) rfl ?_
      refine g_callVs (rest := []) hX (c_X7_letterAt l D cC cI cJ cO o ot on od ow oi oe op len ch ((0 + (T p)) - 48) (p + 1) aE aP lt T c rd ww wi EX PA (p + 1) (by omega) hl) ok_X7_letterAt rfl 0 rfl rfl (hd := dX7_number_25) gX7_number_X7_letterAt ⟨by decide, by decide⟩ rfl (Nat.le_of_ble_eq_true rfl) ⟨Nat.zero_le _, Nat.zero_le _⟩ [0, 1, 2, 3, 4, 5, 6, 7] (by decide) rfl rfl ?_
      intro r_25_1 e_25_1
      subst e_25_1
      show GW X [(o, .inr (7, [.int (nI len), .ref ot, .ref on, .ref od, .ref ow, .int (nI ch), .int (nI ((0 + (T p)) - 48)), .int (nI (p + 1)), .ref oi, .ref oe, .ref op, .long aE, .long aP, .long lt])), (ot, .inl (cI, 200, .inl (fun j_ => nI (T j_)))), (on, .inl (cI, 78, .inl (fun j_ => nI (c j_)))), (od, .inl (cI, 78, .inl (fun j_ => nI (rd j_)))), (ow, .inl (cI, 468, .inl (fun j_ => nI (ww j_)))), (oi, .inl (cI, 32, .inl (fun j_ => nI (wi j_)))), (oe, .inl (cJ, 256, .inr (.inl EX))), (op, .inl (cJ, 256, .inr (.inl PA)))] [(0, .ref o), (1, .int (nI p))] [.int (nI (lA T len (p + 1)))] 28 0 0
      have q_1 := lA_lt hT (p + 1)
      refine g_bipush (v := nI 48) hX dX7_number_28 (by decide) ?_
      refine g_icmp_ltN 83 (hd := dX7_number_30) (C := hX) (by decide) (by omega) (by omega) (fun c_30 => ?_) (fun c_30 => ?_)
      · refine g_aload_n 0 (hd := dX7_number_83) (C := hX) rfl rfl ?_
        refine g_get (hd := dX7_number_84) (C := hX) 0 7 rfl rfl in_X7_number_7 (by decide) (by decide +kernel) rfl ?_
        refine g_iload_n 1 (hd := dX7_number_87) (C := hX) rfl rfl ?_
        refine g_icmp_leN 95 (hd := dX7_number_88) (C := hX) (by decide) (by omega) (by omega) (fun c_88 => absurd c_88 (by omega)) (fun c_88 => ?_)
        refine g_iconst (v := nI 1) hX dX7_number_91 (by decide) ?_
        refine g_goto 96 (hd := dX7_number_92) (C := hX) (by decide) ?_
        exact (hret ((nI 1), (0 + (T p)) - 48, p + 1) _ _ (Or.inl ⟨rfl, nm_1 k1_0 k2_0 (by first | exact Or.inl c_30 | exact Or.inr c_43)⟩)).2.2.1 _ rfl rfl (by decide) dX7_number_96
      · refine g_aload_n 0 (hd := dX7_number_33) (C := hX) rfl rfl ?_
        refine g_aload_n 0 (hd := dX7_number_34) (C := hX) rfl rfl ?_
        refine g_get (hd := dX7_number_35) (C := hX) 0 7 rfl rfl in_X7_number_7 (by decide) (by decide +kernel) rfl ?_
        refine g_callVs (rest := []) hX (c_X7_letterAt l D cC cI cJ cO o ot on od ow oi oe op len ch ((0 + (T p)) - 48) (p + 1) aE aP lt T c rd ww wi EX PA (p + 1) (by omega) hl) ok_X7_letterAt rfl 0 rfl rfl (hd := dX7_number_38) gX7_number_X7_letterAt ⟨by decide, by decide⟩ rfl (Nat.le_of_ble_eq_true rfl) ⟨Nat.zero_le _, Nat.zero_le _⟩ [0, 1, 2, 3, 4, 5, 6, 7] (by decide) rfl rfl ?_
        intro r_38_1 e_38_1
        subst e_38_1
        show GW X [(o, .inr (7, [.int (nI len), .ref ot, .ref on, .ref od, .ref ow, .int (nI ch), .int (nI ((0 + (T p)) - 48)), .int (nI (p + 1)), .ref oi, .ref oe, .ref op, .long aE, .long aP, .long lt])), (ot, .inl (cI, 200, .inl (fun j_ => nI (T j_)))), (on, .inl (cI, 78, .inl (fun j_ => nI (c j_)))), (od, .inl (cI, 78, .inl (fun j_ => nI (rd j_)))), (ow, .inl (cI, 468, .inl (fun j_ => nI (ww j_)))), (oi, .inl (cI, 32, .inl (fun j_ => nI (wi j_)))), (oe, .inl (cJ, 256, .inr (.inl EX))), (op, .inl (cJ, 256, .inr (.inl PA)))] [(0, .ref o), (1, .int (nI p))] [.int (nI (lA T len (p + 1)))] 41 0 0
        refine g_bipush (v := nI 57) hX dX7_number_41 (by decide) ?_
        refine g_icmp_gtN 83 (hd := dX7_number_43) (C := hX) (by decide) (by omega) (by omega) (fun c_43 => ?_) (fun c_43 => ?_)
        · refine g_aload_n 0 (hd := dX7_number_83) (C := hX) rfl rfl ?_
          refine g_get (hd := dX7_number_84) (C := hX) 0 7 rfl rfl in_X7_number_7 (by decide) (by decide +kernel) rfl ?_
          refine g_iload_n 1 (hd := dX7_number_87) (C := hX) rfl rfl ?_
          refine g_icmp_leN 95 (hd := dX7_number_88) (C := hX) (by decide) (by omega) (by omega) (fun c_88 => absurd c_88 (by omega)) (fun c_88 => ?_)
          refine g_iconst (v := nI 1) hX dX7_number_91 (by decide) ?_
          refine g_goto 96 (hd := dX7_number_92) (C := hX) (by decide) ?_
          exact (hret ((nI 1), (0 + (T p)) - 48, p + 1) _ _ (Or.inl ⟨rfl, nm_1 k1_0 k2_0 (by first | exact Or.inl c_30 | exact Or.inr c_43)⟩)).2.2.1 _ rfl rfl (by decide) dX7_number_96
        · have k1_1 : 48 ≤ lA T len (p + 1) := c_30
          have k2_1 : lA T len (p + 1) ≤ 57 := c_43
          have k3_1 := lA_d k1_1
          refine g_aload_n 0 (hd := dX7_number_46) (C := hX) rfl rfl ?_
          refine g_bipush (v := nI 10) hX dX7_number_47 (by decide) ?_
          refine g_aload_n 0 (hd := dX7_number_49) (C := hX) rfl rfl ?_
          refine g_get (hd := dX7_number_50) (C := hX) 0 6 rfl rfl in_X7_number_7 (by decide) (by decide +kernel) rfl ?_
          refine g_imul hX dX7_number_53 ?_
          refine g_top (y := (nI (10 * ((0 + (T p)) - 48)))) (pk_mul _ _) ?_
          refine g_aload_n 0 (hd := dX7_number_54) (C := hX) rfl rfl ?_
          refine g_get (hd := dX7_number_55) (C := hX) 0 1 rfl rfl in_X7_number_7 (by decide) (by decide +kernel) rfl ?_
          refine g_aload_n 0 (hd := dX7_number_58) (C := hX) rfl rfl ?_
          refine g_get (hd := dX7_number_59) (C := hX) 0 7 rfl rfl in_X7_number_7 (by decide) (by decide +kernel) rfl ?_
          refine g_iald (hd := dX7_number_62) (C := hX) 1 1 rfl rfl (by omega) (by decide) ?_
          refine g_iadd hX dX7_number_63 ?_
          refine g_top (y := (nI ((10 * ((0 + (T p)) - 48)) + (T (p + 1))))) (nI_add _ _) ?_
          refine g_bipush (v := nI 48) hX dX7_number_64 (by decide) ?_
          refine g_isub hX dX7_number_66 ?_
          refine g_top (y := (nI (((10 * ((0 + (T p)) - 48)) + (T (p + 1))) - 48))) (pk_sub (by omega)) ?_
          refine g_put (hd := dX7_number_67) (C := hX) 0 6 [(o, .inr (7, [.int (nI len), .ref ot, .ref on, .ref od, .ref ow, .int (nI ch), .int (nI (((10 * ((0 + (T p)) - 48)) + (T (p + 1))) - 48)), .int (nI (p + 1)), .ref oi, .ref oe, .ref op, .long aE, .long aP, .long lt])), (ot, .inl (cI, 200, .inl (fun j_ => nI (T j_)))), (on, .inl (cI, 78, .inl (fun j_ => nI (c j_)))), (od, .inl (cI, 78, .inl (fun j_ => nI (rd j_)))), (ow, .inl (cI, 468, .inl (fun j_ => nI (ww j_)))), (oi, .inl (cI, 32, .inl (fun j_ => nI (wi j_)))), (oe, .inl (cJ, 256, .inr (.inl EX))), (op, .inl (cJ, 256, .inr (.inl PA)))] rfl rfl in_X7_number_7 tyX7_ok nmX7 (by decide) (by decide +kernel) rfl rfl rfl (Nat.le_of_ble_eq_true rfl) rfl ?_
          refine g_aload_n 0 (hd := dX7_number_70) (C := hX) rfl rfl ?_
          refine g_dup hX dX7_number_71 rfl ?_
          refine g_get (hd := dX7_number_72) (C := hX) 0 7 rfl rfl in_X7_number_7 (by decide) (by decide +kernel) rfl ?_
          refine g_iconst (v := nI 1) hX dX7_number_75 (by decide) ?_
          refine g_iadd hX dX7_number_76 ?_
          refine g_top (y := (nI ((p + 1) + 1))) (nI_add _ _) ?_
          refine g_put (hd := dX7_number_77) (C := hX) 0 7 [(o, .inr (7, [.int (nI len), .ref ot, .ref on, .ref od, .ref ow, .int (nI ch), .int (nI (((10 * ((0 + (T p)) - 48)) + (T (p + 1))) - 48)), .int (nI ((p + 1) + 1)), .ref oi, .ref oe, .ref op, .long aE, .long aP, .long lt])), (ot, .inl (cI, 200, .inl (fun j_ => nI (T j_)))), (on, .inl (cI, 78, .inl (fun j_ => nI (c j_)))), (od, .inl (cI, 78, .inl (fun j_ => nI (rd j_)))), (ow, .inl (cI, 468, .inl (fun j_ => nI (ww j_)))), (oi, .inl (cI, 32, .inl (fun j_ => nI (wi j_)))), (oe, .inl (cJ, 256, .inr (.inl EX))), (op, .inl (cJ, 256, .inr (.inl PA)))] rfl rfl in_X7_number_7 tyX7_ok nmX7 (by decide) (by decide +kernel) rfl rfl rfl (Nat.le_of_ble_eq_true rfl) rfl ?_
          refine g_goto 10 (hd := dX7_number_80) (C := hX) (by decide) ?_
          refine g_aload_n 0 (hd := dX7_number_10) (C := hX) rfl rfl ?_
          refine g_get (hd := dX7_number_11) (C := hX) 0 7 rfl rfl in_X7_number_7 (by decide) (by decide +kernel) rfl ?_
          refine g_iload_n 1 (hd := dX7_number_14) (C := hX) rfl rfl ?_
          refine g_iconst (v := nI 2) hX dX7_number_15 (by decide) ?_
          refine g_iadd hX dX7_number_16 ?_
          refine g_top (y := (nI (p + 2))) (nI_add _ _) ?_
          refine g_icmp_geN 83 (hd := dX7_number_17) (C := hX) (by decide) (by omega) (by omega) (fun c_17 => ?_) (fun c_17 => absurd c_17 (by omega))
          refine g_aload_n 0 (hd := dX7_number_83) (C := hX) rfl rfl ?_
          refine g_get (hd := dX7_number_84) (C := hX) 0 7 rfl rfl in_X7_number_7 (by decide) (by decide +kernel) rfl ?_
          refine g_iload_n 1 (hd := dX7_number_87) (C := hX) rfl rfl ?_
          refine g_icmp_leN 95 (hd := dX7_number_88) (C := hX) (by decide) (by omega) (by omega) (fun c_88 => absurd c_88 (by omega)) (fun c_88 => ?_)
          refine g_iconst (v := nI 1) hX dX7_number_91 (by decide) ?_
          refine g_goto 96 (hd := dX7_number_92) (C := hX) (by decide) ?_
          exact (hret ((nI 1), ((10 * ((0 + (T p)) - 48)) + (T (p + 1))) - 48, (p + 1) + 1) _ _ (Or.inl ⟨rfl, nm_2 k1_0 k2_0 k1_1 k2_1⟩)).2.2.1 _ rfl rfl (by decide) dX7_number_96

theorem in_X7_more_7 : ∀ w ∈ wsX70, w ∈ wsX7_more := fun _ h => List.mem_cons_of_mem _ (List.mem_append_right _ h)
theorem ok_X7_more : gOK yX7_more wsX7_more ({ frames := 2, cells := 0, slots := 0, locals := 42 }) 1 0 := ⟨⟨_, _, _, rfl⟩, rfl, rfl, by decide, by decide, by decide +kernel⟩
set_option maxRecDepth 100000 in
set_option maxHeartbeats 4000000 in
theorem c_X7_more (l : Launch) (D : va_G) (cC cI cJ cO : ClassId) (o : Nat) (ot : Nat) (on : Nat) (od : Nat) (ow : Nat) (oi : Nat) (oe : Nat) (op : Nat) (len : Nat) (ch : Nat) (va : Nat) (en : Nat) (aE : Int64) (aP : Int64) (lt : Int64) (T : Nat → Nat) (c : Nat → Nat) (rd : Nat → Nat) (ww : Nat → Nat) (wi : Nat → Nat) (EX : Nat → Int64) (PA : Nat → Int64) (hp : en < 400) (hl : len ≤ 200) (hT : ∀ j, j < len → T j < 1000) : CM (S := Int32 × Nat × Nat) l D (tyL cC cI cJ cO) yX7_more wsX7_more ({ frames := 2, cells := 0, slots := 0, locals := 42 }) [.ref o] [(o, .inr (7, [.int (nI len), .ref ot, .ref on, .ref od, .ref ow, .int (nI ch), .int (nI va), .int (nI en), .ref oi, .ref oe, .ref op, .long aE, .long aP, .long lt])), (ot, .inl (cI, 200, .inl (fun j_ => nI (T j_)))), (on, .inl (cI, 78, .inl (fun j_ => nI (c j_)))), (od, .inl (cI, 78, .inl (fun j_ => nI (rd j_)))), (ow, .inl (cI, 468, .inl (fun j_ => nI (ww j_)))), (oi, .inl (cI, 32, .inl (fun j_ => nI (wi j_)))), (oe, .inl (cJ, 256, .inr (.inl EX))), (op, .inl (cJ, 256, .inr (.inl PA)))] (fun u => some (.int u.1)) (fun u => (u.1 = nI 1 ∧ lA T len en = 44 ∧ nmS T len (en + 1) = some (u.2.1, u.2.2)) ∨ (u.1 = nI 0 ∧ ∀ y, ¬ (lA T len en = 44 ∧ nmS T len (en + 1) = some y))) (fun u_ => [(o, .inr (7, [.int (nI len), .ref ot, .ref on, .ref od, .ref ow, .int (nI ch), .int (nI u_.2.1), .int (nI u_.2.2), .ref oi, .ref oe, .ref op, .long aE, .long aP, .long lt])), (ot, .inl (cI, 200, .inl (fun j_ => nI (T j_)))), (on, .inl (cI, 78, .inl (fun j_ => nI (c j_)))), (od, .inl (cI, 78, .inl (fun j_ => nI (rd j_)))), (ow, .inl (cI, 468, .inl (fun j_ => nI (ww j_)))), (oi, .inl (cI, 32, .inl (fun j_ => nI (wi j_)))), (oe, .inl (cJ, 256, .inr (.inl EX))), (op, .inl (cJ, 256, .inr (.inl PA)))]) := by
  refine CM_in (cc := cX7_more) (maxL := 1) (ret := (some .boolean)) (by decide) rfl (Nat.le_of_ble_eq_true rfl) ?_
  intro X hX hret
  show GW X [(o, .inr (7, [.int (nI len), .ref ot, .ref on, .ref od, .ref ow, .int (nI ch), .int (nI va), .int (nI en), .ref oi, .ref oe, .ref op, .long aE, .long aP, .long lt])), (ot, .inl (cI, 200, .inl (fun j_ => nI (T j_)))), (on, .inl (cI, 78, .inl (fun j_ => nI (c j_)))), (od, .inl (cI, 78, .inl (fun j_ => nI (rd j_)))), (ow, .inl (cI, 468, .inl (fun j_ => nI (ww j_)))), (oi, .inl (cI, 32, .inl (fun j_ => nI (wi j_)))), (oe, .inl (cJ, 256, .inr (.inl EX))), (op, .inl (cJ, 256, .inr (.inl PA)))] [(0, .ref o)] [] 0 0 0
  refine g_aload_n 0 (hd := dX7_more_0) (C := hX) rfl rfl ?_
  refine g_aload_n 0 (hd := dX7_more_1) (C := hX) rfl rfl ?_
  refine g_get (hd := dX7_more_2) (C := hX) 0 7 rfl rfl in_X7_more_7 (by decide) (by decide +kernel) rfl ?_
  refine g_callVs (rest := []) hX (c_X7_letterAt l D cC cI cJ cO o ot on od ow oi oe op len ch va en aE aP lt T c rd ww wi EX PA en (by omega) hl) ok_X7_letterAt rfl 0 rfl rfl (hd := dX7_more_5) gX7_more_X7_letterAt ⟨by decide, by decide⟩ rfl (Nat.le_of_ble_eq_true rfl) ⟨Nat.zero_le _, Nat.zero_le _⟩ [0, 1, 2, 3, 4, 5, 6, 7] (by decide) rfl rfl ?_
  intro r_5 e_5
  subst e_5
  show GW X [(o, .inr (7, [.int (nI len), .ref ot, .ref on, .ref od, .ref ow, .int (nI ch), .int (nI va), .int (nI en), .ref oi, .ref oe, .ref op, .long aE, .long aP, .long lt])), (ot, .inl (cI, 200, .inl (fun j_ => nI (T j_)))), (on, .inl (cI, 78, .inl (fun j_ => nI (c j_)))), (od, .inl (cI, 78, .inl (fun j_ => nI (rd j_)))), (ow, .inl (cI, 468, .inl (fun j_ => nI (ww j_)))), (oi, .inl (cI, 32, .inl (fun j_ => nI (wi j_)))), (oe, .inl (cJ, 256, .inr (.inl EX))), (op, .inl (cJ, 256, .inr (.inl PA)))] [(0, .ref o)] [.int (nI (lA T len en))] 8 0 0
  have q_0 := lA_lt hT en
  refine g_bipush (v := nI 44) hX dX7_more_8 (by decide) ?_
  refine g_icmp_neN 30 (hd := dX7_more_10) (C := hX) (by decide) (by omega) (by omega) (fun c_10 => ?_) (fun c_10 => ?_)
  · refine g_iconst (v := nI 0) hX dX7_more_30 (by decide) ?_
    exact (hret ((nI 0), va, en) _ _ (Or.inr ⟨rfl, fun y z => c_10 z.1⟩)).2.2.1 _ rfl rfl (by decide) dX7_more_31
  · refine g_aload_n 0 (hd := dX7_more_13) (C := hX) rfl rfl ?_
    refine g_aload_n 0 (hd := dX7_more_14) (C := hX) rfl rfl ?_
    refine g_get (hd := dX7_more_15) (C := hX) 0 7 rfl rfl in_X7_more_7 (by decide) (by decide +kernel) rfl ?_
    refine g_iconst (v := nI 1) hX dX7_more_18 (by decide) ?_
    refine g_iadd hX dX7_more_19 ?_
    refine g_top (y := (nI (en + 1))) (nI_add _ _) ?_
    refine g_callVp (rest := []) hX (c_X7_number l D cC cI cJ cO o ot on od ow oi oe op len ch va en aE aP lt T c rd ww wi EX PA (en + 1) (by omega) hl hT) ok_X7_number rfl 0 rfl rfl (fun _ => rfl) (hd := dX7_more_20) gX7_more_X7_number ⟨by decide, by decide⟩ rfl (Nat.le_of_ble_eq_true rfl) ⟨Nat.zero_le _, Nat.zero_le _⟩ [] rfl rfl ?_
    intro ⟨r_20, va_20, en_20⟩ e_20
    simp only at e_20
    rcases e_20 with ⟨rfl, p_20⟩ | ⟨rfl, p_20⟩
    · have b_20 := nmS_lt p_20
      show GW X [(o, .inr (7, [.int (nI len), .ref ot, .ref on, .ref od, .ref ow, .int (nI ch), .int (nI va_20), .int (nI en_20), .ref oi, .ref oe, .ref op, .long aE, .long aP, .long lt])), (ot, .inl (cI, 200, .inl (fun j_ => nI (T j_)))), (on, .inl (cI, 78, .inl (fun j_ => nI (c j_)))), (od, .inl (cI, 78, .inl (fun j_ => nI (rd j_)))), (ow, .inl (cI, 468, .inl (fun j_ => nI (ww j_)))), (oi, .inl (cI, 32, .inl (fun j_ => nI (wi j_)))), (oe, .inl (cJ, 256, .inr (.inl EX))), (op, .inl (cJ, 256, .inr (.inl PA)))] [(0, .ref o)] [.int (nI 1)] 23 0 0
      refine g_if_eqN 30 (hd := dX7_more_23) (C := hX) (by decide) (by decide) (fun c_23 => absurd c_23 (by decide)) (fun c_23 => ?_)
      refine g_iconst (v := nI 1) hX dX7_more_26 (by decide) ?_
      refine g_goto 31 (hd := dX7_more_27) (C := hX) (by decide) ?_
      exact (hret ((nI 1), va_20, en_20) _ _ (Or.inl ⟨rfl, c_10, p_20⟩)).2.2.1 _ rfl rfl (by decide) dX7_more_31
    · show GW X [(o, .inr (7, [.int (nI len), .ref ot, .ref on, .ref od, .ref ow, .int (nI ch), .int (nI va_20), .int (nI en_20), .ref oi, .ref oe, .ref op, .long aE, .long aP, .long lt])), (ot, .inl (cI, 200, .inl (fun j_ => nI (T j_)))), (on, .inl (cI, 78, .inl (fun j_ => nI (c j_)))), (od, .inl (cI, 78, .inl (fun j_ => nI (rd j_)))), (ow, .inl (cI, 468, .inl (fun j_ => nI (ww j_)))), (oi, .inl (cI, 32, .inl (fun j_ => nI (wi j_)))), (oe, .inl (cJ, 256, .inr (.inl EX))), (op, .inl (cJ, 256, .inr (.inl PA)))] [(0, .ref o)] [.int (nI 0)] 23 0 0
      refine g_if_eqN 30 (hd := dX7_more_23) (C := hX) (by decide) (by decide) (fun c_23 => ?_) (fun c_23 => absurd c_23 (by decide))
      refine g_iconst (v := nI 0) hX dX7_more_30 (by decide) ?_
      exact (hret ((nI 0), va_20, en_20) _ _ (Or.inr ⟨rfl, fun y z => by rw [p_20] at z; cases z.2⟩)).2.2.1 _ rfl rfl (by decide) dX7_more_31
