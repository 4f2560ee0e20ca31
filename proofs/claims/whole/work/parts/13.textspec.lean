/-! how a text is read: T the letters, len of them -/
def dg (T : Nat → Nat) (len p : Nat) : Bool := decide (p < len) && (decide (48 ≤ T p) && decide (T p ≤ 57))
theorem dg_yes {T : Nat → Nat} {len p : Nat} (h : p < len) (h1 : 48 ≤ T p) (h2 : T p ≤ 57) : dg T len p = true := by simp [dg, h, h1, h2]
theorem dg_no {T : Nat → Nat} {len p : Nat} (h : len ≤ p ∨ T p < 48 ∨ 57 < T p) : dg T len p = false := by
  unfold dg
  rcases h with h | h | h
  · rw [decide_eq_false (by omega)]; rfl
  · rw [decide_eq_false (show ¬ 48 ≤ T p by omega)]; simp
  · rw [decide_eq_false (show ¬ T p ≤ 57 by omega)]; simp
def nmS (T : Nat → Nat) (len p : Nat) : Option (Nat × Nat) := if dg T len p then (if dg T len (p + 1) then some (10 * (T p - 48) + (T (p + 1) - 48), p + 2) else some (T p - 48, p + 1)) else none
def rdK (T : Nat → Nat) (len : Nat) : Nat → Nat → Option (List Nat × Nat)
  | 0, p => some ([], p)
  | c + 1, p => match nmS T len p with
    | none => none
    | some vq => if vq.2 < len ∧ T vq.2 = (if c = 0 then 59 else 44) then (match rdK T len c (vq.2 + 1) with
      | none => none
      | some z => some (vq.1 :: z.1, z.2)) else none
def nbS (h : Nat) : Nat := if h = 110 then 1 else if h = 111 ∨ h = 99 then 2 else if h = 103 then 3 else 0
def cdB (n k w : Nat) : Bool := (k == 0 && w == 0) || ((k == 1 && decide (w ≤ n)) || ((k == 2 && decide (w ≤ n)) || (k == 3 && (w == 0 && n % 2 == 0))))
theorem cdB_iff (n k w : Nat) : cdB n k w = true ↔ cdOK n k w := by simp [cdB, cdOK]
def tlS (b : Nat → Nat) (hd x y z : Nat) : Option (Nat → Nat) :=
  if hd = 110 then (if b 0 = 0 ∧ 1 ≤ x ∧ x ≤ 8 then some (stC b x) else none)
  else if b 0 = 0 then none
  else if hd = 103 then (if b 1 < 24 ∧ x < 6 ∧ y < b 0 + b 1 ∧ z < b 0 + b 1 then some (agC b x y z) else none)
  else if hd = 111 then (if x < b 0 + b 1 ∧ y < b 0 + b 1 then some (srC b x y) else none)
  else (if cdB (b 0) x y = true then some (scC b x y) else none)
def itS (T : Nat → Nat) (len : Nat) (b : Nat → Nat) (p : Nat) : Option ((Nat → Nat) × Nat) :=
  if nbS (T p) = 0 then none else match rdK T len (nbS (T p)) (p + 1) with
    | none => none
    | some ve => match tlS b (T p) (ve.1.getD 0 0) (ve.1.getD 1 0) (ve.1.getD 2 0) with
      | none => none
      | some c => some (c, ve.2)
def psS (T : Nat → Nat) (len : Nat) : Nat → (Nat → Nat) → Nat → Option Nat × (Nat → Nat)
  | 0, b, _ => (none, b)
  | n + 1, b, p => if p < len then (match itS T len b p with
    | none => (some p, b)
    | some ce => psS T len n ce.1 ce.2) else (none, b)
theorem tlS_bd {b c : Nat → Nat} {hd x y z : Nat} (h0 : b 0 ≤ 8) (h1 : b 1 ≤ 24) (h : tlS b hd x y z = some c) : c 0 ≤ 8 ∧ c 1 ≤ 24 := by
  unfold tlS at h
  repeat' split at h
  all_goals first | cases h | skip
  · rename_i h2
    exact ⟨by rw [stC_0]; omega, by rw [stC_1]; omega⟩
  · rename_i h2
    exact ⟨by rw [agC_0]; omega, by rw [agC_1]; omega⟩
  · exact ⟨by rw [srC_0]; omega, by rw [srC_1]; omega⟩
  · exact ⟨by rw [scC_0]; omega, by rw [scC_1]; omega⟩
theorem itS_bd {T b c : Nat → Nat} {len p e : Nat} (h0 : b 0 ≤ 8) (h1 : b 1 ≤ 24) (h : itS T len b p = some (c, e)) : c 0 ≤ 8 ∧ c 1 ≤ 24 := by
  unfold itS at h
  repeat' split at h
  all_goals first | cases h | skip
  rename_i h2
  exact tlS_bd h0 h1 h2
theorem nI_neg {n : Nat} {k : Int32} (hk : k < 0) (h : n < 2147483648) : ¬ nI n = k := fun e => nI_pos h (e ▸ hk)
theorem dg_le {T : Nat → Nat} {len p : Nat} (h : dg T len p = true) : p < len ∧ 48 ≤ T p ∧ T p ≤ 57 := by
  simpa [dg] using h
theorem nmS_lt {T : Nat → Nat} {len p v q : Nat} (h : nmS T len p = some (v, q)) : v < 100 ∧ p < q ∧ q ≤ len := by
  unfold nmS at h
  repeat' split at h
  · rename_i h1 h2
    cases h
    have := dg_le h1
    have := dg_le h2
    omega
  · rename_i h1 h2
    cases h
    have := dg_le h1
    omega
  · cases h
theorem nbS_cs (h : Nat) : nbS h = 1 ∨ nbS h = 2 ∨ nbS h = 3 ∨ nbS h = 0 := by
  unfold nbS
  repeat' split
  all_goals simp
theorem nbS_1 {h : Nat} (e : nbS h = 1) : h = 110 := by
  unfold nbS at e
  repeat' split at e
  all_goals first | assumption | omega
theorem nbS_2 {h : Nat} (e : nbS h = 2) : h = 111 ∨ h = 99 := by
  unfold nbS at e
  repeat' split at e
  all_goals first | assumption | omega
theorem nbS_3 {h : Nat} (e : nbS h = 3) : h = 103 := by
  unfold nbS at e
  repeat' split at e
  all_goals first | assumption | omega
