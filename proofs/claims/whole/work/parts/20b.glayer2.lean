/-! a callee whose cells come first -/
theorem ovr_app (fr : va_W) : ∀ (w1 w0 pre : va_W), w1.length = w0.length → ovr (pre ++ (w0 ++ fr)) (List.range' pre.length w0.length) w1 = pre ++ (w1 ++ fr)
  | [], [], pre, _ => by simp [ovr]
  | [], b :: w0, pre, h => by simp at h
  | a :: w1, [], pre, h => by simp at h
  | a :: w1, b :: w0, pre, h => by
    have ih := ovr_app fr w1 w0 (pre ++ [a]) (by simpa using h)
    have e1 : (pre ++ (b :: w0 ++ fr)).set pre.length a = (pre ++ [a]) ++ (w0 ++ fr) := by
      rw [List.set_append_right _ _ (Nat.le_refl _)]
      simp
    show ovr (pre ++ (b :: w0 ++ fr)) (List.range' pre.length (w0.length + 1)) (a :: w1) = _
    rw [List.range'_succ]
    show ovr ((pre ++ (b :: w0 ++ fr)).set pre.length a) (List.range' (pre.length + 1) w0.length) w1 = _
    rw [e1]
    have e2 : (pre ++ [a]).length = pre.length + 1 := by simp
    rw [e2] at ih
    rw [ih]
    simp
theorem nd_range (n : Nat) : ∀ s, va_nd (List.range' s n) = true := by
  induction n with
  | zero => intro s; rfl
  | succ n ih =>
    intro s
    rw [List.range'_succ]
    simp only [va_nd, Bool.and_eq_true, decide_eq_true_eq]
    exact ⟨fun h => by have := List.mem_range'_1.mp h; omega, ih (s + 1)⟩
theorem map_range (fr : va_W) : ∀ (w0 pre : va_W), (List.range' pre.length w0.length).map (fun i => (pre ++ (w0 ++ fr))[i]?) = w0.map some
  | [], pre => rfl
  | b :: w0, pre => by
    have ih := map_range fr w0 (pre ++ [b])
    have e2 : (pre ++ [b]).length = pre.length + 1 := by simp
    rw [e2] at ih
    show (List.range' pre.length (w0.length + 1)).map _ = _
    rw [List.range'_succ, List.map_cons, List.map_cons]
    congr 1
    · simp
    · rw [← ih]
      simp
section GC3
variable {X : gT} {l0 : Launch} {D0 : va_G} {t0 : List (ClassId × FieldType)} {R0 : Room} {cc : ByteArray} {n0 : Nat} {own : String} {Ts : List Cond} {ws : va_W} {lv : List (Nat × Value)} {rest : List Value} {pc cs sl : Nat}
variable {S : Type} {y : MethodName} {wds : List Cond} {rm : Room} {w0 : va_W} {rv : S → Option Value} {post : S → Prop} {w1 : S → va_W} {maxL n index : Nat} {cn : String} {As : List Value}
theorem g_callVp (C : GX X l0 D0 t0 R0 cc n0 own Ts) {b ci : Nat} {fs : List Value} {T : u_T} {N : Nat} (M : CM l0 D0 t0 y wds rm (.ref b :: As) w0 rv post w1) (K : gOK y wds rm maxL n) (hcn : y.cls = cn) (q0 : Nat) (hci : vwCl[ci]? = some (cn, T, N)) (hq0 : w0[q0]? = some (b, .inr (ci, fs))) (hf : ∀ u, (w1 u).map Prod.fst = w0.map Prod.fst)
    (hd : decode cc pc = .ok (.invokevirtual index, 3)) (hT : GoodIn Ts (wsV own index cn y wds)) (hR : rm.frames + 1 ≤ R0.frames ∧ 8 + (maxL + 11) + rm.locals ≤ R0.locals) (hn : As.length = n) (hst : (rest.map fun v => v.category).sum ≤ 8) (hcs : cs ≤ R0.cells ∧ sl ≤ R0.slots)
    (fr : va_W) (hws : ws = w0 ++ fr) {st0 : List Value} (hst0 : st0 = As.reverse ++ .ref b :: rest) (k : ∀ u, post u → GW X (w1 u ++ fr) lv ((rv u).toList ++ rest) (pc + 3) cs sl) : GW X ws lv st0 pc cs sl := by
  subst hws
  refine g_callV C M K hcn q0 hci hq0 hf hd hT hR hn hst hcs (List.range' 0 w0.length) (nd_range _ _) (map_range fr w0 []) hst0 (fun u hu => ?_)
  have hl : (w1 u).length = w0.length := by have := congrArg List.length (hf u); simpa using this
  have e := ovr_app fr (w1 u) w0 [] hl
  exact e.symm ▸ k u hu
end GC3
