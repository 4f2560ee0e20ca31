/-! a callee that changes nothing -/
theorem ovr_self : ∀ (is : List Nat) (w0 ws : va_W), is.map (fun i => ws[i]?) = w0.map some → ovr ws is w0 = ws
  | [], _, ws, _ => by unfold ovr; rfl
  | i :: is, [], ws, h => by simp at h
  | i :: is, c :: cs, ws, h => by
    rw [List.map_cons, List.map_cons] at h
    have h1 : ws[i]? = some c := (List.cons.inj h).1
    have e : ws.set i c = ws := by
      obtain ⟨hl, e1⟩ := List.getElem?_eq_some_iff.mp h1
      rw [← e1]
      exact List.set_getElem_self hl
    show ovr (ws.set i c) is cs = ws
    rw [e]
    exact ovr_self is cs ws (List.cons.inj h).2
section GC4
variable {X : gT} {l0 : Launch} {D0 : va_G} {t0 : List (ClassId × FieldType)} {R0 : Room} {cc : ByteArray} {n0 : Nat} {own : String} {Ts : List Cond} {ws : va_W} {lv : List (Nat × Value)} {rest : List Value} {pc cs sl : Nat}
variable {S : Type} {y : MethodName} {wds : List Cond} {rm : Room} {w0 : va_W} {rv : S → Option Value} {post : S → Prop} {maxL n index : Nat} {cn : String} {As : List Value}
theorem g_callVs (C : GX X l0 D0 t0 R0 cc n0 own Ts) {b ci : Nat} {fs : List Value} {T : u_T} {N : Nat} (M : CM l0 D0 t0 y wds rm (.ref b :: As) w0 rv post (fun _ => w0)) (K : gOK y wds rm maxL n) (hcn : y.cls = cn) (q0 : Nat) (hci : vwCl[ci]? = some (cn, T, N)) (hq0 : w0[q0]? = some (b, .inr (ci, fs)))
    (hd : decode cc pc = .ok (.invokevirtual index, 3)) (hT : GoodIn Ts (wsV own index cn y wds)) (hR : rm.frames + 1 ≤ R0.frames ∧ 8 + (maxL + 11) + rm.locals ≤ R0.locals) (hn : As.length = n) (hst : (rest.map fun v => v.category).sum ≤ 8) (hcs : cs ≤ R0.cells ∧ sl ≤ R0.slots)
    (isC : List Nat) (hnd : va_nd isC = true) (hC : isC.map (fun i => ws[i]?) = w0.map some) {st0 : List Value} (hst0 : st0 = As.reverse ++ .ref b :: rest) (k : ∀ u, post u → GW X ws lv ((rv u).toList ++ rest) (pc + 3) cs sl) : GW X ws lv st0 pc cs sl :=
  g_callV C M K hcn q0 hci hq0 (fun _ => rfl) hd hT hR hn hst hcs isC hnd hC hst0 (fun u hu => (ovr_self isC w0 ws hC).symm ▸ k u hu)
theorem g_callSs (C : GX X l0 D0 t0 R0 cc n0 own Ts) (M : CM l0 D0 t0 y wds rm As w0 rv post (fun _ => w0)) (K : gOK y wds rm maxL n)
    (hd : decode cc pc = .ok (.invokestatic index, 3)) (hT : GoodIn Ts (va_wsS own index y wds)) (hR : rm.frames + 1 ≤ R0.frames ∧ 8 + (maxL + 11) + rm.locals ≤ R0.locals) (hn : As.length = n) (hst : (rest.map fun v => v.category).sum ≤ 8) (hcs : cs ≤ R0.cells ∧ sl ≤ R0.slots)
    (isC : List Nat) (hnd : va_nd isC = true) (hC : isC.map (fun i => ws[i]?) = w0.map some) {st0 : List Value} (hst0 : st0 = As.reverse ++ rest) (k : ∀ u, post u → GW X ws lv ((rv u).toList ++ rest) (pc + 3) cs sl) : GW X ws lv st0 pc cs sl :=
  g_callS C M K (fun _ => rfl) hd hT hR hn hst hcs isC hnd hC hst0 (fun u hu => (ovr_self isC w0 ws hC).symm ▸ k u hu)
end GC4
