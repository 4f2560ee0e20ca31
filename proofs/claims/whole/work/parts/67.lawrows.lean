/-! THE CLAIM OUT OF ONE WALK OF THE LAW'S BODY. Your part is whole_start (and what it stands on); all else here is the same for every law, but numbers. -/
def R_law : String := "SelfChecksLaw"
def lw_P (b : Addr) (xs : List Int32) (args : Array Value) (s : State) : Prop := args = #[.ref b] ∧ s.IntsAt b xs ∧ xs.length ≤ 2560 ∧ (Jvm.Cond.and given_1 narrow_1).before args s = true
def lw_Q (_ : Array Value) (s : State) (o : Outcome) (t : State) : Prop := o = .returned (some (.int 1)) ∧ Framed s o t [] 600000 7302250
def lw_Z (below : List Frame) (a : Array Value) (s : State) : State → Prop := fun t => ∃ o, t.status = .running ∧ Ended t below o ∧ lw_Q a s o t
/-- the law's own end, with 1 on the stack, nothing written that was there before, its room as the claim has it -/
theorem lw_ret {p : Program} {l : Launch} {e : Env} {s : State} {m : MethodId} {below : List Frame} {meth : Method} {c : Code} {b : Nat} (hx : p.tables.exec = Jvm.exec) (hb : c.code = code) (hr : meth.sig.returnType = ret) (hlocks : meth.locks = false) {pc : Nat} {H : Heap} {ls : Array Slot} (hdg : decode code pc = .ok (.ireturn, 1)) : W p l e room_1 s m #[Value.ref b] below meth c H [] 600000 7302250 (lw_Z below #[Value.ref b] s) (F0 m pc ls [.int 1]) := by
  intro T hT X
  obtain ⟨fs, hret, hrun, hended, hW, hframe⟩ := X.leave (v := some (.int 1)) (hlocks := hlocks) (fun h => by rw [hr] at h; cases h)
  have hmeth' : T.vm.method? m = some meth := X.method'
  refine ⟨T.setFrames fs, ?_, .returned (some (.int 1)), hrun, hended, rfl, ⟨_, rfl⟩, hW, hframe⟩
  jvm_step X.here [X.here.top, hx, hb, hdg, hmeth', hr, ret, narrow_b1]
  (try refine ⟨rfl, ?_⟩); (try refine ⟨rfl, ?_⟩)
  first | (intro acts; rw [hret _ acts rfl rfl rfl]) | rw [hret _ _ rfl rfl rfl]
  exact Steps.refl _
/-- what holds at the law's entry: the machine, the code, the tables' words (any of lw_tbl by 'hts w (by decide +kernel)'), the script of L ints xs at the cell b, what the Statement gives of the start (any of its parts by flat_of_before) -/
def lw_At (p : Program) (s : State) (m : MethodId) (meth : Method) (c : Code) (b L : Nat) (xs : Nat → Int32) : Prop :=
  p.tables.exec = Jvm.exec ∧ c.code = code ∧ meth.sig.returnType = ret ∧ c.maxLocals = 4 ∧ s.vm.findClass R_law = some m.cls ∧ (∀ w ∈ lw_tbl, w.before #[Value.ref b] s = true) ∧ va_X b L xs s s.heap ∧ b < s.heap.size ∧ meth.locks = false ∧ (Jvm.Cond.and given_1 narrow_1).before #[Value.ref b] s = true
/-! the law's own rows: the script, the classes of arrays, its end -/
theorem kA_of {ty : FieldType} {args : Array Value} {s : State} (h : (Cond.arrayClass ty).before args s = true) : ∃ cA : ClassId, ArrOfT s cA ty ∧ s.vm.findClass ("[" ++ ty.toString) = some cA := by
  obtain ⟨cA, kA, comp, h1, h2, h3⟩ := Cond.arrayClass_spec h
  exact ⟨cA, fun n z => ⟨fun k h => (by cases h), kA, h2, comp, h3⟩, h1⟩
theorem kO_of {C : String} {s : State} (h : va_AO C s) : ∃ cA : ClassId, ArrOfT s cA (.object C) ∧ va_RA s cA (.object C) := by
  obtain ⟨comp, cA, kA, h1, h2, h3, h4, h5⟩ := Cond.arrayOver_spec h
  exact ⟨cA, fun n z => ⟨fun k h => (by cases h), kA, h3, comp, h4⟩, kA, comp, h3, h4, h1, h5⟩
/-- the script of L ints xs lies at sc, and nobody writes there -/
def GS : gT → Nat → Nat → (Nat → Int32) → Prop
  | (_, _, _, _, s, _, _, _, _, _, _, _, _, A, _), sc, L, xs => va_X sc L xs s s.heap ∧ sc < s.heap.size ∧ ¬ A sc
/-- the law's end is the claim's -/
def GE : gT → Prop
  | (_, _, _, R, s, _, args, below, meth, c, _, _, _, A, Q) => R = room_1 ∧ (∃ b : Nat, args = #[Value.ref b]) ∧ c.code = code ∧ meth.sig.returnType = ret ∧ meth.locks = false ∧ (∀ q, A q → s.heap.size ≤ q) ∧ Q = lw_Z below args s
section GLW
variable {X : gT} {l0 : Launch} {D0 : va_G} {t0 : List (ClassId × FieldType)} {R0 : Room} {cc : ByteArray} {n0 : Nat} {own : String} {Ts : List Cond} {ws : va_W} {lv : List (Nat × Value)} {rest : List Value} {pc cs sl : Nat}
theorem g_sld (C : GX X l0 D0 t0 R0 cc n0 own Ts) {sc L : Nat} {xs : Nat → Int32} (S : GS X sc L xs) {i : Nat} (hL : L ≤ 2560) (hi : i < L) (hd : decode cc pc = .ok (.iaload, 1)) (k : GW X ws lv (.int (xs i) :: rest) (pc + 1) cs sl) : GW X ws lv (.int (nI i) :: .ref sc :: rest) pc cs sl := by
  obtain ⟨p, l, e, R, s, m, args, below, meth, c, nL, D, tys, A, Q⟩ := X
  obtain ⟨hx, hb, hml, hown, hts, hK, hA, hlk, rfl, rfl, rfl, rfl, rfl, hN⟩ := C
  obtain ⟨s1, s2, s3⟩ := S
  intro H locs ls hP hD hS hl
  refine va_sld hx hb s1 s2 s3 hS (vp_in_nI hi (by omega)) hd ?_
  rw [nI_clamp (show i < 2147483648 by omega)]
  exact k H locs ls hP hD hS hl
theorem g_slen (C : GX X l0 D0 t0 R0 cc n0 own Ts) {sc L : Nat} {xs : Nat → Int32} (S : GS X sc L xs) (hd : decode cc pc = .ok (.arraylength, 1)) (k : GW X ws lv (.int (nI L) :: rest) (pc + 1) cs sl) : GW X ws lv (.ref sc :: rest) pc cs sl := by
  obtain ⟨p, l, e, R, s, m, args, below, meth, c, nL, D, tys, A, Q⟩ := X
  obtain ⟨hx, hb, hml, hown, hts, hK, hA, hlk, rfl, rfl, rfl, rfl, rfl, hN⟩ := C
  obtain ⟨s1, s2, s3⟩ := S
  intro H locs ls hP hD hS hl
  exact va_slen hx hb s1 s2 s3 hS hd (k H locs ls hP hD hS hl)
theorem g_end (C : GX X l0 D0 t0 R0 cc n0 own Ts) (E : GE X) (hcs : cs ≤ 600000) (hsl : sl ≤ 7302250) (hd : decode code pc = .ok (.ireturn, 1)) : GW X ws lv [.int (nI 1)] pc cs sl := by
  obtain ⟨p, l, e, R, s, m, args, below, meth, c, nL, D, tys, A, Q⟩ := X
  obtain ⟨hx, hb, hml, hown, hts, hK, hA, hlk, rfl, rfl, rfl, rfl, rfl, hN⟩ := C
  obtain ⟨rfl, ⟨b, rfl⟩, hc, hr, hlocks, hA2, rfl⟩ := E
  intro H locs ls hP hD hS hl
  refine va_forget (fun q hq => hA2 _ (hS.2.2 q hq)) ?_
  refine W.widen hcs hsl ?_
  exact lw_ret hx hc hr hlocks hd
end GLW
/-- the loop's test -/
theorem lp_t {i L : Nat} (hi : i < 2147483) (hL : L ≤ 2560) (h : ¬ nI L - nI 5 < nI i) : i + 5 ≤ L := by
  rw [Int32.lt_iff_toInt_lt, pk_sub_toInt (by omega) (by omega), nI_toInt (by omega)] at h
  omega
