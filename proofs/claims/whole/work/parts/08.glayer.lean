/-! the goal carries the state: world, locals, stack, pc; the method's fixed things lie in one tuple X -/
abbrev vwCl : List vw_C := [(RX0, TX0, 9), (RX1, TX1, 7), (RX2, TX2, 2), (RX3, TX3, 1), (RX4, TX4, 13), (RX5, TX5, 4), (RX6, TX6, 7), (RX7, TX7, 14)]
abbrev tyL (cC cI cJ cO : ClassId) : List (ClassId × FieldType) := [(cC, .char), (cI, .int), (cJ, .long), (cO, .object "SelfChecks$Circuit")]
abbrev gT : Type := Program × Launch × Env × Room × State × MethodId × Array Value × List Frame × Method × Code × Nat × va_G × List (ClassId × FieldType) × (Nat → Prop) × (State → Prop)
def GW : gT → va_W → List (Nat × Value) → List Value → Nat → Nat → Nat → Prop
  | (p, l, e, R, s, m, args, below, meth, c, nL, D, _, A, Q), ws, lv, st, pc, cells, slots => ∀ (H : Heap) (locs : List Loc) (ls : Array Slot), va_P D vwCl ws H → va_D A ws → va_S A s.heap H locs → lv_has ls nL lv → W p l e R s m args below meth c H locs cells slots Q (F0 m pc ls st)
/-- the links between nest mates -/
def gN (U : State) : Prop := va_Nw (.methodLinkNest RX1 55 yX6_bit RX6) U ∧ va_Nw (.methodLinkNest RX3 51 yX6_bit RX6) U ∧ va_Nw (.methodLinkNest RX4 54 yX6_isValid RX6) U ∧ va_Nw (.methodLinkNest RX2 17 yX0_init RX6) U ∧ va_Nw (.methodLinkNest RX6 11 yX5_init RX6) U ∧ va_Nw (.methodLinkNest RX6 18 yX0_init RX6) U ∧ va_Nw (.methodLinkNest RX6 35 yX1_init RX6) U ∧ va_Nw (.methodLinkNest RX6 42 yX3_init RX6) U ∧ va_Nw (.methodLinkNest RX6 49 yX4_init RX6) U
theorem gN.warm {s U : State} (hW : s.WarmedH U.vm) (h : gN s) : gN U := ⟨h.1.warmM hW, h.2.1.warmM hW, h.2.2.1.warmM hW, h.2.2.2.1.warmM hW, h.2.2.2.2.1.warmM hW, h.2.2.2.2.2.1.warmM hW, h.2.2.2.2.2.2.1.warmM hW, h.2.2.2.2.2.2.2.1.warmM hW, h.2.2.2.2.2.2.2.2.warmM hW⟩
theorem gN.same {s U : State} (e : s.vm = U.vm) (h : gN s) : gN U := ⟨h.1.same rfl e, h.2.1.same rfl e, h.2.2.1.same rfl e, h.2.2.2.1.same rfl e, h.2.2.2.2.1.same rfl e, h.2.2.2.2.2.1.same rfl e, h.2.2.2.2.2.2.1.same rfl e, h.2.2.2.2.2.2.2.1.same rfl e, h.2.2.2.2.2.2.2.2.same rfl e⟩
def GX : gT → Launch → va_G → List (ClassId × FieldType) → Room → ByteArray → Nat → String → List Cond → Prop
  | (p, l, _, R, s, m, args, _, meth, c, nL, D, tys, A, _), l0, D0, t0, R0, cc, n0, own, Ts => p.tables.exec = Jvm.exec ∧ c.code = cc ∧ c.maxLocals = nL ∧ s.vm.findClass own = some m.cls ∧ (∀ w ∈ Ts, w.before args s = true) ∧ va_K D vwCl tys s ∧ (∀ q, s.heap.size ≤ q → A q) ∧ meth.locks = false ∧ R = R0 ∧ nL = n0 ∧ l = l0 ∧ D = D0 ∧ tys = t0 ∧ gN s
theorem isB_split {r : Int32} {P : Prop} (h : (r = 1 ∧ P) ∨ (r = 0 ∧ ¬ P)) : (r = 1 ∧ P) ∨ (r = 0 ∧ ¬ P) := h
section GR
variable {X : gT} {l0 : Launch} {D0 : va_G} {t0 : List (ClassId × FieldType)} {R0 : Room} {cc : ByteArray} {n0 : Nat} {own : String} {Ts : List Cond} {ws : va_W} {lv : List (Nat × Value)} {rest : List Value} {pc cs sl : Nat}
theorem g_iconst (C : GX X l0 D0 t0 R0 cc n0 own Ts) {n : Int} {v : Int32} (hd : decode cc pc = .ok (.iconst n, 1)) (hv : Int32.ofInt n = v) (k : GW X ws lv (.int v :: rest) (pc + 1) cs sl) : GW X ws lv (rest) pc cs sl := by
  obtain ⟨p, l, e, R, s, m, args, below, meth, c, nL, D, tys, A, Q⟩ := X
  obtain ⟨hx, hb, hml, hown, hts, hK, hA, hlk, rfl, rfl, rfl, rfl, rfl, hN⟩ := C
  intro H locs ls hP hD hS hl
  exact lv_iconst hx hb hd hv (k H locs ls hP hD hS hl)
theorem g_bipush (C : GX X l0 D0 t0 R0 cc n0 own Ts) {n : Int} {v : Int32} (hd : decode cc pc = .ok (.bipush n, 2)) (hv : (Int8.ofInt n).toInt32 = v) (k : GW X ws lv (.int v :: rest) (pc + 2) cs sl) : GW X ws lv (rest) pc cs sl := by
  obtain ⟨p, l, e, R, s, m, args, below, meth, c, nL, D, tys, A, Q⟩ := X
  obtain ⟨hx, hb, hml, hown, hts, hK, hA, hlk, rfl, rfl, rfl, rfl, rfl, hN⟩ := C
  intro H locs ls hP hD hS hl
  exact lv_bipush hx hb hd hv (k H locs ls hP hD hS hl)
theorem g_sipush (C : GX X l0 D0 t0 R0 cc n0 own Ts) {n : Int} {v : Int32} (hd : decode cc pc = .ok (.sipush n, 3)) (hv : (Int16.ofInt n).toInt32 = v) (k : GW X ws lv (.int v :: rest) (pc + 3) cs sl) : GW X ws lv (rest) pc cs sl := by
  obtain ⟨p, l, e, R, s, m, args, below, meth, c, nL, D, tys, A, Q⟩ := X
  obtain ⟨hx, hb, hml, hown, hts, hK, hA, hlk, rfl, rfl, rfl, rfl, rfl, hN⟩ := C
  intro H locs ls hP hD hS hl
  exact lv_sipush hx hb hd hv (k H locs ls hP hD hS hl)
theorem g_lconst (C : GX X l0 D0 t0 R0 cc n0 own Ts) {n : Fin 2} {v : Int64} (hd : decode cc pc = .ok (.lconst n, 1)) (hv : Int64.ofNat (n : Nat) = v) (k : GW X ws lv (.long v :: rest) (pc + 1) cs sl) : GW X ws lv (rest) pc cs sl := by
  obtain ⟨p, l, e, R, s, m, args, below, meth, c, nL, D, tys, A, Q⟩ := X
  obtain ⟨hx, hb, hml, hown, hts, hK, hA, hlk, rfl, rfl, rfl, rfl, rfl, hN⟩ := C
  intro H locs ls hP hD hS hl
  exact lv_lconst hx hb hd hv (k H locs ls hP hD hS hl)
theorem g_iload_n (C : GX X l0 D0 t0 R0 cc n0 own Ts) {kk : Fin 4} {i : Nat} {x : Int32} (j : Nat) (hd : decode cc pc = .ok (.iload_n kk, 1)) (hi : (kk : Nat) = i) (hj : lv[j]? = some (i, .int x)) (k : GW X ws lv (.int x :: rest) (pc + 1) cs sl) : GW X ws lv rest pc cs sl := by
  obtain ⟨p, l, e, R, s, m, args, below, meth, c, nL, D, tys, A, Q⟩ := X
  obtain ⟨hx, hb, hml, hown, hts, hK, hA, hlk, rfl, rfl, rfl, rfl, rfl, hN⟩ := C
  intro H locs ls hP hD hS hl
  exact lv_iload_n hx hb hd hi (lv_at hl j hj) (k H locs ls hP hD hS hl)
theorem g_iload (C : GX X l0 D0 t0 R0 cc n0 own Ts) {i : Nat} {x : Int32} (j : Nat) (hd : decode cc pc = .ok (.iload i, 2)) (hj : lv[j]? = some (i, .int x)) (k : GW X ws lv (.int x :: rest) (pc + 2) cs sl) : GW X ws lv rest pc cs sl := by
  obtain ⟨p, l, e, R, s, m, args, below, meth, c, nL, D, tys, A, Q⟩ := X
  obtain ⟨hx, hb, hml, hown, hts, hK, hA, hlk, rfl, rfl, rfl, rfl, rfl, hN⟩ := C
  intro H locs ls hP hD hS hl
  exact lv_iload hx hb hd (lv_at hl j hj) (k H locs ls hP hD hS hl)
theorem g_lload_n (C : GX X l0 D0 t0 R0 cc n0 own Ts) {kk : Fin 4} {i : Nat} {x : Int64} (j : Nat) (hd : decode cc pc = .ok (.lload_n kk, 1)) (hi : (kk : Nat) = i) (hj : lv[j]? = some (i, .long x)) (k : GW X ws lv (.long x :: rest) (pc + 1) cs sl) : GW X ws lv rest pc cs sl := by
  obtain ⟨p, l, e, R, s, m, args, below, meth, c, nL, D, tys, A, Q⟩ := X
  obtain ⟨hx, hb, hml, hown, hts, hK, hA, hlk, rfl, rfl, rfl, rfl, rfl, hN⟩ := C
  intro H locs ls hP hD hS hl
  exact lv_lload_n hx hb hd hi (lv_at hl j hj) (k H locs ls hP hD hS hl)
theorem g_lload (C : GX X l0 D0 t0 R0 cc n0 own Ts) {i : Nat} {x : Int64} (j : Nat) (hd : decode cc pc = .ok (.lload i, 2)) (hj : lv[j]? = some (i, .long x)) (k : GW X ws lv (.long x :: rest) (pc + 2) cs sl) : GW X ws lv rest pc cs sl := by
  obtain ⟨p, l, e, R, s, m, args, below, meth, c, nL, D, tys, A, Q⟩ := X
  obtain ⟨hx, hb, hml, hown, hts, hK, hA, hlk, rfl, rfl, rfl, rfl, rfl, hN⟩ := C
  intro H locs ls hP hD hS hl
  exact lv_lload hx hb hd (lv_at hl j hj) (k H locs ls hP hD hS hl)
theorem g_aload_n (C : GX X l0 D0 t0 R0 cc n0 own Ts) {kk : Fin 4} {i : Nat} {x : Nat} (j : Nat) (hd : decode cc pc = .ok (.aload_n kk, 1)) (hi : (kk : Nat) = i) (hj : lv[j]? = some (i, .ref x)) (k : GW X ws lv (.ref x :: rest) (pc + 1) cs sl) : GW X ws lv rest pc cs sl := by
  obtain ⟨p, l, e, R, s, m, args, below, meth, c, nL, D, tys, A, Q⟩ := X
  obtain ⟨hx, hb, hml, hown, hts, hK, hA, hlk, rfl, rfl, rfl, rfl, rfl, hN⟩ := C
  intro H locs ls hP hD hS hl
  exact lv_aload_n hx hb hd hi (lv_at hl j hj) (k H locs ls hP hD hS hl)
theorem g_aload (C : GX X l0 D0 t0 R0 cc n0 own Ts) {i : Nat} {x : Nat} (j : Nat) (hd : decode cc pc = .ok (.aload i, 2)) (hj : lv[j]? = some (i, .ref x)) (k : GW X ws lv (.ref x :: rest) (pc + 2) cs sl) : GW X ws lv rest pc cs sl := by
  obtain ⟨p, l, e, R, s, m, args, below, meth, c, nL, D, tys, A, Q⟩ := X
  obtain ⟨hx, hb, hml, hown, hts, hK, hA, hlk, rfl, rfl, rfl, rfl, rfl, hN⟩ := C
  intro H locs ls hP hD hS hl
  exact lv_aload hx hb hd (lv_at hl j hj) (k H locs ls hP hD hS hl)
theorem g_istore_n (C : GX X l0 D0 t0 R0 cc n0 own Ts) {kk : Fin 4} {i : Nat} {x : Int32} (lv' : List (Nat × Value)) (is : List Nat) (hd : decode cc pc = .ok (.istore_n kk, 1)) (hi : (kk : Nat) = i) (hn : i < n0) (hq : lv_pick ((i, Value.int x) :: lv.filter (fun q => !(q.1 == i) && !(q.1 + 1 == i && q.2.category == 2))) is = lv') (k : GW X ws lv' rest (pc + 1) cs sl) : GW X ws lv (Value.int x :: rest) pc cs sl := by
  obtain ⟨p, l, e, R, s, m, args, below, meth, c, nL, D, tys, A, Q⟩ := X
  obtain ⟨hx, hb, hml, hown, hts, hK, hA, hlk, rfl, rfl, rfl, rfl, rfl, hN⟩ := C
  intro H locs ls hP hD hS hl
  exact lv_istore_n hx hb hd hi hl hn rfl (fun ls2 h2 => k H locs ls2 hP hD hS (lv_sub h2 is hq))
theorem g_istore (C : GX X l0 D0 t0 R0 cc n0 own Ts) {i : Nat} {x : Int32} (lv' : List (Nat × Value)) (is : List Nat) (hd : decode cc pc = .ok (.istore i, 2)) (hn : i < n0) (hq : lv_pick ((i, Value.int x) :: lv.filter (fun q => !(q.1 == i) && !(q.1 + 1 == i && q.2.category == 2))) is = lv') (k : GW X ws lv' rest (pc + 2) cs sl) : GW X ws lv (Value.int x :: rest) pc cs sl := by
  obtain ⟨p, l, e, R, s, m, args, below, meth, c, nL, D, tys, A, Q⟩ := X
  obtain ⟨hx, hb, hml, hown, hts, hK, hA, hlk, rfl, rfl, rfl, rfl, rfl, hN⟩ := C
  intro H locs ls hP hD hS hl
  exact lv_istore hx hb hd hl hn rfl (fun ls2 h2 => k H locs ls2 hP hD hS (lv_sub h2 is hq))
theorem g_lstore_n (C : GX X l0 D0 t0 R0 cc n0 own Ts) {kk : Fin 4} {i : Nat} {x : Int64} (lv' : List (Nat × Value)) (is : List Nat) (hd : decode cc pc = .ok (.lstore_n kk, 1)) (hi : (kk : Nat) = i) (hn : i + 1 < n0) (hq : lv_pick ((i, Value.long x) :: lv.filter (fun q => !(q.1 == i) && (!(q.1 == i + 1) && !(q.1 + 1 == i && q.2.category == 2)))) is = lv') (k : GW X ws lv' rest (pc + 1) cs sl) : GW X ws lv (Value.long x :: rest) pc cs sl := by
  obtain ⟨p, l, e, R, s, m, args, below, meth, c, nL, D, tys, A, Q⟩ := X
  obtain ⟨hx, hb, hml, hown, hts, hK, hA, hlk, rfl, rfl, rfl, rfl, rfl, hN⟩ := C
  intro H locs ls hP hD hS hl
  exact lv_lstore_n hx hb hd hi hl hn rfl (fun ls2 h2 => k H locs ls2 hP hD hS (lv_sub h2 is hq))
theorem g_lstore (C : GX X l0 D0 t0 R0 cc n0 own Ts) {i : Nat} {x : Int64} (lv' : List (Nat × Value)) (is : List Nat) (hd : decode cc pc = .ok (.lstore i, 2)) (hn : i + 1 < n0) (hq : lv_pick ((i, Value.long x) :: lv.filter (fun q => !(q.1 == i) && (!(q.1 == i + 1) && !(q.1 + 1 == i && q.2.category == 2)))) is = lv') (k : GW X ws lv' rest (pc + 2) cs sl) : GW X ws lv (Value.long x :: rest) pc cs sl := by
  obtain ⟨p, l, e, R, s, m, args, below, meth, c, nL, D, tys, A, Q⟩ := X
  obtain ⟨hx, hb, hml, hown, hts, hK, hA, hlk, rfl, rfl, rfl, rfl, rfl, hN⟩ := C
  intro H locs ls hP hD hS hl
  exact lv_lstore hx hb hd hl hn rfl (fun ls2 h2 => k H locs ls2 hP hD hS (lv_sub h2 is hq))
theorem g_astore_n (C : GX X l0 D0 t0 R0 cc n0 own Ts) {kk : Fin 4} {i : Nat} {x : Nat} (lv' : List (Nat × Value)) (is : List Nat) (hd : decode cc pc = .ok (.astore_n kk, 1)) (hi : (kk : Nat) = i) (hn : i < n0) (hq : lv_pick ((i, Value.ref x) :: lv.filter (fun q => !(q.1 == i) && !(q.1 + 1 == i && q.2.category == 2))) is = lv') (k : GW X ws lv' rest (pc + 1) cs sl) : GW X ws lv (Value.ref x :: rest) pc cs sl := by
  obtain ⟨p, l, e, R, s, m, args, below, meth, c, nL, D, tys, A, Q⟩ := X
  obtain ⟨hx, hb, hml, hown, hts, hK, hA, hlk, rfl, rfl, rfl, rfl, rfl, hN⟩ := C
  intro H locs ls hP hD hS hl
  exact lv_astore_n hx hb hd hi hl hn rfl (fun ls2 h2 => k H locs ls2 hP hD hS (lv_sub h2 is hq))
theorem g_astore (C : GX X l0 D0 t0 R0 cc n0 own Ts) {i : Nat} {x : Nat} (lv' : List (Nat × Value)) (is : List Nat) (hd : decode cc pc = .ok (.astore i, 2)) (hn : i < n0) (hq : lv_pick ((i, Value.ref x) :: lv.filter (fun q => !(q.1 == i) && !(q.1 + 1 == i && q.2.category == 2))) is = lv') (k : GW X ws lv' rest (pc + 2) cs sl) : GW X ws lv (Value.ref x :: rest) pc cs sl := by
  obtain ⟨p, l, e, R, s, m, args, below, meth, c, nL, D, tys, A, Q⟩ := X
  obtain ⟨hx, hb, hml, hown, hts, hK, hA, hlk, rfl, rfl, rfl, rfl, rfl, hN⟩ := C
  intro H locs ls hP hD hS hl
  exact lv_astore hx hb hd hl hn rfl (fun ls2 h2 => k H locs ls2 hP hD hS (lv_sub h2 is hq))
theorem g_iinc (C : GX X l0 D0 t0 R0 cc n0 own Ts) {i : Nat} {n : Int} {x v : Int32} (j : Nat) (lv' : List (Nat × Value)) (is : List Nat) (hd : decode cc pc = .ok (.iinc i n, 3)) (hj : lv[j]? = some (i, .int x)) (hv : x + Int32.ofInt n = v) (hn : i < n0) (hq : lv_pick ((i, Value.int v) :: lv.filter (fun q => !(q.1 == i) && !(q.1 + 1 == i && q.2.category == 2))) is = lv') (k : GW X ws lv' rest (pc + 3) cs sl) : GW X ws lv rest pc cs sl := by
  obtain ⟨p, l, e, R, s, m, args, below, meth, c, nL, D, tys, A, Q⟩ := X
  obtain ⟨hx, hb, hml, hown, hts, hK, hA, hlk, rfl, rfl, rfl, rfl, rfl, hN⟩ := C
  intro H locs ls hP hD hS hl
  exact lv_iinc hx hb hd hl hj hv hn rfl (fun ls2 h2 => k H locs ls2 hP hD hS (lv_sub h2 is hq))
theorem g_iadd (C : GX X l0 D0 t0 R0 cc n0 own Ts) {x y : Int32} (hd : decode cc pc = .ok (.iadd, 1))  (k : GW X ws lv (.int (x + y) :: rest) (pc + 1) cs sl) : GW X ws lv (.int y :: .int x :: rest) pc cs sl := by
  obtain ⟨p, l, e, R, s, m, args, below, meth, c, nL, D, tys, A, Q⟩ := X
  obtain ⟨hx, hb, hml, hown, hts, hK, hA, hlk, rfl, rfl, rfl, rfl, rfl, hN⟩ := C
  intro H locs ls hP hD hS hl
  exact lv_iadd hx hb hd  (k H locs ls hP hD hS hl)
theorem g_isub (C : GX X l0 D0 t0 R0 cc n0 own Ts) {x y : Int32} (hd : decode cc pc = .ok (.isub, 1))  (k : GW X ws lv (.int (x - y) :: rest) (pc + 1) cs sl) : GW X ws lv (.int y :: .int x :: rest) pc cs sl := by
  obtain ⟨p, l, e, R, s, m, args, below, meth, c, nL, D, tys, A, Q⟩ := X
  obtain ⟨hx, hb, hml, hown, hts, hK, hA, hlk, rfl, rfl, rfl, rfl, rfl, hN⟩ := C
  intro H locs ls hP hD hS hl
  exact lv_isub hx hb hd  (k H locs ls hP hD hS hl)
theorem g_imul (C : GX X l0 D0 t0 R0 cc n0 own Ts) {x y : Int32} (hd : decode cc pc = .ok (.imul, 1))  (k : GW X ws lv (.int (x * y) :: rest) (pc + 1) cs sl) : GW X ws lv (.int y :: .int x :: rest) pc cs sl := by
  obtain ⟨p, l, e, R, s, m, args, below, meth, c, nL, D, tys, A, Q⟩ := X
  obtain ⟨hx, hb, hml, hown, hts, hK, hA, hlk, rfl, rfl, rfl, rfl, rfl, hN⟩ := C
  intro H locs ls hP hD hS hl
  exact lv_imul hx hb hd  (k H locs ls hP hD hS hl)
theorem g_iand (C : GX X l0 D0 t0 R0 cc n0 own Ts) {x y : Int32} (hd : decode cc pc = .ok (.iand, 1))  (k : GW X ws lv (.int (x &&& y) :: rest) (pc + 1) cs sl) : GW X ws lv (.int y :: .int x :: rest) pc cs sl := by
  obtain ⟨p, l, e, R, s, m, args, below, meth, c, nL, D, tys, A, Q⟩ := X
  obtain ⟨hx, hb, hml, hown, hts, hK, hA, hlk, rfl, rfl, rfl, rfl, rfl, hN⟩ := C
  intro H locs ls hP hD hS hl
  exact lv_iand hx hb hd  (k H locs ls hP hD hS hl)
theorem g_ior (C : GX X l0 D0 t0 R0 cc n0 own Ts) {x y : Int32} (hd : decode cc pc = .ok (.ior, 1))  (k : GW X ws lv (.int (x ||| y) :: rest) (pc + 1) cs sl) : GW X ws lv (.int y :: .int x :: rest) pc cs sl := by
  obtain ⟨p, l, e, R, s, m, args, below, meth, c, nL, D, tys, A, Q⟩ := X
  obtain ⟨hx, hb, hml, hown, hts, hK, hA, hlk, rfl, rfl, rfl, rfl, rfl, hN⟩ := C
  intro H locs ls hP hD hS hl
  exact lv_ior hx hb hd  (k H locs ls hP hD hS hl)
theorem g_ixor (C : GX X l0 D0 t0 R0 cc n0 own Ts) {x y : Int32} (hd : decode cc pc = .ok (.ixor, 1))  (k : GW X ws lv (.int (x ^^^ y) :: rest) (pc + 1) cs sl) : GW X ws lv (.int y :: .int x :: rest) pc cs sl := by
  obtain ⟨p, l, e, R, s, m, args, below, meth, c, nL, D, tys, A, Q⟩ := X
  obtain ⟨hx, hb, hml, hown, hts, hK, hA, hlk, rfl, rfl, rfl, rfl, rfl, hN⟩ := C
  intro H locs ls hP hD hS hl
  exact lv_ixor hx hb hd  (k H locs ls hP hD hS hl)
theorem g_ishl (C : GX X l0 D0 t0 R0 cc n0 own Ts) {x y : Int32} (hd : decode cc pc = .ok (.ishl, 1))  (k : GW X ws lv (.int (x <<< (y &&& 31)) :: rest) (pc + 1) cs sl) : GW X ws lv (.int y :: .int x :: rest) pc cs sl := by
  obtain ⟨p, l, e, R, s, m, args, below, meth, c, nL, D, tys, A, Q⟩ := X
  obtain ⟨hx, hb, hml, hown, hts, hK, hA, hlk, rfl, rfl, rfl, rfl, rfl, hN⟩ := C
  intro H locs ls hP hD hS hl
  exact lv_ishl hx hb hd  (k H locs ls hP hD hS hl)
theorem g_ishr (C : GX X l0 D0 t0 R0 cc n0 own Ts) {x y : Int32} (hd : decode cc pc = .ok (.ishr, 1))  (k : GW X ws lv (.int (x >>> (y &&& 31)) :: rest) (pc + 1) cs sl) : GW X ws lv (.int y :: .int x :: rest) pc cs sl := by
  obtain ⟨p, l, e, R, s, m, args, below, meth, c, nL, D, tys, A, Q⟩ := X
  obtain ⟨hx, hb, hml, hown, hts, hK, hA, hlk, rfl, rfl, rfl, rfl, rfl, hN⟩ := C
  intro H locs ls hP hD hS hl
  exact lv_ishr hx hb hd  (k H locs ls hP hD hS hl)
theorem g_idiv (C : GX X l0 D0 t0 R0 cc n0 own Ts) {x y : Int32} (hd : decode cc pc = .ok (.idiv, 1)) (hne : ¬ y = 0) (k : GW X ws lv (.int (x / y) :: rest) (pc + 1) cs sl) : GW X ws lv (.int y :: .int x :: rest) pc cs sl := by
  obtain ⟨p, l, e, R, s, m, args, below, meth, c, nL, D, tys, A, Q⟩ := X
  obtain ⟨hx, hb, hml, hown, hts, hK, hA, hlk, rfl, rfl, rfl, rfl, rfl, hN⟩ := C
  intro H locs ls hP hD hS hl
  exact lv_idiv hx hb hd hne (k H locs ls hP hD hS hl)
theorem g_irem (C : GX X l0 D0 t0 R0 cc n0 own Ts) {x y : Int32} (hd : decode cc pc = .ok (.irem, 1)) (hne : ¬ y = 0) (k : GW X ws lv (.int (x - x / y * y) :: rest) (pc + 1) cs sl) : GW X ws lv (.int y :: .int x :: rest) pc cs sl := by
  obtain ⟨p, l, e, R, s, m, args, below, meth, c, nL, D, tys, A, Q⟩ := X
  obtain ⟨hx, hb, hml, hown, hts, hK, hA, hlk, rfl, rfl, rfl, rfl, rfl, hN⟩ := C
  intro H locs ls hP hD hS hl
  exact lv_irem hx hb hd hne (k H locs ls hP hD hS hl)
theorem g_ladd (C : GX X l0 D0 t0 R0 cc n0 own Ts) {x y : Int64} (hd : decode cc pc = .ok (.ladd, 1))  (k : GW X ws lv (.long (x + y) :: rest) (pc + 1) cs sl) : GW X ws lv (.long y :: .long x :: rest) pc cs sl := by
  obtain ⟨p, l, e, R, s, m, args, below, meth, c, nL, D, tys, A, Q⟩ := X
  obtain ⟨hx, hb, hml, hown, hts, hK, hA, hlk, rfl, rfl, rfl, rfl, rfl, hN⟩ := C
  intro H locs ls hP hD hS hl
  exact lv_ladd hx hb hd  (k H locs ls hP hD hS hl)
theorem g_lsub (C : GX X l0 D0 t0 R0 cc n0 own Ts) {x y : Int64} (hd : decode cc pc = .ok (.lsub, 1))  (k : GW X ws lv (.long (x - y) :: rest) (pc + 1) cs sl) : GW X ws lv (.long y :: .long x :: rest) pc cs sl := by
  obtain ⟨p, l, e, R, s, m, args, below, meth, c, nL, D, tys, A, Q⟩ := X
  obtain ⟨hx, hb, hml, hown, hts, hK, hA, hlk, rfl, rfl, rfl, rfl, rfl, hN⟩ := C
  intro H locs ls hP hD hS hl
  exact lv_lsub hx hb hd  (k H locs ls hP hD hS hl)
theorem g_land (C : GX X l0 D0 t0 R0 cc n0 own Ts) {x y : Int64} (hd : decode cc pc = .ok (.land, 1))  (k : GW X ws lv (.long (x &&& y) :: rest) (pc + 1) cs sl) : GW X ws lv (.long y :: .long x :: rest) pc cs sl := by
  obtain ⟨p, l, e, R, s, m, args, below, meth, c, nL, D, tys, A, Q⟩ := X
  obtain ⟨hx, hb, hml, hown, hts, hK, hA, hlk, rfl, rfl, rfl, rfl, rfl, hN⟩ := C
  intro H locs ls hP hD hS hl
  exact lv_land hx hb hd  (k H locs ls hP hD hS hl)
theorem g_lor (C : GX X l0 D0 t0 R0 cc n0 own Ts) {x y : Int64} (hd : decode cc pc = .ok (.lor, 1))  (k : GW X ws lv (.long (x ||| y) :: rest) (pc + 1) cs sl) : GW X ws lv (.long y :: .long x :: rest) pc cs sl := by
  obtain ⟨p, l, e, R, s, m, args, below, meth, c, nL, D, tys, A, Q⟩ := X
  obtain ⟨hx, hb, hml, hown, hts, hK, hA, hlk, rfl, rfl, rfl, rfl, rfl, hN⟩ := C
  intro H locs ls hP hD hS hl
  exact lv_lor hx hb hd  (k H locs ls hP hD hS hl)
theorem g_lxor (C : GX X l0 D0 t0 R0 cc n0 own Ts) {x y : Int64} (hd : decode cc pc = .ok (.lxor, 1))  (k : GW X ws lv (.long (x ^^^ y) :: rest) (pc + 1) cs sl) : GW X ws lv (.long y :: .long x :: rest) pc cs sl := by
  obtain ⟨p, l, e, R, s, m, args, below, meth, c, nL, D, tys, A, Q⟩ := X
  obtain ⟨hx, hb, hml, hown, hts, hK, hA, hlk, rfl, rfl, rfl, rfl, rfl, hN⟩ := C
  intro H locs ls hP hD hS hl
  exact lv_lxor hx hb hd  (k H locs ls hP hD hS hl)
theorem g_lneg (C : GX X l0 D0 t0 R0 cc n0 own Ts) {x : Int64} (hd : decode cc pc = .ok (.lneg, 1))  (k : GW X ws lv (.long (-x) :: rest) (pc + 1) cs sl) : GW X ws lv (.long x :: rest) pc cs sl := by
  obtain ⟨p, l, e, R, s, m, args, below, meth, c, nL, D, tys, A, Q⟩ := X
  obtain ⟨hx, hb, hml, hown, hts, hK, hA, hlk, rfl, rfl, rfl, rfl, rfl, hN⟩ := C
  intro H locs ls hP hD hS hl
  exact lv_lneg hx hb hd  (k H locs ls hP hD hS hl)
theorem g_iushr (C : GX X l0 D0 t0 R0 cc n0 own Ts) {x y v : Int32} (hd : decode cc pc = .ok (.iushr, 1)) (hv : (x.toUInt32 >>> (y.toUInt32 &&& Int32.toUInt32 31)).toInt32 = v) (k : GW X ws lv (.int v :: rest) (pc + 1) cs sl) : GW X ws lv (.int y :: .int x :: rest) pc cs sl := by
  obtain ⟨p, l, e, R, s, m, args, below, meth, c, nL, D, tys, A, Q⟩ := X
  obtain ⟨hx, hb, hml, hown, hts, hK, hA, hlk, rfl, rfl, rfl, rfl, rfl, hN⟩ := C
  intro H locs ls hP hD hS hl
  exact lv_iushr hx hb hd hv (k H locs ls hP hD hS hl)
theorem g_i2l (C : GX X l0 D0 t0 R0 cc n0 own Ts) {x : Int32} {v : Int64} (hd : decode cc pc = .ok (.i2l, 1)) (hv : x.toInt64 = v) (k : GW X ws lv (.long v :: rest) (pc + 1) cs sl) : GW X ws lv (.int x :: rest) pc cs sl := by
  obtain ⟨p, l, e, R, s, m, args, below, meth, c, nL, D, tys, A, Q⟩ := X
  obtain ⟨hx, hb, hml, hown, hts, hK, hA, hlk, rfl, rfl, rfl, rfl, rfl, hN⟩ := C
  intro H locs ls hP hD hS hl
  exact lv_i2l hx hb hd hv (k H locs ls hP hD hS hl)
theorem g_l2i (C : GX X l0 D0 t0 R0 cc n0 own Ts) {x : Int64} {v : Int32} (hd : decode cc pc = .ok (.l2i, 1)) (hv : x.toInt32 = v) (k : GW X ws lv (.int v :: rest) (pc + 1) cs sl) : GW X ws lv (.long x :: rest) pc cs sl := by
  obtain ⟨p, l, e, R, s, m, args, below, meth, c, nL, D, tys, A, Q⟩ := X
  obtain ⟨hx, hb, hml, hown, hts, hK, hA, hlk, rfl, rfl, rfl, rfl, rfl, hN⟩ := C
  intro H locs ls hP hD hS hl
  exact lv_l2i hx hb hd hv (k H locs ls hP hD hS hl)
theorem g_i2c (C : GX X l0 D0 t0 R0 cc n0 own Ts) {x v : Int32} (hd : decode cc pc = .ok (.i2c, 1)) (hv : (x.toUInt32 % 65536).toInt32 = v) (k : GW X ws lv (.int v :: rest) (pc + 1) cs sl) : GW X ws lv (.int x :: rest) pc cs sl := by
  obtain ⟨p, l, e, R, s, m, args, below, meth, c, nL, D, tys, A, Q⟩ := X
  obtain ⟨hx, hb, hml, hown, hts, hK, hA, hlk, rfl, rfl, rfl, rfl, rfl, hN⟩ := C
  intro H locs ls hP hD hS hl
  exact lv_i2c hx hb hd hv (k H locs ls hP hD hS hl)
theorem g_lushr (C : GX X l0 D0 t0 R0 cc n0 own Ts) {x v : Int64} {y : Int32} (hd : decode cc pc = .ok (.lushr, 1)) (hv : (x.toUInt64 >>> (y.toInt64.toUInt64 &&& Int64.toUInt64 63)).toInt64 = v) (k : GW X ws lv (.long v :: rest) (pc + 1) cs sl) : GW X ws lv (.int y :: .long x :: rest) pc cs sl := by
  obtain ⟨p, l, e, R, s, m, args, below, meth, c, nL, D, tys, A, Q⟩ := X
  obtain ⟨hx, hb, hml, hown, hts, hK, hA, hlk, rfl, rfl, rfl, rfl, rfl, hN⟩ := C
  intro H locs ls hP hD hS hl
  exact lv_lushr hx hb hd hv (k H locs ls hP hD hS hl)
theorem g_lshl (C : GX X l0 D0 t0 R0 cc n0 own Ts) {x v : Int64} {y : Int32} (hd : decode cc pc = .ok (.lshl, 1)) (hv : x <<< (y.toInt64 &&& 63) = v) (k : GW X ws lv (.long v :: rest) (pc + 1) cs sl) : GW X ws lv (.int y :: .long x :: rest) pc cs sl := by
  obtain ⟨p, l, e, R, s, m, args, below, meth, c, nL, D, tys, A, Q⟩ := X
  obtain ⟨hx, hb, hml, hown, hts, hK, hA, hlk, rfl, rfl, rfl, rfl, rfl, hN⟩ := C
  intro H locs ls hP hD hS hl
  exact lv_lshl hx hb hd hv (k H locs ls hP hD hS hl)
theorem g_lshr (C : GX X l0 D0 t0 R0 cc n0 own Ts) {x v : Int64} {y : Int32} (hd : decode cc pc = .ok (.lshr, 1)) (hv : x >>> (y.toInt64 &&& 63) = v) (k : GW X ws lv (.long v :: rest) (pc + 1) cs sl) : GW X ws lv (.int y :: .long x :: rest) pc cs sl := by
  obtain ⟨p, l, e, R, s, m, args, below, meth, c, nL, D, tys, A, Q⟩ := X
  obtain ⟨hx, hb, hml, hown, hts, hK, hA, hlk, rfl, rfl, rfl, rfl, rfl, hN⟩ := C
  intro H locs ls hP hD hS hl
  exact lv_lshr hx hb hd hv (k H locs ls hP hD hS hl)
theorem g_dup (C : GX X l0 D0 t0 R0 cc n0 own Ts) {va : Value} (hd : decode cc pc = .ok (.dup, 1)) (hva : va.category = 1) (k : GW X ws lv (va :: va :: rest) (pc + 1) cs sl) : GW X ws lv (va :: rest) pc cs sl := by
  obtain ⟨p, l, e, R, s, m, args, below, meth, c, nL, D, tys, A, Q⟩ := X
  obtain ⟨hx, hb, hml, hown, hts, hK, hA, hlk, rfl, rfl, rfl, rfl, rfl, hN⟩ := C
  intro H locs ls hP hD hS hl
  exact lv_dup hx hb hd hva (k H locs ls hP hD hS hl)
theorem g_pop (C : GX X l0 D0 t0 R0 cc n0 own Ts) {va : Value} (hd : decode cc pc = .ok (.pop, 1)) (hva : va.category = 1) (k : GW X ws lv (rest) (pc + 1) cs sl) : GW X ws lv (va :: rest) pc cs sl := by
  obtain ⟨p, l, e, R, s, m, args, below, meth, c, nL, D, tys, A, Q⟩ := X
  obtain ⟨hx, hb, hml, hown, hts, hK, hA, hlk, rfl, rfl, rfl, rfl, rfl, hN⟩ := C
  intro H locs ls hP hD hS hl
  exact lv_pop hx hb hd hva (k H locs ls hP hD hS hl)
theorem g_dup2_11 (C : GX X l0 D0 t0 R0 cc n0 own Ts) {va vb : Value} (hd : decode cc pc = .ok (.dup2, 1)) (hva : va.category = 1) (hvb : vb.category = 1) (k : GW X ws lv (va :: vb :: va :: vb :: rest) (pc + 1) cs sl) : GW X ws lv (va :: vb :: rest) pc cs sl := by
  obtain ⟨p, l, e, R, s, m, args, below, meth, c, nL, D, tys, A, Q⟩ := X
  obtain ⟨hx, hb, hml, hown, hts, hK, hA, hlk, rfl, rfl, rfl, rfl, rfl, hN⟩ := C
  intro H locs ls hP hD hS hl
  exact lv_dup2_11 hx hb hd hva hvb (k H locs ls hP hD hS hl)
theorem g_lcmp (C : GX X l0 D0 t0 R0 cc n0 own Ts) {x y : Int64} (hd : decode cc pc = .ok (.lcmp, 1)) (k : GW X ws lv (.int (lg_cmp x y) :: rest) (pc + 1) cs sl) : GW X ws lv (.long y :: .long x :: rest) pc cs sl := by
  obtain ⟨p, l, e, R, s, m, args, below, meth, c, nL, D, tys, A, Q⟩ := X
  obtain ⟨hx, hb, hml, hown, hts, hK, hA, hlk, rfl, rfl, rfl, rfl, rfl, hN⟩ := C
  intro H locs ls hP hD hS hl
  exact W.lcmp hx hb hd (k H locs ls hP hD hS hl)
theorem g_ldcw (C : GX X l0 D0 t0 R0 cc n0 own Ts) {index : Nat} {v : Int32} (hd : decode cc pc = .ok (.ldc_w index, 3)) (hc : Cond.constant own index v ∈ Ts) (k : GW X ws lv (.int v :: rest) (pc + 3) cs sl) : GW X ws lv rest pc cs sl := by
  obtain ⟨p, l, e, R, s, m, args, below, meth, c, nL, D, tys, A, Q⟩ := X
  obtain ⟨hx, hb, hml, hown, hts, hK, hA, hlk, rfl, rfl, rfl, rfl, rfl, hN⟩ := C
  intro H locs ls hP hD hS hl
  exact lv_ldcw hx hb hown (hts _ hc) hd (k H locs ls hP hD hS hl)
theorem g_ldc2 (C : GX X l0 D0 t0 R0 cc n0 own Ts) {index : Nat} {v : Int64} (hd : decode cc pc = .ok (.ldc2_w index, 3)) (hc : Cond.constantLong own index v ∈ Ts) (k : GW X ws lv (.long v :: rest) (pc + 3) cs sl) : GW X ws lv rest pc cs sl := by
  obtain ⟨p, l, e, R, s, m, args, below, meth, c, nL, D, tys, A, Q⟩ := X
  obtain ⟨hx, hb, hml, hown, hts, hK, hA, hlk, rfl, rfl, rfl, rfl, rfl, hN⟩ := C
  intro H locs ls hP hD hS hl
  exact W.ldc2 hx hb hown (hts _ hc) (g := F0 m pc ls rest) rfl hd (k H locs ls hP hD hS hl)
theorem g_if_eq (C : GX X l0 D0 t0 R0 cc n0 own Ts) {x : Int32} {off : Int} (tgt : Nat) (hd : decode cc pc = .ok (.ifCond .eq off, 3)) (ht : (pc : Int) + off = (tgt : Int)) (kt : x = 0 → GW X ws lv rest tgt cs sl) (kf : ¬ x = 0 → GW X ws lv rest (pc + 3) cs sl) : GW X ws lv (.int x :: rest) pc cs sl := by
  obtain ⟨p, l, e, R, s, m, args, below, meth, c, nL, D, tys, A, Q⟩ := X
  obtain ⟨hx, hb, hml, hown, hts, hK, hA, hlk, rfl, rfl, rfl, rfl, rfl, hN⟩ := C
  intro H locs ls hP hD hS hl
  exact lv_if_eq hx hb hd ht (fun h => kt h H locs ls hP hD hS hl) (fun h => kf h H locs ls hP hD hS hl)
theorem g_if_ne (C : GX X l0 D0 t0 R0 cc n0 own Ts) {x : Int32} {off : Int} (tgt : Nat) (hd : decode cc pc = .ok (.ifCond .ne off, 3)) (ht : (pc : Int) + off = (tgt : Int)) (kt : ¬ x = 0 → GW X ws lv rest tgt cs sl) (kf : x = 0 → GW X ws lv rest (pc + 3) cs sl) : GW X ws lv (.int x :: rest) pc cs sl := by
  obtain ⟨p, l, e, R, s, m, args, below, meth, c, nL, D, tys, A, Q⟩ := X
  obtain ⟨hx, hb, hml, hown, hts, hK, hA, hlk, rfl, rfl, rfl, rfl, rfl, hN⟩ := C
  intro H locs ls hP hD hS hl
  exact lv_if_ne hx hb hd ht (fun h => kt h H locs ls hP hD hS hl) (fun h => kf h H locs ls hP hD hS hl)
theorem g_if_lt (C : GX X l0 D0 t0 R0 cc n0 own Ts) {x : Int32} {off : Int} (tgt : Nat) (hd : decode cc pc = .ok (.ifCond .lt off, 3)) (ht : (pc : Int) + off = (tgt : Int)) (kt : x < 0 → GW X ws lv rest tgt cs sl) (kf : ¬ x < 0 → GW X ws lv rest (pc + 3) cs sl) : GW X ws lv (.int x :: rest) pc cs sl := by
  obtain ⟨p, l, e, R, s, m, args, below, meth, c, nL, D, tys, A, Q⟩ := X
  obtain ⟨hx, hb, hml, hown, hts, hK, hA, hlk, rfl, rfl, rfl, rfl, rfl, hN⟩ := C
  intro H locs ls hP hD hS hl
  exact lv_if_lt hx hb hd ht (fun h => kt h H locs ls hP hD hS hl) (fun h => kf h H locs ls hP hD hS hl)
theorem g_if_ge (C : GX X l0 D0 t0 R0 cc n0 own Ts) {x : Int32} {off : Int} (tgt : Nat) (hd : decode cc pc = .ok (.ifCond .ge off, 3)) (ht : (pc : Int) + off = (tgt : Int)) (kt : 0 ≤ x → GW X ws lv rest tgt cs sl) (kf : ¬ 0 ≤ x → GW X ws lv rest (pc + 3) cs sl) : GW X ws lv (.int x :: rest) pc cs sl := by
  obtain ⟨p, l, e, R, s, m, args, below, meth, c, nL, D, tys, A, Q⟩ := X
  obtain ⟨hx, hb, hml, hown, hts, hK, hA, hlk, rfl, rfl, rfl, rfl, rfl, hN⟩ := C
  intro H locs ls hP hD hS hl
  exact lv_if_ge hx hb hd ht (fun h => kt h H locs ls hP hD hS hl) (fun h => kf h H locs ls hP hD hS hl)
theorem g_if_gt (C : GX X l0 D0 t0 R0 cc n0 own Ts) {x : Int32} {off : Int} (tgt : Nat) (hd : decode cc pc = .ok (.ifCond .gt off, 3)) (ht : (pc : Int) + off = (tgt : Int)) (kt : 0 < x → GW X ws lv rest tgt cs sl) (kf : ¬ 0 < x → GW X ws lv rest (pc + 3) cs sl) : GW X ws lv (.int x :: rest) pc cs sl := by
  obtain ⟨p, l, e, R, s, m, args, below, meth, c, nL, D, tys, A, Q⟩ := X
  obtain ⟨hx, hb, hml, hown, hts, hK, hA, hlk, rfl, rfl, rfl, rfl, rfl, hN⟩ := C
  intro H locs ls hP hD hS hl
  exact lv_if_gt hx hb hd ht (fun h => kt h H locs ls hP hD hS hl) (fun h => kf h H locs ls hP hD hS hl)
theorem g_if_le (C : GX X l0 D0 t0 R0 cc n0 own Ts) {x : Int32} {off : Int} (tgt : Nat) (hd : decode cc pc = .ok (.ifCond .le off, 3)) (ht : (pc : Int) + off = (tgt : Int)) (kt : x ≤ 0 → GW X ws lv rest tgt cs sl) (kf : ¬ x ≤ 0 → GW X ws lv rest (pc + 3) cs sl) : GW X ws lv (.int x :: rest) pc cs sl := by
  obtain ⟨p, l, e, R, s, m, args, below, meth, c, nL, D, tys, A, Q⟩ := X
  obtain ⟨hx, hb, hml, hown, hts, hK, hA, hlk, rfl, rfl, rfl, rfl, rfl, hN⟩ := C
  intro H locs ls hP hD hS hl
  exact lv_if_le hx hb hd ht (fun h => kt h H locs ls hP hD hS hl) (fun h => kf h H locs ls hP hD hS hl)
theorem g_icmp_ge (C : GX X l0 D0 t0 R0 cc n0 own Ts) {x y : Int32} {off : Int} (tgt : Nat) (hd : decode cc pc = .ok (.if_icmp .ge off, 3)) (ht : (pc : Int) + off = (tgt : Int)) (kt : y ≤ x → GW X ws lv rest tgt cs sl) (kf : ¬ y ≤ x → GW X ws lv rest (pc + 3) cs sl) : GW X ws lv (.int y :: .int x :: rest) pc cs sl := by
  obtain ⟨p, l, e, R, s, m, args, below, meth, c, nL, D, tys, A, Q⟩ := X
  obtain ⟨hx, hb, hml, hown, hts, hK, hA, hlk, rfl, rfl, rfl, rfl, rfl, hN⟩ := C
  intro H locs ls hP hD hS hl
  exact lv_icmp_ge hx hb hd ht (fun h => kt h H locs ls hP hD hS hl) (fun h => kf h H locs ls hP hD hS hl)
theorem g_icmp_geN (C : GX X l0 D0 t0 R0 cc n0 own Ts) {x y : Nat} {off : Int} (tgt : Nat) (hd : decode cc pc = .ok (.if_icmp .ge off, 3)) (ht : (pc : Int) + off = (tgt : Int)) (bx : x < 2147483648) (by_ : y < 2147483648) (kt : y ≤ x → GW X ws lv rest tgt cs sl) (kf : x < y → GW X ws lv rest (pc + 3) cs sl) : GW X ws lv (.int (nI y) :: .int (nI x) :: rest) pc cs sl :=
  g_icmp_ge C tgt hd ht (fun h => kt ((nI_leI by_ bx).mp h)) (fun h => kf (Nat.lt_of_not_le (fun z => h ((nI_leI by_ bx).mpr z))))
theorem g_icmp_gt (C : GX X l0 D0 t0 R0 cc n0 own Ts) {x y : Int32} {off : Int} (tgt : Nat) (hd : decode cc pc = .ok (.if_icmp .gt off, 3)) (ht : (pc : Int) + off = (tgt : Int)) (kt : y < x → GW X ws lv rest tgt cs sl) (kf : ¬ y < x → GW X ws lv rest (pc + 3) cs sl) : GW X ws lv (.int y :: .int x :: rest) pc cs sl := by
  obtain ⟨p, l, e, R, s, m, args, below, meth, c, nL, D, tys, A, Q⟩ := X
  obtain ⟨hx, hb, hml, hown, hts, hK, hA, hlk, rfl, rfl, rfl, rfl, rfl, hN⟩ := C
  intro H locs ls hP hD hS hl
  exact lv_icmp_gt hx hb hd ht (fun h => kt h H locs ls hP hD hS hl) (fun h => kf h H locs ls hP hD hS hl)
theorem g_icmp_gtN (C : GX X l0 D0 t0 R0 cc n0 own Ts) {x y : Nat} {off : Int} (tgt : Nat) (hd : decode cc pc = .ok (.if_icmp .gt off, 3)) (ht : (pc : Int) + off = (tgt : Int)) (bx : x < 2147483648) (by_ : y < 2147483648) (kt : y < x → GW X ws lv rest tgt cs sl) (kf : x ≤ y → GW X ws lv rest (pc + 3) cs sl) : GW X ws lv (.int (nI y) :: .int (nI x) :: rest) pc cs sl :=
  g_icmp_gt C tgt hd ht (fun h => kt ((nI_ltI by_ bx).mp h)) (fun h => kf (Nat.le_of_not_lt (fun z => h ((nI_ltI by_ bx).mpr z))))
theorem g_icmp_le (C : GX X l0 D0 t0 R0 cc n0 own Ts) {x y : Int32} {off : Int} (tgt : Nat) (hd : decode cc pc = .ok (.if_icmp .le off, 3)) (ht : (pc : Int) + off = (tgt : Int)) (kt : x ≤ y → GW X ws lv rest tgt cs sl) (kf : ¬ x ≤ y → GW X ws lv rest (pc + 3) cs sl) : GW X ws lv (.int y :: .int x :: rest) pc cs sl := by
  obtain ⟨p, l, e, R, s, m, args, below, meth, c, nL, D, tys, A, Q⟩ := X
  obtain ⟨hx, hb, hml, hown, hts, hK, hA, hlk, rfl, rfl, rfl, rfl, rfl, hN⟩ := C
  intro H locs ls hP hD hS hl
  exact lv_icmp_le hx hb hd ht (fun h => kt h H locs ls hP hD hS hl) (fun h => kf h H locs ls hP hD hS hl)
theorem g_icmp_leN (C : GX X l0 D0 t0 R0 cc n0 own Ts) {x y : Nat} {off : Int} (tgt : Nat) (hd : decode cc pc = .ok (.if_icmp .le off, 3)) (ht : (pc : Int) + off = (tgt : Int)) (bx : x < 2147483648) (by_ : y < 2147483648) (kt : x ≤ y → GW X ws lv rest tgt cs sl) (kf : y < x → GW X ws lv rest (pc + 3) cs sl) : GW X ws lv (.int (nI y) :: .int (nI x) :: rest) pc cs sl :=
  g_icmp_le C tgt hd ht (fun h => kt ((nI_leI bx by_).mp h)) (fun h => kf (Nat.lt_of_not_le (fun z => h ((nI_leI bx by_).mpr z))))
theorem g_icmp_lt (C : GX X l0 D0 t0 R0 cc n0 own Ts) {x y : Int32} {off : Int} (tgt : Nat) (hd : decode cc pc = .ok (.if_icmp .lt off, 3)) (ht : (pc : Int) + off = (tgt : Int)) (kt : x < y → GW X ws lv rest tgt cs sl) (kf : ¬ x < y → GW X ws lv rest (pc + 3) cs sl) : GW X ws lv (.int y :: .int x :: rest) pc cs sl := by
  obtain ⟨p, l, e, R, s, m, args, below, meth, c, nL, D, tys, A, Q⟩ := X
  obtain ⟨hx, hb, hml, hown, hts, hK, hA, hlk, rfl, rfl, rfl, rfl, rfl, hN⟩ := C
  intro H locs ls hP hD hS hl
  exact lv_icmp_lt hx hb hd ht (fun h => kt h H locs ls hP hD hS hl) (fun h => kf h H locs ls hP hD hS hl)
theorem g_icmp_ltN (C : GX X l0 D0 t0 R0 cc n0 own Ts) {x y : Nat} {off : Int} (tgt : Nat) (hd : decode cc pc = .ok (.if_icmp .lt off, 3)) (ht : (pc : Int) + off = (tgt : Int)) (bx : x < 2147483648) (by_ : y < 2147483648) (kt : x < y → GW X ws lv rest tgt cs sl) (kf : y ≤ x → GW X ws lv rest (pc + 3) cs sl) : GW X ws lv (.int (nI y) :: .int (nI x) :: rest) pc cs sl :=
  g_icmp_lt C tgt hd ht (fun h => kt ((nI_ltI bx by_).mp h)) (fun h => kf (Nat.le_of_not_lt (fun z => h ((nI_ltI bx by_).mpr z))))
theorem g_icmp_eq (C : GX X l0 D0 t0 R0 cc n0 own Ts) {x y : Int32} {off : Int} (tgt : Nat) (hd : decode cc pc = .ok (.if_icmp .eq off, 3)) (ht : (pc : Int) + off = (tgt : Int)) (kt : x = y → GW X ws lv rest tgt cs sl) (kf : ¬ x = y → GW X ws lv rest (pc + 3) cs sl) : GW X ws lv (.int y :: .int x :: rest) pc cs sl := by
  obtain ⟨p, l, e, R, s, m, args, below, meth, c, nL, D, tys, A, Q⟩ := X
  obtain ⟨hx, hb, hml, hown, hts, hK, hA, hlk, rfl, rfl, rfl, rfl, rfl, hN⟩ := C
  intro H locs ls hP hD hS hl
  exact lv_icmp_eq hx hb hd ht (fun h => kt h H locs ls hP hD hS hl) (fun h => kf h H locs ls hP hD hS hl)
theorem g_icmp_eqN (C : GX X l0 D0 t0 R0 cc n0 own Ts) {x y : Nat} {off : Int} (tgt : Nat) (hd : decode cc pc = .ok (.if_icmp .eq off, 3)) (ht : (pc : Int) + off = (tgt : Int)) (bx : x < 2147483648) (by_ : y < 2147483648) (kt : x = y → GW X ws lv rest tgt cs sl) (kf : ¬ x = y → GW X ws lv rest (pc + 3) cs sl) : GW X ws lv (.int (nI y) :: .int (nI x) :: rest) pc cs sl :=
  g_icmp_eq C tgt hd ht (fun h => kt ((nI_eq bx by_).mp h)) (fun h => kf (fun z => h ((nI_eq bx by_).mpr z)))
theorem g_icmp_ne (C : GX X l0 D0 t0 R0 cc n0 own Ts) {x y : Int32} {off : Int} (tgt : Nat) (hd : decode cc pc = .ok (.if_icmp .ne off, 3)) (ht : (pc : Int) + off = (tgt : Int)) (kt : ¬ x = y → GW X ws lv rest tgt cs sl) (kf : x = y → GW X ws lv rest (pc + 3) cs sl) : GW X ws lv (.int y :: .int x :: rest) pc cs sl := by
  obtain ⟨p, l, e, R, s, m, args, below, meth, c, nL, D, tys, A, Q⟩ := X
  obtain ⟨hx, hb, hml, hown, hts, hK, hA, hlk, rfl, rfl, rfl, rfl, rfl, hN⟩ := C
  intro H locs ls hP hD hS hl
  exact lv_icmp_ne hx hb hd ht (fun h => kt h H locs ls hP hD hS hl) (fun h => kf h H locs ls hP hD hS hl)
theorem g_icmp_neN (C : GX X l0 D0 t0 R0 cc n0 own Ts) {x y : Nat} {off : Int} (tgt : Nat) (hd : decode cc pc = .ok (.if_icmp .ne off, 3)) (ht : (pc : Int) + off = (tgt : Int)) (bx : x < 2147483648) (by_ : y < 2147483648) (kt : ¬ x = y → GW X ws lv rest tgt cs sl) (kf : x = y → GW X ws lv rest (pc + 3) cs sl) : GW X ws lv (.int (nI y) :: .int (nI x) :: rest) pc cs sl :=
  g_icmp_ne C tgt hd ht (fun h => kt (fun z => h ((nI_eq bx by_).mpr z))) (fun h => kf ((nI_eq bx by_).mp h))
theorem g_if_eqN (C : GX X l0 D0 t0 R0 cc n0 own Ts) {x : Nat} {off : Int} (tgt : Nat) (hd : decode cc pc = .ok (.ifCond .eq off, 3)) (ht : (pc : Int) + off = (tgt : Int)) (bx : x < 2147483648) (kt : x = 0 → GW X ws lv rest tgt cs sl) (kf : ¬ x = 0 → GW X ws lv rest (pc + 3) cs sl) : GW X ws lv (.int (nI x) :: rest) pc cs sl :=
  g_if_eq C tgt hd ht (fun h => kt ((nI_eq bx (by omega)).mp h)) (fun h => kf (fun z => h (by rw [z]; rfl)))
theorem g_if_neN (C : GX X l0 D0 t0 R0 cc n0 own Ts) {x : Nat} {off : Int} (tgt : Nat) (hd : decode cc pc = .ok (.ifCond .ne off, 3)) (ht : (pc : Int) + off = (tgt : Int)) (bx : x < 2147483648) (kt : ¬ x = 0 → GW X ws lv rest tgt cs sl) (kf : x = 0 → GW X ws lv rest (pc + 3) cs sl) : GW X ws lv (.int (nI x) :: rest) pc cs sl :=
  g_if_ne C tgt hd ht (fun h => kt (fun z => h (by rw [z]; rfl))) (fun h => kf ((nI_eq bx (by omega)).mp h))
theorem g_goto (C : GX X l0 D0 t0 R0 cc n0 own Ts) {off : Int} (tgt : Nat) (hd : decode cc pc = .ok (.goto off, 3)) (ht : (pc : Int) + off = (tgt : Int)) (k : GW X ws lv rest tgt cs sl) : GW X ws lv rest pc cs sl := by
  obtain ⟨p, l, e, R, s, m, args, below, meth, c, nL, D, tys, A, Q⟩ := X
  obtain ⟨hx, hb, hml, hown, hts, hK, hA, hlk, rfl, rfl, rfl, rfl, rfl, hN⟩ := C
  intro H locs ls hP hD hS hl
  exact lv_goto hx hb hd ht (k H locs ls hP hD hS hl)
theorem g_tableIn (C : GX X l0 D0 t0 R0 cc n0 own Ts) {dflt lo hi : Int} {offs : Array Int} {len : Nat} {x : Int32} {off : Int} (tgt : Nat) (hd : decode cc pc = .ok (.tableswitch dflt lo hi offs, len)) (h1 : ¬ x.toInt < lo) (h2 : ¬ hi < x.toInt) (ho : offs[(x.toInt - lo).toNat]? = some off) (ht : (pc : Int) + off = (tgt : Int)) (k : GW X ws lv rest tgt cs sl) : GW X ws lv (.int x :: rest) pc cs sl := by
  obtain ⟨p, l, e, R, s, m, args, below, meth, c, nL, D, tys, A, Q⟩ := X
  obtain ⟨hx, hb, hml, hown, hts, hK, hA, hlk, rfl, rfl, rfl, rfl, rfl, hN⟩ := C
  intro H locs ls hP hD hS hl
  exact lv_tableIn hx hb hd h1 h2 ho ht (k H locs ls hP hD hS hl)
theorem g_tableOut (C : GX X l0 D0 t0 R0 cc n0 own Ts) {dflt lo hi : Int} {offs : Array Int} {len : Nat} {x : Int32} (tgt : Nat) (hd : decode cc pc = .ok (.tableswitch dflt lo hi offs, len)) (h : x.toInt < lo ∨ hi < x.toInt) (ht : (pc : Int) + dflt = (tgt : Int)) (k : GW X ws lv rest tgt cs sl) : GW X ws lv (.int x :: rest) pc cs sl := by
  obtain ⟨p, l, e, R, s, m, args, below, meth, c, nL, D, tys, A, Q⟩ := X
  obtain ⟨hx, hb, hml, hown, hts, hK, hA, hlk, rfl, rfl, rfl, rfl, rfl, hN⟩ := C
  intro H locs ls hP hD hS hl
  exact lv_tableOut hx hb hd h ht (k H locs ls hP hD hS hl)
theorem g_lookup (C : GX X l0 D0 t0 R0 cc n0 own Ts) {dflt : Int} {ps : Array (Int × Int)} {len : Nat} {x : Int32} {off : Int} (tgt : Nat) (hd : decode cc pc = .ok (.lookupswitch dflt ps, len)) (hp : (ps.toList.zip (ps.toList.drop 1)).all (fun (a, next) => a.1 < next.1) = true) (ho : Op.lookupswitch.offset ps.toList dflt x.toInt = off) (ht : (pc : Int) + off = (tgt : Int)) (k : GW X ws lv rest tgt cs sl) : GW X ws lv (.int x :: rest) pc cs sl := by
  obtain ⟨p, l, e, R, s, m, args, below, meth, c, nL, D, tys, A, Q⟩ := X
  obtain ⟨hx, hb, hml, hown, hts, hK, hA, hlk, rfl, rfl, rfl, rfl, rfl, hN⟩ := C
  intro H locs ls hP hD hS hl
  exact lv_lookup hx hb hd hp ho ht (k H locs ls hP hD hS hl)
theorem g_w (ws' : va_W) (h : ws = ws') (k : GW X ws' lv rest pc cs sl) : GW X ws lv rest pc cs sl := h ▸ k
theorem g_st (st' : List Value) (h : rest = st') (k : GW X ws lv st' pc cs sl) : GW X ws lv rest pc cs sl := h ▸ k
theorem g_top {x y : Int32} (h : x = y) (k : GW X ws lv (.int y :: rest) pc cs sl) : GW X ws lv (.int x :: rest) pc cs sl := h ▸ k
theorem g_topl {x y : Int64} (h : x = y) (k : GW X ws lv (.long y :: rest) pc cs sl) : GW X ws lv (.long x :: rest) pc cs sl := h ▸ k
theorem g_topv {x y : Value} (h : x = y) (k : GW X ws lv (y :: rest) pc cs sl) : GW X ws lv (x :: rest) pc cs sl := h ▸ k
theorem g_lve (lv' : List (Nat × Value)) (h : lv = lv') (k : GW X ws lv' rest pc cs sl) : GW X ws lv rest pc cs sl := h ▸ k
theorem g_lv (lv' : List (Nat × Value)) (is : List Nat) (h : lv_pick lv is = lv') (k : GW X ws lv' rest pc cs sl) : GW X ws lv rest pc cs sl := by
  obtain ⟨p, l, e, R, s, m, args, below, meth, c, nL, D, tys, A, Q⟩ := X
  intro H locs ls hP hD hS hl
  exact k H locs ls hP hD hS (lv_sub hl is h)
theorem gx_re {ws ws' : va_W} {is : List Nat} (h : is.map (fun i => ws[i]?) = ws'.map some) : is.filterMap (fun i => ws[i]?) = ws' := by
  have h1 : is.filterMap (fun i => ws[i]?) = (is.map (fun i => ws[i]?)).filterMap id := by rw [List.filterMap_map]; rfl
  rw [h1, h, List.filterMap_map]
  simp
theorem g_re (ws' : va_W) (is : List Nat) (hn : va_nd is = true) (h : is.map (fun i => ws[i]?) = ws'.map some) (k : GW X ws' lv rest pc cs sl) : GW X ws lv rest pc cs sl := by
  obtain ⟨p, l, e, R, s, m, args, below, meth, c, nL, D, tys, A, Q⟩ := X
  intro H locs ls hP hD hS hl
  exact k H locs ls (hP.sub is (gx_re h)) (hD.sub is hn h) hS hl
theorem g_get (C : GX X l0 D0 t0 R0 cc n0 own Ts) {cn : String} {T : u_T} {N ci index a : Nat} (q0 f : Nat) (hd : decode cc pc = .ok (.getfield index, 3)) {fs : List Value} (he : ws[q0]? = some (a, .inr (ci, fs))) (hc : vwCl[ci]? = some (cn, T, N)) (hin : ∀ w ∈ u_ws cn T N, w ∈ Ts) (hk : f < N) (hlink : Cond.fieldLink own index (T f).1 (T f).2.1 (T f).2.2.1 ∈ Ts) {v : Value} (hv : fs[f]? = some v) (k : GW X ws lv (v :: rest) (pc + 3) cs sl) : GW X ws lv (.ref a :: rest) pc cs sl := by
  obtain ⟨p, l, e, R, s, m, args, below, meth, c, nL, D, tys, A, Q⟩ := X
  obtain ⟨hx, hb, hml, hown, hts, hK, hA, hlk, rfl, rfl, rfl, rfl, rfl, hN⟩ := C
  intro H locs ls hP hD hS hl
  exact va_get hx hb hts hin hown hK hP q0 he hc f hk (hts _ hlink) (fun _ h9 => h9) hv hd (k H locs ls hP hD hS hl)
theorem g_put (C : GX X l0 D0 t0 R0 cc n0 own Ts) {cn : String} {T : u_T} {N ci index a : Nat} {ty0 : Nat → FieldType} (q0 f : Nat) (ws' : va_W) (hd : decode cc pc = .ok (.putfield index, 3)) {fs : List Value} (he : ws[q0]? = some (a, .inr (ci, fs))) (hc : vwCl[ci]? = some (cn, T, N)) (hin : ∀ w ∈ u_ws cn T N, w ∈ Ts) (hty : ∀ k, k < N → parseFieldDescriptor (T k).2.2.1 = some (ty0 k)) (hnm : ∀ a, a < N → ∀ b, b < N → a ≠ b → (T a).2.1 ≠ (T b).2.1) (hk : f < N) (hlink : Cond.fieldLink own index (T f).1 (T f).2.1 (T f).2.2.1 ∈ Ts) (hfin : (T f).2.2.2 = false) {v : Value} (hn : narrow (ty0 f) v = v) (hfit : fits (ty0 f) v = true) (hl2 : f < fs.length) (hw : ws.set q0 (a, .inr (ci, fs.set f v)) = ws') (k : GW X ws' lv rest (pc + 3) cs sl) : GW X ws lv (v :: .ref a :: rest) pc cs sl := by
  obtain ⟨p, l, e, R, s, m, args, below, meth, c, nL, D, tys, A, Q⟩ := X
  obtain ⟨hx, hb, hml, hown, hts, hK, hA, hlk, rfl, rfl, rfl, rfl, rfl, hN⟩ := C
  intro H locs ls hP hD hS hl
  exact va_put hx hb hts hin ty0 hty hnm hown hK hP hD hS q0 he hc f hk (hts _ hlink) (fun _ h9 => h9) hfin (hty f hk) hn hfit hl2 hd (fun H1 locs1 p1 d1 s1 => k H1 locs1 ls (hw ▸ p1) (hw ▸ d1) s1 hl)
theorem g_iald (C : GX X l0 D0 t0 R0 cc n0 own Ts) {a i n : Nat} {cA : ClassId} {f : Nat → Int32} (q0 t : Nat) (hd : decode cc pc = .ok (.iaload, 1)) (ha : ws[q0]? = some (a, .inl (cA, n, .inl f))) (ht : t0[t]? = some (cA, .int)) (hi : i < n) (hn : n < 2147483648) (k : GW X ws lv (.int (f i) :: rest) (pc + 1) cs sl) : GW X ws lv (.int (nI i) :: .ref a :: rest) pc cs sl := by
  obtain ⟨p, l, e, R, s, m, args, below, meth, c, nL, D, tys, A, Q⟩ := X
  obtain ⟨hx, hb, hml, hown, hts, hK, hA, hlk, rfl, rfl, rfl, rfl, rfl, hN⟩ := C
  intro H locs ls hP hD hS hl
  refine va_iald hx hb hK hP q0 t ha ht (vp_in_nI hi hn) hd ?_
  rw [nI_clamp (by omega)]
  exact k H locs ls hP hD hS hl
theorem g_cald (C : GX X l0 D0 t0 R0 cc n0 own Ts) {a i n : Nat} {cA : ClassId} {f : Nat → Int32} (q0 t : Nat) (hd : decode cc pc = .ok (.caload, 1)) (ha : ws[q0]? = some (a, .inl (cA, n, .inl f))) (ht : t0[t]? = some (cA, .char)) (hi : i < n) (hn : n < 2147483648) (k : GW X ws lv (.int (f i) :: rest) (pc + 1) cs sl) : GW X ws lv (.int (nI i) :: .ref a :: rest) pc cs sl := by
  obtain ⟨p, l, e, R, s, m, args, below, meth, c, nL, D, tys, A, Q⟩ := X
  obtain ⟨hx, hb, hml, hown, hts, hK, hA, hlk, rfl, rfl, rfl, rfl, rfl, hN⟩ := C
  intro H locs ls hP hD hS hl
  refine va_cald hx hb hK hP q0 t ha ht (vp_in_nI hi hn) hd ?_
  rw [nI_clamp (by omega)]
  exact k H locs ls hP hD hS hl
theorem g_lald (C : GX X l0 D0 t0 R0 cc n0 own Ts) {a i n : Nat} {cA : ClassId} {f : Nat → Int64} (q0 t : Nat) (hd : decode cc pc = .ok (.laload, 1)) (ha : ws[q0]? = some (a, .inl (cA, n, .inr (.inl f)))) (ht : t0[t]? = some (cA, .long)) (hi : i < n) (hn : n < 2147483648) (k : GW X ws lv (.long (f i) :: rest) (pc + 1) cs sl) : GW X ws lv (.int (nI i) :: .ref a :: rest) pc cs sl := by
  obtain ⟨p, l, e, R, s, m, args, below, meth, c, nL, D, tys, A, Q⟩ := X
  obtain ⟨hx, hb, hml, hown, hts, hK, hA, hlk, rfl, rfl, rfl, rfl, rfl, hN⟩ := C
  intro H locs ls hP hD hS hl
  refine va_lald hx hb hK hP q0 t ha ht (vp_in_nI hi hn) hd ?_
  rw [nI_clamp (by omega)]
  exact k H locs ls hP hD hS hl
theorem g_aald (C : GX X l0 D0 t0 R0 cc n0 own Ts) {a i n : Nat} {cA : ClassId} {f : Nat → Option Nat} {cn : String} (q0 t : Nat) (hd : decode cc pc = .ok (.aaload, 1)) (ha : ws[q0]? = some (a, .inl (cA, n, .inr (.inr (.inr (.inr f)))))) (ht : t0[t]? = some (cA, .object cn)) (hi : i < n) (hn : n < 2147483648) (k : GW X ws lv (va_rf (f i) :: rest) (pc + 1) cs sl) : GW X ws lv (.int (nI i) :: .ref a :: rest) pc cs sl := by
  obtain ⟨p, l, e, R, s, m, args, below, meth, c, nL, D, tys, A, Q⟩ := X
  obtain ⟨hx, hb, hml, hown, hts, hK, hA, hlk, rfl, rfl, rfl, rfl, rfl, hN⟩ := C
  intro H locs ls hP hD hS hl
  refine va_aldq hx hb hK hP q0 t ha ht (vp_in_nI hi hn) hd ?_
  rw [nI_clamp (by omega)]
  exact k H locs ls hP hD hS hl
theorem g_iast (C : GX X l0 D0 t0 R0 cc n0 own Ts) {a i n : Nat} {cA : ClassId} {f : Nat → Int32} {x : Int32} (q0 t : Nat) (ws' : va_W) (hd : decode cc pc = .ok (.iastore, 1)) (ha : ws[q0]? = some (a, .inl (cA, n, .inl f))) (ht : t0[t]? = some (cA, .int)) (hi : i < n) (hn : n < 2147483648) (hw : ws.set q0 (a, .inl (cA, n, .inl (upd f i x))) = ws') (k : GW X ws' lv rest (pc + 1) cs sl) : GW X ws lv (.int x :: .int (nI i) :: .ref a :: rest) pc cs sl := by
  obtain ⟨p, l, e, R, s, m, args, below, meth, c, nL, D, tys, A, Q⟩ := X
  obtain ⟨hx, hb, hml, hown, hts, hK, hA, hlk, rfl, rfl, rfl, rfl, rfl, hN⟩ := C
  intro H locs ls hP hD hS hl
  refine va_iast hx hb hK hP hD hS q0 t ha ht (vp_in_nI hi hn) hd (fun H1 locs1 p1 d1 s1 => ?_)
  rw [nI_clamp (by omega)] at p1 d1
  exact k H1 locs1 ls (hw ▸ p1) (hw ▸ d1) s1 hl
theorem g_cast (C : GX X l0 D0 t0 R0 cc n0 own Ts) {a i n : Nat} {cA : ClassId} {f : Nat → Int32} {x : Int32} (q0 t : Nat) (ws' : va_W) (hd : decode cc pc = .ok (.castore, 1)) (ha : ws[q0]? = some (a, .inl (cA, n, .inl f))) (ht : t0[t]? = some (cA, .char)) (hi : i < n) (hn : n < 2147483648) (hw : ws.set q0 (a, .inl (cA, n, .inl (upd f i (vp_nar .char x)))) = ws') (k : GW X ws' lv rest (pc + 1) cs sl) : GW X ws lv (.int x :: .int (nI i) :: .ref a :: rest) pc cs sl := by
  obtain ⟨p, l, e, R, s, m, args, below, meth, c, nL, D, tys, A, Q⟩ := X
  obtain ⟨hx, hb, hml, hown, hts, hK, hA, hlk, rfl, rfl, rfl, rfl, rfl, hN⟩ := C
  intro H locs ls hP hD hS hl
  refine va_cast hx hb hK hP hD hS q0 t ha ht (vp_in_nI hi hn) hd (fun H1 locs1 p1 d1 s1 => ?_)
  rw [nI_clamp (by omega)] at p1 d1
  exact k H1 locs1 ls (hw ▸ p1) (hw ▸ d1) s1 hl
theorem g_last (C : GX X l0 D0 t0 R0 cc n0 own Ts) {a i n : Nat} {cA : ClassId} {f : Nat → Int64} {x : Int64} (q0 t : Nat) (ws' : va_W) (hd : decode cc pc = .ok (.lastore, 1)) (ha : ws[q0]? = some (a, .inl (cA, n, .inr (.inl f)))) (ht : t0[t]? = some (cA, .long)) (hi : i < n) (hn : n < 2147483648) (hw : ws.set q0 (a, .inl (cA, n, .inr (.inl (vp_updL f i x)))) = ws') (k : GW X ws' lv rest (pc + 1) cs sl) : GW X ws lv (.long x :: .int (nI i) :: .ref a :: rest) pc cs sl := by
  obtain ⟨p, l, e, R, s, m, args, below, meth, c, nL, D, tys, A, Q⟩ := X
  obtain ⟨hx, hb, hml, hown, hts, hK, hA, hlk, rfl, rfl, rfl, rfl, rfl, hN⟩ := C
  intro H locs ls hP hD hS hl
  refine va_last hx hb hK hP hD hS q0 t ha ht (vp_in_nI hi hn) hd (fun H1 locs1 p1 d1 s1 => ?_)
  rw [nI_clamp (by omega)] at p1 d1
  exact k H1 locs1 ls (hw ▸ p1) (hw ▸ d1) s1 hl
theorem g_aast (C : GX X l0 D0 t0 R0 cc n0 own Ts) {a i n v : Nat} {cA : ClassId} {f : Nat → Option Nat} {r : vw_C} {vs : List Value} (q0 t qk ci : Nat) (ws' : va_W) (hd : decode cc pc = .ok (.aastore, 1)) (ha : ws[q0]? = some (a, .inl (cA, n, .inr (.inr (.inr (.inr f)))))) (ht : t0[t]? = some (cA, .object r.1)) (hv : ws[qk]? = some (v, .inr (ci, vs))) (hc : vwCl[ci]? = some r) (hi : i < n) (hn : n < 2147483648) (hw : ws.set q0 (a, .inl (cA, n, .inr (.inr (.inr (.inr (va_up f i (some v))))))) = ws') (k : GW X ws' lv rest (pc + 1) cs sl) : GW X ws lv (.ref v :: .int (nI i) :: .ref a :: rest) pc cs sl := by
  obtain ⟨p, l, e, R, s, m, args, below, meth, c, nL, D, tys, A, Q⟩ := X
  obtain ⟨hx, hb, hml, hown, hts, hK, hA, hlk, rfl, rfl, rfl, rfl, rfl, hN⟩ := C
  intro H locs ls hP hD hS hl
  refine va_astq hx hb hK hP hD hS q0 t qk ci ha ht hv hc (vp_in_nI hi hn) hd (fun H1 locs1 p1 d1 s1 => ?_)
  rw [nI_clamp (by omega)] at p1 d1
  exact k H1 locs1 ls (hw ▸ p1) (hw ▸ d1) s1 hl
theorem g_copyi (C : GX X l0 D0 t0 R0 cc n0 own Ts) {index a a0 n0' n1 : Nat} {c0 c1 : ClassId} {f g : Nat → Int32} {n : Nat} (q0 q1 t : Nat) (ws' : va_W) (hd : decode cc pc = .ok (.invokestatic index, 3)) (hlink : Cond.methodLink own index arraycopyName ∈ Ts) (hnat : Cond.native arraycopyName ∈ Ts) (hstat : Cond.static arraycopyName ∈ Ts) (hini : Cond.initialized "java/lang/System" ∈ Ts) (ha0 : ws[q0]? = some (a0, .inl (c0, n0', .inl f))) (ha1 : ws[q1]? = some (a, .inl (c1, n1, .inl g))) (ht0 : t0[t]? = some (c0, .int)) (ht1 : t0[t]? = some (c1, .int)) (hn : n < 2147483648) (h4 : n ≤ n0') (h5 : n ≤ n1) (hfr : 1 ≤ R0.frames) (hlo : (rest.map fun v => v.category).sum + (nativeFrameWords "java/lang/System" "arraycopy" 5 + 11) ≤ R0.locals) (hw : ws.set q1 (a, .inl (c1, n1, .inl (va_cpy f g 0 0 n))) = ws') (k : GW X ws' lv rest (pc + 3) cs sl) : GW X ws lv (.int (nI n) :: .int 0 :: .ref a :: .int 0 :: .ref a0 :: rest) pc cs sl := by
  obtain ⟨p, l, e, R, s, m, args, below, meth, c, nL, D, tys, A, Q⟩ := X
  obtain ⟨hx, hb, hml, hown, hts, hK, hA, hlk, rfl, rfl, rfl, rfl, rfl, hN⟩ := C
  intro H locs ls hP hD hS hl
  refine va_copyi hx hb (hml.trans hl.1.symm) hown (hts _ hlink) (hts _ hnat) (hts _ hstat) (hts _ hini) hK hP hD hS q0 q1 t t (ty := .int) ha0 ha1 ht0 ht1 rfl (by decide) (by decide) (nI_pos hn) ?_ ?_ (fun i _ => rfl) hfr hlo hd (fun H1 locs1 p1 d1 s1 => ?_)
  · rw [nI_clamp hn]; exact (Nat.zero_add n).symm ▸ h4
  · rw [nI_clamp hn]; exact (Nat.zero_add n).symm ▸ h5
  · rw [nI_clamp hn] at p1 d1
    exact k H1 locs1 ls (hw ▸ p1) (hw ▸ d1) s1 hl
end GR
/-- worlds with some cells told anew -/
def ovr : va_W → List Nat → va_W → va_W
  | ws, i :: is, c :: cs => ovr (ws.set i c) is cs
  | ws, [], _ => ws
  | ws, _ :: _, [] => ws
theorem ovr_get : ∀ (is : List Nat) (w1 ws : va_W) (k : Nat) (q : Nat × va_E), (ovr ws is w1)[k]? = some q → (∃ j : Nat, is[j]? = some k ∧ w1[j]? = some q) ∨ (ws[k]? = some q ∧ ∀ j : Nat, is[j]? = some k → w1.length ≤ j)
  | [], w1, ws, k, q, h => Or.inr ⟨by simpa [ovr] using h, fun j hj => by simp at hj⟩
  | i :: is, [], ws, k, q, h => Or.inr ⟨by simpa [ovr] using h, fun j _ => Nat.zero_le j⟩
  | i :: is, c :: cs, ws, k, q, h => by
    rcases ovr_get is cs (ws.set i c) k q h with ⟨j, h1, h2⟩ | ⟨h1, h2⟩
    · exact Or.inl ⟨j + 1, h1, h2⟩
    · by_cases hk : i = k
      · subst hk
        have hlt : i < ws.length := by
          have := (List.getElem?_eq_some_iff.mp h1).1
          simpa using this
        rw [List.getElem?_set_self hlt] at h1
        exact Or.inl ⟨0, rfl, h1⟩
      · rw [List.getElem?_set_ne hk] at h1
        refine Or.inr ⟨h1, fun j hj => ?_⟩
        cases j with
        | zero => simp at hj; exact absurd hj hk
        | succ j => exact Nat.succ_le_succ (h2 j hj)
theorem va_D.addr {A : Nat → Prop} {ws ws' : va_W} (h : va_D A ws) (g : ∀ (k : Nat) (q : Nat × va_E), ws'[k]? = some q → ∃ e, ws[k]? = some (q.1, e)) : va_D A ws' := by
  refine ⟨fun i j p q hi hj hpq => ?_, fun k q hk => ?_⟩
  · obtain ⟨e1, h1⟩ := g i p hi
    obtain ⟨e2, h2⟩ := g j q hj
    exact h.1 i j _ _ h1 h2 hpq
  · obtain ⟨e1, h1⟩ := g k q hk
    exact (h.2 k (q.1, e1) h1 : A (q.1, e1).1)
theorem map_at {is : List Nat} {ws w0 : va_W} (hC : is.map (fun i => ws[i]?) = w0.map some) {j : Nat} : (∀ q, w0[j]? = some q → ∃ i, is[j]? = some i ∧ ws[i]? = some q) ∧ ∀ i, is[j]? = some i → ws[i]? = w0[j]? := by
  have h1 : (is.map (fun i => ws[i]?))[j]? = (w0.map some)[j]? := by rw [hC]
  rw [List.getElem?_map, List.getElem?_map] at h1
  constructor
  · intro q hq
    rw [hq] at h1
    cases hi : is[j]? with
    | none => rw [hi] at h1; cases h1
    | some i => rw [hi] at h1; exact ⟨i, rfl, Option.some.inj h1⟩
  · intro i hi
    rw [hi] at h1
    cases hw : w0[j]? with
    | none => rw [hw] at h1; cases h1
    | some q => rw [hw] at h1; exact Option.some.inj h1
theorem ovr_ok {A0 : Nat → Prop} {D : va_G} {ws w0 w1 : va_W} {H H1 : Heap} (hP : va_P D vwCl ws H) (hD : va_D A0 ws) (is : List Nat) (hC : is.map (fun i => ws[i]?) = w0.map some) (hf : w1.map Prod.fst = w0.map Prod.fst)
    (hk : ∀ q : Nat, q < H.size → ¬ va_A w0 H.size q → H1[q]? = H[q]?) (hP1 : va_P D vwCl w1 H1) : va_P D vwCl (ovr ws is w1) H1 ∧ va_D A0 (ovr ws is w1) := by
  have hlen : w1.length = w0.length := by have := congrArg List.length hf; simpa using this
  refine ⟨fun k q hq => ?_, hD.addr (fun k q hq => ?_)⟩
  · rcases ovr_get is w1 ws k q hq with ⟨j, h1, h2⟩ | ⟨h1, h2⟩
    · exact hP1 j q h2
    · have hl := (hP k q h1).lt
      refine (hP k q h1).kept (hk q.1 hl (fun ha => ?_))
      rcases ha with ⟨j, e, h⟩ | h
      · obtain ⟨i, h3, h4⟩ := (map_at hC (j := j)).1 _ h
        have hik := hD.1 i k _ _ h4 h1 rfl
        subst hik
        have := h2 j h3
        have h5 := (List.getElem?_eq_some_iff.mp h).1
        omega
      · omega
  · rcases ovr_get is w1 ws k q hq with ⟨j, h1, h2⟩ | ⟨h1, -⟩
    · have h3 := (map_at hC (j := j)).2 k h1
      have h4 : (w1.map Prod.fst)[j]? = (w0.map Prod.fst)[j]? := by rw [hf]
      rw [List.getElem?_map, List.getElem?_map, h2] at h4
      cases hw : w0[j]? with
      | none => rw [hw] at h4; cases h4
      | some p =>
        rw [hw] at h4
        have h5 : q.1 = p.1 := Option.some.inj h4
        exact ⟨p.2, by rw [h3, hw, h5]⟩
    · exact ⟨q.2, h1⟩
def gPc (D : va_G) (tys : List (ClassId × FieldType)) (w0 : va_W) (sz : Nat) (U : State) : Prop := U.heap.size = sz ∧ va_P D vwCl w0 U.heap ∧ (va_K D vwCl tys U ∧ gN U) ∧ va_D (fun _ => True) w0
def gQc {S : Type} (D : va_G) (w0 : va_W) (sz : Nat) (rv : S → Option Value) (post : S → Prop) (w1 : S → va_W) : Array Value → State → Outcome → State → Prop := fun _ st oc t => (∃ u : S, oc = .returned (rv u) ∧ post u ∧ va_P D vwCl (w1 u) t.heap) ∧ va_F (va_A w0 sz) st t
/-- a contract: from the world w0 and the arguments av the method comes back with rv u, the world w1 u, and post u -/
def CM {S : Type} (l : Launch) (D : va_G) (tys : List (ClassId × FieldType)) (y : MethodName) (wds : List Cond) (rm : Room) (av : List Value) (w0 : va_W) (rv : S → Option Value) (post : S → Prop) (w1 : S → va_W) : Prop :=
  ∀ sz : Nat, Met l y wds rm (va_Pc av (gPc D tys w0 sz)) (gQc D w0 sz rv post w1) 0 0 (va_A w0 sz)
theorem gPc_blind {D : va_G} {tys : List (ClassId × FieldType)} {w0 : va_W} {sz : Nat} {av : List Value} : FrameBlind (va_Pc av (gPc D tys w0 sz)) := fun a U g mk q => by
  obtain ⟨q0, q1, qP, qK, qD⟩ := q
  exact ⟨q0, q1, qP, ⟨va_K.moved (u := U) (U := U.calling g mk a) (Vm.Alike.refl U.vm) qK.1, qK.2.same rfl⟩, qD⟩
section GC
variable {S : Type} {l : Launch} {D : va_G} {tys : List (ClassId × FieldType)} {y : MethodName} {wds wds' : List Cond} {rm : Room} {av : List Value} {w0 : va_W} {rv : S → Option Value} {post : S → Prop} {w1 : S → va_W} {cc : ByteArray} {maxL : Nat} {ret : Option FieldType}
theorem CM_in (hy : plainName y.cls = true) (hw : wds = Cond.code y cc maxL ret :: wds') (hlv : (lg_sl av).length ≤ maxL)
    (body : ∀ X : gT, GX X l D tys rm cc maxL y.cls wds → (∀ (u : S) (lv : List (Nat × Value)) (pc : Nat), post u →
        (ret = none → rv u = none → decode cc pc = .ok (.return_, 1) → GW X (w1 u) lv [] pc 0 0) ∧
        (∀ v : Int32, ret = some .int → rv u = some (.int v) → decode cc pc = .ok (.ireturn, 1) → GW X (w1 u) lv [.int v] pc 0 0) ∧
        (∀ v : Int32, ret = some .boolean → rv u = some (.int v) → (v = 0 ∨ v = 1) → decode cc pc = .ok (.ireturn, 1) → GW X (w1 u) lv [.int v] pc 0 0) ∧
        (∀ v : Int64, ret = some .long → rv u = some (.long v) → decode cc pc = .ok (.lreturn, 1) → GW X (w1 u) lv [.long v] pc 0 0) ∧
        (∀ (a : Nat) (n : String), ret = some (.object n) → rv u = some (.ref a) → decode cc pc = .ok (.areturn, 1) → GW X (w1 u) lv [.ref a] pc 0 0)) →
      GW X w0 (lv_args 0 av) [] 0 0 0) : CM l D tys y wds rm av w0 rv post w1 := by
  intro sz
  refine Met.ofW (cc := cc) (maxL := maxL) (ret := ret) hy hw ?_
  intro p e s m args below meth c s₁ B hml hv
  obtain ⟨rfl, hsz, hP, hK, hD0⟩ := hv
  have hx := B.exec
  have hb := B.bytes
  have hr := B.returns
  have hts := atoms_spec (ws := wds) B.pre
  have hown : s.vm.findClass y.cls = some m.cls := findClass_of_methodNamed B.named
  have hlocks := B.notSynchronized
  subst hsz
  have hD := hD0.self (sz := s.heap.size)
  have hS : va_S (va_A w0 s.heap.size) s.heap s.heap [] := va_S.rf
  have hl := lv_entry av (n := maxL) hlv
  rw [lg_entry_eq]
  generalize (lg_sl av ++ List.replicate (maxL - (lg_sl av).length) Slot.unset).toArray = ls at hl ⊢
  refine body (p, l, e, (headSpec wds rm).room, s, m, av.toArray, below, meth, c, maxL, D, tys, va_A w0 s.heap.size, MQ below (gQc D w0 s.heap.size rv post w1) av.toArray s 0 0 (va_A w0 s.heap.size)) ⟨hx, hb, hml, hown, hts, hK.1, fun q h => Or.inr h, hlocks, rfl, rfl, rfl, rfl, rfl, hK.2⟩ ?_ s.heap [] ls hP hD hS hl
  intro u lv pc hu
  refine ⟨?_, ?_, ?_, ?_, ?_⟩
  · intro e1 e2 hd H locs ls hP hD hS hl
    exact W.vret hx hb (hr.trans e1) (fun t ht hW => ⟨⟨u, by rw [e2], hu, by rw [ht]; exact hP⟩, hS.F ht⟩) hS.2.2 hd
  · intro v e1 e2 hd H locs ls hP hD hS hl
    exact W.iret hx hb (hr.trans e1) (fun t ht hW => ⟨⟨u, by rw [e2], hu, by rw [ht]; exact hP⟩, hS.F ht⟩) hS.2.2 hd
  · intro v e1 e2 hv hd H locs ls hP hD hS hl
    exact W.zret hx hb (hr.trans e1) (by rcases hv with rfl | rfl <;> rfl) (fun t ht hW => ⟨⟨u, by rw [e2], hu, by rw [ht]; exact hP⟩, hS.F ht⟩) hS.2.2 hd
  · intro v e1 e2 hd H locs ls hP hD hS hl
    exact W.lret hx hb (hr.trans e1) (fun t ht hW => ⟨⟨u, by rw [e2], hu, by rw [ht]; exact hP⟩, hS.F ht⟩) hS.2.2 hd
  · intro a n e1 e2 hd H locs ls hP hD hS hl
    exact W.aret hx hb (hr.trans e1) (Or.inl ⟨n, rfl⟩) (Or.inr ⟨a, rfl⟩) (fun t ht hW => ⟨⟨u, by rw [e2], hu, by rw [ht]; exact hP⟩, hS.F ht⟩) hS.2.2 hd
/-- what a call needs of its callee, the caller's side apart -/
def gOK (y : MethodName) (wds : List Cond) (rm : Room) (maxL n : Nat) : Prop := (∃ (bytes : ByteArray) (ret : Option FieldType) (wds' : List Cond), wds = Cond.code y bytes maxL ret :: wds') ∧ rm.cells = 0 ∧ rm.slots = 0 ∧ y.cls ≠ "java/lang/invoke/MethodHandle" ∧ y.cls ≠ "java/lang/invoke/VarHandle" ∧ (parseMethodDescriptor y.desc).map (fun d => d.parameters.length) = some n
end GC
section GC2
variable {X : gT} {l0 : Launch} {D0 : va_G} {t0 : List (ClassId × FieldType)} {R0 : Room} {cc : ByteArray} {n0 : Nat} {own : String} {Ts : List Cond} {ws : va_W} {lv : List (Nat × Value)} {rest : List Value} {pc cs sl : Nat}
variable {S : Type} {y : MethodName} {wds : List Cond} {rm : Room} {w0 : va_W} {rv : S → Option Value} {post : S → Prop} {w1 : S → va_W} {maxL n index : Nat} {cn : String} {As : List Value}
theorem g_call {p : Program} {l : Launch} {e : Env} {R : Room} {s : State} {m : MethodId} {args : Array Value} {below : List Frame} {meth : Method} {c : Code} {H : Heap} {locs : List Loc} {Q : State → Prop} {D : va_G} {A : Nat → Prop} {ls : Array Slot} {a : Array Value} {st0 : List Value} {isC : List Nat}
    (hr : va_Run p l e R s m args below meth c H locs cs sl 0 0 (F0 m pc ls st0) rest (gQc D w0 H.size rv post w1 a) (va_A w0 H.size))
    (hP : va_P D vwCl ws H) (hD : va_D A ws) (hS : va_S A s.heap H locs) (hA : ∀ q, s.heap.size ≤ q → A q) (hC : isC.map (fun i => ws[i]?) = w0.map some) (hf : ∀ u, (w1 u).map Prod.fst = w0.map Prod.fst)
    (kk : ∀ (u : S) (H1 : Heap) (locs1 : List Loc), post u → va_P D vwCl (ovr ws isC (w1 u)) H1 → va_D A (ovr ws isC (w1 u)) → va_S A s.heap H1 locs1 → W p l e R s m args below meth c H1 locs1 cs sl Q (F0 m (pc + 3) ls ((rv u).toList ++ rest))) :
    W p l e R s m args below meth c H locs cs sl Q (F0 m pc ls st0) := by
  have hFc : ∀ q, va_A w0 H.size q → A q := va_free hD hS hA isC hC
  intro T hT X
  obtain ⟨v, st₀, t, T', L, h0, X', hL, e1, e2, ⟨⟨u, hv, hp, hb⟩, hz, hk⟩, st⟩ := hr T hT X
  cases hv
  rw [h0] at hz hk
  obtain ⟨hP1, hD1⟩ := ovr_ok (H1 := t.heap) hP hD isC hC (hf u) hk hb
  obtain ⟨t2, a1, b1⟩ := kk u T'.heap (locs ++ L) hp (by rw [e1]; exact hP1) hD1
    ⟨Nat.le_trans hS.1 (by rw [e1]; exact hz), fun q h1 h2 => by rw [e1, hk q (Nat.lt_of_lt_of_le h1 hS.1) (fun z => h2 (hFc q z))]; exact hS.2.1 q h1 h2, fun q hq => by
      rcases List.mem_append.mp hq with h | h
      · exact hS.2.2 q h
      · exact hFc _ (hL q h)⟩ T' rfl X'
  exact ⟨t2, st t2 a1, b1⟩
theorem g_callV (C : GX X l0 D0 t0 R0 cc n0 own Ts) {b ci : Nat} {fs : List Value} {T : u_T} {N : Nat} (M : CM l0 D0 t0 y wds rm (.ref b :: As) w0 rv post w1) (K : gOK y wds rm maxL n) (hcn : y.cls = cn) (q0 : Nat) (hci : vwCl[ci]? = some (cn, T, N)) (hq0 : w0[q0]? = some (b, .inr (ci, fs))) (hf : ∀ u, (w1 u).map Prod.fst = w0.map Prod.fst)
    (hd : decode cc pc = .ok (.invokevirtual index, 3)) (hT : GoodIn Ts (wsV own index cn y wds)) (hR : rm.frames + 1 ≤ R0.frames ∧ 8 + (maxL + 11) + rm.locals ≤ R0.locals) (hn : As.length = n) (hst : (rest.map fun v => v.category).sum ≤ 8) (hcs : cs ≤ R0.cells ∧ sl ≤ R0.slots)
    (isC : List Nat) (hnd : va_nd isC = true) (hC : isC.map (fun i => ws[i]?) = w0.map some) {st0 : List Value} (hst0 : st0 = As.reverse ++ .ref b :: rest) (k : ∀ u, post u → GW X (ovr ws isC (w1 u)) lv ((rv u).toList ++ rest) (pc + 3) cs sl) : GW X ws lv st0 pc cs sl := by
  obtain ⟨p, l, e, R, s, m, args, below, meth, c, nL, D, tys, A, Q⟩ := X
  obtain ⟨hx, hb, hml, hown, hts, hK, hA, hlk, rfl, rfl, rfl, rfl, rfl, hN⟩ := C
  obtain ⟨⟨bytes, ret, wds', hw⟩, hrc, hrs, g1, g2, g3⟩ := K
  intro H locs ls hP hD hS hl
  have hPc := hP.sub isC (gx_re hC)
  have hDc := hD.sub isC hnd hC
  refine g_call (isC := isC) (va_runV (As := As) (rest := rest) (b := b) (C := cn) ⟨hx, hb, hml, hown, hts⟩ (M H.size) (cwV n hts hT hw hrc hrs ⟨hcn, g1, g2, g3⟩ hR) ⟨gPc_blind, va_recv hK hPc hci hq0, fun U hU hW => ⟨rfl, by rw [hU], by rw [hU]; exact hPc, ⟨va_K.moved hW.alike hK, hN.warm hW⟩, hDc.weaken (fun _ _ _ _ => trivial)⟩⟩ rfl hn hl.1 hst0 (lv_room hst) hd hcs) hP hD hS hA hC hf (fun u H1 locs1 hp h1 h2 h3 => k u hp H1 locs1 ls h1 h2 h3 hl)
theorem g_callS (C : GX X l0 D0 t0 R0 cc n0 own Ts) (M : CM l0 D0 t0 y wds rm As w0 rv post w1) (K : gOK y wds rm maxL n) (hf : ∀ u, (w1 u).map Prod.fst = w0.map Prod.fst)
    (hd : decode cc pc = .ok (.invokestatic index, 3)) (hT : GoodIn Ts (va_wsS own index y wds)) (hR : rm.frames + 1 ≤ R0.frames ∧ 8 + (maxL + 11) + rm.locals ≤ R0.locals) (hn : As.length = n) (hst : (rest.map fun v => v.category).sum ≤ 8) (hcs : cs ≤ R0.cells ∧ sl ≤ R0.slots)
    (isC : List Nat) (hnd : va_nd isC = true) (hC : isC.map (fun i => ws[i]?) = w0.map some) {st0 : List Value} (hst0 : st0 = As.reverse ++ rest) (k : ∀ u, post u → GW X (ovr ws isC (w1 u)) lv ((rv u).toList ++ rest) (pc + 3) cs sl) : GW X ws lv st0 pc cs sl := by
  obtain ⟨p, l, e, R, s, m, args, below, meth, c, nL, D, tys, A, Q⟩ := X
  obtain ⟨hx, hb, hml, hown, hts, hK, hA, hlk, rfl, rfl, rfl, rfl, rfl, hN⟩ := C
  obtain ⟨⟨bytes, ret, wds', hw⟩, hrc, hrs, g1, g2, g3⟩ := K
  intro H locs ls hP hD hS hl
  have hPc := hP.sub isC (gx_re hC)
  have hDc := hD.sub isC hnd hC
  exact g_call (isC := isC) (va_runS (As := As) (rest := rest) ⟨hx, hb, hml, hown, hts⟩ (M H.size) (va_cwS n hts hT hw hrc hrs ⟨g1, g2, g3⟩ hR) ⟨gPc_blind, fun U hU hW => ⟨rfl, by rw [hU], by rw [hU]; exact hPc, ⟨va_K.moved hW.alike hK, hN.warm hW⟩, hDc.weaken (fun _ _ _ _ => trivial)⟩⟩ rfl hn hl.1 hst0 (lv_room hst) hd hcs) hP hD hS hA hC hf (fun u H1 locs1 hp h1 h2 h3 => k u hp H1 locs1 ls h1 h2 h3 hl)
theorem g_callSN (C : GX X l0 D0 t0 R0 cc n0 own Ts) {host : String} (M : CM l0 D0 t0 y wds rm As w0 rv post w1) (K : gOK y wds rm maxL n) (hf : ∀ u, (w1 u).map Prod.fst = w0.map Prod.fst) (hnw : ∀ s, gN s → va_Nw (.methodLinkNest own index y host) s) (hini : Cond.initialized y.cls ∈ Ts) (hsta : Cond.static y ∈ Ts)
    (hd : decode cc pc = .ok (.invokestatic index, 3)) (hT : GoodIn Ts wds) (hR : rm.frames + 1 ≤ R0.frames ∧ 8 + (maxL + 11) + rm.locals ≤ R0.locals) (hn : As.length = n) (hst : (rest.map fun v => v.category).sum ≤ 8) (hcs : cs ≤ R0.cells ∧ sl ≤ R0.slots)
    (isC : List Nat) (hnd : va_nd isC = true) (hC : isC.map (fun i => ws[i]?) = w0.map some) {st0 : List Value} (hst0 : st0 = As.reverse ++ rest) (k : ∀ u, post u → GW X (ovr ws isC (w1 u)) lv ((rv u).toList ++ rest) (pc + 3) cs sl) : GW X ws lv st0 pc cs sl := by
  obtain ⟨p, l, e, R, s, m, args, below, meth, c, nL, D, tys, A, Q⟩ := X
  obtain ⟨hx, hb, hml, hown, hts, hK, hA, hlk, rfl, rfl, rfl, rfl, rfl, hN⟩ := C
  obtain ⟨⟨bytes, ret, wds', hw⟩, hrc, hrs, g1, g2, g3⟩ := K
  intro H locs ls hP hD hS hl
  have hPc := hP.sub isC (gx_re hC)
  have hDc := hD.sub isC hnd hC
  exact g_call (isC := isC) (va_runSN (As := As) (rest := rest) ⟨hx, hb, hml, hown, hts⟩ (M H.size) ⟨va_cnB n hts hT hw hrc hrs (hnw s hN) (hts _ hini) ⟨g1, g2, g3⟩ hR, hts _ hsta, trivial⟩ ⟨gPc_blind, fun U hU hW => ⟨rfl, by rw [hU], by rw [hU]; exact hPc, ⟨va_K.moved hW.alike hK, hN.warm hW⟩, hDc.weaken (fun _ _ _ _ => trivial)⟩⟩ rfl hn hl.1 hst0 (lv_room hst) hd hcs) hP hD hS hA hC hf (fun u H1 locs1 hp h1 h2 h3 => k u hp H1 locs1 ls h1 h2 h3 hl)
end GC2
