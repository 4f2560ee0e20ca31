/-! things made: rows for new, newarray, final fields, Object's constructor; contracts of constructors -/
def GI : gT → Prop
  | (_, _, _, _, _, _, _, _, meth, _, _, _, _, _, _) => meth.name = "<init>"
/-- arrays of circuits can be made -/
def GA : gT → Prop
  | (_, _, _, _, s, _, _, _, _, _, _, _, _, _, _) => va_AO "SelfChecks$Circuit" s
section GMK
variable {X : gT} {l0 : Launch} {D0 : va_G} {t0 : List (ClassId × FieldType)} {R0 : Room} {cc : ByteArray} {n0 : Nat} {own : String} {Ts : List Cond} {ws : va_W} {lv : List (Nat × Value)} {rest : List Value} {pc cs sl : Nat}
theorem g_objInit (C : GX X l0 D0 t0 R0 cc n0 own Ts) {a idx : Nat} (hd : decode cc pc = .ok (.invokespecial idx, 3)) (h1 : Cond.methodLink own idx objectInit ∈ Ts) (h2 : Cond.instanceMethod objectInit ∈ Ts) (h3 : Cond.code objectInit ⟨#[0xb1]⟩ 1 none ∈ Ts) (hf : 1 ≤ R0.frames) (hlo : (rest.map fun v => v.category).sum + 12 ≤ R0.locals) (k : GW X ws lv rest (pc + 3) cs sl) : GW X ws lv (.ref a :: rest) pc cs sl := by
  obtain ⟨p, l, e, R, s, m, args, below, meth, c, nL, D, tys, A, Q⟩ := X
  obtain ⟨hx, hb, hml, hown, hts, hK, hA, hlk, rfl, rfl, rfl, rfl, rfl, hN⟩ := C
  intro H locs ls hP hD hS hl
  refine W.objInit hx hb hown (hts _ h1) (hts _ h2) (hts _ h3) rfl (by rw [hml]; exact hl.1) rfl hd hf (show 2 * 0 + (rest.map fun v => v.category).sum + 12 ≤ R.locals from by omega) ?_
  exact k H locs ls hP hD hS hl
theorem g_newaI (C : GX X l0 D0 t0 R0 cc n0 own Ts) {N' : Nat} {cA : ClassId} (t : Nat) (hd : decode cc pc = .ok (.newarray .int, 2)) (harr : Cond.arrayClass .int ∈ Ts) (ht : t0[t]? = some (cA, .int)) (hN : N' < 1000) (hc : cs + 1 ≤ R0.cells) (hs : sl + N' ≤ R0.slots) (k : ∀ q, GW X (ws ++ [(q, .inl (cA, N', .inl (fun _ => nI 0)))]) lv (.ref q :: rest) (pc + 2) (cs + 1) (sl + N')) : GW X ws lv (.int (nI N') :: rest) pc cs sl := by
  obtain ⟨p, l, e, R, s, m, args, below, meth, c, nL, D, tys, A, Q⟩ := X
  obtain ⟨hx, hb, hml, hown, hts, hK, hA, hlk, rfl, rfl, rfl, rfl, rfl, hN9⟩ := C
  intro H locs ls hP hD hS hl
  refine va_newa (atype := .int) (ty := .int) (N' := N') (a0 := (N', .inl (fun _ => nI 0))) hx hb (hts _ harr) rfl hK hP hD hS hA (fun _ => rfl) (nI_pos (by omega)) (nI_clamp (by omega)) (show N' * 4 ≤ 536870912 from by omega) hc hs hd ?_
  intro q cB H1 hK1 hP1 hD1 hS1
  have e1 := (hK.2 t _ ht).2
  have e2 := (hK1.2 tys.length (cB, .int) (by rw [List.getElem?_append_right (Nat.le_refl _), Nat.sub_self]; rfl)).2
  have e3 : cA = cB := Option.some.inj (e1.symm.trans e2)
  subst e3
  exact k q H1 locs ls hP1 hD1 hS1 hl
theorem g_newaC (C : GX X l0 D0 t0 R0 cc n0 own Ts) {N' : Nat} {cA : ClassId} (t : Nat) (hd : decode cc pc = .ok (.newarray .char, 2)) (harr : Cond.arrayClass .char ∈ Ts) (ht : t0[t]? = some (cA, .char)) (hN : N' < 1000) (hc : cs + 1 ≤ R0.cells) (hs : sl + N' ≤ R0.slots) (k : ∀ q, GW X (ws ++ [(q, .inl (cA, N', .inl (fun _ => nI 0)))]) lv (.ref q :: rest) (pc + 2) (cs + 1) (sl + N')) : GW X ws lv (.int (nI N') :: rest) pc cs sl := by
  obtain ⟨p, l, e, R, s, m, args, below, meth, c, nL, D, tys, A, Q⟩ := X
  obtain ⟨hx, hb, hml, hown, hts, hK, hA, hlk, rfl, rfl, rfl, rfl, rfl, hN9⟩ := C
  intro H locs ls hP hD hS hl
  refine va_newa (atype := .char) (ty := .char) (N' := N') (a0 := (N', .inl (fun _ => nI 0))) hx hb (hts _ harr) rfl hK hP hD hS hA (fun _ => rfl) (nI_pos (by omega)) (nI_clamp (by omega)) (show N' * 2 ≤ 536870912 from by omega) hc hs hd ?_
  intro q cB H1 hK1 hP1 hD1 hS1
  have e1 := (hK.2 t _ ht).2
  have e2 := (hK1.2 tys.length (cB, .char) (by rw [List.getElem?_append_right (Nat.le_refl _), Nat.sub_self]; rfl)).2
  have e3 : cA = cB := Option.some.inj (e1.symm.trans e2)
  subst e3
  exact k q H1 locs ls hP1 hD1 hS1 hl
theorem g_newaJ (C : GX X l0 D0 t0 R0 cc n0 own Ts) {N' : Nat} {cA : ClassId} (t : Nat) (hd : decode cc pc = .ok (.newarray .long, 2)) (harr : Cond.arrayClass .long ∈ Ts) (ht : t0[t]? = some (cA, .long)) (hN : N' < 1000) (hc : cs + 1 ≤ R0.cells) (hs : sl + N' ≤ R0.slots) (k : ∀ q, GW X (ws ++ [(q, .inl (cA, N', .inr (.inl (fun _ => 0))))]) lv (.ref q :: rest) (pc + 2) (cs + 1) (sl + N')) : GW X ws lv (.int (nI N') :: rest) pc cs sl := by
  obtain ⟨p, l, e, R, s, m, args, below, meth, c, nL, D, tys, A, Q⟩ := X
  obtain ⟨hx, hb, hml, hown, hts, hK, hA, hlk, rfl, rfl, rfl, rfl, rfl, hN9⟩ := C
  intro H locs ls hP hD hS hl
  refine va_newa (atype := .long) (ty := .long) (N' := N') (a0 := (N', .inr (.inl (fun _ => 0)))) hx hb (hts _ harr) rfl hK hP hD hS hA (fun _ => rfl) (nI_pos (by omega)) (nI_clamp (by omega)) (show N' * 8 ≤ 536870912 from by omega) hc hs hd ?_
  intro q cB H1 hK1 hP1 hD1 hS1
  have e1 := (hK.2 t _ ht).2
  have e2 := (hK1.2 tys.length (cB, .long) (by rw [List.getElem?_append_right (Nat.le_refl _), Nat.sub_self]; rfl)).2
  have e3 : cA = cB := Option.some.inj (e1.symm.trans e2)
  subst e3
  exact k q H1 locs ls hP1 hD1 hS1 hl
theorem g_new (C : GX X l0 D0 t0 R0 cc n0 own Ts) {cn : String} {T : u_T} {N ci index : Nat} {ty0 : Nat → FieldType} (fs : List Value) (hd : decode cc pc = .ok (.new index, 3)) (hc : vwCl[ci]? = some (cn, T, N)) (hin : ∀ w ∈ u_ws cn T N, w ∈ Ts) (hty : ∀ k, k < N → parseFieldDescriptor (T k).2.2.1 = some (ty0 k)) (hcl : Cond.classLink own index cn ∈ Ts) (hinst : Cond.instantiable cn N ∈ Ts) (hini : Cond.initialized cn ∈ Ts) (hfs : ∀ j, j < N → defaultValue (ty0 j) = vp_V fs j) (hcs : cs + 1 ≤ R0.cells) (hsl : sl + N ≤ R0.slots) (k : ∀ q, GW X (ws ++ [(q, .inr (ci, fs))]) lv (.ref q :: rest) (pc + 3) (cs + 1) (sl + N)) : GW X ws lv rest pc cs sl := by
  obtain ⟨p, l, e, R, s, m, args, below, meth, c, nL, D, tys, A, Q⟩ := X
  obtain ⟨hx, hb, hml, hown, hts, hK, hA, hlk, rfl, rfl, rfl, rfl, rfl, hN9⟩ := C
  intro H locs ls hP hD hS hl
  exact va_new hx hb hts hin ty0 hty hown (hts _ hcl) (hts _ hinst) (hts _ hini) hK hP hD hS hA hc hfs hcs hsl hd (fun q H1 p1 d1 s1 => k q H1 locs ls p1 d1 s1 hl)
theorem g_putF (C : GX X l0 D0 t0 R0 cc n0 own Ts) (CI : GI X) {cn : String} {T : u_T} {N ci index a : Nat} {ty0 : Nat → FieldType} (q0 f : Nat) (ws' : va_W) (hd : decode cc pc = .ok (.putfield index, 3)) {fs : List Value} (he : ws[q0]? = some (a, .inr (ci, fs))) (hc : vwCl[ci]? = some (cn, T, N)) (hin : ∀ w ∈ u_ws cn T N, w ∈ Ts) (hty : ∀ k, k < N → parseFieldDescriptor (T k).2.2.1 = some (ty0 k)) (hnm : ∀ a, a < N → ∀ b, b < N → a ≠ b → (T a).2.1 ≠ (T b).2.1) (hk : f < N) (hlink : Cond.fieldLink own index (T f).1 (T f).2.1 (T f).2.2.1 ∈ Ts) (hfin : (T f).2.2.2 = true) (hdecl : (T f).1 = own) {v : Value} (hn : narrow (ty0 f) v = v) (hfit : fits (ty0 f) v = true) (hl2 : f < fs.length) (hw : ws.set q0 (a, .inr (ci, fs.set f v)) = ws') (k : GW X ws' lv rest (pc + 3) cs sl) : GW X ws lv (v :: .ref a :: rest) pc cs sl := by
  obtain ⟨p, l, e, R, s, m, args, below, meth, c, nL, D, tys, A, Q⟩ := X
  obtain ⟨hx, hb, hml, hown, hts, hK, hA, hlk, rfl, rfl, rfl, rfl, rfl, hN⟩ := C
  intro H locs ls hP hD hS hl
  exact va_putF hx hb hts hin ty0 hty hnm hown hK hP hD hS q0 he hc f hk (hts _ hlink) (fun _ h9 => h9) hfin CI hdecl (hty f hk) hn hfit hl2 hd (fun H1 locs1 p1 d1 s1 => k H1 locs1 ls (hw ▸ p1) (hw ▸ d1) s1 hl)
theorem g_newq (C : GX X l0 D0 t0 R0 cc n0 own Ts) (CA : GA X) {N' index : Nat} {cA : ClassId} (t : Nat) (hd : decode cc pc = .ok (.anewarray index, 3)) (hcl : Cond.classLink own index "SelfChecks$Circuit" ∈ Ts) (ht : t0[t]? = some (cA, .object "SelfChecks$Circuit")) (hN : N' < 1000) (hc : cs + 1 ≤ R0.cells) (hs : sl + N' ≤ R0.slots) (k : ∀ q, GW X (ws ++ [(q, .inl (cA, N', .inr (.inr (.inr (.inr (fun _ => none))))))]) lv (.ref q :: rest) (pc + 3) (cs + 1) (sl + N')) : GW X ws lv (.int (nI N') :: rest) pc cs sl := by
  obtain ⟨p, l, e, R, s, m, args, below, meth, c, nL, D, tys, A, Q⟩ := X
  obtain ⟨hx, hb, hml, hown, hts, hK, hA, hlk, rfl, rfl, rfl, rfl, rfl, hN9⟩ := C
  intro H locs ls hP hD hS hl
  refine va_newq hx hb hown (hts _ hcl) CA hK hP hD hS hA (nI_pos (by omega)) (nI_clamp (by omega)) (by omega) hc hs hd ?_
  intro q cB H1 hK1 hP1 hD1 hS1
  obtain ⟨_, _, _, _, _, e1⟩ := (hK.2 t _ ht).2
  obtain ⟨_, _, _, _, _, e2⟩ := (hK1.2 tys.length (cB, .object "SelfChecks$Circuit") (by rw [List.getElem?_append_right (Nat.le_refl _), Nat.sub_self]; rfl)).2
  have e3 : cA = cB := Option.some.inj (e1.symm.trans e2)
  subst e3
  exact k q H1 locs ls hP1 hD1 hS1 hl
end GMK
/-- a constructor's end: the world w1 u, its cells its own or new -/
def gQi {S : Type} (D : va_G) (w0 : va_W) (sz : Nat) (post : S → Prop) (w1 : S → va_W) : Array Value → State → Outcome → State → Prop := fun _ st oc t => (∃ u : S, oc = .returned none ∧ post u ∧ va_P D vwCl (w1 u) t.heap ∧ va_D (va_A w0 sz) (w1 u)) ∧ va_F (va_A w0 sz) st t
def gPo (D : va_G) (tys : List (ClassId × FieldType)) (w0 : va_W) (sz : Nat) (U : State) : Prop := gPc D tys w0 sz U ∧ va_AO "SelfChecks$Circuit" U
def CI {S : Type} (l : Launch) (D : va_G) (tys : List (ClassId × FieldType)) (y : MethodName) (wds : List Cond) (rm : Room) (av : List Value) (w0 : va_W) (post : S → Prop) (w1 : S → va_W) (mc ms : Nat) : Prop :=
  ∀ sz : Nat, Met l y wds rm (va_Pc av (gPo D tys w0 sz)) (gQi D w0 sz post w1) mc ms (va_A w0 sz)
theorem gPo_blind {D : va_G} {tys : List (ClassId × FieldType)} {w0 : va_W} {sz : Nat} {av : List Value} : FrameBlind (va_Pc av (gPo D tys w0 sz)) := fun a U g mk q => by
  obtain ⟨q0, ⟨q1, qP, qK, qD⟩, qA⟩ := q
  exact ⟨q0, ⟨q1, qP, ⟨va_K.moved (u := U) (U := U.calling g mk a) (Vm.Alike.refl U.vm) qK.1, qK.2.same rfl⟩, qD⟩, qA.moved (Vm.Alike.refl U.vm)⟩
section GC3
variable {S : Type} {l : Launch} {D : va_G} {tys : List (ClassId × FieldType)} {y : MethodName} {wds wds' : List Cond} {rm : Room} {av : List Value} {w0 : va_W} {post : S → Prop} {w1 : S → va_W} {cc : ByteArray} {maxL mc ms : Nat}
theorem CI_in (hy : plainName y.cls = true) (hyn : y.name = "<init>") (hw : wds = Cond.code y cc maxL none :: wds') (hlv : (lg_sl av).length ≤ maxL)
    (body : ∀ X : gT, GX X l D tys rm cc maxL y.cls wds → GI X → GA X → (∀ (u : S) (lv : List (Nat × Value)) (pc : Nat), post u → decode cc pc = .ok (.return_, 1) → GW X (w1 u) lv [] pc mc ms) →
      GW X w0 (lv_args 0 av) [] 0 0 0) : CI l D tys y wds rm av w0 post w1 mc ms := by
  intro sz
  refine Met.ofW (cc := cc) (maxL := maxL) (ret := none) hy hw ?_
  intro p e s m args below meth c s₁ B hml hv
  obtain ⟨rfl, ⟨hsz, hP, hK, hD0⟩, hAO⟩ := hv
  have hx := B.exec
  have hb := B.bytes
  have hr := B.returns
  have hts := atoms_spec (ws := wds) B.pre
  have hown : s.vm.findClass y.cls = some m.cls := findClass_of_methodNamed B.named
  have hlocks := B.notSynchronized
  have hin : meth.name = "<init>" := (name_of_methodNamed B.named B.method).1.trans hyn
  subst hsz
  have hD := hD0.self (sz := s.heap.size)
  have hS : va_S (va_A w0 s.heap.size) s.heap s.heap [] := va_S.rf
  have hl := lv_entry av (n := maxL) hlv
  rw [lg_entry_eq]
  generalize (lg_sl av ++ List.replicate (maxL - (lg_sl av).length) Slot.unset).toArray = ls at hl ⊢
  refine body (p, l, e, (headSpec wds rm).room, s, m, av.toArray, below, meth, c, maxL, D, tys, va_A w0 s.heap.size, MQ below (gQi D w0 s.heap.size post w1) av.toArray s mc ms (va_A w0 s.heap.size)) ⟨hx, hb, hml, hown, hts, hK.1, fun q h => Or.inr h, hlocks, rfl, rfl, rfl, rfl, rfl, hK.2⟩ hin hAO ?_ s.heap [] ls hP hD hS hl
  intro u lv pc hu hd H locs ls hP hD hS hl
  exact W.vret hx hb hr (fun t ht hW => ⟨⟨u, rfl, hu, by rw [ht]; exact hP, hD⟩, hS.F ht⟩) hS.2.2 hd
end GC3
section GC4
variable {X : gT} {l0 : Launch} {D0 : va_G} {t0 : List (ClassId × FieldType)} {R0 : Room} {cc : ByteArray} {n0 : Nat} {own : String} {Ts : List Cond} {ws : va_W} {lv : List (Nat × Value)} {rest : List Value} {pc cs sl : Nat}
variable {S : Type} {y : MethodName} {wds wds' : List Cond} {rm : Room} {post : S → Prop} {w1 : S → va_W} {maxL index mc ms : Nat} {bytes : ByteArray} {x : Nat × va_E} {b : Nat}
theorem g_callI (C : GX X l0 D0 t0 R0 cc n0 own Ts) (CA : GA X) (M : CI l0 D0 t0 y wds rm [.ref b] [x] post w1 mc ms) (hw : wds = Cond.code y bytes maxL none :: wds') (hrc : rm.cells = mc) (hrs : rm.slots = ms) (hg : y.cls ≠ "java/lang/invoke/MethodHandle" ∧ y.cls ≠ "java/lang/invoke/VarHandle" ∧ (parseMethodDescriptor y.desc).map (fun d => d.parameters.length) = some 0) (hyn : y.name = "<init>")
    (hd : decode cc pc = .ok (.invokespecial index, 3)) (hT : GoodIn Ts wds) (hini : Cond.initialized y.cls ∈ Ts) (hlk : Cond.methodLink own index y ∈ Ts) (hin : Cond.instanceMethod y ∈ Ts) (hR : rm.frames + 1 ≤ R0.frames ∧ 8 + (maxL + 11) + rm.locals ≤ R0.locals) (hst : (rest.map fun v => v.category).sum ≤ 8) (hcs : cs + mc ≤ R0.cells ∧ sl + ms ≤ R0.slots)
    (isC isR : List Nat) {wr : va_W} (hC : isC.map (fun i => ws[i]?) = [x].map some) (hRr : isR.map (fun i => ws[i]?) = wr.map some) (hnd : va_nd isR = true) (hnc : va_nd isC = true) (hdis : ∀ i ∈ isR, i ∉ isC)
    (k : ∀ u, post u → GW X (wr ++ w1 u) lv rest (pc + 3) (cs + mc) (sl + ms)) : GW X ws lv (.ref b :: rest) pc cs sl := by
  obtain ⟨p, l, e, R, s, m, args, below, meth, c, nL, D, tys, A, Q⟩ := X
  obtain ⟨hx, hb, hml, hown, hts, hK, hA, hlk9, rfl, rfl, rfl, rfl, rfl, hN⟩ := C
  intro H locs ls hP hD hS hl
  have hPc := hP.sub isC (gx_re hC)
  have hDc := hD.sub isC hnc hC
  have hF := va_free hD hS hA isC hC
  have run := va_runI (As := []) (rest := rest) (b := b) (g := F0 m pc ls (.ref b :: rest)) ⟨hx, hb, hml, hown, hts⟩ (M H.size) (cwI 0 hts hT hw hrc hrs (hts _ hini) (hts _ hlk) (hts _ hin) hyn hg hR) ⟨gPo_blind, fun U hU hW => ⟨rfl, ⟨by rw [hU], by rw [hU]; exact hPc, ⟨va_K.moved hW.alike hK, hN.warm hW⟩, hDc.weaken (fun _ _ _ _ => trivial)⟩, va_AO.moved hW.alike CA⟩⟩ rfl rfl hl.1 rfl (lv_room hst) hd hcs (locs := locs) (below := below) (e := e) (l := l) (meth := meth)
  refine va_callv (a := #[.ref b]) (A1 := va_A [x] H.size) (post := post) (B := fun u t => va_P D vwCl (w1 u) t.heap ∧ va_D (va_A [x] H.size) (w1 u)) run hS (fun q _ h => hF q h) hF ?_
  intro u t H1 locs1 ht hal hu hB hz hk hS1
  subst ht
  obtain ⟨h1, h2⟩ := va_join hP hD isC isR hC hRr hnd hdis hk hF hB.1 hB.2
  exact k u hu t.heap locs1 ls h1 h2 hS1 hl
theorem g_callIN (C : GX X l0 D0 t0 R0 cc n0 own Ts) (CA : GA X) (M : CI l0 D0 t0 y wds rm [.ref b] [x] post w1 mc ms) (hw : wds = Cond.code y bytes maxL none :: wds') (hrc : rm.cells = mc) (hrs : rm.slots = ms) (hg : y.cls ≠ "java/lang/invoke/MethodHandle" ∧ y.cls ≠ "java/lang/invoke/VarHandle" ∧ (parseMethodDescriptor y.desc).map (fun d => d.parameters.length) = some 0) (hyn : y.name = "<init>")
    (hd : decode cc pc = .ok (.invokespecial index, 3)) (hT : GoodIn Ts wds) (hini : Cond.initialized y.cls ∈ Ts) {host : String} (hnw : ∀ s, gN s → va_Nw (.methodLinkNest own index y host) s) (hin : Cond.instanceMethod y ∈ Ts) (hR : rm.frames + 1 ≤ R0.frames ∧ 8 + (maxL + 11) + rm.locals ≤ R0.locals) (hst : (rest.map fun v => v.category).sum ≤ 8) (hcs : cs + mc ≤ R0.cells ∧ sl + ms ≤ R0.slots)
    (isC isR : List Nat) {wr : va_W} (hC : isC.map (fun i => ws[i]?) = [x].map some) (hRr : isR.map (fun i => ws[i]?) = wr.map some) (hnd : va_nd isR = true) (hnc : va_nd isC = true) (hdis : ∀ i ∈ isR, i ∉ isC)
    (k : ∀ u, post u → GW X (wr ++ w1 u) lv rest (pc + 3) (cs + mc) (sl + ms)) : GW X ws lv (.ref b :: rest) pc cs sl := by
  obtain ⟨p, l, e, R, s, m, args, below, meth, c, nL, D, tys, A, Q⟩ := X
  obtain ⟨hx, hb, hml, hown, hts, hK, hA, hlk9, rfl, rfl, rfl, rfl, rfl, hN⟩ := C
  intro H locs ls hP hD hS hl
  have hPc := hP.sub isC (gx_re hC)
  have hDc := hD.sub isC hnc hC
  have hF := va_free hD hS hA isC hC
  have run := va_runIN (As := []) (rest := rest) (b := b) (g := F0 m pc ls (.ref b :: rest)) ⟨hx, hb, hml, hown, hts⟩ (M H.size) ⟨va_cnB 0 hts hT hw hrc hrs (hnw s hN) (hts _ hini) hg hR, hyn, hts _ hin⟩ ⟨gPo_blind, fun U hU hW => ⟨rfl, ⟨by rw [hU], by rw [hU]; exact hPc, ⟨va_K.moved hW.alike hK, hN.warm hW⟩, hDc.weaken (fun _ _ _ _ => trivial)⟩, va_AO.moved hW.alike CA⟩⟩ rfl rfl hl.1 rfl (lv_room hst) hd hcs (locs := locs) (below := below) (e := e) (l := l) (meth := meth)
  refine va_callv (a := #[.ref b]) (A1 := va_A [x] H.size) (post := post) (B := fun u t => va_P D vwCl (w1 u) t.heap ∧ va_D (va_A [x] H.size) (w1 u)) run hS (fun q _ h => hF q h) hF ?_
  intro u t H1 locs1 ht hal hu hB hz hk hS1
  subst ht
  obtain ⟨h1, h2⟩ := va_join hP hD isC isR hC hRr hnd hdis hk hF hB.1 hB.2
  exact k u hu t.heap locs1 ls h1 h2 hS1 hl
end GC4
