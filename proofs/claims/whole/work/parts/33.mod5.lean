/-! the reference's answers about stucks -/
theorem sk_f {c : Nat → Nat} {x : Int64} {t : Nat} {r : Int32} (hok : okC c) (ht : t < 2 * (c 0 + c 1)) (h : tb x t = 1) (hno : ∀ j, j < t → ¬ tb x j = 1) (e : r = nI t) : lwB (x &&& alS c) r := by
  have b0 := hok.2.1
  have b1 := hok.2.2.1
  refine Or.inl ⟨t, by omega, (tb_and _ _ _).mpr ⟨h, (tb_al hok (by omega)).mpr ht⟩, fun j hj => ?_, e⟩
  have h1 := tb_lt (x &&& alS c) j
  have h2 : ¬ tb (x &&& alS c) j = 1 := fun z => hno j hj ((tb_and _ _ _).mp z).1
  omega
theorem sk_n {c : Nat → Nat} {x : Int64} {r : Int32} (hok : okC c) (hno : ∀ j, j < 2 * (c 0 + c 1) → ¬ tb x j = 1) (e : r = -4) : lwB (x &&& alS c) r := by
  refine Or.inr ⟨fun j hj => ?_, e⟩
  have h1 := tb_lt (x &&& alS c) j
  have h2 : ¬ tb (x &&& alS c) j = 1 := fun z => by
    have q := (tb_and _ _ _).mp z
    exact hno j ((tb_al hok hj).mp q.2) q.1
  omega
theorem and_cm (x y : Int64) : x &&& y = y &&& x := tb_ext fun t _ => by rw [tb_and, tb_and]; exact And.comm
def skX (c : Nat → Nat) (k : Nat) : Int64 := if k % 3 = 0 then orC c (exC c) (2 ^ c 0) ^^^ (-1) else if k % 3 = 1 then ltL c (2 ^ c 0) else orC c (paC c) (2 ^ c 0)
theorem sk_0 {c : Nat → Nat} (hok : okC c) : skX c 0 &&& alS c = alS c &&& (orC c (exC c) (2 ^ c 0) ^^^ (-1)) ∧ skX c 3 = skX c 0 := ⟨and_cm _ _, rfl⟩
theorem sk_1 {c : Nat → Nat} (hok : okC c) : skX c 1 &&& alS c = alS c &&& (orC c (chC c) (2 ^ c 0) ^^^ (-1)) ∧ skX c 4 = skX c 1 := ⟨lt_al hok _, rfl⟩
theorem sk_2 {c : Nat → Nat} (hok : okC c) : skX c 2 &&& alS c = orC c (paC c) (2 ^ c 0) ∧ skX c 5 = skX c 2 := ⟨or_al (pa_al hok) _, rfl⟩
theorem sk_lo {c : Nat → Nat} (hok : okC c) {k : Nat} (hk : k < 3) {r : Int32} (e : r = nI (pcL (skX c k &&& alS c))) : skR c (nI k) r := by
  rcases (show k = 0 ∨ k = 1 ∨ k = 2 by omega) with rfl | rfl | rfl
  · exact Or.inl ⟨rfl, by rw [e, (sk_0 hok).1]⟩
  · exact Or.inr (Or.inl ⟨rfl, by rw [e, (sk_1 hok).1]⟩)
  · exact Or.inr (Or.inr (Or.inl ⟨rfl, by rw [e, (sk_2 hok).1]⟩))
theorem sk_hi {c : Nat → Nat} (hok : okC c) {k : Nat} (hk : 3 ≤ k) (h5 : k ≤ 5) {r : Int32} (e : lwB (skX c k &&& alS c) r) : skR c (nI k) r := by
  rcases (show k = 3 ∨ k = 4 ∨ k = 5 by omega) with rfl | rfl | rfl
  · rw [(sk_0 hok).2, (sk_0 hok).1] at e; exact Or.inr (Or.inr (Or.inr (Or.inl ⟨rfl, e⟩)))
  · rw [(sk_1 hok).2, (sk_1 hok).1] at e; exact Or.inr (Or.inr (Or.inr (Or.inr (Or.inl ⟨rfl, e⟩))))
  · rw [(sk_2 hok).2, (sk_2 hok).1] at e; exact Or.inr (Or.inr (Or.inr (Or.inr (Or.inr (Or.inl ⟨rfl, e⟩)))))
theorem is_0 {c : Nat → Nat} {kw : Nat} {r : Int32} (h : kw = 0) (e : r = nI (dCC c (2 ^ c 0))) : isR c (nI kw) r := by subst h; exact Or.inl ⟨rfl, e⟩
theorem is_1 {c : Nat → Nat} {kw : Nat} {r : Int32} (h : kw = 1) (e : r = nI (if alS c &&& (orC c (exC c) (2 ^ c 0) ^^^ (-1)) = 0 then 1 else 0)) : isR c (nI kw) r := by subst h; exact Or.inr (Or.inl ⟨rfl, e⟩)
theorem is_2 {c : Nat → Nat} {kw : Nat} {r : Int32} (h : kw = 2) (e : r = nI (if orC c (paC c) (2 ^ c 0) = 0 then 1 else 0)) : isR c (nI kw) r := by subst h; exact Or.inr (Or.inr (Or.inl ⟨rfl, e⟩))
theorem pc_pa {c : Nat → Nat} (hok : okC c) : pcL (orC c (paC c) (2 ^ c 0) &&& alS c) = 0 ↔ orC c (paC c) (2 ^ c 0) = 0 := by
  rw [or_al (pa_al hok)]
  exact ⟨pcL_z, fun h => by rw [h]; exact pcL_0⟩
theorem cn_out {w : Int32} (h : ¬ (nI 0 ≤ w ∧ w ≤ nI 5)) : w = nI 6 ∨ w = nI 7 ∨ w = nI 8 ∨ (w.toInt < 6 ∨ 8 < w.toInt) ∧ ¬ vp_in w 9 := by
  by_cases h0 : w < 0
  · refine Or.inr (Or.inr (Or.inr ⟨Or.inl ?_, gv_lo h0⟩))
    have := Int32.lt_iff_toInt_lt.mp h0
    have e : (0 : Int32).toInt = 0 := rfl
    omega
  · obtain ⟨j, hj, rfl⟩ := nI_of h0
    have h6 : 6 ≤ j := Nat.le_of_not_lt fun z => h ⟨(nI_leI (by omega) hj).mpr (Nat.zero_le _), (nI_leI hj (by omega)).mpr (by omega)⟩
    rcases (show j = 6 ∨ j = 7 ∨ j = 8 ∨ 9 ≤ j by omega) with rfl | rfl | rfl | q
    · exact Or.inl rfl
    · exact Or.inr (Or.inl rfl)
    · exact Or.inr (Or.inr (Or.inl rfl))
    · refine Or.inr (Or.inr (Or.inr ⟨Or.inr (by rw [nI_toInt hj]; omega), fun z => ?_⟩))
      have := (vp_in_iff.mp z).2
      rw [nI_toInt hj] at this
      omega
theorem nv_y {c : Nat → Nat} (hok : okC c) {w s t : Nat} (hs : s < 64) (hst : ¬ s / 2 = t / 2) (h : ouC c w (some s) (some t) = 1 ∨ ouC c w (some s) (some t) = 2) : nvC c s t w = false := by unfold nvC; rw [ob_ou hok w hs hst, vaB_y h]; rfl
theorem nv_n {c : Nat → Nat} (hok : okC c) {w s t : Nat} (hs : s < 64) (hst : ¬ s / 2 = t / 2) (h : ¬ (ouC c w (some s) (some t) = 1 ∨ ouC c w (some s) (some t) = 2)) : nvC c s t w = true := by unfold nvC; rw [ob_ou hok w hs hst, vaB_n h]; rfl
theorem pb_n {c : Nat → Nat} (hok : okC c) {w s t : Nat} (hs : s < 64) (hst : ¬ s / 2 = t / 2) (h : ¬ (ouC c w (some s) (some t) = 1 ∨ ouC c w (some s) (some t) = 2)) : pbC c s t w = false := by unfold pbC; rw [ob_ou hok w hs hst, vaB_n h]; rfl
theorem pb_e {c : Nat → Nat} (hok : okC c) {w s t : Nat} (hs : s < 64) (hst : ¬ s / 2 = t / 2) (h : ouC c w (some s) (some t) = ouC c w none none) : pbC c s t w = false := by unfold pbC; rw [ob_ou hok w hs hst, oC_ou hok, h]; simp
theorem pb_y {c : Nat → Nat} (hok : okC c) {w s t : Nat} (hs : s < 64) (hst : ¬ s / 2 = t / 2) (h : ouC c w (some s) (some t) = 1 ∨ ouC c w (some s) (some t) = 2) (h2 : ¬ ouC c w (some s) (some t) = ouC c w none none) : pbC c s t w = true := by unfold pbC; rw [ob_ou hok w hs hst, oC_ou hok, vaB_y h]; simp [h2]

theorem in_X7_stuck_7 : ∀ w ∈ wsX70, w ∈ wsX7_stuck := fun _ h => List.mem_cons_of_mem _ (List.mem_append_right _ h)
theorem ok_X7_stuck : gOK yX7_stuck wsX7_stuck ({ frames := 3, cells := 0, slots := 0, locals := 77 }) 6 2 := ⟨⟨_, _, _, rfl⟩, rfl, rfl, by decide, by decide, by decide +kernel⟩
set_option maxRecDepth 100000 in
set_option maxHeartbeats 4000000 in
theorem c_X7_stuck (l : Launch) (D : va_G) (cC cI cJ cO : ClassId) (o : Nat) (ot : Nat) (on : Nat) (od : Nat) (ow : Nat) (oi : Nat) (oe : Nat) (op : Nat) (len : Nat) (ch : Nat) (va : Nat) (en : Nat) (aE : Int64) (aP : Int64) (lt : Int64) (T : Nat → Nat) (c : Nat → Nat) (rd : Nat → Nat) (ww : Nat → Nat) (wi : Nat → Nat) (EX : Nat → Int64) (PA : Nat → Int64) (sx : Int32) (wh : Int32) (hok : okC c) : CM (S := Int32 × (Nat → Nat) × (Nat → Int64) × (Nat → Int64) × Int64 × Int64 × Int64) l D (tyL cC cI cJ cO) yX7_stuck wsX7_stuck ({ frames := 3, cells := 0, slots := 0, locals := 77 }) [.ref o, .int sx, .int wh] [(o, .inr (7, [.int (nI len), .ref ot, .ref on, .ref od, .ref ow, .int (nI ch), .int (nI va), .int (nI en), .ref oi, .ref oe, .ref op, .long aE, .long aP, .long lt])), (ot, .inl (cI, 200, .inl (fun j_ => nI (T j_)))), (on, .inl (cI, 78, .inl (fun j_ => nI (c j_)))), (od, .inl (cI, 78, .inl (fun j_ => nI (rd j_)))), (ow, .inl (cI, 468, .inl (fun j_ => nI (ww j_)))), (oi, .inl (cI, 32, .inl (fun j_ => nI (wi j_)))), (oe, .inl (cJ, 256, .inr (.inl EX))), (op, .inl (cJ, 256, .inr (.inl PA)))] (fun u => some (.int u.1)) (fun u => stR c sx wh u.1) (fun u_ => [(o, .inr (7, [.int (nI len), .ref ot, .ref on, .ref od, .ref ow, .int (nI ch), .int (nI va), .int (nI en), .ref oi, .ref oe, .ref op, .long u_.2.2.2.2.1, .long u_.2.2.2.2.2.1, .long u_.2.2.2.2.2.2])), (ot, .inl (cI, 200, .inl (fun j_ => nI (T j_)))), (on, .inl (cI, 78, .inl (fun j_ => nI (c j_)))), (od, .inl (cI, 78, .inl (fun j_ => nI (rd j_)))), (ow, .inl (cI, 468, .inl (fun j_ => nI (ww j_)))), (oi, .inl (cI, 32, .inl (fun j_ => nI (u_.2.1 j_)))), (oe, .inl (cJ, 256, .inr (.inl u_.2.2.1))), (op, .inl (cJ, 256, .inr (.inl u_.2.2.2.1)))]) := by
  refine CM_in (cc := cX7_stuck) (maxL := 6) (ret := (some .int)) (by decide) rfl (Nat.le_of_ble_eq_true rfl) ?_
  intro X hX hret
  show GW X [(o, .inr (7, [.int (nI len), .ref ot, .ref on, .ref od, .ref ow, .int (nI ch), .int (nI va), .int (nI en), .ref oi, .ref oe, .ref op, .long aE, .long aP, .long lt])), (ot, .inl (cI, 200, .inl (fun j_ => nI (T j_)))), (on, .inl (cI, 78, .inl (fun j_ => nI (c j_)))), (od, .inl (cI, 78, .inl (fun j_ => nI (rd j_)))), (ow, .inl (cI, 468, .inl (fun j_ => nI (ww j_)))), (oi, .inl (cI, 32, .inl (fun j_ => nI (wi j_)))), (oe, .inl (cJ, 256, .inr (.inl EX))), (op, .inl (cJ, 256, .inr (.inl PA)))] [(0, .ref o), (1, .int sx), (2, .int wh)] [] 0 0 0
  have b0 := hok.2.1
  have b1 := hok.2.2.1
  have hp2 := p2_8 b0
  have hcd := hok.2.2.2.2.2.1
  refine g_aload_n 0 (hd := dX7_stuck_0) (C := hX) rfl rfl ?_
  refine g_iload_n 1 (hd := dX7_stuck_1) (C := hX) rfl rfl ?_
  refine g_callVs (rest := []) hX (c_X7_isStuck l D cC cI cJ cO o ot on od ow oi oe op len ch va en aE aP lt T c rd ww wi EX PA sx b0 b1) ok_X7_isStuck rfl 0 rfl rfl (hd := dX7_stuck_2) gX7_stuck_X7_isStuck ⟨by decide, by decide⟩ rfl (Nat.le_of_ble_eq_true rfl) ⟨Nat.zero_le _, Nat.zero_le _⟩ [0, 1, 2, 3, 4, 5, 6, 7] (by decide) rfl rfl ?_
  intro r_2 e_2
  rcases e_2 with ⟨rfl, p_2⟩ | ⟨rfl, p_2⟩
  · show GW X [(o, .inr (7, [.int (nI len), .ref ot, .ref on, .ref od, .ref ow, .int (nI ch), .int (nI va), .int (nI en), .ref oi, .ref oe, .ref op, .long aE, .long aP, .long lt])), (ot, .inl (cI, 200, .inl (fun j_ => nI (T j_)))), (on, .inl (cI, 78, .inl (fun j_ => nI (c j_)))), (od, .inl (cI, 78, .inl (fun j_ => nI (rd j_)))), (ow, .inl (cI, 468, .inl (fun j_ => nI (ww j_)))), (oi, .inl (cI, 32, .inl (fun j_ => nI (wi j_)))), (oe, .inl (cJ, 256, .inr (.inl EX))), (op, .inl (cJ, 256, .inr (.inl PA)))] [(0, .ref o), (1, .int sx), (2, .int wh)] [.int (nI 1)] 5 0 0
    refine g_if_eqN 17 (hd := dX7_stuck_5) (C := hX) (by decide) (by decide) (fun c_5 => absurd c_5 (by decide)) (fun c_5 => ?_)
    refine g_iload_n 2 (hd := dX7_stuck_8) (C := hX) rfl rfl ?_
    refine g_iconst (v := nI 0) hX dX7_stuck_9 (by decide) ?_
    refine g_iconst (v := nI 4) hX dX7_stuck_10 (by decide) ?_
    refine g_callS (rest := []) hX (c_X7_isIn l D cC cI cJ cO wh (nI 0) (nI 4)) ok_X7_isIn (fun _ => rfl) (hd := dX7_stuck_11) gX7_stuck_X7_isIn ⟨by decide, by decide⟩ rfl (Nat.le_of_ble_eq_true rfl) ⟨Nat.zero_le _, Nat.zero_le _⟩ [] (by decide) rfl rfl ?_
    intro r_11 e_11
    rcases e_11 with ⟨rfl, p_11⟩ | ⟨rfl, p_11⟩
    · show GW X [(o, .inr (7, [.int (nI len), .ref ot, .ref on, .ref od, .ref ow, .int (nI ch), .int (nI va), .int (nI en), .ref oi, .ref oe, .ref op, .long aE, .long aP, .long lt])), (ot, .inl (cI, 200, .inl (fun j_ => nI (T j_)))), (on, .inl (cI, 78, .inl (fun j_ => nI (c j_)))), (od, .inl (cI, 78, .inl (fun j_ => nI (rd j_)))), (ow, .inl (cI, 468, .inl (fun j_ => nI (ww j_)))), (oi, .inl (cI, 32, .inl (fun j_ => nI (wi j_)))), (oe, .inl (cJ, 256, .inr (.inl EX))), (op, .inl (cJ, 256, .inr (.inl PA)))] [(0, .ref o), (1, .int sx), (2, .int wh)] [.int (nI 1)] 14 0 0
      refine g_if_neN 19 (hd := dX7_stuck_14) (C := hX) (by decide) (by decide) (fun c_14 => ?_) (fun c_14 => absurd c_14 (by decide))
      obtain ⟨jsx, hjsx, rfl⟩ := vp_in_of p_2 (by omega)
      obtain ⟨kw, hkw, rfl⟩ := ii_nat (by decide) p_11
      refine g_aload_n 0 (hd := dX7_stuck_19) (C := hX) rfl rfl ?_
      refine g_callVp (rest := []) hX (c_X7_looks l D cC cI cJ cO o ot on od ow oi oe op len ch va en aE aP lt T c rd ww wi EX PA hok) ok_X7_looks rfl 0 rfl rfl (fun _ => rfl) (hd := dX7_stuck_20) gX7_stuck_X7_looks ⟨by decide, by decide⟩ rfl (Nat.le_of_ble_eq_true rfl) ⟨Nat.zero_le _, Nat.zero_le _⟩ [] rfl rfl ?_
      intro ⟨wi_20, EX_20, PA_20⟩ hx_20
      simp only at hx_20
      show GW X [(o, .inr (7, [.int (nI len), .ref ot, .ref on, .ref od, .ref ow, .int (nI ch), .int (nI va), .int (nI en), .ref oi, .ref oe, .ref op, .long (orC c (exC c) (2 ^ c 0)), .long (orC c (paC c) (2 ^ c 0)), .long (ltL c (2 ^ c 0))])), (ot, .inl (cI, 200, .inl (fun j_ => nI (T j_)))), (on, .inl (cI, 78, .inl (fun j_ => nI (c j_)))), (od, .inl (cI, 78, .inl (fun j_ => nI (rd j_)))), (ow, .inl (cI, 468, .inl (fun j_ => nI (ww j_)))), (oi, .inl (cI, 32, .inl (fun j_ => nI (wi_20 j_)))), (oe, .inl (cJ, 256, .inr (.inl EX_20))), (op, .inl (cJ, 256, .inr (.inl PA_20)))] [(0, .ref o), (1, .int (nI jsx)), (2, .int (nI kw))] [] 23 0 0
      refine g_iload_n 2 (hd := dX7_stuck_23) (C := hX) rfl rfl ?_
      refine g_iconst (v := nI 4) hX dX7_stuck_24 (by decide) ?_
      refine g_icmp_neN 45 (hd := dX7_stuck_25) (C := hX) (by decide) (by omega) (by omega) (fun c_25 => ?_) (fun c_25 => ?_)
      · refine g_iconst (v := nI 0) hX dX7_stuck_45 (by decide) ?_
        refine g_istore_n [(0, .ref o), (1, .int (nI jsx)), (2, .int (nI kw)), (3, .int (nI 0))] [1, 2, 3, 0] (hd := dX7_stuck_46) (C := hX) rfl (by decide) rfl ?_
        refine g_bipush (v := (-4)) hX dX7_stuck_47 (by decide) ?_
        refine g_istore [(0, .ref o), (1, .int (nI jsx)), (2, .int (nI kw)), (3, .int (nI 0)), (4, .int (-4))] [1, 2, 3, 4, 0] (hd := dX7_stuck_49) (C := hX) (by decide) rfl ?_
        refine g_aload_n 0 (hd := dX7_stuck_51) (C := hX) rfl rfl ?_
        refine g_callVs (rest := []) hX (c_X7_all l D cC cI cJ cO o ot on od ow oi oe op len ch va en (orC c (exC c) (2 ^ c 0)) (orC c (paC c) (2 ^ c 0)) (ltL c (2 ^ c 0)) T c rd ww wi_20 EX_20 PA_20 b0) ok_X7_all rfl 0 rfl rfl (hd := dX7_stuck_52) gX7_stuck_X7_all ⟨by decide, by decide⟩ rfl (Nat.le_of_ble_eq_true rfl) ⟨Nat.zero_le _, Nat.zero_le _⟩ [0, 1, 2, 3, 4, 5, 6, 7] (by decide) rfl rfl ?_
        intro r_52 e_52
        subst e_52
        show GW X [(o, .inr (7, [.int (nI len), .ref ot, .ref on, .ref od, .ref ow, .int (nI ch), .int (nI va), .int (nI en), .ref oi, .ref oe, .ref op, .long (orC c (exC c) (2 ^ c 0)), .long (orC c (paC c) (2 ^ c 0)), .long (ltL c (2 ^ c 0))])), (ot, .inl (cI, 200, .inl (fun j_ => nI (T j_)))), (on, .inl (cI, 78, .inl (fun j_ => nI (c j_)))), (od, .inl (cI, 78, .inl (fun j_ => nI (rd j_)))), (ow, .inl (cI, 468, .inl (fun j_ => nI (ww j_)))), (oi, .inl (cI, 32, .inl (fun j_ => nI (wi_20 j_)))), (oe, .inl (cJ, 256, .inr (.inl EX_20))), (op, .inl (cJ, 256, .inr (.inl PA_20)))] [(0, .ref o), (1, .int (nI jsx)), (2, .int (nI kw)), (3, .int (nI 0)), (4, .int (-4))] [.int (nI (2 ^ c 0))] 55 0 0
        refine g_iconst (v := nI 1) hX dX7_stuck_55 (by decide) ?_
        refine g_isub hX dX7_stuck_56 ?_
        refine g_istore [(0, .ref o), (1, .int (nI jsx)), (2, .int (nI kw)), (3, .int (nI 0)), (4, .int (-4)), (5, .int ((nI (2 ^ c 0)) - (nI 1)))] [1, 2, 3, 4, 5, 0] (hd := dX7_stuck_57) (C := hX) (by decide) rfl ?_
        have L_59 : ∀ (n_59 : Nat) (i : Nat) (m : Nat) (lo : Int32), i < n_59 → (i ≤ 2 ^ c 0) → (m + fb_ct (biF c (lk2 c kw) jsx) i = fb_ct (biF c (lk2 c kw) jsx) (2 ^ c 0)) → (lwI (biF c (lk2 c kw) jsx) i (2 ^ c 0) lo) → GW X [(o, .inr (7, [.int (nI len), .ref ot, .ref on, .ref od, .ref ow, .int (nI ch), .int (nI va), .int (nI en), .ref oi, .ref oe, .ref op, .long (orC c (exC c) (2 ^ c 0)), .long (orC c (paC c) (2 ^ c 0)), .long (ltL c (2 ^ c 0))])), (ot, .inl (cI, 200, .inl (fun j_ => nI (T j_)))), (on, .inl (cI, 78, .inl (fun j_ => nI (c j_)))), (od, .inl (cI, 78, .inl (fun j_ => nI (rd j_)))), (ow, .inl (cI, 468, .inl (fun j_ => nI (ww j_)))), (oi, .inl (cI, 32, .inl (fun j_ => nI (wi_20 j_)))), (oe, .inl (cJ, 256, .inr (.inl EX_20))), (op, .inl (cJ, 256, .inr (.inl PA_20)))] [(0, .ref o), (1, .int (nI jsx)), (2, .int (nI kw)), (3, .int (nI m)), (4, .int lo), (5, .int (nI i - nI 1))] [] 59 0 0 := by
          intro n_59
          induction n_59 with
          | zero => intro i m lo hm_59; exact absurd hm_59 (Nat.not_lt_zero _)
          | succ n_59 ih_59 =>
            intro i m lo hm_59 hiL hm9 hlo
            refine g_iload 5 (hd := dX7_stuck_59) (C := hX) rfl ?_
            refine g_if_lt 107 (hd := dX7_stuck_61) (C := hX) (by decide) (fun c_61 => ?_) (fun c_61 => ?_)
            · refine g_iload_n 2 (hd := dX7_stuck_107) (C := hX) rfl rfl ?_
              refine g_iconst (v := nI 2) hX dX7_stuck_108 (by decide) ?_
              refine g_icmp_geN 116 (hd := dX7_stuck_109) (C := hX) (by decide) (by omega) (by omega) (fun c_109 => ?_) (fun c_109 => ?_)
              · refine g_iload 4 (hd := dX7_stuck_116) (C := hX) rfl ?_
                exact (hret (lo, wi_20, EX_20, PA_20, orC c (exC c) (2 ^ c 0), orC c (paC c) (2 ^ c 0), ltL c (2 ^ c 0)) _ _ (Or.inr ⟨jsx, kw, hjsx, by omega, rfl, rfl, st_hi c_109 hkw c_25 (by have q9 := slt0 (by omega) c_61; subst q9; exact lwI_0 hlo)⟩)).2.1 _ rfl rfl dX7_stuck_118
              · refine g_iload_n 3 (hd := dX7_stuck_112) (C := hX) rfl rfl ?_
                refine g_goto 118 (hd := dX7_stuck_113) (C := hX) (by decide) ?_
                exact (hret ((nI m), wi_20, EX_20, PA_20, orC c (exC c) (2 ^ c 0), orC c (paC c) (2 ^ c 0), ltL c (2 ^ c 0)) _ _ (Or.inr ⟨jsx, kw, hjsx, by omega, rfl, rfl, st_lo c_109 (by have q9 := slt0 (by omega) c_61; subst q9; exact hm9)⟩)).2.1 _ rfl rfl dX7_stuck_118
            · obtain ⟨n9, rfl⟩ := sge0 c_61
              refine g_lve [(0, .ref o), (1, .int (nI jsx)), (2, .int (nI kw)), (3, .int (nI m)), (4, .int lo), (5, .int (nI n9))] (by rw [sp1]) ?_
              have hx9 := hx_20 n9 (by omega)
              refine g_iload_n 2 (hd := dX7_stuck_64) (C := hX) rfl rfl ?_
              refine g_iconst (v := nI 2) hX dX7_stuck_65 (by decide) ?_
              refine g_irem hX dX7_stuck_66 (by decide) ?_
              refine g_top (y := (nI (kw % 2))) (pk_rem (by omega) (by omega) (by omega)) ?_
              refine g_if_neN 80 (hd := dX7_stuck_67) (C := hX) (by decide) (by omega) (fun c_67 => ?_) (fun c_67 => ?_)
              · refine g_aload_n 0 (hd := dX7_stuck_80) (C := hX) rfl rfl ?_
                refine g_get (hd := dX7_stuck_81) (C := hX) 0 10 rfl rfl in_X7_stuck_7 (by decide) (by decide +kernel) rfl ?_
                refine g_iload 5 (hd := dX7_stuck_84) (C := hX) rfl ?_
                refine g_lald (hd := dX7_stuck_86) (C := hX) 7 2 rfl rfl (by omega) (by decide) ?_
                refine g_topl (y := (yC c n9)) hx9.2 ?_
                refine g_iload_n 1 (hd := dX7_stuck_87) (C := hX) rfl rfl ?_
                refine g_callS (rest := []) hX (c_X7_has l D cC cI cJ cO (yC c n9) jsx (by omega)) ok_X7_has (fun _ => rfl) (hd := dX7_stuck_88) gX7_stuck_X7_has ⟨by decide, by decide⟩ rfl (Nat.le_of_ble_eq_true rfl) ⟨Nat.zero_le _, Nat.zero_le _⟩ [] (by decide) rfl rfl ?_
                intro r_88 e_88
                rcases e_88 with ⟨rfl, p_88⟩ | ⟨rfl, p_88⟩
                · show GW X [(o, .inr (7, [.int (nI len), .ref ot, .ref on, .ref od, .ref ow, .int (nI ch), .int (nI va), .int (nI en), .ref oi, .ref oe, .ref op, .long (orC c (exC c) (2 ^ c 0)), .long (orC c (paC c) (2 ^ c 0)), .long (ltL c (2 ^ c 0))])), (ot, .inl (cI, 200, .inl (fun j_ => nI (T j_)))), (on, .inl (cI, 78, .inl (fun j_ => nI (c j_)))), (od, .inl (cI, 78, .inl (fun j_ => nI (rd j_)))), (ow, .inl (cI, 468, .inl (fun j_ => nI (ww j_)))), (oi, .inl (cI, 32, .inl (fun j_ => nI (wi_20 j_)))), (oe, .inl (cJ, 256, .inr (.inl EX_20))), (op, .inl (cJ, 256, .inr (.inl PA_20)))] [(0, .ref o), (1, .int (nI jsx)), (2, .int (nI kw)), (3, .int (nI m)), (4, .int lo), (5, .int (nI n9))] [.int (nI 1)] 91 0 0
                  refine g_if_eqN 101 (hd := dX7_stuck_91) (C := hX) (by decide) (by decide) (fun c_91 => absurd c_91 (by decide)) (fun c_91 => ?_)
                  refine g_iinc (v := (nI (m + 1))) 3 [(0, .ref o), (1, .int (nI jsx)), (2, .int (nI kw)), (3, .int (nI (m + 1))), (4, .int lo), (5, .int (nI n9))] [1, 2, 3, 0, 4, 5] (hd := dX7_stuck_94) (C := hX) rfl (nI_1 _) (by decide) rfl ?_
                  refine g_iload 5 (hd := dX7_stuck_97) (C := hX) rfl ?_
                  refine g_istore [(0, .ref o), (1, .int (nI jsx)), (2, .int (nI kw)), (3, .int (nI (m + 1))), (4, .int (nI n9)), (5, .int (nI n9))] [1, 2, 3, 4, 0, 5] (hd := dX7_stuck_99) (C := hX) (by decide) rfl ?_
                  refine g_lve [(0, .ref o), (1, .int (nI jsx)), (2, .int (nI kw)), (3, .int (nI (m + 1))), (4, .int (nI n9)), (5, .int (nI n9))] rfl ?_
                  refine g_iinc (v := (nI n9 + (-1))) 5 [(0, .ref o), (1, .int (nI jsx)), (2, .int (nI kw)), (3, .int (nI (m + 1))), (4, .int (nI n9)), (5, .int (nI n9 + (-1)))] [1, 2, 3, 4, 5, 0] (hd := dX7_stuck_101) (C := hX) rfl rfl (by decide) rfl ?_
                  refine g_goto 59 (hd := dX7_stuck_104) (C := hX) (by decide) ?_
                  refine g_lve [(0, .ref o), (1, .int (nI jsx)), (2, .int (nI kw)), (3, .int (nI (m + 1))), (4, .int (nI n9)), (5, .int (nI n9 - nI 1))] (by rw [sm1]) ?_
                  exact ih_59 n9 (m + 1) (nI n9) (by omega) (by omega) (by rw [fb_ct_succ, (show (biF c (lk2 c kw) jsx) n9 = true from by rw [show lk2 c kw = paC c from if_neg c_67]; exact bi_y.mp p_88)] at hm9; simp at hm9; omega) (lwI_y (show (biF c (lk2 c kw) jsx) n9 = true from by rw [show lk2 c kw = paC c from if_neg c_67]; exact bi_y.mp p_88) (by omega))
                · show GW X [(o, .inr (7, [.int (nI len), .ref ot, .ref on, .ref od, .ref ow, .int (nI ch), .int (nI va), .int (nI en), .ref oi, .ref oe, .ref op, .long (orC c (exC c) (2 ^ c 0)), .long (orC c (paC c) (2 ^ c 0)), .long (ltL c (2 ^ c 0))])), (ot, .inl (cI, 200, .inl (fun j_ => nI (T j_)))), (on, .inl (cI, 78, .inl (fun j_ => nI (c j_)))), (od, .inl (cI, 78, .inl (fun j_ => nI (rd j_)))), (ow, .inl (cI, 468, .inl (fun j_ => nI (ww j_)))), (oi, .inl (cI, 32, .inl (fun j_ => nI (wi_20 j_)))), (oe, .inl (cJ, 256, .inr (.inl EX_20))), (op, .inl (cJ, 256, .inr (.inl PA_20)))] [(0, .ref o), (1, .int (nI jsx)), (2, .int (nI kw)), (3, .int (nI m)), (4, .int lo), (5, .int (nI n9))] [.int (nI 0)] 91 0 0
                  refine g_if_eqN 101 (hd := dX7_stuck_91) (C := hX) (by decide) (by decide) (fun c_91 => ?_) (fun c_91 => absurd c_91 (by decide))
                  refine g_lve [(0, .ref o), (1, .int (nI jsx)), (2, .int (nI kw)), (3, .int (nI m)), (4, .int lo), (5, .int (nI n9))] rfl ?_
                  refine g_iinc (v := (nI n9 + (-1))) 5 [(0, .ref o), (1, .int (nI jsx)), (2, .int (nI kw)), (3, .int (nI m)), (4, .int lo), (5, .int (nI n9 + (-1)))] [1, 2, 3, 4, 5, 0] (hd := dX7_stuck_101) (C := hX) rfl rfl (by decide) rfl ?_
                  refine g_goto 59 (hd := dX7_stuck_104) (C := hX) (by decide) ?_
                  refine g_lve [(0, .ref o), (1, .int (nI jsx)), (2, .int (nI kw)), (3, .int (nI m)), (4, .int lo), (5, .int (nI n9 - nI 1))] (by rw [sm1]) ?_
                  exact ih_59 n9 m lo (by omega) (by omega) (by rw [fb_ct_succ, (show (biF c (lk2 c kw) jsx) n9 = false from by rw [show lk2 c kw = paC c from if_neg c_67]; exact Bool.eq_false_iff.mpr (fun z => p_88 (bi_y.mpr z)))] at hm9; simp at hm9; omega) (lwI_n (by rw [(show (biF c (lk2 c kw) jsx) n9 = false from by rw [show lk2 c kw = paC c from if_neg c_67]; exact Bool.eq_false_iff.mpr (fun z => p_88 (bi_y.mpr z)))]; decide) hlo)
              · refine g_aload_n 0 (hd := dX7_stuck_70) (C := hX) rfl rfl ?_
                refine g_get (hd := dX7_stuck_71) (C := hX) 0 9 rfl rfl in_X7_stuck_7 (by decide) (by decide +kernel) rfl ?_
                refine g_iload 5 (hd := dX7_stuck_74) (C := hX) rfl ?_
                refine g_lald (hd := dX7_stuck_76) (C := hX) 6 2 rfl rfl (by omega) (by decide) ?_
                refine g_topl (y := (xC c n9)) hx9.1 ?_
                refine g_goto 87 (hd := dX7_stuck_77) (C := hX) (by decide) ?_
                refine g_iload_n 1 (hd := dX7_stuck_87) (C := hX) rfl rfl ?_
                refine g_callS (rest := []) hX (c_X7_has l D cC cI cJ cO (xC c n9) jsx (by omega)) ok_X7_has (fun _ => rfl) (hd := dX7_stuck_88) gX7_stuck_X7_has ⟨by decide, by decide⟩ rfl (Nat.le_of_ble_eq_true rfl) ⟨Nat.zero_le _, Nat.zero_le _⟩ [] (by decide) rfl rfl ?_
                intro r_88 e_88
                rcases e_88 with ⟨rfl, p_88⟩ | ⟨rfl, p_88⟩
                · show GW X [(o, .inr (7, [.int (nI len), .ref ot, .ref on, .ref od, .ref ow, .int (nI ch), .int (nI va), .int (nI en), .ref oi, .ref oe, .ref op, .long (orC c (exC c) (2 ^ c 0)), .long (orC c (paC c) (2 ^ c 0)), .long (ltL c (2 ^ c 0))])), (ot, .inl (cI, 200, .inl (fun j_ => nI (T j_)))), (on, .inl (cI, 78, .inl (fun j_ => nI (c j_)))), (od, .inl (cI, 78, .inl (fun j_ => nI (rd j_)))), (ow, .inl (cI, 468, .inl (fun j_ => nI (ww j_)))), (oi, .inl (cI, 32, .inl (fun j_ => nI (wi_20 j_)))), (oe, .inl (cJ, 256, .inr (.inl EX_20))), (op, .inl (cJ, 256, .inr (.inl PA_20)))] [(0, .ref o), (1, .int (nI jsx)), (2, .int (nI kw)), (3, .int (nI m)), (4, .int lo), (5, .int (nI n9))] [.int (nI 1)] 91 0 0
                  refine g_if_eqN 101 (hd := dX7_stuck_91) (C := hX) (by decide) (by decide) (fun c_91 => absurd c_91 (by decide)) (fun c_91 => ?_)
                  refine g_iinc (v := (nI (m + 1))) 3 [(0, .ref o), (1, .int (nI jsx)), (2, .int (nI kw)), (3, .int (nI (m + 1))), (4, .int lo), (5, .int (nI n9))] [1, 2, 3, 0, 4, 5] (hd := dX7_stuck_94) (C := hX) rfl (nI_1 _) (by decide) rfl ?_
                  refine g_iload 5 (hd := dX7_stuck_97) (C := hX) rfl ?_
                  refine g_istore [(0, .ref o), (1, .int (nI jsx)), (2, .int (nI kw)), (3, .int (nI (m + 1))), (4, .int (nI n9)), (5, .int (nI n9))] [1, 2, 3, 4, 0, 5] (hd := dX7_stuck_99) (C := hX) (by decide) rfl ?_
                  refine g_lve [(0, .ref o), (1, .int (nI jsx)), (2, .int (nI kw)), (3, .int (nI (m + 1))), (4, .int (nI n9)), (5, .int (nI n9))] rfl ?_
                  refine g_iinc (v := (nI n9 + (-1))) 5 [(0, .ref o), (1, .int (nI jsx)), (2, .int (nI kw)), (3, .int (nI (m + 1))), (4, .int (nI n9)), (5, .int (nI n9 + (-1)))] [1, 2, 3, 4, 5, 0] (hd := dX7_stuck_101) (C := hX) rfl rfl (by decide) rfl ?_
                  refine g_goto 59 (hd := dX7_stuck_104) (C := hX) (by decide) ?_
                  refine g_lve [(0, .ref o), (1, .int (nI jsx)), (2, .int (nI kw)), (3, .int (nI (m + 1))), (4, .int (nI n9)), (5, .int (nI n9 - nI 1))] (by rw [sm1]) ?_
                  exact ih_59 n9 (m + 1) (nI n9) (by omega) (by omega) (by rw [fb_ct_succ, (show (biF c (lk2 c kw) jsx) n9 = true from by rw [show lk2 c kw = exC c from if_pos c_67]; exact bi_x.mp p_88)] at hm9; simp at hm9; omega) (lwI_y (show (biF c (lk2 c kw) jsx) n9 = true from by rw [show lk2 c kw = exC c from if_pos c_67]; exact bi_x.mp p_88) (by omega))
                · show GW X [(o, .inr (7, [.int (nI len), .ref ot, .ref on, .ref od, .ref ow, .int (nI ch), .int (nI va), .int (nI en), .ref oi, .ref oe, .ref op, .long (orC c (exC c) (2 ^ c 0)), .long (orC c (paC c) (2 ^ c 0)), .long (ltL c (2 ^ c 0))])), (ot, .inl (cI, 200, .inl (fun j_ => nI (T j_)))), (on, .inl (cI, 78, .inl (fun j_ => nI (c j_)))), (od, .inl (cI, 78, .inl (fun j_ => nI (rd j_)))), (ow, .inl (cI, 468, .inl (fun j_ => nI (ww j_)))), (oi, .inl (cI, 32, .inl (fun j_ => nI (wi_20 j_)))), (oe, .inl (cJ, 256, .inr (.inl EX_20))), (op, .inl (cJ, 256, .inr (.inl PA_20)))] [(0, .ref o), (1, .int (nI jsx)), (2, .int (nI kw)), (3, .int (nI m)), (4, .int lo), (5, .int (nI n9))] [.int (nI 0)] 91 0 0
                  refine g_if_eqN 101 (hd := dX7_stuck_91) (C := hX) (by decide) (by decide) (fun c_91 => ?_) (fun c_91 => absurd c_91 (by decide))
                  refine g_lve [(0, .ref o), (1, .int (nI jsx)), (2, .int (nI kw)), (3, .int (nI m)), (4, .int lo), (5, .int (nI n9))] rfl ?_
                  refine g_iinc (v := (nI n9 + (-1))) 5 [(0, .ref o), (1, .int (nI jsx)), (2, .int (nI kw)), (3, .int (nI m)), (4, .int lo), (5, .int (nI n9 + (-1)))] [1, 2, 3, 4, 5, 0] (hd := dX7_stuck_101) (C := hX) rfl rfl (by decide) rfl ?_
                  refine g_goto 59 (hd := dX7_stuck_104) (C := hX) (by decide) ?_
                  refine g_lve [(0, .ref o), (1, .int (nI jsx)), (2, .int (nI kw)), (3, .int (nI m)), (4, .int lo), (5, .int (nI n9 - nI 1))] (by rw [sm1]) ?_
                  exact ih_59 n9 m lo (by omega) (by omega) (by rw [fb_ct_succ, (show (biF c (lk2 c kw) jsx) n9 = false from by rw [show lk2 c kw = exC c from if_pos c_67]; exact Bool.eq_false_iff.mpr (fun z => p_88 (bi_x.mpr z)))] at hm9; simp at hm9; omega) (lwI_n (by rw [(show (biF c (lk2 c kw) jsx) n9 = false from by rw [show lk2 c kw = exC c from if_pos c_67]; exact Bool.eq_false_iff.mpr (fun z => p_88 (bi_x.mpr z)))]; decide) hlo)
        refine g_lve [(0, .ref o), (1, .int (nI jsx)), (2, .int (nI kw)), (3, .int (nI 0)), (4, .int (-4)), (5, .int (nI (2 ^ c 0) - nI 1))] rfl ?_
        exact L_59 _ (2 ^ c 0) 0 (-4) (Nat.lt_succ_self _) (Nat.le_refl _) (Nat.zero_add _) (Or.inr ⟨fun w h1 h2 => absurd h1 (by omega), rfl⟩)
      · refine g_aload_n 0 (hd := dX7_stuck_28) (C := hX) rfl rfl ?_
        refine g_get (hd := dX7_stuck_29) (C := hX) 0 13 rfl rfl in_X7_stuck_7 (by decide) (by decide +kernel) rfl ?_
        refine g_iload_n 1 (hd := dX7_stuck_32) (C := hX) rfl rfl ?_
        refine g_callS (rest := []) hX (c_X7_has l D cC cI cJ cO (ltL c (2 ^ c 0)) jsx (by omega)) ok_X7_has (fun _ => rfl) (hd := dX7_stuck_33) gX7_stuck_X7_has ⟨by decide, by decide⟩ rfl (Nat.le_of_ble_eq_true rfl) ⟨Nat.zero_le _, Nat.zero_le _⟩ [] (by decide) rfl rfl ?_
        intro r_33 e_33
        rcases e_33 with ⟨rfl, p_33⟩ | ⟨rfl, p_33⟩
        · show GW X [(o, .inr (7, [.int (nI len), .ref ot, .ref on, .ref od, .ref ow, .int (nI ch), .int (nI va), .int (nI en), .ref oi, .ref oe, .ref op, .long (orC c (exC c) (2 ^ c 0)), .long (orC c (paC c) (2 ^ c 0)), .long (ltL c (2 ^ c 0))])), (ot, .inl (cI, 200, .inl (fun j_ => nI (T j_)))), (on, .inl (cI, 78, .inl (fun j_ => nI (c j_)))), (od, .inl (cI, 78, .inl (fun j_ => nI (rd j_)))), (ow, .inl (cI, 468, .inl (fun j_ => nI (ww j_)))), (oi, .inl (cI, 32, .inl (fun j_ => nI (wi_20 j_)))), (oe, .inl (cJ, 256, .inr (.inl EX_20))), (op, .inl (cJ, 256, .inr (.inl PA_20)))] [(0, .ref o), (1, .int (nI jsx)), (2, .int (nI kw))] [.int (nI 1)] 36 0 0
          refine g_if_eqN 43 (hd := dX7_stuck_36) (C := hX) (by decide) (by decide) (fun c_36 => absurd c_36 (by decide)) (fun c_36 => ?_)
          refine g_iconst (v := nI 1) hX dX7_stuck_39 (by decide) ?_
          refine g_goto 44 (hd := dX7_stuck_40) (C := hX) (by decide) ?_
          exact (hret ((nI 1), wi_20, EX_20, PA_20, orC c (exC c) (2 ^ c 0), orC c (paC c) (2 ^ c 0), ltL c (2 ^ c 0)) _ _ (Or.inr ⟨jsx, kw, hjsx, by omega, rfl, rfl, st_4y hok hjsx c_25 p_33⟩)).2.1 _ rfl rfl dX7_stuck_44
        · show GW X [(o, .inr (7, [.int (nI len), .ref ot, .ref on, .ref od, .ref ow, .int (nI ch), .int (nI va), .int (nI en), .ref oi, .ref oe, .ref op, .long (orC c (exC c) (2 ^ c 0)), .long (orC c (paC c) (2 ^ c 0)), .long (ltL c (2 ^ c 0))])), (ot, .inl (cI, 200, .inl (fun j_ => nI (T j_)))), (on, .inl (cI, 78, .inl (fun j_ => nI (c j_)))), (od, .inl (cI, 78, .inl (fun j_ => nI (rd j_)))), (ow, .inl (cI, 468, .inl (fun j_ => nI (ww j_)))), (oi, .inl (cI, 32, .inl (fun j_ => nI (wi_20 j_)))), (oe, .inl (cJ, 256, .inr (.inl EX_20))), (op, .inl (cJ, 256, .inr (.inl PA_20)))] [(0, .ref o), (1, .int (nI jsx)), (2, .int (nI kw))] [.int (nI 0)] 36 0 0
          refine g_if_eqN 43 (hd := dX7_stuck_36) (C := hX) (by decide) (by decide) (fun c_36 => ?_) (fun c_36 => absurd c_36 (by decide))
          refine g_iconst (v := nI 0) hX dX7_stuck_43 (by decide) ?_
          exact (hret ((nI 0), wi_20, EX_20, PA_20, orC c (exC c) (2 ^ c 0), orC c (paC c) (2 ^ c 0), ltL c (2 ^ c 0)) _ _ (Or.inr ⟨jsx, kw, hjsx, by omega, rfl, rfl, st_4n hok c_25 p_33⟩)).2.1 _ rfl rfl dX7_stuck_44
    · show GW X [(o, .inr (7, [.int (nI len), .ref ot, .ref on, .ref od, .ref ow, .int (nI ch), .int (nI va), .int (nI en), .ref oi, .ref oe, .ref op, .long aE, .long aP, .long lt])), (ot, .inl (cI, 200, .inl (fun j_ => nI (T j_)))), (on, .inl (cI, 78, .inl (fun j_ => nI (c j_)))), (od, .inl (cI, 78, .inl (fun j_ => nI (rd j_)))), (ow, .inl (cI, 468, .inl (fun j_ => nI (ww j_)))), (oi, .inl (cI, 32, .inl (fun j_ => nI (wi j_)))), (oe, .inl (cJ, 256, .inr (.inl EX))), (op, .inl (cJ, 256, .inr (.inl PA)))] [(0, .ref o), (1, .int sx), (2, .int wh)] [.int (nI 0)] 14 0 0
      refine g_if_neN 19 (hd := dX7_stuck_14) (C := hX) (by decide) (by decide) (fun c_14 => absurd c_14 (by decide)) (fun c_14 => ?_)
      refine g_iconst (v := (-1)) hX dX7_stuck_17 (by decide) ?_
      exact (hret ((-1), wi, EX, PA, aE, aP, lt) _ _ (Or.inl ⟨fun z => p_11 ((ii_k (by decide)).mpr z.2), rfl⟩)).2.1 _ rfl rfl dX7_stuck_18
  · show GW X [(o, .inr (7, [.int (nI len), .ref ot, .ref on, .ref od, .ref ow, .int (nI ch), .int (nI va), .int (nI en), .ref oi, .ref oe, .ref op, .long aE, .long aP, .long lt])), (ot, .inl (cI, 200, .inl (fun j_ => nI (T j_)))), (on, .inl (cI, 78, .inl (fun j_ => nI (c j_)))), (od, .inl (cI, 78, .inl (fun j_ => nI (rd j_)))), (ow, .inl (cI, 468, .inl (fun j_ => nI (ww j_)))), (oi, .inl (cI, 32, .inl (fun j_ => nI (wi j_)))), (oe, .inl (cJ, 256, .inr (.inl EX))), (op, .inl (cJ, 256, .inr (.inl PA)))] [(0, .ref o), (1, .int sx), (2, .int wh)] [.int (nI 0)] 5 0 0
    refine g_if_eqN 17 (hd := dX7_stuck_5) (C := hX) (by decide) (by decide) (fun c_5 => ?_) (fun c_5 => absurd c_5 (by decide))
    refine g_iconst (v := (-1)) hX dX7_stuck_17 (by decide) ?_
    exact (hret ((-1), wi, EX, PA, aE, aP, lt) _ _ (Or.inl ⟨fun z => p_2 z.1, rfl⟩)).2.1 _ rfl rfl dX7_stuck_18

theorem in_X7_exposes_7 : ∀ w ∈ wsX70, w ∈ wsX7_exposes := fun _ h => List.mem_cons_of_mem _ (List.mem_append_right _ h)
theorem ok_X7_exposes : gOK yX7_exposes wsX7_exposes ({ frames := 3, cells := 0, slots := 0, locals := 77 }) 2 1 := ⟨⟨_, _, _, rfl⟩, rfl, rfl, by decide, by decide, by decide +kernel⟩
set_option maxRecDepth 100000 in
set_option maxHeartbeats 4000000 in
theorem c_X7_exposes (l : Launch) (D : va_G) (cC cI cJ cO : ClassId) (o : Nat) (ot : Nat) (on : Nat) (od : Nat) (ow : Nat) (oi : Nat) (oe : Nat) (op : Nat) (len : Nat) (ch : Nat) (va : Nat) (en : Nat) (aE : Int64) (aP : Int64) (lt : Int64) (T : Nat → Nat) (c : Nat → Nat) (rd : Nat → Nat) (ww : Nat → Nat) (wi : Nat → Nat) (EX : Nat → Int64) (PA : Nat → Int64) (wd : Int32) (hok : okC c) : CM (S := Int32 × (Nat → Nat) × (Nat → Int64) × (Nat → Int64) × Int64 × Int64 × Int64) l D (tyL cC cI cJ cO) yX7_exposes wsX7_exposes ({ frames := 3, cells := 0, slots := 0, locals := 77 }) [.ref o, .int wd] [(o, .inr (7, [.int (nI len), .ref ot, .ref on, .ref od, .ref ow, .int (nI ch), .int (nI va), .int (nI en), .ref oi, .ref oe, .ref op, .long aE, .long aP, .long lt])), (ot, .inl (cI, 200, .inl (fun j_ => nI (T j_)))), (on, .inl (cI, 78, .inl (fun j_ => nI (c j_)))), (od, .inl (cI, 78, .inl (fun j_ => nI (rd j_)))), (ow, .inl (cI, 468, .inl (fun j_ => nI (ww j_)))), (oi, .inl (cI, 32, .inl (fun j_ => nI (wi j_)))), (oe, .inl (cJ, 256, .inr (.inl EX))), (op, .inl (cJ, 256, .inr (.inl PA)))] (fun u => some (.int u.1)) (fun u => u.1 = epS c wd) (fun u_ => [(o, .inr (7, [.int (nI len), .ref ot, .ref on, .ref od, .ref ow, .int (nI ch), .int (nI va), .int (nI en), .ref oi, .ref oe, .ref op, .long u_.2.2.2.2.1, .long u_.2.2.2.2.2.1, .long u_.2.2.2.2.2.2])), (ot, .inl (cI, 200, .inl (fun j_ => nI (T j_)))), (on, .inl (cI, 78, .inl (fun j_ => nI (c j_)))), (od, .inl (cI, 78, .inl (fun j_ => nI (rd j_)))), (ow, .inl (cI, 468, .inl (fun j_ => nI (ww j_)))), (oi, .inl (cI, 32, .inl (fun j_ => nI (u_.2.1 j_)))), (oe, .inl (cJ, 256, .inr (.inl u_.2.2.1))), (op, .inl (cJ, 256, .inr (.inl u_.2.2.2.1)))]) := by
  refine CM_in (cc := cX7_exposes) (maxL := 2) (ret := (some .int)) (by decide) rfl (Nat.le_of_ble_eq_true rfl) ?_
  intro X hX hret
  show GW X [(o, .inr (7, [.int (nI len), .ref ot, .ref on, .ref od, .ref ow, .int (nI ch), .int (nI va), .int (nI en), .ref oi, .ref oe, .ref op, .long aE, .long aP, .long lt])), (ot, .inl (cI, 200, .inl (fun j_ => nI (T j_)))), (on, .inl (cI, 78, .inl (fun j_ => nI (c j_)))), (od, .inl (cI, 78, .inl (fun j_ => nI (rd j_)))), (ow, .inl (cI, 468, .inl (fun j_ => nI (ww j_)))), (oi, .inl (cI, 32, .inl (fun j_ => nI (wi j_)))), (oe, .inl (cJ, 256, .inr (.inl EX))), (op, .inl (cJ, 256, .inr (.inl PA)))] [(0, .ref o), (1, .int wd)] [] 0 0 0
  have b0 := hok.2.1
  have b1 := hok.2.2.1
  have hp2 := p2_8 b0
  have hcd := hok.2.2.2.2.2.1
  refine g_aload_n 0 (hd := dX7_exposes_0) (C := hX) rfl rfl ?_
  refine g_iload_n 1 (hd := dX7_exposes_1) (C := hX) rfl rfl ?_
  refine g_callVs (rest := []) hX (c_X7_isWord l D cC cI cJ cO o ot on od ow oi oe op len ch va en aE aP lt T c rd ww wi EX PA wd b0) ok_X7_isWord rfl 0 rfl rfl (hd := dX7_exposes_2) gX7_exposes_X7_isWord ⟨by decide, by decide⟩ rfl (Nat.le_of_ble_eq_true rfl) ⟨Nat.zero_le _, Nat.zero_le _⟩ [0, 1, 2, 3, 4, 5, 6, 7] (by decide) rfl rfl ?_
  intro r_2 e_2
  rcases e_2 with ⟨rfl, p_2⟩ | ⟨rfl, p_2⟩
  · show GW X [(o, .inr (7, [.int (nI len), .ref ot, .ref on, .ref od, .ref ow, .int (nI ch), .int (nI va), .int (nI en), .ref oi, .ref oe, .ref op, .long aE, .long aP, .long lt])), (ot, .inl (cI, 200, .inl (fun j_ => nI (T j_)))), (on, .inl (cI, 78, .inl (fun j_ => nI (c j_)))), (od, .inl (cI, 78, .inl (fun j_ => nI (rd j_)))), (ow, .inl (cI, 468, .inl (fun j_ => nI (ww j_)))), (oi, .inl (cI, 32, .inl (fun j_ => nI (wi j_)))), (oe, .inl (cJ, 256, .inr (.inl EX))), (op, .inl (cJ, 256, .inr (.inl PA)))] [(0, .ref o), (1, .int wd)] [.int (nI 1)] 5 0 0
    refine g_if_eqN 16 (hd := dX7_exposes_5) (C := hX) (by decide) (by decide) (fun c_5 => absurd c_5 (by decide)) (fun c_5 => ?_)
    obtain ⟨jwd, hjwd, rfl⟩ := vp_in_of p_2 (by omega)
    refine g_aload_n 0 (hd := dX7_exposes_8) (C := hX) rfl rfl ?_
    refine g_iload_n 1 (hd := dX7_exposes_9) (C := hX) rfl rfl ?_
    refine g_callVs (rest := []) hX (c_X7_isCode l D cC cI cJ cO o ot on od ow oi oe op len ch va en aE aP lt T c rd ww wi EX PA jwd (by omega) b0 hcd) ok_X7_isCode rfl 0 rfl rfl (hd := dX7_exposes_10) gX7_exposes_X7_isCode ⟨by decide, by decide⟩ rfl (Nat.le_of_ble_eq_true rfl) ⟨Nat.zero_le _, Nat.zero_le _⟩ [0, 1, 2, 3, 4, 5, 6, 7] (by decide) rfl rfl ?_
    intro r_10 e_10
    rcases e_10 with ⟨rfl, p_10⟩ | ⟨rfl, p_10⟩
    · show GW X [(o, .inr (7, [.int (nI len), .ref ot, .ref on, .ref od, .ref ow, .int (nI ch), .int (nI va), .int (nI en), .ref oi, .ref oe, .ref op, .long aE, .long aP, .long lt])), (ot, .inl (cI, 200, .inl (fun j_ => nI (T j_)))), (on, .inl (cI, 78, .inl (fun j_ => nI (c j_)))), (od, .inl (cI, 78, .inl (fun j_ => nI (rd j_)))), (ow, .inl (cI, 468, .inl (fun j_ => nI (ww j_)))), (oi, .inl (cI, 32, .inl (fun j_ => nI (wi j_)))), (oe, .inl (cJ, 256, .inr (.inl EX))), (op, .inl (cJ, 256, .inr (.inl PA)))] [(0, .ref o), (1, .int (nI jwd))] [.int (nI 1)] 13 0 0
      refine g_if_neN 18 (hd := dX7_exposes_13) (C := hX) (by decide) (by decide) (fun c_13 => ?_) (fun c_13 => absurd c_13 (by decide))
      refine g_aload_n 0 (hd := dX7_exposes_18) (C := hX) rfl rfl ?_
      refine g_callVp (rest := []) hX (c_X7_looks l D cC cI cJ cO o ot on od ow oi oe op len ch va en aE aP lt T c rd ww wi EX PA hok) ok_X7_looks rfl 0 rfl rfl (fun _ => rfl) (hd := dX7_exposes_19) gX7_exposes_X7_looks ⟨by decide, by decide⟩ rfl (Nat.le_of_ble_eq_true rfl) ⟨Nat.zero_le _, Nat.zero_le _⟩ [] rfl rfl ?_
      intro ⟨wi_19, EX_19, PA_19⟩ hx_19
      simp only at hx_19
      show GW X [(o, .inr (7, [.int (nI len), .ref ot, .ref on, .ref od, .ref ow, .int (nI ch), .int (nI va), .int (nI en), .ref oi, .ref oe, .ref op, .long (orC c (exC c) (2 ^ c 0)), .long (orC c (paC c) (2 ^ c 0)), .long (ltL c (2 ^ c 0))])), (ot, .inl (cI, 200, .inl (fun j_ => nI (T j_)))), (on, .inl (cI, 78, .inl (fun j_ => nI (c j_)))), (od, .inl (cI, 78, .inl (fun j_ => nI (rd j_)))), (ow, .inl (cI, 468, .inl (fun j_ => nI (ww j_)))), (oi, .inl (cI, 32, .inl (fun j_ => nI (wi_19 j_)))), (oe, .inl (cJ, 256, .inr (.inl EX_19))), (op, .inl (cJ, 256, .inr (.inl PA_19)))] [(0, .ref o), (1, .int (nI jwd))] [] 22 0 0
      refine g_aload_n 0 (hd := dX7_exposes_22) (C := hX) rfl rfl ?_
      refine g_aload_n 0 (hd := dX7_exposes_23) (C := hX) rfl rfl ?_
      refine g_get (hd := dX7_exposes_24) (C := hX) 0 9 rfl rfl in_X7_exposes_7 (by decide) (by decide +kernel) rfl ?_
      refine g_iload_n 1 (hd := dX7_exposes_27) (C := hX) rfl rfl ?_
      refine g_lald (hd := dX7_exposes_28) (C := hX) 6 2 rfl rfl (by omega) (by decide) ?_
      refine g_topl (y := (exC c jwd)) (by rw [(hx_19 jwd hjwd).1, xC_y p_10]) ?_
      refine g_callVs (rest := []) hX (c_X7_many l D cC cI cJ cO o ot on od ow oi oe op len ch va en (orC c (exC c) (2 ^ c 0)) (orC c (paC c) (2 ^ c 0)) (ltL c (2 ^ c 0)) T c rd ww wi_19 EX_19 PA_19 (exC c jwd) hok) ok_X7_many rfl 0 rfl rfl (hd := dX7_exposes_29) gX7_exposes_X7_many ⟨by decide, by decide⟩ rfl (Nat.le_of_ble_eq_true rfl) ⟨Nat.zero_le _, Nat.zero_le _⟩ [0, 1, 2, 3, 4, 5, 6, 7] (by decide) rfl rfl ?_
      intro r_29 e_29
      subst e_29
      show GW X [(o, .inr (7, [.int (nI len), .ref ot, .ref on, .ref od, .ref ow, .int (nI ch), .int (nI va), .int (nI en), .ref oi, .ref oe, .ref op, .long (orC c (exC c) (2 ^ c 0)), .long (orC c (paC c) (2 ^ c 0)), .long (ltL c (2 ^ c 0))])), (ot, .inl (cI, 200, .inl (fun j_ => nI (T j_)))), (on, .inl (cI, 78, .inl (fun j_ => nI (c j_)))), (od, .inl (cI, 78, .inl (fun j_ => nI (rd j_)))), (ow, .inl (cI, 468, .inl (fun j_ => nI (ww j_)))), (oi, .inl (cI, 32, .inl (fun j_ => nI (wi_19 j_)))), (oe, .inl (cJ, 256, .inr (.inl EX_19))), (op, .inl (cJ, 256, .inr (.inl PA_19)))] [(0, .ref o), (1, .int (nI jwd))] [.int (nI (pcL ((exC c jwd) &&& alS c)))] 32 0 0
      refine g_top (y := nI (pcL (exC c jwd))) (by rw [ex_al hok]) ?_
      exact (hret ((nI (pcL (exC c jwd))), wi_19, EX_19, PA_19, orC c (exC c) (2 ^ c 0), orC c (paC c) (2 ^ c 0), ltL c (2 ^ c 0)) _ _ (by unfold epS; rw [iP_y ⟨p_2, by rw [cl_nI (by omega)]; exact p_10⟩, cl_nI (by omega)])).2.1 _ rfl rfl dX7_exposes_32
    · show GW X [(o, .inr (7, [.int (nI len), .ref ot, .ref on, .ref od, .ref ow, .int (nI ch), .int (nI va), .int (nI en), .ref oi, .ref oe, .ref op, .long aE, .long aP, .long lt])), (ot, .inl (cI, 200, .inl (fun j_ => nI (T j_)))), (on, .inl (cI, 78, .inl (fun j_ => nI (c j_)))), (od, .inl (cI, 78, .inl (fun j_ => nI (rd j_)))), (ow, .inl (cI, 468, .inl (fun j_ => nI (ww j_)))), (oi, .inl (cI, 32, .inl (fun j_ => nI (wi j_)))), (oe, .inl (cJ, 256, .inr (.inl EX))), (op, .inl (cJ, 256, .inr (.inl PA)))] [(0, .ref o), (1, .int (nI jwd))] [.int (nI 0)] 13 0 0
      refine g_if_neN 18 (hd := dX7_exposes_13) (C := hX) (by decide) (by decide) (fun c_13 => absurd c_13 (by decide)) (fun c_13 => ?_)
      refine g_iconst (v := (-1)) hX dX7_exposes_16 (by decide) ?_
      exact (hret ((-1), wi, EX, PA, aE, aP, lt) _ _ (iP_n (fun z => p_10 (by have q := z.2; rw [cl_nI (by omega)] at q; exact q))).symm).2.1 _ rfl rfl dX7_exposes_17
  · show GW X [(o, .inr (7, [.int (nI len), .ref ot, .ref on, .ref od, .ref ow, .int (nI ch), .int (nI va), .int (nI en), .ref oi, .ref oe, .ref op, .long aE, .long aP, .long lt])), (ot, .inl (cI, 200, .inl (fun j_ => nI (T j_)))), (on, .inl (cI, 78, .inl (fun j_ => nI (c j_)))), (od, .inl (cI, 78, .inl (fun j_ => nI (rd j_)))), (ow, .inl (cI, 468, .inl (fun j_ => nI (ww j_)))), (oi, .inl (cI, 32, .inl (fun j_ => nI (wi j_)))), (oe, .inl (cJ, 256, .inr (.inl EX))), (op, .inl (cJ, 256, .inr (.inl PA)))] [(0, .ref o), (1, .int wd)] [.int (nI 0)] 5 0 0
    refine g_if_eqN 16 (hd := dX7_exposes_5) (C := hX) (by decide) (by decide) (fun c_5 => ?_) (fun c_5 => absurd c_5 (by decide))
    refine g_iconst (v := (-1)) hX dX7_exposes_16 (by decide) ?_
    exact (hret ((-1), wi, EX, PA, aE, aP, lt) _ _ (iP_n (fun z => p_2 z.1)).symm).2.1 _ rfl rfl dX7_exposes_17

theorem in_X7_is_7 : ∀ w ∈ wsX70, w ∈ wsX7_is := fun _ h => List.mem_cons_of_mem _ (List.mem_append_right _ h)
theorem ok_X7_is : gOK yX7_is wsX7_is ({ frames := 3, cells := 0, slots := 0, locals := 77 }) 2 1 := ⟨⟨_, _, _, rfl⟩, rfl, rfl, by decide, by decide, by decide +kernel⟩
set_option maxRecDepth 100000 in
set_option maxHeartbeats 4000000 in
theorem c_X7_is (l : Launch) (D : va_G) (cC cI cJ cO : ClassId) (o : Nat) (ot : Nat) (on : Nat) (od : Nat) (ow : Nat) (oi : Nat) (oe : Nat) (op : Nat) (len : Nat) (ch : Nat) (va : Nat) (en : Nat) (aE : Int64) (aP : Int64) (lt : Int64) (T : Nat → Nat) (c : Nat → Nat) (rd : Nat → Nat) (ww : Nat → Nat) (wi : Nat → Nat) (EX : Nat → Int64) (PA : Nat → Int64) (wh : Int32) (hok : okC c) : CM (S := Int32 × (Nat → Nat) × (Nat → Int64) × (Nat → Int64) × Int64 × Int64 × Int64) l D (tyL cC cI cJ cO) yX7_is wsX7_is ({ frames := 3, cells := 0, slots := 0, locals := 77 }) [.ref o, .int wh] [(o, .inr (7, [.int (nI len), .ref ot, .ref on, .ref od, .ref ow, .int (nI ch), .int (nI va), .int (nI en), .ref oi, .ref oe, .ref op, .long aE, .long aP, .long lt])), (ot, .inl (cI, 200, .inl (fun j_ => nI (T j_)))), (on, .inl (cI, 78, .inl (fun j_ => nI (c j_)))), (od, .inl (cI, 78, .inl (fun j_ => nI (rd j_)))), (ow, .inl (cI, 468, .inl (fun j_ => nI (ww j_)))), (oi, .inl (cI, 32, .inl (fun j_ => nI (wi j_)))), (oe, .inl (cJ, 256, .inr (.inl EX))), (op, .inl (cJ, 256, .inr (.inl PA)))] (fun u => some (.int u.1)) (fun u => isR c wh u.1) (fun u_ => [(o, .inr (7, [.int (nI len), .ref ot, .ref on, .ref od, .ref ow, .int (nI ch), .int (nI va), .int (nI en), .ref oi, .ref oe, .ref op, .long u_.2.2.2.2.1, .long u_.2.2.2.2.2.1, .long u_.2.2.2.2.2.2])), (ot, .inl (cI, 200, .inl (fun j_ => nI (T j_)))), (on, .inl (cI, 78, .inl (fun j_ => nI (c j_)))), (od, .inl (cI, 78, .inl (fun j_ => nI (rd j_)))), (ow, .inl (cI, 468, .inl (fun j_ => nI (ww j_)))), (oi, .inl (cI, 32, .inl (fun j_ => nI (u_.2.1 j_)))), (oe, .inl (cJ, 256, .inr (.inl u_.2.2.1))), (op, .inl (cJ, 256, .inr (.inl u_.2.2.2.1)))]) := by
  refine CM_in (cc := cX7_is) (maxL := 2) (ret := (some .int)) (by decide) rfl (Nat.le_of_ble_eq_true rfl) ?_
  intro X hX hret
  show GW X [(o, .inr (7, [.int (nI len), .ref ot, .ref on, .ref od, .ref ow, .int (nI ch), .int (nI va), .int (nI en), .ref oi, .ref oe, .ref op, .long aE, .long aP, .long lt])), (ot, .inl (cI, 200, .inl (fun j_ => nI (T j_)))), (on, .inl (cI, 78, .inl (fun j_ => nI (c j_)))), (od, .inl (cI, 78, .inl (fun j_ => nI (rd j_)))), (ow, .inl (cI, 468, .inl (fun j_ => nI (ww j_)))), (oi, .inl (cI, 32, .inl (fun j_ => nI (wi j_)))), (oe, .inl (cJ, 256, .inr (.inl EX))), (op, .inl (cJ, 256, .inr (.inl PA)))] [(0, .ref o), (1, .int wh)] [] 0 0 0
  have b0 := hok.2.1
  have b1 := hok.2.2.1
  have hp2 := p2_8 b0
  have hcd := hok.2.2.2.2.2.1
  refine g_iload_n 1 (hd := dX7_is_0) (C := hX) rfl rfl ?_
  refine g_iconst (v := nI 0) hX dX7_is_1 (by decide) ?_
  refine g_iconst (v := nI 2) hX dX7_is_2 (by decide) ?_
  refine g_callS (rest := []) hX (c_X7_isIn l D cC cI cJ cO wh (nI 0) (nI 2)) ok_X7_isIn (fun _ => rfl) (hd := dX7_is_3) gX7_is_X7_isIn ⟨by decide, by decide⟩ rfl (Nat.le_of_ble_eq_true rfl) ⟨Nat.zero_le _, Nat.zero_le _⟩ [] (by decide) rfl rfl ?_
  intro r_3 e_3
  rcases e_3 with ⟨rfl, p_3⟩ | ⟨rfl, p_3⟩
  · show GW X [(o, .inr (7, [.int (nI len), .ref ot, .ref on, .ref od, .ref ow, .int (nI ch), .int (nI va), .int (nI en), .ref oi, .ref oe, .ref op, .long aE, .long aP, .long lt])), (ot, .inl (cI, 200, .inl (fun j_ => nI (T j_)))), (on, .inl (cI, 78, .inl (fun j_ => nI (c j_)))), (od, .inl (cI, 78, .inl (fun j_ => nI (rd j_)))), (ow, .inl (cI, 468, .inl (fun j_ => nI (ww j_)))), (oi, .inl (cI, 32, .inl (fun j_ => nI (wi j_)))), (oe, .inl (cJ, 256, .inr (.inl EX))), (op, .inl (cJ, 256, .inr (.inl PA)))] [(0, .ref o), (1, .int wh)] [.int (nI 1)] 6 0 0
    refine g_if_neN 11 (hd := dX7_is_6) (C := hX) (by decide) (by decide) (fun c_6 => ?_) (fun c_6 => absurd c_6 (by decide))
    obtain ⟨kw, hkw, rfl⟩ := ii_nat (by decide) p_3
    refine g_iload_n 1 (hd := dX7_is_11) (C := hX) rfl rfl ?_
    refine g_if_neN 28 (hd := dX7_is_12) (C := hX) (by decide) (by omega) (fun c_12 => ?_) (fun c_12 => ?_)
    · refine g_aload_n 0 (hd := dX7_is_28) (C := hX) rfl rfl ?_
      refine g_callVp (rest := []) hX (c_X7_looks l D cC cI cJ cO o ot on od ow oi oe op len ch va en aE aP lt T c rd ww wi EX PA hok) ok_X7_looks rfl 0 rfl rfl (fun _ => rfl) (hd := dX7_is_29) gX7_is_X7_looks ⟨by decide, by decide⟩ rfl (Nat.le_of_ble_eq_true rfl) ⟨Nat.zero_le _, Nat.zero_le _⟩ [] rfl rfl ?_
      intro ⟨wi_29, EX_29, PA_29⟩ hx_29
      simp only at hx_29
      show GW X [(o, .inr (7, [.int (nI len), .ref ot, .ref on, .ref od, .ref ow, .int (nI ch), .int (nI va), .int (nI en), .ref oi, .ref oe, .ref op, .long (orC c (exC c) (2 ^ c 0)), .long (orC c (paC c) (2 ^ c 0)), .long (ltL c (2 ^ c 0))])), (ot, .inl (cI, 200, .inl (fun j_ => nI (T j_)))), (on, .inl (cI, 78, .inl (fun j_ => nI (c j_)))), (od, .inl (cI, 78, .inl (fun j_ => nI (rd j_)))), (ow, .inl (cI, 468, .inl (fun j_ => nI (ww j_)))), (oi, .inl (cI, 32, .inl (fun j_ => nI (wi_29 j_)))), (oe, .inl (cJ, 256, .inr (.inl EX_29))), (op, .inl (cJ, 256, .inr (.inl PA_29)))] [(0, .ref o), (1, .int (nI kw))] [] 32 0 0
      refine g_iload_n 1 (hd := dX7_is_32) (C := hX) rfl rfl ?_
      refine g_iconst (v := nI 1) hX dX7_is_33 (by decide) ?_
      refine g_icmp_neN 62 (hd := dX7_is_34) (C := hX) (by decide) (by omega) (by omega) (fun c_34 => ?_) (fun c_34 => ?_)
      · refine g_aload_n 0 (hd := dX7_is_62) (C := hX) rfl rfl ?_
        refine g_aload_n 0 (hd := dX7_is_63) (C := hX) rfl rfl ?_
        refine g_get (hd := dX7_is_64) (C := hX) 0 12 rfl rfl in_X7_is_7 (by decide) (by decide +kernel) rfl ?_
        refine g_callVs (rest := []) hX (c_X7_many l D cC cI cJ cO o ot on od ow oi oe op len ch va en (orC c (exC c) (2 ^ c 0)) (orC c (paC c) (2 ^ c 0)) (ltL c (2 ^ c 0)) T c rd ww wi_29 EX_29 PA_29 (orC c (paC c) (2 ^ c 0)) hok) ok_X7_many rfl 0 rfl rfl (hd := dX7_is_67) gX7_is_X7_many ⟨by decide, by decide⟩ rfl (Nat.le_of_ble_eq_true rfl) ⟨Nat.zero_le _, Nat.zero_le _⟩ [0, 1, 2, 3, 4, 5, 6, 7] (by decide) rfl rfl ?_
        intro r_67 e_67
        subst e_67
        show GW X [(o, .inr (7, [.int (nI len), .ref ot, .ref on, .ref od, .ref ow, .int (nI ch), .int (nI va), .int (nI en), .ref oi, .ref oe, .ref op, .long (orC c (exC c) (2 ^ c 0)), .long (orC c (paC c) (2 ^ c 0)), .long (ltL c (2 ^ c 0))])), (ot, .inl (cI, 200, .inl (fun j_ => nI (T j_)))), (on, .inl (cI, 78, .inl (fun j_ => nI (c j_)))), (od, .inl (cI, 78, .inl (fun j_ => nI (rd j_)))), (ow, .inl (cI, 468, .inl (fun j_ => nI (ww j_)))), (oi, .inl (cI, 32, .inl (fun j_ => nI (wi_29 j_)))), (oe, .inl (cJ, 256, .inr (.inl EX_29))), (op, .inl (cJ, 256, .inr (.inl PA_29)))] [(0, .ref o), (1, .int (nI kw))] [.int (nI (pcL ((orC c (paC c) (2 ^ c 0)) &&& alS c)))] 70 0 0
        have q8 := pcL_le (orC c (paC c) (2 ^ c 0) &&& alS c)
        refine g_if_neN 77 (hd := dX7_is_70) (C := hX) (by decide) (by omega) (fun c_70 => ?_) (fun c_70 => ?_)
        · refine g_iconst (v := nI 0) hX dX7_is_77 (by decide) ?_
          exact (hret ((nI 0), wi_29, EX_29, PA_29, orC c (exC c) (2 ^ c 0), orC c (paC c) (2 ^ c 0), ltL c (2 ^ c 0)) _ _ (is_2 (by omega) (by rw [if_neg (fun z => c_70 ((pc_pa hok).mpr z))]))).2.1 _ rfl rfl dX7_is_78
        · refine g_iconst (v := nI 1) hX dX7_is_73 (by decide) ?_
          refine g_goto 78 (hd := dX7_is_74) (C := hX) (by decide) ?_
          exact (hret ((nI 1), wi_29, EX_29, PA_29, orC c (exC c) (2 ^ c 0), orC c (paC c) (2 ^ c 0), ltL c (2 ^ c 0)) _ _ (is_2 (by omega) (by rw [if_pos ((pc_pa hok).mp c_70)]))).2.1 _ rfl rfl dX7_is_78
      · refine g_aload_n 0 (hd := dX7_is_37) (C := hX) rfl rfl ?_
        refine g_aload_n 0 (hd := dX7_is_38) (C := hX) rfl rfl ?_
        refine g_get (hd := dX7_is_39) (C := hX) 0 11 rfl rfl in_X7_is_7 (by decide) (by decide +kernel) rfl ?_
        refine g_callVs (rest := []) hX (c_X7_many l D cC cI cJ cO o ot on od ow oi oe op len ch va en (orC c (exC c) (2 ^ c 0)) (orC c (paC c) (2 ^ c 0)) (ltL c (2 ^ c 0)) T c rd ww wi_29 EX_29 PA_29 (orC c (exC c) (2 ^ c 0)) hok) ok_X7_many rfl 0 rfl rfl (hd := dX7_is_42) gX7_is_X7_many ⟨by decide, by decide⟩ rfl (Nat.le_of_ble_eq_true rfl) ⟨Nat.zero_le _, Nat.zero_le _⟩ [0, 1, 2, 3, 4, 5, 6, 7] (by decide) rfl rfl ?_
        intro r_42 e_42
        subst e_42
        show GW X [(o, .inr (7, [.int (nI len), .ref ot, .ref on, .ref od, .ref ow, .int (nI ch), .int (nI va), .int (nI en), .ref oi, .ref oe, .ref op, .long (orC c (exC c) (2 ^ c 0)), .long (orC c (paC c) (2 ^ c 0)), .long (ltL c (2 ^ c 0))])), (ot, .inl (cI, 200, .inl (fun j_ => nI (T j_)))), (on, .inl (cI, 78, .inl (fun j_ => nI (c j_)))), (od, .inl (cI, 78, .inl (fun j_ => nI (rd j_)))), (ow, .inl (cI, 468, .inl (fun j_ => nI (ww j_)))), (oi, .inl (cI, 32, .inl (fun j_ => nI (wi_29 j_)))), (oe, .inl (cJ, 256, .inr (.inl EX_29))), (op, .inl (cJ, 256, .inr (.inl PA_29)))] [(0, .ref o), (1, .int (nI kw))] [.int (nI (pcL ((orC c (exC c) (2 ^ c 0)) &&& alS c)))] 45 0 0
        have q8 := pcL_le (orC c (exC c) (2 ^ c 0) &&& alS c)
        refine g_iconst (v := nI 2) hX dX7_is_45 (by decide) ?_
        refine g_aload_n 0 (hd := dX7_is_46) (C := hX) rfl rfl ?_
        refine g_callVs (rest := [.int (nI 2), .int (nI (pcL ((orC c (exC c) (2 ^ c 0)) &&& alS c)))]) hX (c_X7_wires l D cC cI cJ cO o ot on od ow oi oe op len ch va en (orC c (exC c) (2 ^ c 0)) (orC c (paC c) (2 ^ c 0)) (ltL c (2 ^ c 0)) T c rd ww wi_29 EX_29 PA_29) ok_X7_wires rfl 0 rfl rfl (hd := dX7_is_47) gX7_is_X7_wires ⟨by decide, by decide⟩ rfl (Nat.le_of_ble_eq_true rfl) ⟨Nat.zero_le _, Nat.zero_le _⟩ [0, 1, 2, 3, 4, 5, 6, 7] (by decide) rfl rfl ?_
        intro r_47 e_47
        subst e_47
        show GW X [(o, .inr (7, [.int (nI len), .ref ot, .ref on, .ref od, .ref ow, .int (nI ch), .int (nI va), .int (nI en), .ref oi, .ref oe, .ref op, .long (orC c (exC c) (2 ^ c 0)), .long (orC c (paC c) (2 ^ c 0)), .long (ltL c (2 ^ c 0))])), (ot, .inl (cI, 200, .inl (fun j_ => nI (T j_)))), (on, .inl (cI, 78, .inl (fun j_ => nI (c j_)))), (od, .inl (cI, 78, .inl (fun j_ => nI (rd j_)))), (ow, .inl (cI, 468, .inl (fun j_ => nI (ww j_)))), (oi, .inl (cI, 32, .inl (fun j_ => nI (wi_29 j_)))), (oe, .inl (cJ, 256, .inr (.inl EX_29))), (op, .inl (cJ, 256, .inr (.inl PA_29)))] [(0, .ref o), (1, .int (nI kw))] [.int (nI (c 0 + c 1)), .int (nI 2), .int (nI (pcL ((orC c (exC c) (2 ^ c 0)) &&& alS c)))] 50 0 0
        refine g_imul hX dX7_is_50 ?_
        refine g_top (y := (nI (2 * (c 0 + c 1)))) (pk_mul _ _) ?_
        refine g_icmp_neN 58 (hd := dX7_is_51) (C := hX) (by decide) (by omega) (by omega) (fun c_51 => ?_) (fun c_51 => ?_)
        · refine g_iconst (v := nI 0) hX dX7_is_58 (by decide) ?_
          refine g_goto 78 (hd := dX7_is_59) (C := hX) (by decide) ?_
          exact (hret ((nI 0), wi_29, EX_29, PA_29, orC c (exC c) (2 ^ c 0), orC c (paC c) (2 ^ c 0), ltL c (2 ^ c 0)) _ _ (is_1 c_34 (by rw [if_neg (fun z => c_51 ((is1 hok).mpr z))]))).2.1 _ rfl rfl dX7_is_78
        · refine g_iconst (v := nI 1) hX dX7_is_54 (by decide) ?_
          refine g_goto 78 (hd := dX7_is_55) (C := hX) (by decide) ?_
          exact (hret ((nI 1), wi_29, EX_29, PA_29, orC c (exC c) (2 ^ c 0), orC c (paC c) (2 ^ c 0), ltL c (2 ^ c 0)) _ _ (is_1 c_34 (by rw [if_pos ((is1 hok).mp c_51)]))).2.1 _ rfl rfl dX7_is_78
    · refine g_aload_n 0 (hd := dX7_is_15) (C := hX) rfl rfl ?_
      refine g_callVp (rest := []) hX (c_X7_isDisjoint l D cC cI cJ cO o ot on od ow oi oe op len ch va en aE aP lt T c rd ww wi EX PA hok) ok_X7_isDisjoint rfl 0 rfl rfl (fun _ => rfl) (hd := dX7_is_16) gX7_is_X7_isDisjoint ⟨by decide, by decide⟩ rfl (Nat.le_of_ble_eq_true rfl) ⟨Nat.zero_le _, Nat.zero_le _⟩ [] rfl rfl ?_
      intro ⟨r_16, wi_16⟩ e_16
      simp only at e_16
      subst e_16
      show GW X [(o, .inr (7, [.int (nI len), .ref ot, .ref on, .ref od, .ref ow, .int (nI ch), .int (nI va), .int (nI en), .ref oi, .ref oe, .ref op, .long aE, .long aP, .long lt])), (ot, .inl (cI, 200, .inl (fun j_ => nI (T j_)))), (on, .inl (cI, 78, .inl (fun j_ => nI (c j_)))), (od, .inl (cI, 78, .inl (fun j_ => nI (rd j_)))), (ow, .inl (cI, 468, .inl (fun j_ => nI (ww j_)))), (oi, .inl (cI, 32, .inl (fun j_ => nI (wi_16 j_)))), (oe, .inl (cJ, 256, .inr (.inl EX))), (op, .inl (cJ, 256, .inr (.inl PA)))] [(0, .ref o), (1, .int (nI kw))] [.int (nI (dCC c (2 ^ c 0)))] 19 0 0
      have q8 := dCC_le c (2 ^ c 0)
      refine g_if_eqN 26 (hd := dX7_is_19) (C := hX) (by decide) (by omega) (fun c_19 => ?_) (fun c_19 => ?_)
      · refine g_iconst (v := nI 0) hX dX7_is_26 (by decide) ?_
        exact (hret ((nI 0), wi_16, EX, PA, aE, aP, lt) _ _ (is_0 c_12 (by have q9 := dCC_le c (2 ^ c 0); rw [show dCC c (2 ^ c 0) = 0 from by omega]))).2.1 _ rfl rfl dX7_is_27
      · refine g_iconst (v := nI 1) hX dX7_is_22 (by decide) ?_
        refine g_goto 27 (hd := dX7_is_23) (C := hX) (by decide) ?_
        exact (hret ((nI 1), wi_16, EX, PA, aE, aP, lt) _ _ (is_0 c_12 (by have q9 := dCC_le c (2 ^ c 0); rw [show dCC c (2 ^ c 0) = 1 from by omega]))).2.1 _ rfl rfl dX7_is_27
  · show GW X [(o, .inr (7, [.int (nI len), .ref ot, .ref on, .ref od, .ref ow, .int (nI ch), .int (nI va), .int (nI en), .ref oi, .ref oe, .ref op, .long aE, .long aP, .long lt])), (ot, .inl (cI, 200, .inl (fun j_ => nI (T j_)))), (on, .inl (cI, 78, .inl (fun j_ => nI (c j_)))), (od, .inl (cI, 78, .inl (fun j_ => nI (rd j_)))), (ow, .inl (cI, 468, .inl (fun j_ => nI (ww j_)))), (oi, .inl (cI, 32, .inl (fun j_ => nI (wi j_)))), (oe, .inl (cJ, 256, .inr (.inl EX))), (op, .inl (cJ, 256, .inr (.inl PA)))] [(0, .ref o), (1, .int wh)] [.int (nI 0)] 6 0 0
    refine g_if_neN 11 (hd := dX7_is_6) (C := hX) (by decide) (by decide) (fun c_6 => absurd c_6 (by decide)) (fun c_6 => ?_)
    refine g_iconst (v := (-1)) hX dX7_is_9 (by decide) ?_
    exact (hret ((-1), wi, EX, PA, aE, aP, lt) _ _ (Or.inr (Or.inr (Or.inr ⟨fun z => p_3 ((ii_k (by decide)).mpr z), rfl⟩)))).2.1 _ rfl rfl dX7_is_10

theorem in_X7_stucks_7 : ∀ w ∈ wsX70, w ∈ wsX7_stucks := fun _ h => List.mem_cons_of_mem _ (List.mem_append_right _ h)
theorem ok_X7_stucks : gOK yX7_stucks wsX7_stucks ({ frames := 3, cells := 0, slots := 0, locals := 77 }) 5 1 := ⟨⟨_, _, _, rfl⟩, rfl, rfl, by decide, by decide, by decide +kernel⟩
set_option maxRecDepth 100000 in
set_option maxHeartbeats 4000000 in
theorem c_X7_stucks (l : Launch) (D : va_G) (cC cI cJ cO : ClassId) (o : Nat) (ot : Nat) (on : Nat) (od : Nat) (ow : Nat) (oi : Nat) (oe : Nat) (op : Nat) (len : Nat) (ch : Nat) (va : Nat) (en : Nat) (aE : Int64) (aP : Int64) (lt : Int64) (T : Nat → Nat) (c : Nat → Nat) (rd : Nat → Nat) (ww : Nat → Nat) (wi : Nat → Nat) (EX : Nat → Int64) (PA : Nat → Int64) (wh : Int32) (hok : okC c) : CM (S := Int32 × (Nat → Nat) × (Nat → Int64) × (Nat → Int64) × Int64 × Int64 × Int64) l D (tyL cC cI cJ cO) yX7_stucks wsX7_stucks ({ frames := 3, cells := 0, slots := 0, locals := 77 }) [.ref o, .int wh] [(o, .inr (7, [.int (nI len), .ref ot, .ref on, .ref od, .ref ow, .int (nI ch), .int (nI va), .int (nI en), .ref oi, .ref oe, .ref op, .long aE, .long aP, .long lt])), (ot, .inl (cI, 200, .inl (fun j_ => nI (T j_)))), (on, .inl (cI, 78, .inl (fun j_ => nI (c j_)))), (od, .inl (cI, 78, .inl (fun j_ => nI (rd j_)))), (ow, .inl (cI, 468, .inl (fun j_ => nI (ww j_)))), (oi, .inl (cI, 32, .inl (fun j_ => nI (wi j_)))), (oe, .inl (cJ, 256, .inr (.inl EX))), (op, .inl (cJ, 256, .inr (.inl PA)))] (fun u => some (.int u.1)) (fun u => skR c wh u.1) (fun u_ => [(o, .inr (7, [.int (nI len), .ref ot, .ref on, .ref od, .ref ow, .int (nI ch), .int (nI va), .int (nI en), .ref oi, .ref oe, .ref op, .long u_.2.2.2.2.1, .long u_.2.2.2.2.2.1, .long u_.2.2.2.2.2.2])), (ot, .inl (cI, 200, .inl (fun j_ => nI (T j_)))), (on, .inl (cI, 78, .inl (fun j_ => nI (c j_)))), (od, .inl (cI, 78, .inl (fun j_ => nI (rd j_)))), (ow, .inl (cI, 468, .inl (fun j_ => nI (ww j_)))), (oi, .inl (cI, 32, .inl (fun j_ => nI (u_.2.1 j_)))), (oe, .inl (cJ, 256, .inr (.inl u_.2.2.1))), (op, .inl (cJ, 256, .inr (.inl u_.2.2.2.1)))]) := by
  refine CM_in (cc := cX7_stucks) (maxL := 5) (ret := (some .int)) (by decide) rfl (Nat.le_of_ble_eq_true rfl) ?_
  intro X hX hret
  show GW X [(o, .inr (7, [.int (nI len), .ref ot, .ref on, .ref od, .ref ow, .int (nI ch), .int (nI va), .int (nI en), .ref oi, .ref oe, .ref op, .long aE, .long aP, .long lt])), (ot, .inl (cI, 200, .inl (fun j_ => nI (T j_)))), (on, .inl (cI, 78, .inl (fun j_ => nI (c j_)))), (od, .inl (cI, 78, .inl (fun j_ => nI (rd j_)))), (ow, .inl (cI, 468, .inl (fun j_ => nI (ww j_)))), (oi, .inl (cI, 32, .inl (fun j_ => nI (wi j_)))), (oe, .inl (cJ, 256, .inr (.inl EX))), (op, .inl (cJ, 256, .inr (.inl PA)))] [(0, .ref o), (1, .int wh)] [] 0 0 0
  have b0 := hok.2.1
  have b1 := hok.2.2.1
  have hp2 := p2_8 b0
  have hcd := hok.2.2.2.2.2.1
  refine g_iload_n 1 (hd := dX7_stucks_0) (C := hX) rfl rfl ?_
  refine g_iconst (v := nI 0) hX dX7_stucks_1 (by decide) ?_
  refine g_iconst (v := nI 5) hX dX7_stucks_2 (by decide) ?_
  refine g_callS (rest := []) hX (c_X7_isIn l D cC cI cJ cO wh (nI 0) (nI 5)) ok_X7_isIn (fun _ => rfl) (hd := dX7_stucks_3) gX7_stucks_X7_isIn ⟨by decide, by decide⟩ rfl (Nat.le_of_ble_eq_true rfl) ⟨Nat.zero_le _, Nat.zero_le _⟩ [] (by decide) rfl rfl ?_
  intro r_3 e_3
  rcases e_3 with ⟨rfl, p_3⟩ | ⟨rfl, p_3⟩
  · show GW X [(o, .inr (7, [.int (nI len), .ref ot, .ref on, .ref od, .ref ow, .int (nI ch), .int (nI va), .int (nI en), .ref oi, .ref oe, .ref op, .long aE, .long aP, .long lt])), (ot, .inl (cI, 200, .inl (fun j_ => nI (T j_)))), (on, .inl (cI, 78, .inl (fun j_ => nI (c j_)))), (od, .inl (cI, 78, .inl (fun j_ => nI (rd j_)))), (ow, .inl (cI, 468, .inl (fun j_ => nI (ww j_)))), (oi, .inl (cI, 32, .inl (fun j_ => nI (wi j_)))), (oe, .inl (cJ, 256, .inr (.inl EX))), (op, .inl (cJ, 256, .inr (.inl PA)))] [(0, .ref o), (1, .int wh)] [.int (nI 1)] 6 0 0
    refine g_if_neN 11 (hd := dX7_stucks_6) (C := hX) (by decide) (by decide) (fun c_6 => ?_) (fun c_6 => absurd c_6 (by decide))
    obtain ⟨kw, hkw, rfl⟩ := ii_nat (by decide) p_3
    rcases (show kw = 0 ∨ kw = 1 ∨ kw = 2 ∨ kw = 3 ∨ kw = 4 ∨ kw = 5 by omega) with rfl | rfl | rfl | rfl | rfl | rfl
    · refine g_aload_n 0 (hd := dX7_stucks_11) (C := hX) rfl rfl ?_
      refine g_callVp (rest := []) hX (c_X7_looks l D cC cI cJ cO o ot on od ow oi oe op len ch va en aE aP lt T c rd ww wi EX PA hok) ok_X7_looks rfl 0 rfl rfl (fun _ => rfl) (hd := dX7_stucks_12) gX7_stucks_X7_looks ⟨by decide, by decide⟩ rfl (Nat.le_of_ble_eq_true rfl) ⟨Nat.zero_le _, Nat.zero_le _⟩ [] rfl rfl ?_
      intro ⟨wi_12, EX_12, PA_12⟩ hx_12
      simp only at hx_12
      show GW X [(o, .inr (7, [.int (nI len), .ref ot, .ref on, .ref od, .ref ow, .int (nI ch), .int (nI va), .int (nI en), .ref oi, .ref oe, .ref op, .long (orC c (exC c) (2 ^ c 0)), .long (orC c (paC c) (2 ^ c 0)), .long (ltL c (2 ^ c 0))])), (ot, .inl (cI, 200, .inl (fun j_ => nI (T j_)))), (on, .inl (cI, 78, .inl (fun j_ => nI (c j_)))), (od, .inl (cI, 78, .inl (fun j_ => nI (rd j_)))), (ow, .inl (cI, 468, .inl (fun j_ => nI (ww j_)))), (oi, .inl (cI, 32, .inl (fun j_ => nI (wi_12 j_)))), (oe, .inl (cJ, 256, .inr (.inl EX_12))), (op, .inl (cJ, 256, .inr (.inl PA_12)))] [(0, .ref o), (1, .int (nI 0))] [] 15 0 0
      refine g_iload_n 1 (hd := dX7_stucks_15) (C := hX) rfl rfl ?_
      refine g_iconst (v := nI 3) hX dX7_stucks_16 (by decide) ?_
      refine g_irem hX dX7_stucks_17 (by decide) ?_
      refine g_top (y := (nI 0)) (by decide) ?_
      refine g_if_neN 32 (hd := dX7_stucks_18) (C := hX) (by decide) (by decide) (fun c_18 => absurd c_18 (by decide)) (fun c_18 => ?_)
      refine g_aload_n 0 (hd := dX7_stucks_21) (C := hX) rfl rfl ?_
      refine g_get (hd := dX7_stucks_22) (C := hX) 0 11 rfl rfl in_X7_stucks_7 (by decide) (by decide +kernel) rfl ?_
      refine g_ldc2 (v := (-1)) hX dX7_stucks_25 (by decide +kernel) ?_
      refine g_lxor hX dX7_stucks_28 ?_
      refine g_goto 50 (hd := dX7_stucks_29) (C := hX) (by decide) ?_
      refine g_topl (y := skX c 0) rfl ?_
      refine g_lstore_n [(0, .ref o), (1, .int (nI 0)), (2, .long (skX c 0))] [1, 2, 0] (hd := dX7_stucks_50) (C := hX) rfl (by decide) rfl ?_
      refine g_iload_n 1 (hd := dX7_stucks_51) (C := hX) rfl rfl ?_
      refine g_iconst (v := nI 3) hX dX7_stucks_52 (by decide) ?_
      refine g_icmp_geN 62 (hd := dX7_stucks_53) (C := hX) (by decide) (by decide) (by decide) (fun c_53 => absurd c_53 (by decide)) (fun c_53 => ?_)
      refine g_aload_n 0 (hd := dX7_stucks_56) (C := hX) rfl rfl ?_
      refine g_lload_n 2 (hd := dX7_stucks_57) (C := hX) rfl rfl ?_
      refine g_callVs (rest := []) hX (c_X7_many l D cC cI cJ cO o ot on od ow oi oe op len ch va en (orC c (exC c) (2 ^ c 0)) (orC c (paC c) (2 ^ c 0)) (ltL c (2 ^ c 0)) T c rd ww wi_12 EX_12 PA_12 (skX c 0) hok) ok_X7_many rfl 0 rfl rfl (hd := dX7_stucks_58) gX7_stucks_X7_many ⟨by decide, by decide⟩ rfl (Nat.le_of_ble_eq_true rfl) ⟨Nat.zero_le _, Nat.zero_le _⟩ [0, 1, 2, 3, 4, 5, 6, 7] (by decide) rfl rfl ?_
      intro r_58 e_58
      subst e_58
      show GW X [(o, .inr (7, [.int (nI len), .ref ot, .ref on, .ref od, .ref ow, .int (nI ch), .int (nI va), .int (nI en), .ref oi, .ref oe, .ref op, .long (orC c (exC c) (2 ^ c 0)), .long (orC c (paC c) (2 ^ c 0)), .long (ltL c (2 ^ c 0))])), (ot, .inl (cI, 200, .inl (fun j_ => nI (T j_)))), (on, .inl (cI, 78, .inl (fun j_ => nI (c j_)))), (od, .inl (cI, 78, .inl (fun j_ => nI (rd j_)))), (ow, .inl (cI, 468, .inl (fun j_ => nI (ww j_)))), (oi, .inl (cI, 32, .inl (fun j_ => nI (wi_12 j_)))), (oe, .inl (cJ, 256, .inr (.inl EX_12))), (op, .inl (cJ, 256, .inr (.inl PA_12)))] [(0, .ref o), (1, .int (nI 0)), (2, .long (skX c 0))] [.int (nI (pcL ((skX c 0) &&& alS c)))] 61 0 0
      exact (hret ((nI (pcL ((skX c 0) &&& alS c))), wi_12, EX_12, PA_12, orC c (exC c) (2 ^ c 0), orC c (paC c) (2 ^ c 0), ltL c (2 ^ c 0)) _ _ (sk_lo hok (by decide) rfl)).2.1 _ rfl rfl dX7_stucks_61
    · refine g_aload_n 0 (hd := dX7_stucks_11) (C := hX) rfl rfl ?_
      refine g_callVp (rest := []) hX (c_X7_looks l D cC cI cJ cO o ot on od ow oi oe op len ch va en aE aP lt T c rd ww wi EX PA hok) ok_X7_looks rfl 0 rfl rfl (fun _ => rfl) (hd := dX7_stucks_12) gX7_stucks_X7_looks ⟨by decide, by decide⟩ rfl (Nat.le_of_ble_eq_true rfl) ⟨Nat.zero_le _, Nat.zero_le _⟩ [] rfl rfl ?_
      intro ⟨wi_12, EX_12, PA_12⟩ hx_12
      simp only at hx_12
      show GW X [(o, .inr (7, [.int (nI len), .ref ot, .ref on, .ref od, .ref ow, .int (nI ch), .int (nI va), .int (nI en), .ref oi, .ref oe, .ref op, .long (orC c (exC c) (2 ^ c 0)), .long (orC c (paC c) (2 ^ c 0)), .long (ltL c (2 ^ c 0))])), (ot, .inl (cI, 200, .inl (fun j_ => nI (T j_)))), (on, .inl (cI, 78, .inl (fun j_ => nI (c j_)))), (od, .inl (cI, 78, .inl (fun j_ => nI (rd j_)))), (ow, .inl (cI, 468, .inl (fun j_ => nI (ww j_)))), (oi, .inl (cI, 32, .inl (fun j_ => nI (wi_12 j_)))), (oe, .inl (cJ, 256, .inr (.inl EX_12))), (op, .inl (cJ, 256, .inr (.inl PA_12)))] [(0, .ref o), (1, .int (nI 1))] [] 15 0 0
      refine g_iload_n 1 (hd := dX7_stucks_15) (C := hX) rfl rfl ?_
      refine g_iconst (v := nI 3) hX dX7_stucks_16 (by decide) ?_
      refine g_irem hX dX7_stucks_17 (by decide) ?_
      refine g_top (y := (nI 1)) (by decide) ?_
      refine g_if_neN 32 (hd := dX7_stucks_18) (C := hX) (by decide) (by decide) (fun c_18 => ?_) (fun c_18 => absurd c_18 (by decide))
      refine g_iload_n 1 (hd := dX7_stucks_32) (C := hX) rfl rfl ?_
      refine g_iconst (v := nI 3) hX dX7_stucks_33 (by decide) ?_
      refine g_irem hX dX7_stucks_34 (by decide) ?_
      refine g_top (y := (nI 1)) (by decide) ?_
      refine g_iconst (v := nI 1) hX dX7_stucks_35 (by decide) ?_
      refine g_icmp_neN 46 (hd := dX7_stucks_36) (C := hX) (by decide) (by decide) (by decide) (fun c_36 => absurd c_36 (by decide)) (fun c_36 => ?_)
      refine g_aload_n 0 (hd := dX7_stucks_39) (C := hX) rfl rfl ?_
      refine g_get (hd := dX7_stucks_40) (C := hX) 0 13 rfl rfl in_X7_stucks_7 (by decide) (by decide +kernel) rfl ?_
      refine g_goto 50 (hd := dX7_stucks_43) (C := hX) (by decide) ?_
      refine g_topl (y := skX c 1) rfl ?_
      refine g_lstore_n [(0, .ref o), (1, .int (nI 1)), (2, .long (skX c 1))] [1, 2, 0] (hd := dX7_stucks_50) (C := hX) rfl (by decide) rfl ?_
      refine g_iload_n 1 (hd := dX7_stucks_51) (C := hX) rfl rfl ?_
      refine g_iconst (v := nI 3) hX dX7_stucks_52 (by decide) ?_
      refine g_icmp_geN 62 (hd := dX7_stucks_53) (C := hX) (by decide) (by decide) (by decide) (fun c_53 => absurd c_53 (by decide)) (fun c_53 => ?_)
      refine g_aload_n 0 (hd := dX7_stucks_56) (C := hX) rfl rfl ?_
      refine g_lload_n 2 (hd := dX7_stucks_57) (C := hX) rfl rfl ?_
      refine g_callVs (rest := []) hX (c_X7_many l D cC cI cJ cO o ot on od ow oi oe op len ch va en (orC c (exC c) (2 ^ c 0)) (orC c (paC c) (2 ^ c 0)) (ltL c (2 ^ c 0)) T c rd ww wi_12 EX_12 PA_12 (skX c 1) hok) ok_X7_many rfl 0 rfl rfl (hd := dX7_stucks_58) gX7_stucks_X7_many ⟨by decide, by decide⟩ rfl (Nat.le_of_ble_eq_true rfl) ⟨Nat.zero_le _, Nat.zero_le _⟩ [0, 1, 2, 3, 4, 5, 6, 7] (by decide) rfl rfl ?_
      intro r_58 e_58
      subst e_58
      show GW X [(o, .inr (7, [.int (nI len), .ref ot, .ref on, .ref od, .ref ow, .int (nI ch), .int (nI va), .int (nI en), .ref oi, .ref oe, .ref op, .long (orC c (exC c) (2 ^ c 0)), .long (orC c (paC c) (2 ^ c 0)), .long (ltL c (2 ^ c 0))])), (ot, .inl (cI, 200, .inl (fun j_ => nI (T j_)))), (on, .inl (cI, 78, .inl (fun j_ => nI (c j_)))), (od, .inl (cI, 78, .inl (fun j_ => nI (rd j_)))), (ow, .inl (cI, 468, .inl (fun j_ => nI (ww j_)))), (oi, .inl (cI, 32, .inl (fun j_ => nI (wi_12 j_)))), (oe, .inl (cJ, 256, .inr (.inl EX_12))), (op, .inl (cJ, 256, .inr (.inl PA_12)))] [(0, .ref o), (1, .int (nI 1)), (2, .long (skX c 1))] [.int (nI (pcL ((skX c 1) &&& alS c)))] 61 0 0
      exact (hret ((nI (pcL ((skX c 1) &&& alS c))), wi_12, EX_12, PA_12, orC c (exC c) (2 ^ c 0), orC c (paC c) (2 ^ c 0), ltL c (2 ^ c 0)) _ _ (sk_lo hok (by decide) rfl)).2.1 _ rfl rfl dX7_stucks_61
    · refine g_aload_n 0 (hd := dX7_stucks_11) (C := hX) rfl rfl ?_
      refine g_callVp (rest := []) hX (c_X7_looks l D cC cI cJ cO o ot on od ow oi oe op len ch va en aE aP lt T c rd ww wi EX PA hok) ok_X7_looks rfl 0 rfl rfl (fun _ => rfl) (hd := dX7_stucks_12) gX7_stucks_X7_looks ⟨by decide, by decide⟩ rfl (Nat.le_of_ble_eq_true rfl) ⟨Nat.zero_le _, Nat.zero_le _⟩ [] rfl rfl ?_
      intro ⟨wi_12, EX_12, PA_12⟩ hx_12
      simp only at hx_12
      show GW X [(o, .inr (7, [.int (nI len), .ref ot, .ref on, .ref od, .ref ow, .int (nI ch), .int (nI va), .int (nI en), .ref oi, .ref oe, .ref op, .long (orC c (exC c) (2 ^ c 0)), .long (orC c (paC c) (2 ^ c 0)), .long (ltL c (2 ^ c 0))])), (ot, .inl (cI, 200, .inl (fun j_ => nI (T j_)))), (on, .inl (cI, 78, .inl (fun j_ => nI (c j_)))), (od, .inl (cI, 78, .inl (fun j_ => nI (rd j_)))), (ow, .inl (cI, 468, .inl (fun j_ => nI (ww j_)))), (oi, .inl (cI, 32, .inl (fun j_ => nI (wi_12 j_)))), (oe, .inl (cJ, 256, .inr (.inl EX_12))), (op, .inl (cJ, 256, .inr (.inl PA_12)))] [(0, .ref o), (1, .int (nI 2))] [] 15 0 0
      refine g_iload_n 1 (hd := dX7_stucks_15) (C := hX) rfl rfl ?_
      refine g_iconst (v := nI 3) hX dX7_stucks_16 (by decide) ?_
      refine g_irem hX dX7_stucks_17 (by decide) ?_
      refine g_top (y := (nI 2)) (by decide) ?_
      refine g_if_neN 32 (hd := dX7_stucks_18) (C := hX) (by decide) (by decide) (fun c_18 => ?_) (fun c_18 => absurd c_18 (by decide))
      refine g_iload_n 1 (hd := dX7_stucks_32) (C := hX) rfl rfl ?_
      refine g_iconst (v := nI 3) hX dX7_stucks_33 (by decide) ?_
      refine g_irem hX dX7_stucks_34 (by decide) ?_
      refine g_top (y := (nI 2)) (by decide) ?_
      refine g_iconst (v := nI 1) hX dX7_stucks_35 (by decide) ?_
      refine g_icmp_neN 46 (hd := dX7_stucks_36) (C := hX) (by decide) (by decide) (by decide) (fun c_36 => ?_) (fun c_36 => absurd c_36 (by decide))
      refine g_aload_n 0 (hd := dX7_stucks_46) (C := hX) rfl rfl ?_
      refine g_get (hd := dX7_stucks_47) (C := hX) 0 12 rfl rfl in_X7_stucks_7 (by decide) (by decide +kernel) rfl ?_
      refine g_topl (y := skX c 2) rfl ?_
      refine g_lstore_n [(0, .ref o), (1, .int (nI 2)), (2, .long (skX c 2))] [1, 2, 0] (hd := dX7_stucks_50) (C := hX) rfl (by decide) rfl ?_
      refine g_iload_n 1 (hd := dX7_stucks_51) (C := hX) rfl rfl ?_
      refine g_iconst (v := nI 3) hX dX7_stucks_52 (by decide) ?_
      refine g_icmp_geN 62 (hd := dX7_stucks_53) (C := hX) (by decide) (by decide) (by decide) (fun c_53 => absurd c_53 (by decide)) (fun c_53 => ?_)
      refine g_aload_n 0 (hd := dX7_stucks_56) (C := hX) rfl rfl ?_
      refine g_lload_n 2 (hd := dX7_stucks_57) (C := hX) rfl rfl ?_
      refine g_callVs (rest := []) hX (c_X7_many l D cC cI cJ cO o ot on od ow oi oe op len ch va en (orC c (exC c) (2 ^ c 0)) (orC c (paC c) (2 ^ c 0)) (ltL c (2 ^ c 0)) T c rd ww wi_12 EX_12 PA_12 (skX c 2) hok) ok_X7_many rfl 0 rfl rfl (hd := dX7_stucks_58) gX7_stucks_X7_many ⟨by decide, by decide⟩ rfl (Nat.le_of_ble_eq_true rfl) ⟨Nat.zero_le _, Nat.zero_le _⟩ [0, 1, 2, 3, 4, 5, 6, 7] (by decide) rfl rfl ?_
      intro r_58 e_58
      subst e_58
      show GW X [(o, .inr (7, [.int (nI len), .ref ot, .ref on, .ref od, .ref ow, .int (nI ch), .int (nI va), .int (nI en), .ref oi, .ref oe, .ref op, .long (orC c (exC c) (2 ^ c 0)), .long (orC c (paC c) (2 ^ c 0)), .long (ltL c (2 ^ c 0))])), (ot, .inl (cI, 200, .inl (fun j_ => nI (T j_)))), (on, .inl (cI, 78, .inl (fun j_ => nI (c j_)))), (od, .inl (cI, 78, .inl (fun j_ => nI (rd j_)))), (ow, .inl (cI, 468, .inl (fun j_ => nI (ww j_)))), (oi, .inl (cI, 32, .inl (fun j_ => nI (wi_12 j_)))), (oe, .inl (cJ, 256, .inr (.inl EX_12))), (op, .inl (cJ, 256, .inr (.inl PA_12)))] [(0, .ref o), (1, .int (nI 2)), (2, .long (skX c 2))] [.int (nI (pcL ((skX c 2) &&& alS c)))] 61 0 0
      exact (hret ((nI (pcL ((skX c 2) &&& alS c))), wi_12, EX_12, PA_12, orC c (exC c) (2 ^ c 0), orC c (paC c) (2 ^ c 0), ltL c (2 ^ c 0)) _ _ (sk_lo hok (by decide) rfl)).2.1 _ rfl rfl dX7_stucks_61
    · refine g_aload_n 0 (hd := dX7_stucks_11) (C := hX) rfl rfl ?_
      refine g_callVp (rest := []) hX (c_X7_looks l D cC cI cJ cO o ot on od ow oi oe op len ch va en aE aP lt T c rd ww wi EX PA hok) ok_X7_looks rfl 0 rfl rfl (fun _ => rfl) (hd := dX7_stucks_12) gX7_stucks_X7_looks ⟨by decide, by decide⟩ rfl (Nat.le_of_ble_eq_true rfl) ⟨Nat.zero_le _, Nat.zero_le _⟩ [] rfl rfl ?_
      intro ⟨wi_12, EX_12, PA_12⟩ hx_12
      simp only at hx_12
      show GW X [(o, .inr (7, [.int (nI len), .ref ot, .ref on, .ref od, .ref ow, .int (nI ch), .int (nI va), .int (nI en), .ref oi, .ref oe, .ref op, .long (orC c (exC c) (2 ^ c 0)), .long (orC c (paC c) (2 ^ c 0)), .long (ltL c (2 ^ c 0))])), (ot, .inl (cI, 200, .inl (fun j_ => nI (T j_)))), (on, .inl (cI, 78, .inl (fun j_ => nI (c j_)))), (od, .inl (cI, 78, .inl (fun j_ => nI (rd j_)))), (ow, .inl (cI, 468, .inl (fun j_ => nI (ww j_)))), (oi, .inl (cI, 32, .inl (fun j_ => nI (wi_12 j_)))), (oe, .inl (cJ, 256, .inr (.inl EX_12))), (op, .inl (cJ, 256, .inr (.inl PA_12)))] [(0, .ref o), (1, .int (nI 3))] [] 15 0 0
      refine g_iload_n 1 (hd := dX7_stucks_15) (C := hX) rfl rfl ?_
      refine g_iconst (v := nI 3) hX dX7_stucks_16 (by decide) ?_
      refine g_irem hX dX7_stucks_17 (by decide) ?_
      refine g_top (y := (nI 0)) (by decide) ?_
      refine g_if_neN 32 (hd := dX7_stucks_18) (C := hX) (by decide) (by decide) (fun c_18 => absurd c_18 (by decide)) (fun c_18 => ?_)
      refine g_aload_n 0 (hd := dX7_stucks_21) (C := hX) rfl rfl ?_
      refine g_get (hd := dX7_stucks_22) (C := hX) 0 11 rfl rfl in_X7_stucks_7 (by decide) (by decide +kernel) rfl ?_
      refine g_ldc2 (v := (-1)) hX dX7_stucks_25 (by decide +kernel) ?_
      refine g_lxor hX dX7_stucks_28 ?_
      refine g_goto 50 (hd := dX7_stucks_29) (C := hX) (by decide) ?_
      refine g_topl (y := skX c 3) rfl ?_
      refine g_lstore_n [(0, .ref o), (1, .int (nI 3)), (2, .long (skX c 3))] [1, 2, 0] (hd := dX7_stucks_50) (C := hX) rfl (by decide) rfl ?_
      refine g_iload_n 1 (hd := dX7_stucks_51) (C := hX) rfl rfl ?_
      refine g_iconst (v := nI 3) hX dX7_stucks_52 (by decide) ?_
      refine g_icmp_geN 62 (hd := dX7_stucks_53) (C := hX) (by decide) (by decide) (by decide) (fun c_53 => ?_) (fun c_53 => absurd c_53 (by decide))
      refine g_iconst (v := nI 0) hX dX7_stucks_62 (by decide) ?_
      refine g_istore [(0, .ref o), (1, .int (nI 3)), (2, .long (skX c 3)), (4, .int (nI 0))] [1, 2, 3, 0] (hd := dX7_stucks_63) (C := hX) (by decide) rfl ?_
      have L_65 : ∀ (n_65 : Nat) (t : Nat), 2 * (c 0 + c 1) - t < n_65 → (t ≤ 2 * (c 0 + c 1)) → (∀ j, j < t → ¬ tb (skX c 3) j = 1) → GW X [(o, .inr (7, [.int (nI len), .ref ot, .ref on, .ref od, .ref ow, .int (nI ch), .int (nI va), .int (nI en), .ref oi, .ref oe, .ref op, .long (orC c (exC c) (2 ^ c 0)), .long (orC c (paC c) (2 ^ c 0)), .long (ltL c (2 ^ c 0))])), (ot, .inl (cI, 200, .inl (fun j_ => nI (T j_)))), (on, .inl (cI, 78, .inl (fun j_ => nI (c j_)))), (od, .inl (cI, 78, .inl (fun j_ => nI (rd j_)))), (ow, .inl (cI, 468, .inl (fun j_ => nI (ww j_)))), (oi, .inl (cI, 32, .inl (fun j_ => nI (wi_12 j_)))), (oe, .inl (cJ, 256, .inr (.inl EX_12))), (op, .inl (cJ, 256, .inr (.inl PA_12)))] [(0, .ref o), (1, .int (nI 3)), (2, .long (skX c 3)), (4, .int (nI t))] [] 65 0 0 := by
        intro n_65
        induction n_65 with
        | zero => intro t hm_65; exact absurd hm_65 (Nat.not_lt_zero _)
        | succ n_65 ih_65 =>
          intro t hm_65 htL hno
          refine g_iload 3 (hd := dX7_stucks_65) (C := hX) rfl ?_
          refine g_iconst (v := nI 2) hX dX7_stucks_67 (by decide) ?_
          refine g_aload_n 0 (hd := dX7_stucks_68) (C := hX) rfl rfl ?_
          refine g_callVs (rest := [.int (nI 2), .int (nI t)]) hX (c_X7_wires l D cC cI cJ cO o ot on od ow oi oe op len ch va en (orC c (exC c) (2 ^ c 0)) (orC c (paC c) (2 ^ c 0)) (ltL c (2 ^ c 0)) T c rd ww wi_12 EX_12 PA_12) ok_X7_wires rfl 0 rfl rfl (hd := dX7_stucks_69) gX7_stucks_X7_wires ⟨by decide, by decide⟩ rfl (Nat.le_of_ble_eq_true rfl) ⟨Nat.zero_le _, Nat.zero_le _⟩ [0, 1, 2, 3, 4, 5, 6, 7] (by decide) rfl rfl ?_
          intro r_69 e_69
          subst e_69
          show GW X [(o, .inr (7, [.int (nI len), .ref ot, .ref on, .ref od, .ref ow, .int (nI ch), .int (nI va), .int (nI en), .ref oi, .ref oe, .ref op, .long (orC c (exC c) (2 ^ c 0)), .long (orC c (paC c) (2 ^ c 0)), .long (ltL c (2 ^ c 0))])), (ot, .inl (cI, 200, .inl (fun j_ => nI (T j_)))), (on, .inl (cI, 78, .inl (fun j_ => nI (c j_)))), (od, .inl (cI, 78, .inl (fun j_ => nI (rd j_)))), (ow, .inl (cI, 468, .inl (fun j_ => nI (ww j_)))), (oi, .inl (cI, 32, .inl (fun j_ => nI (wi_12 j_)))), (oe, .inl (cJ, 256, .inr (.inl EX_12))), (op, .inl (cJ, 256, .inr (.inl PA_12)))] [(0, .ref o), (1, .int (nI 3)), (2, .long (skX c 3)), (4, .int (nI t))] [.int (nI (c 0 + c 1)), .int (nI 2), .int (nI t)] 72 0 0
          refine g_imul hX dX7_stucks_72 ?_
          refine g_top (y := (nI (2 * (c 0 + c 1)))) (pk_mul _ _) ?_
          refine g_icmp_geN 94 (hd := dX7_stucks_73) (C := hX) (by decide) (by omega) (by omega) (fun c_73 => ?_) (fun c_73 => ?_)
          · refine g_bipush (v := (-4)) hX dX7_stucks_94 (by decide) ?_
            exact (hret ((-4), wi_12, EX_12, PA_12, orC c (exC c) (2 ^ c 0), orC c (paC c) (2 ^ c 0), ltL c (2 ^ c 0)) _ _ (sk_hi hok (by decide) (by decide) (sk_n hok (fun j hj => hno j (by omega)) rfl))).2.1 _ rfl rfl dX7_stucks_96
          · refine g_lload_n 2 (hd := dX7_stucks_76) (C := hX) rfl rfl ?_
            refine g_iload 3 (hd := dX7_stucks_77) (C := hX) rfl ?_
            refine g_callS (rest := []) hX (c_X7_has l D cC cI cJ cO (skX c 3) t (by omega)) ok_X7_has (fun _ => rfl) (hd := dX7_stucks_79) gX7_stucks_X7_has ⟨by decide, by decide⟩ rfl (Nat.le_of_ble_eq_true rfl) ⟨Nat.zero_le _, Nat.zero_le _⟩ [] (by decide) rfl rfl ?_
            intro r_79 e_79
            rcases e_79 with ⟨rfl, p_79⟩ | ⟨rfl, p_79⟩
            · show GW X [(o, .inr (7, [.int (nI len), .ref ot, .ref on, .ref od, .ref ow, .int (nI ch), .int (nI va), .int (nI en), .ref oi, .ref oe, .ref op, .long (orC c (exC c) (2 ^ c 0)), .long (orC c (paC c) (2 ^ c 0)), .long (ltL c (2 ^ c 0))])), (ot, .inl (cI, 200, .inl (fun j_ => nI (T j_)))), (on, .inl (cI, 78, .inl (fun j_ => nI (c j_)))), (od, .inl (cI, 78, .inl (fun j_ => nI (rd j_)))), (ow, .inl (cI, 468, .inl (fun j_ => nI (ww j_)))), (oi, .inl (cI, 32, .inl (fun j_ => nI (wi_12 j_)))), (oe, .inl (cJ, 256, .inr (.inl EX_12))), (op, .inl (cJ, 256, .inr (.inl PA_12)))] [(0, .ref o), (1, .int (nI 3)), (2, .long (skX c 3)), (4, .int (nI t))] [.int (nI 1)] 82 0 0
              refine g_if_eqN 88 (hd := dX7_stucks_82) (C := hX) (by decide) (by decide) (fun c_82 => absurd c_82 (by decide)) (fun c_82 => ?_)
              refine g_iload 3 (hd := dX7_stucks_85) (C := hX) rfl ?_
              exact (hret ((nI t), wi_12, EX_12, PA_12, orC c (exC c) (2 ^ c 0), orC c (paC c) (2 ^ c 0), ltL c (2 ^ c 0)) _ _ (sk_hi hok (by decide) (by decide) (sk_f hok c_73 p_79 hno rfl))).2.1 _ rfl rfl dX7_stucks_87
            · show GW X [(o, .inr (7, [.int (nI len), .ref ot, .ref on, .ref od, .ref ow, .int (nI ch), .int (nI va), .int (nI en), .ref oi, .ref oe, .ref op, .long (orC c (exC c) (2 ^ c 0)), .long (orC c (paC c) (2 ^ c 0)), .long (ltL c (2 ^ c 0))])), (ot, .inl (cI, 200, .inl (fun j_ => nI (T j_)))), (on, .inl (cI, 78, .inl (fun j_ => nI (c j_)))), (od, .inl (cI, 78, .inl (fun j_ => nI (rd j_)))), (ow, .inl (cI, 468, .inl (fun j_ => nI (ww j_)))), (oi, .inl (cI, 32, .inl (fun j_ => nI (wi_12 j_)))), (oe, .inl (cJ, 256, .inr (.inl EX_12))), (op, .inl (cJ, 256, .inr (.inl PA_12)))] [(0, .ref o), (1, .int (nI 3)), (2, .long (skX c 3)), (4, .int (nI t))] [.int (nI 0)] 82 0 0
              refine g_if_eqN 88 (hd := dX7_stucks_82) (C := hX) (by decide) (by decide) (fun c_82 => ?_) (fun c_82 => absurd c_82 (by decide))
              refine g_iinc (v := (nI (t + 1))) 3 [(0, .ref o), (1, .int (nI 3)), (2, .long (skX c 3)), (4, .int (nI (t + 1)))] [1, 2, 3, 0] (hd := dX7_stucks_88) (C := hX) rfl (nI_1 _) (by decide) rfl ?_
              refine g_goto 65 (hd := dX7_stucks_91) (C := hX) (by decide) ?_
              exact ih_65 (t + 1) (by omega) (by omega) (fun j hj => by rcases Nat.lt_or_ge j t with q | q; exact hno j q; rw [show j = t from by omega]; exact p_79)
      exact L_65 _ 0 (Nat.lt_succ_self _) (Nat.zero_le _) (fun j h => absurd h (Nat.not_lt_zero j))
    · refine g_aload_n 0 (hd := dX7_stucks_11) (C := hX) rfl rfl ?_
      refine g_callVp (rest := []) hX (c_X7_looks l D cC cI cJ cO o ot on od ow oi oe op len ch va en aE aP lt T c rd ww wi EX PA hok) ok_X7_looks rfl 0 rfl rfl (fun _ => rfl) (hd := dX7_stucks_12) gX7_stucks_X7_looks ⟨by decide, by decide⟩ rfl (Nat.le_of_ble_eq_true rfl) ⟨Nat.zero_le _, Nat.zero_le _⟩ [] rfl rfl ?_
      intro ⟨wi_12, EX_12, PA_12⟩ hx_12
      simp only at hx_12
      show GW X [(o, .inr (7, [.int (nI len), .ref ot, .ref on, .ref od, .ref ow, .int (nI ch), .int (nI va), .int (nI en), .ref oi, .ref oe, .ref op, .long (orC c (exC c) (2 ^ c 0)), .long (orC c (paC c) (2 ^ c 0)), .long (ltL c (2 ^ c 0))])), (ot, .inl (cI, 200, .inl (fun j_ => nI (T j_)))), (on, .inl (cI, 78, .inl (fun j_ => nI (c j_)))), (od, .inl (cI, 78, .inl (fun j_ => nI (rd j_)))), (ow, .inl (cI, 468, .inl (fun j_ => nI (ww j_)))), (oi, .inl (cI, 32, .inl (fun j_ => nI (wi_12 j_)))), (oe, .inl (cJ, 256, .inr (.inl EX_12))), (op, .inl (cJ, 256, .inr (.inl PA_12)))] [(0, .ref o), (1, .int (nI 4))] [] 15 0 0
      refine g_iload_n 1 (hd := dX7_stucks_15) (C := hX) rfl rfl ?_
      refine g_iconst (v := nI 3) hX dX7_stucks_16 (by decide) ?_
      refine g_irem hX dX7_stucks_17 (by decide) ?_
      refine g_top (y := (nI 1)) (by decide) ?_
      refine g_if_neN 32 (hd := dX7_stucks_18) (C := hX) (by decide) (by decide) (fun c_18 => ?_) (fun c_18 => absurd c_18 (by decide))
      refine g_iload_n 1 (hd := dX7_stucks_32) (C := hX) rfl rfl ?_
      refine g_iconst (v := nI 3) hX dX7_stucks_33 (by decide) ?_
      refine g_irem hX dX7_stucks_34 (by decide) ?_
      refine g_top (y := (nI 1)) (by decide) ?_
      refine g_iconst (v := nI 1) hX dX7_stucks_35 (by decide) ?_
      refine g_icmp_neN 46 (hd := dX7_stucks_36) (C := hX) (by decide) (by decide) (by decide) (fun c_36 => absurd c_36 (by decide)) (fun c_36 => ?_)
      refine g_aload_n 0 (hd := dX7_stucks_39) (C := hX) rfl rfl ?_
      refine g_get (hd := dX7_stucks_40) (C := hX) 0 13 rfl rfl in_X7_stucks_7 (by decide) (by decide +kernel) rfl ?_
      refine g_goto 50 (hd := dX7_stucks_43) (C := hX) (by decide) ?_
      refine g_topl (y := skX c 4) rfl ?_
      refine g_lstore_n [(0, .ref o), (1, .int (nI 4)), (2, .long (skX c 4))] [1, 2, 0] (hd := dX7_stucks_50) (C := hX) rfl (by decide) rfl ?_
      refine g_iload_n 1 (hd := dX7_stucks_51) (C := hX) rfl rfl ?_
      refine g_iconst (v := nI 3) hX dX7_stucks_52 (by decide) ?_
      refine g_icmp_geN 62 (hd := dX7_stucks_53) (C := hX) (by decide) (by decide) (by decide) (fun c_53 => ?_) (fun c_53 => absurd c_53 (by decide))
      refine g_iconst (v := nI 0) hX dX7_stucks_62 (by decide) ?_
      refine g_istore [(0, .ref o), (1, .int (nI 4)), (2, .long (skX c 4)), (4, .int (nI 0))] [1, 2, 3, 0] (hd := dX7_stucks_63) (C := hX) (by decide) rfl ?_
      have L_65 : ∀ (n_65 : Nat) (t : Nat), 2 * (c 0 + c 1) - t < n_65 → (t ≤ 2 * (c 0 + c 1)) → (∀ j, j < t → ¬ tb (skX c 4) j = 1) → GW X [(o, .inr (7, [.int (nI len), .ref ot, .ref on, .ref od, .ref ow, .int (nI ch), .int (nI va), .int (nI en), .ref oi, .ref oe, .ref op, .long (orC c (exC c) (2 ^ c 0)), .long (orC c (paC c) (2 ^ c 0)), .long (ltL c (2 ^ c 0))])), (ot, .inl (cI, 200, .inl (fun j_ => nI (T j_)))), (on, .inl (cI, 78, .inl (fun j_ => nI (c j_)))), (od, .inl (cI, 78, .inl (fun j_ => nI (rd j_)))), (ow, .inl (cI, 468, .inl (fun j_ => nI (ww j_)))), (oi, .inl (cI, 32, .inl (fun j_ => nI (wi_12 j_)))), (oe, .inl (cJ, 256, .inr (.inl EX_12))), (op, .inl (cJ, 256, .inr (.inl PA_12)))] [(0, .ref o), (1, .int (nI 4)), (2, .long (skX c 4)), (4, .int (nI t))] [] 65 0 0 := by
        intro n_65
        induction n_65 with
        | zero => intro t hm_65; exact absurd hm_65 (Nat.not_lt_zero _)
        | succ n_65 ih_65 =>
          intro t hm_65 htL hno
          refine g_iload 3 (hd := dX7_stucks_65) (C := hX) rfl ?_
          refine g_iconst (v := nI 2) hX dX7_stucks_67 (by decide) ?_
          refine g_aload_n 0 (hd := dX7_stucks_68) (C := hX) rfl rfl ?_
          refine g_callVs (rest := [.int (nI 2), .int (nI t)]) hX (c_X7_wires l D cC cI cJ cO o ot on od ow oi oe op len ch va en (orC c (exC c) (2 ^ c 0)) (orC c (paC c) (2 ^ c 0)) (ltL c (2 ^ c 0)) T c rd ww wi_12 EX_12 PA_12) ok_X7_wires rfl 0 rfl rfl (hd := dX7_stucks_69) gX7_stucks_X7_wires ⟨by decide, by decide⟩ rfl (Nat.le_of_ble_eq_true rfl) ⟨Nat.zero_le _, Nat.zero_le _⟩ [0, 1, 2, 3, 4, 5, 6, 7] (by decide) rfl rfl ?_
          intro r_69 e_69
          subst e_69
          show GW X [(o, .inr (7, [.int (nI len), .ref ot, .ref on, .ref od, .ref ow, .int (nI ch), .int (nI va), .int (nI en), .ref oi, .ref oe, .ref op, .long (orC c (exC c) (2 ^ c 0)), .long (orC c (paC c) (2 ^ c 0)), .long (ltL c (2 ^ c 0))])), (ot, .inl (cI, 200, .inl (fun j_ => nI (T j_)))), (on, .inl (cI, 78, .inl (fun j_ => nI (c j_)))), (od, .inl (cI, 78, .inl (fun j_ => nI (rd j_)))), (ow, .inl (cI, 468, .inl (fun j_ => nI (ww j_)))), (oi, .inl (cI, 32, .inl (fun j_ => nI (wi_12 j_)))), (oe, .inl (cJ, 256, .inr (.inl EX_12))), (op, .inl (cJ, 256, .inr (.inl PA_12)))] [(0, .ref o), (1, .int (nI 4)), (2, .long (skX c 4)), (4, .int (nI t))] [.int (nI (c 0 + c 1)), .int (nI 2), .int (nI t)] 72 0 0
          refine g_imul hX dX7_stucks_72 ?_
          refine g_top (y := (nI (2 * (c 0 + c 1)))) (pk_mul _ _) ?_
          refine g_icmp_geN 94 (hd := dX7_stucks_73) (C := hX) (by decide) (by omega) (by omega) (fun c_73 => ?_) (fun c_73 => ?_)
          · refine g_bipush (v := (-4)) hX dX7_stucks_94 (by decide) ?_
            exact (hret ((-4), wi_12, EX_12, PA_12, orC c (exC c) (2 ^ c 0), orC c (paC c) (2 ^ c 0), ltL c (2 ^ c 0)) _ _ (sk_hi hok (by decide) (by decide) (sk_n hok (fun j hj => hno j (by omega)) rfl))).2.1 _ rfl rfl dX7_stucks_96
          · refine g_lload_n 2 (hd := dX7_stucks_76) (C := hX) rfl rfl ?_
            refine g_iload 3 (hd := dX7_stucks_77) (C := hX) rfl ?_
            refine g_callS (rest := []) hX (c_X7_has l D cC cI cJ cO (skX c 4) t (by omega)) ok_X7_has (fun _ => rfl) (hd := dX7_stucks_79) gX7_stucks_X7_has ⟨by decide, by decide⟩ rfl (Nat.le_of_ble_eq_true rfl) ⟨Nat.zero_le _, Nat.zero_le _⟩ [] (by decide) rfl rfl ?_
            intro r_79 e_79
            rcases e_79 with ⟨rfl, p_79⟩ | ⟨rfl, p_79⟩
            · show GW X [(o, .inr (7, [.int (nI len), .ref ot, .ref on, .ref od, .ref ow, .int (nI ch), .int (nI va), .int (nI en), .ref oi, .ref oe, .ref op, .long (orC c (exC c) (2 ^ c 0)), .long (orC c (paC c) (2 ^ c 0)), .long (ltL c (2 ^ c 0))])), (ot, .inl (cI, 200, .inl (fun j_ => nI (T j_)))), (on, .inl (cI, 78, .inl (fun j_ => nI (c j_)))), (od, .inl (cI, 78, .inl (fun j_ => nI (rd j_)))), (ow, .inl (cI, 468, .inl (fun j_ => nI (ww j_)))), (oi, .inl (cI, 32, .inl (fun j_ => nI (wi_12 j_)))), (oe, .inl (cJ, 256, .inr (.inl EX_12))), (op, .inl (cJ, 256, .inr (.inl PA_12)))] [(0, .ref o), (1, .int (nI 4)), (2, .long (skX c 4)), (4, .int (nI t))] [.int (nI 1)] 82 0 0
              refine g_if_eqN 88 (hd := dX7_stucks_82) (C := hX) (by decide) (by decide) (fun c_82 => absurd c_82 (by decide)) (fun c_82 => ?_)
              refine g_iload 3 (hd := dX7_stucks_85) (C := hX) rfl ?_
              exact (hret ((nI t), wi_12, EX_12, PA_12, orC c (exC c) (2 ^ c 0), orC c (paC c) (2 ^ c 0), ltL c (2 ^ c 0)) _ _ (sk_hi hok (by decide) (by decide) (sk_f hok c_73 p_79 hno rfl))).2.1 _ rfl rfl dX7_stucks_87
            · show GW X [(o, .inr (7, [.int (nI len), .ref ot, .ref on, .ref od, .ref ow, .int (nI ch), .int (nI va), .int (nI en), .ref oi, .ref oe, .ref op, .long (orC c (exC c) (2 ^ c 0)), .long (orC c (paC c) (2 ^ c 0)), .long (ltL c (2 ^ c 0))])), (ot, .inl (cI, 200, .inl (fun j_ => nI (T j_)))), (on, .inl (cI, 78, .inl (fun j_ => nI (c j_)))), (od, .inl (cI, 78, .inl (fun j_ => nI (rd j_)))), (ow, .inl (cI, 468, .inl (fun j_ => nI (ww j_)))), (oi, .inl (cI, 32, .inl (fun j_ => nI (wi_12 j_)))), (oe, .inl (cJ, 256, .inr (.inl EX_12))), (op, .inl (cJ, 256, .inr (.inl PA_12)))] [(0, .ref o), (1, .int (nI 4)), (2, .long (skX c 4)), (4, .int (nI t))] [.int (nI 0)] 82 0 0
              refine g_if_eqN 88 (hd := dX7_stucks_82) (C := hX) (by decide) (by decide) (fun c_82 => ?_) (fun c_82 => absurd c_82 (by decide))
              refine g_iinc (v := (nI (t + 1))) 3 [(0, .ref o), (1, .int (nI 4)), (2, .long (skX c 4)), (4, .int (nI (t + 1)))] [1, 2, 3, 0] (hd := dX7_stucks_88) (C := hX) rfl (nI_1 _) (by decide) rfl ?_
              refine g_goto 65 (hd := dX7_stucks_91) (C := hX) (by decide) ?_
              exact ih_65 (t + 1) (by omega) (by omega) (fun j hj => by rcases Nat.lt_or_ge j t with q | q; exact hno j q; rw [show j = t from by omega]; exact p_79)
      exact L_65 _ 0 (Nat.lt_succ_self _) (Nat.zero_le _) (fun j h => absurd h (Nat.not_lt_zero j))
    · refine g_aload_n 0 (hd := dX7_stucks_11) (C := hX) rfl rfl ?_
      refine g_callVp (rest := []) hX (c_X7_looks l D cC cI cJ cO o ot on od ow oi oe op len ch va en aE aP lt T c rd ww wi EX PA hok) ok_X7_looks rfl 0 rfl rfl (fun _ => rfl) (hd := dX7_stucks_12) gX7_stucks_X7_looks ⟨by decide, by decide⟩ rfl (Nat.le_of_ble_eq_true rfl) ⟨Nat.zero_le _, Nat.zero_le _⟩ [] rfl rfl ?_
      intro ⟨wi_12, EX_12, PA_12⟩ hx_12
      simp only at hx_12
      show GW X [(o, .inr (7, [.int (nI len), .ref ot, .ref on, .ref od, .ref ow, .int (nI ch), .int (nI va), .int (nI en), .ref oi, .ref oe, .ref op, .long (orC c (exC c) (2 ^ c 0)), .long (orC c (paC c) (2 ^ c 0)), .long (ltL c (2 ^ c 0))])), (ot, .inl (cI, 200, .inl (fun j_ => nI (T j_)))), (on, .inl (cI, 78, .inl (fun j_ => nI (c j_)))), (od, .inl (cI, 78, .inl (fun j_ => nI (rd j_)))), (ow, .inl (cI, 468, .inl (fun j_ => nI (ww j_)))), (oi, .inl (cI, 32, .inl (fun j_ => nI (wi_12 j_)))), (oe, .inl (cJ, 256, .inr (.inl EX_12))), (op, .inl (cJ, 256, .inr (.inl PA_12)))] [(0, .ref o), (1, .int (nI 5))] [] 15 0 0
      refine g_iload_n 1 (hd := dX7_stucks_15) (C := hX) rfl rfl ?_
      refine g_iconst (v := nI 3) hX dX7_stucks_16 (by decide) ?_
      refine g_irem hX dX7_stucks_17 (by decide) ?_
      refine g_top (y := (nI 2)) (by decide) ?_
      refine g_if_neN 32 (hd := dX7_stucks_18) (C := hX) (by decide) (by decide) (fun c_18 => ?_) (fun c_18 => absurd c_18 (by decide))
      refine g_iload_n 1 (hd := dX7_stucks_32) (C := hX) rfl rfl ?_
      refine g_iconst (v := nI 3) hX dX7_stucks_33 (by decide) ?_
      refine g_irem hX dX7_stucks_34 (by decide) ?_
      refine g_top (y := (nI 2)) (by decide) ?_
      refine g_iconst (v := nI 1) hX dX7_stucks_35 (by decide) ?_
      refine g_icmp_neN 46 (hd := dX7_stucks_36) (C := hX) (by decide) (by decide) (by decide) (fun c_36 => ?_) (fun c_36 => absurd c_36 (by decide))
      refine g_aload_n 0 (hd := dX7_stucks_46) (C := hX) rfl rfl ?_
      refine g_get (hd := dX7_stucks_47) (C := hX) 0 12 rfl rfl in_X7_stucks_7 (by decide) (by decide +kernel) rfl ?_
      refine g_topl (y := skX c 5) rfl ?_
      refine g_lstore_n [(0, .ref o), (1, .int (nI 5)), (2, .long (skX c 5))] [1, 2, 0] (hd := dX7_stucks_50) (C := hX) rfl (by decide) rfl ?_
      refine g_iload_n 1 (hd := dX7_stucks_51) (C := hX) rfl rfl ?_
      refine g_iconst (v := nI 3) hX dX7_stucks_52 (by decide) ?_
      refine g_icmp_geN 62 (hd := dX7_stucks_53) (C := hX) (by decide) (by decide) (by decide) (fun c_53 => ?_) (fun c_53 => absurd c_53 (by decide))
      refine g_iconst (v := nI 0) hX dX7_stucks_62 (by decide) ?_
      refine g_istore [(0, .ref o), (1, .int (nI 5)), (2, .long (skX c 5)), (4, .int (nI 0))] [1, 2, 3, 0] (hd := dX7_stucks_63) (C := hX) (by decide) rfl ?_
      have L_65 : ∀ (n_65 : Nat) (t : Nat), 2 * (c 0 + c 1) - t < n_65 → (t ≤ 2 * (c 0 + c 1)) → (∀ j, j < t → ¬ tb (skX c 5) j = 1) → GW X [(o, .inr (7, [.int (nI len), .ref ot, .ref on, .ref od, .ref ow, .int (nI ch), .int (nI va), .int (nI en), .ref oi, .ref oe, .ref op, .long (orC c (exC c) (2 ^ c 0)), .long (orC c (paC c) (2 ^ c 0)), .long (ltL c (2 ^ c 0))])), (ot, .inl (cI, 200, .inl (fun j_ => nI (T j_)))), (on, .inl (cI, 78, .inl (fun j_ => nI (c j_)))), (od, .inl (cI, 78, .inl (fun j_ => nI (rd j_)))), (ow, .inl (cI, 468, .inl (fun j_ => nI (ww j_)))), (oi, .inl (cI, 32, .inl (fun j_ => nI (wi_12 j_)))), (oe, .inl (cJ, 256, .inr (.inl EX_12))), (op, .inl (cJ, 256, .inr (.inl PA_12)))] [(0, .ref o), (1, .int (nI 5)), (2, .long (skX c 5)), (4, .int (nI t))] [] 65 0 0 := by
        intro n_65
        induction n_65 with
        | zero => intro t hm_65; exact absurd hm_65 (Nat.not_lt_zero _)
        | succ n_65 ih_65 =>
          intro t hm_65 htL hno
          refine g_iload 3 (hd := dX7_stucks_65) (C := hX) rfl ?_
          refine g_iconst (v := nI 2) hX dX7_stucks_67 (by decide) ?_
          refine g_aload_n 0 (hd := dX7_stucks_68) (C := hX) rfl rfl ?_
          refine g_callVs (rest := [.int (nI 2), .int (nI t)]) hX (c_X7_wires l D cC cI cJ cO o ot on od ow oi oe op len ch va en (orC c (exC c) (2 ^ c 0)) (orC c (paC c) (2 ^ c 0)) (ltL c (2 ^ c 0)) T c rd ww wi_12 EX_12 PA_12) ok_X7_wires rfl 0 rfl rfl (hd := dX7_stucks_69) gX7_stucks_X7_wires ⟨by decide, by decide⟩ rfl (Nat.le_of_ble_eq_true rfl) ⟨Nat.zero_le _, Nat.zero_le _⟩ [0, 1, 2, 3, 4, 5, 6, 7] (by decide) rfl rfl ?_
          intro r_69 e_69
          subst e_69
          show GW X [(o, .inr (7, [.int (nI len), .ref ot, .ref on, .ref od, .ref ow, .int (nI ch), .int (nI va), .int (nI en), .ref oi, .ref oe, .ref op, .long (orC c (exC c) (2 ^ c 0)), .long (orC c (paC c) (2 ^ c 0)), .long (ltL c (2 ^ c 0))])), (ot, .inl (cI, 200, .inl (fun j_ => nI (T j_)))), (on, .inl (cI, 78, .inl (fun j_ => nI (c j_)))), (od, .inl (cI, 78, .inl (fun j_ => nI (rd j_)))), (ow, .inl (cI, 468, .inl (fun j_ => nI (ww j_)))), (oi, .inl (cI, 32, .inl (fun j_ => nI (wi_12 j_)))), (oe, .inl (cJ, 256, .inr (.inl EX_12))), (op, .inl (cJ, 256, .inr (.inl PA_12)))] [(0, .ref o), (1, .int (nI 5)), (2, .long (skX c 5)), (4, .int (nI t))] [.int (nI (c 0 + c 1)), .int (nI 2), .int (nI t)] 72 0 0
          refine g_imul hX dX7_stucks_72 ?_
          refine g_top (y := (nI (2 * (c 0 + c 1)))) (pk_mul _ _) ?_
          refine g_icmp_geN 94 (hd := dX7_stucks_73) (C := hX) (by decide) (by omega) (by omega) (fun c_73 => ?_) (fun c_73 => ?_)
          · refine g_bipush (v := (-4)) hX dX7_stucks_94 (by decide) ?_
            exact (hret ((-4), wi_12, EX_12, PA_12, orC c (exC c) (2 ^ c 0), orC c (paC c) (2 ^ c 0), ltL c (2 ^ c 0)) _ _ (sk_hi hok (by decide) (by decide) (sk_n hok (fun j hj => hno j (by omega)) rfl))).2.1 _ rfl rfl dX7_stucks_96
          · refine g_lload_n 2 (hd := dX7_stucks_76) (C := hX) rfl rfl ?_
            refine g_iload 3 (hd := dX7_stucks_77) (C := hX) rfl ?_
            refine g_callS (rest := []) hX (c_X7_has l D cC cI cJ cO (skX c 5) t (by omega)) ok_X7_has (fun _ => rfl) (hd := dX7_stucks_79) gX7_stucks_X7_has ⟨by decide, by decide⟩ rfl (Nat.le_of_ble_eq_true rfl) ⟨Nat.zero_le _, Nat.zero_le _⟩ [] (by decide) rfl rfl ?_
            intro r_79 e_79
            rcases e_79 with ⟨rfl, p_79⟩ | ⟨rfl, p_79⟩
            · show GW X [(o, .inr (7, [.int (nI len), .ref ot, .ref on, .ref od, .ref ow, .int (nI ch), .int (nI va), .int (nI en), .ref oi, .ref oe, .ref op, .long (orC c (exC c) (2 ^ c 0)), .long (orC c (paC c) (2 ^ c 0)), .long (ltL c (2 ^ c 0))])), (ot, .inl (cI, 200, .inl (fun j_ => nI (T j_)))), (on, .inl (cI, 78, .inl (fun j_ => nI (c j_)))), (od, .inl (cI, 78, .inl (fun j_ => nI (rd j_)))), (ow, .inl (cI, 468, .inl (fun j_ => nI (ww j_)))), (oi, .inl (cI, 32, .inl (fun j_ => nI (wi_12 j_)))), (oe, .inl (cJ, 256, .inr (.inl EX_12))), (op, .inl (cJ, 256, .inr (.inl PA_12)))] [(0, .ref o), (1, .int (nI 5)), (2, .long (skX c 5)), (4, .int (nI t))] [.int (nI 1)] 82 0 0
              refine g_if_eqN 88 (hd := dX7_stucks_82) (C := hX) (by decide) (by decide) (fun c_82 => absurd c_82 (by decide)) (fun c_82 => ?_)
              refine g_iload 3 (hd := dX7_stucks_85) (C := hX) rfl ?_
              exact (hret ((nI t), wi_12, EX_12, PA_12, orC c (exC c) (2 ^ c 0), orC c (paC c) (2 ^ c 0), ltL c (2 ^ c 0)) _ _ (sk_hi hok (by decide) (by decide) (sk_f hok c_73 p_79 hno rfl))).2.1 _ rfl rfl dX7_stucks_87
            · show GW X [(o, .inr (7, [.int (nI len), .ref ot, .ref on, .ref od, .ref ow, .int (nI ch), .int (nI va), .int (nI en), .ref oi, .ref oe, .ref op, .long (orC c (exC c) (2 ^ c 0)), .long (orC c (paC c) (2 ^ c 0)), .long (ltL c (2 ^ c 0))])), (ot, .inl (cI, 200, .inl (fun j_ => nI (T j_)))), (on, .inl (cI, 78, .inl (fun j_ => nI (c j_)))), (od, .inl (cI, 78, .inl (fun j_ => nI (rd j_)))), (ow, .inl (cI, 468, .inl (fun j_ => nI (ww j_)))), (oi, .inl (cI, 32, .inl (fun j_ => nI (wi_12 j_)))), (oe, .inl (cJ, 256, .inr (.inl EX_12))), (op, .inl (cJ, 256, .inr (.inl PA_12)))] [(0, .ref o), (1, .int (nI 5)), (2, .long (skX c 5)), (4, .int (nI t))] [.int (nI 0)] 82 0 0
              refine g_if_eqN 88 (hd := dX7_stucks_82) (C := hX) (by decide) (by decide) (fun c_82 => ?_) (fun c_82 => absurd c_82 (by decide))
              refine g_iinc (v := (nI (t + 1))) 3 [(0, .ref o), (1, .int (nI 5)), (2, .long (skX c 5)), (4, .int (nI (t + 1)))] [1, 2, 3, 0] (hd := dX7_stucks_88) (C := hX) rfl (nI_1 _) (by decide) rfl ?_
              refine g_goto 65 (hd := dX7_stucks_91) (C := hX) (by decide) ?_
              exact ih_65 (t + 1) (by omega) (by omega) (fun j hj => by rcases Nat.lt_or_ge j t with q | q; exact hno j q; rw [show j = t from by omega]; exact p_79)
      exact L_65 _ 0 (Nat.lt_succ_self _) (Nat.zero_le _) (fun j h => absurd h (Nat.not_lt_zero j))
  · show GW X [(o, .inr (7, [.int (nI len), .ref ot, .ref on, .ref od, .ref ow, .int (nI ch), .int (nI va), .int (nI en), .ref oi, .ref oe, .ref op, .long aE, .long aP, .long lt])), (ot, .inl (cI, 200, .inl (fun j_ => nI (T j_)))), (on, .inl (cI, 78, .inl (fun j_ => nI (c j_)))), (od, .inl (cI, 78, .inl (fun j_ => nI (rd j_)))), (ow, .inl (cI, 468, .inl (fun j_ => nI (ww j_)))), (oi, .inl (cI, 32, .inl (fun j_ => nI (wi j_)))), (oe, .inl (cJ, 256, .inr (.inl EX))), (op, .inl (cJ, 256, .inr (.inl PA)))] [(0, .ref o), (1, .int wh)] [.int (nI 0)] 6 0 0
    refine g_if_neN 11 (hd := dX7_stucks_6) (C := hX) (by decide) (by decide) (fun c_6 => absurd c_6 (by decide)) (fun c_6 => ?_)
    refine g_iconst (v := (-1)) hX dX7_stucks_9 (by decide) ?_
    exact (hret ((-1), wi, EX, PA, aE, aP, lt) _ _ (Or.inr (Or.inr (Or.inr (Or.inr (Or.inr (Or.inr ⟨fun z => p_3 ((ii_k (by decide)).mpr z), rfl⟩))))))).2.1 _ rfl rfl dX7_stucks_10

theorem in_X7_test_7 : ∀ w ∈ wsX70, w ∈ wsX7_test := fun _ h => List.mem_cons_of_mem _ (List.mem_append_right _ h)
theorem ok_X7_test : gOK yX7_test wsX7_test ({ frames := 3, cells := 0, slots := 0, locals := 77 }) 9 1 := ⟨⟨_, _, _, rfl⟩, rfl, rfl, by decide, by decide, by decide +kernel⟩
set_option maxRecDepth 100000 in
set_option maxHeartbeats 4000000 in
theorem c_X7_test (l : Launch) (D : va_G) (cC cI cJ cO : ClassId) (o : Nat) (ot : Nat) (on : Nat) (od : Nat) (ow : Nat) (oi : Nat) (oe : Nat) (op : Nat) (len : Nat) (ch : Nat) (va : Nat) (en : Nat) (aE : Int64) (aP : Int64) (lt : Int64) (T : Nat → Nat) (c : Nat → Nat) (rd : Nat → Nat) (ww : Nat → Nat) (wi : Nat → Nat) (EX : Nat → Int64) (PA : Nat → Int64) (i : Int32) (hok : okC c) : CM (S := Int32 × (Nat → Nat) × (Nat → Int64) × (Nat → Int64) × Int64 × Int64 × Int64) l D (tyL cC cI cJ cO) yX7_test wsX7_test ({ frames := 3, cells := 0, slots := 0, locals := 77 }) [.ref o, .int i] [(o, .inr (7, [.int (nI len), .ref ot, .ref on, .ref od, .ref ow, .int (nI ch), .int (nI va), .int (nI en), .ref oi, .ref oe, .ref op, .long aE, .long aP, .long lt])), (ot, .inl (cI, 200, .inl (fun j_ => nI (T j_)))), (on, .inl (cI, 78, .inl (fun j_ => nI (c j_)))), (od, .inl (cI, 78, .inl (fun j_ => nI (rd j_)))), (ow, .inl (cI, 468, .inl (fun j_ => nI (ww j_)))), (oi, .inl (cI, 32, .inl (fun j_ => nI (wi j_)))), (oe, .inl (cJ, 256, .inr (.inl EX))), (op, .inl (cJ, 256, .inr (.inl PA)))] (fun u => some (.int u.1)) (fun u => tsR c i u.1) (fun u_ => [(o, .inr (7, [.int (nI len), .ref ot, .ref on, .ref od, .ref ow, .int (nI ch), .int (nI va), .int (nI en), .ref oi, .ref oe, .ref op, .long u_.2.2.2.2.1, .long u_.2.2.2.2.2.1, .long u_.2.2.2.2.2.2])), (ot, .inl (cI, 200, .inl (fun j_ => nI (T j_)))), (on, .inl (cI, 78, .inl (fun j_ => nI (c j_)))), (od, .inl (cI, 78, .inl (fun j_ => nI (rd j_)))), (ow, .inl (cI, 468, .inl (fun j_ => nI (ww j_)))), (oi, .inl (cI, 32, .inl (fun j_ => nI (u_.2.1 j_)))), (oe, .inl (cJ, 256, .inr (.inl u_.2.2.1))), (op, .inl (cJ, 256, .inr (.inl u_.2.2.2.1)))]) := by
  refine CM_in (cc := cX7_test) (maxL := 9) (ret := (some .int)) (by decide) rfl (Nat.le_of_ble_eq_true rfl) ?_
  intro X hX hret
  show GW X [(o, .inr (7, [.int (nI len), .ref ot, .ref on, .ref od, .ref ow, .int (nI ch), .int (nI va), .int (nI en), .ref oi, .ref oe, .ref op, .long aE, .long aP, .long lt])), (ot, .inl (cI, 200, .inl (fun j_ => nI (T j_)))), (on, .inl (cI, 78, .inl (fun j_ => nI (c j_)))), (od, .inl (cI, 78, .inl (fun j_ => nI (rd j_)))), (ow, .inl (cI, 468, .inl (fun j_ => nI (ww j_)))), (oi, .inl (cI, 32, .inl (fun j_ => nI (wi j_)))), (oe, .inl (cJ, 256, .inr (.inl EX))), (op, .inl (cJ, 256, .inr (.inl PA)))] [(0, .ref o), (1, .int i)] [] 0 0 0
  have b0 := hok.2.1
  have b1 := hok.2.2.1
  have hp2 := p2_8 b0
  have hcd := hok.2.2.2.2.2.1
  refine g_iload_n 1 (hd := dX7_test_0) (C := hX) rfl rfl ?_
  refine g_iconst (v := (-1)) hX dX7_test_1 (by decide) ?_
  refine g_icmp_ge 7 (hd := dX7_test_2) (C := hX) (by decide) (fun c_2 => ?_) (fun c_2 => ?_)
  · refine g_aload_n 0 (hd := dX7_test_7) (C := hX) rfl rfl ?_
    refine g_callVp (rest := []) hX (c_X7_looks l D cC cI cJ cO o ot on od ow oi oe op len ch va en aE aP lt T c rd ww wi EX PA hok) ok_X7_looks rfl 0 rfl rfl (fun _ => rfl) (hd := dX7_test_8) gX7_test_X7_looks ⟨by decide, by decide⟩ rfl (Nat.le_of_ble_eq_true rfl) ⟨Nat.zero_le _, Nat.zero_le _⟩ [] rfl rfl ?_
    intro ⟨wi_8, EX_8, PA_8⟩ hx_8
    simp only at hx_8
    show GW X [(o, .inr (7, [.int (nI len), .ref ot, .ref on, .ref od, .ref ow, .int (nI ch), .int (nI va), .int (nI en), .ref oi, .ref oe, .ref op, .long (orC c (exC c) (2 ^ c 0)), .long (orC c (paC c) (2 ^ c 0)), .long (ltL c (2 ^ c 0))])), (ot, .inl (cI, 200, .inl (fun j_ => nI (T j_)))), (on, .inl (cI, 78, .inl (fun j_ => nI (c j_)))), (od, .inl (cI, 78, .inl (fun j_ => nI (rd j_)))), (ow, .inl (cI, 468, .inl (fun j_ => nI (ww j_)))), (oi, .inl (cI, 32, .inl (fun j_ => nI (wi_8 j_)))), (oe, .inl (cJ, 256, .inr (.inl EX_8))), (op, .inl (cJ, 256, .inr (.inl PA_8)))] [(0, .ref o), (1, .int i)] [] 11 0 0
    refine g_aload_n 0 (hd := dX7_test_11) (C := hX) rfl rfl ?_
    refine g_get (hd := dX7_test_12) (C := hX) 0 11 rfl rfl in_X7_test_7 (by decide) (by decide +kernel) rfl ?_
    refine g_lstore_n [(0, .ref o), (1, .int i), (2, .long (orC c (exC c) (2 ^ c 0)))] [1, 2, 0] (hd := dX7_test_15) (C := hX) rfl (by decide) rfl ?_
    refine g_iconst (v := nI 0) hX dX7_test_16 (by decide) ?_
    refine g_istore [(0, .ref o), (1, .int i), (2, .long (orC c (exC c) (2 ^ c 0))), (4, .int (nI 0))] [1, 2, 3, 0] (hd := dX7_test_17) (C := hX) (by decide) rfl ?_
    have L_19 : ∀ (n_19 : Nat) (n : Nat), pcL (opC c n) < n_19 → (∀ j, j < n → ¬ opC c j = 0 ∧ ¬ nI j = i) → GW X [(o, .inr (7, [.int (nI len), .ref ot, .ref on, .ref od, .ref ow, .int (nI ch), .int (nI va), .int (nI en), .ref oi, .ref oe, .ref op, .long (orC c (exC c) (2 ^ c 0)), .long (orC c (paC c) (2 ^ c 0)), .long (ltL c (2 ^ c 0))])), (ot, .inl (cI, 200, .inl (fun j_ => nI (T j_)))), (on, .inl (cI, 78, .inl (fun j_ => nI (c j_)))), (od, .inl (cI, 78, .inl (fun j_ => nI (rd j_)))), (ow, .inl (cI, 468, .inl (fun j_ => nI (ww j_)))), (oi, .inl (cI, 32, .inl (fun j_ => nI (wi_8 j_)))), (oe, .inl (cJ, 256, .inr (.inl EX_8))), (op, .inl (cJ, 256, .inr (.inl PA_8)))] [(0, .ref o), (1, .int i), (2, .long (opC c n)), (4, .int (nI n))] [] 19 0 0 := by
      intro n_19
      induction n_19 with
      | zero => intro n hm_19; exact absurd hm_19 (Nat.not_lt_zero _)
      | succ n_19 ih_19 =>
        intro n hm_19 hn
        have hn64 := op_pc n (fun j hj => (hn j hj).1)
        refine g_aload_n 0 (hd := dX7_test_19) (C := hX) rfl rfl ?_
        refine g_lload_n 2 (hd := dX7_test_20) (C := hX) rfl rfl ?_
        refine g_callVs (rest := []) hX (c_X7_many l D cC cI cJ cO o ot on od ow oi oe op len ch va en (orC c (exC c) (2 ^ c 0)) (orC c (paC c) (2 ^ c 0)) (ltL c (2 ^ c 0)) T c rd ww wi_8 EX_8 PA_8 (opC c n) hok) ok_X7_many rfl 0 rfl rfl (hd := dX7_test_21) gX7_test_X7_many ⟨by decide, by decide⟩ rfl (Nat.le_of_ble_eq_true rfl) ⟨Nat.zero_le _, Nat.zero_le _⟩ [0, 1, 2, 3, 4, 5, 6, 7] (by decide) rfl rfl ?_
        intro r_21 e_21
        subst e_21
        show GW X [(o, .inr (7, [.int (nI len), .ref ot, .ref on, .ref od, .ref ow, .int (nI ch), .int (nI va), .int (nI en), .ref oi, .ref oe, .ref op, .long (orC c (exC c) (2 ^ c 0)), .long (orC c (paC c) (2 ^ c 0)), .long (ltL c (2 ^ c 0))])), (ot, .inl (cI, 200, .inl (fun j_ => nI (T j_)))), (on, .inl (cI, 78, .inl (fun j_ => nI (c j_)))), (od, .inl (cI, 78, .inl (fun j_ => nI (rd j_)))), (ow, .inl (cI, 468, .inl (fun j_ => nI (ww j_)))), (oi, .inl (cI, 32, .inl (fun j_ => nI (wi_8 j_)))), (oe, .inl (cJ, 256, .inr (.inl EX_8))), (op, .inl (cJ, 256, .inr (.inl PA_8)))] [(0, .ref o), (1, .int i), (2, .long (opC c n)), (4, .int (nI n))] [.int (nI (pcL ((opC c n) &&& alS c)))] 24 0 0
        have q9 := pcL_le (opC c n)
        refine g_top (y := nI (pcL (opC c n))) (by rw [op_al hok]) ?_
        refine g_if_le 127 (hd := dX7_test_24) (C := hX) (by decide) (fun c_24 => ?_) (fun c_24 => ?_)
        · refine g_iload_n 1 (hd := dX7_test_127) (C := hX) rfl rfl ?_
          refine g_if_ge 136 (hd := dX7_test_128) (C := hX) (by decide) (fun c_128 => ?_) (fun c_128 => ?_)
          · refine g_bipush (v := (-4)) hX dX7_test_136 (by decide) ?_
            exact (hret ((-4), wi_8, EX_8, PA_8, orC c (exC c) (2 ^ c 0), orC c (paC c) (2 ^ c 0), ltL c (2 ^ c 0)) _ _ (by have hz8 := ts_z (fun j hj => (hn j hj).1) (pcL_z (le0 (by omega) c_24)); obtain ⟨j, hj, rfl⟩ := gl_00 c_128; exact Or.inr ⟨_, _, hz8, Or.inr ⟨j, hj, rfl, Or.inr ⟨Nat.le_of_not_lt (fun z => (hn j z).2 rfl), rfl⟩⟩⟩)).2.1 _ rfl rfl dX7_test_138
          · refine g_iload 3 (hd := dX7_test_131) (C := hX) rfl ?_
            refine g_goto 138 (hd := dX7_test_133) (C := hX) (by decide) ?_
            exact (hret ((nI n), wi_8, EX_8, PA_8, orC c (exC c) (2 ^ c 0), orC c (paC c) (2 ^ c 0), ltL c (2 ^ c 0)) _ _ (by have hz8 := ts_z (fun j hj => (hn j hj).1) (pcL_z (le0 (by omega) c_24)); exact Or.inr ⟨_, _, hz8, Or.inl ⟨gl_0 c_2 c_128, rfl⟩⟩)).2.1 _ rfl rfl dX7_test_138
        · have hz9 : ¬ opC c n = 0 := fun z => nle0 c_24 (by rw [z]; exact pcL_0)
          refine g_iconst (v := nI 0) hX dX7_test_27 (by decide) ?_
          refine g_istore [(0, .ref o), (1, .int i), (2, .long (opC c n)), (4, .int (nI n)), (5, .int (nI 0))] [1, 2, 3, 4, 0] (hd := dX7_test_28) (C := hX) (by decide) rfl ?_
          refine g_iconst (v := nI 0) hX dX7_test_30 (by decide) ?_
          refine g_istore [(0, .ref o), (1, .int i), (2, .long (opC c n)), (4, .int (nI n)), (5, .int (nI 0)), (6, .int (nI 0))] [1, 2, 3, 4, 5, 0] (hd := dX7_test_31) (C := hX) (by decide) rfl ?_
          refine g_iconst (v := nI 0) hX dX7_test_33 (by decide) ?_
          refine g_istore [(0, .ref o), (1, .int i), (2, .long (opC c n)), (4, .int (nI n)), (5, .int (nI 0)), (6, .int (nI 0)), (7, .int (nI 0))] [1, 2, 3, 4, 5, 6, 0] (hd := dX7_test_34) (C := hX) (by decide) rfl ?_
          have L_36 : ∀ (n_36 : Nat) (w : Nat), 2 ^ c 0 - w < n_36 → (w ≤ 2 ^ c 0) → GW X [(o, .inr (7, [.int (nI len), .ref ot, .ref on, .ref od, .ref ow, .int (nI ch), .int (nI va), .int (nI en), .ref oi, .ref oe, .ref op, .long (orC c (exC c) (2 ^ c 0)), .long (orC c (paC c) (2 ^ c 0)), .long (ltL c (2 ^ c 0))])), (ot, .inl (cI, 200, .inl (fun j_ => nI (T j_)))), (on, .inl (cI, 78, .inl (fun j_ => nI (c j_)))), (od, .inl (cI, 78, .inl (fun j_ => nI (rd j_)))), (ow, .inl (cI, 468, .inl (fun j_ => nI (ww j_)))), (oi, .inl (cI, 32, .inl (fun j_ => nI (wi_8 j_)))), (oe, .inl (cJ, 256, .inr (.inl EX_8))), (op, .inl (cJ, 256, .inr (.inl PA_8)))] [(0, .ref o), (1, .int i), (2, .long (opC c n)), (4, .int (nI n)), (5, .int (nI ((wmF c (opC c n) w).1))), (6, .int (nI ((wmF c (opC c n) w).2))), (7, .int (nI w))] [] 36 0 0 := by
            intro n_36
            induction n_36 with
            | zero => intro w hm_36; exact absurd hm_36 (Nat.not_lt_zero _)
            | succ n_36 ih_36 =>
              intro w hm_36 hwL
              refine g_iload 6 (hd := dX7_test_36) (C := hX) rfl ?_
              refine g_aload_n 0 (hd := dX7_test_38) (C := hX) rfl rfl ?_
              refine g_callVs (rest := [.int (nI w)]) hX (c_X7_all l D cC cI cJ cO o ot on od ow oi oe op len ch va en (orC c (exC c) (2 ^ c 0)) (orC c (paC c) (2 ^ c 0)) (ltL c (2 ^ c 0)) T c rd ww wi_8 EX_8 PA_8 b0) ok_X7_all rfl 0 rfl rfl (hd := dX7_test_39) gX7_test_X7_all ⟨by decide, by decide⟩ rfl (Nat.le_of_ble_eq_true rfl) ⟨Nat.zero_le _, Nat.zero_le _⟩ [0, 1, 2, 3, 4, 5, 6, 7] (by decide) rfl rfl ?_
              intro r_39 e_39
              subst e_39
              show GW X [(o, .inr (7, [.int (nI len), .ref ot, .ref on, .ref od, .ref ow, .int (nI ch), .int (nI va), .int (nI en), .ref oi, .ref oe, .ref op, .long (orC c (exC c) (2 ^ c 0)), .long (orC c (paC c) (2 ^ c 0)), .long (ltL c (2 ^ c 0))])), (ot, .inl (cI, 200, .inl (fun j_ => nI (T j_)))), (on, .inl (cI, 78, .inl (fun j_ => nI (c j_)))), (od, .inl (cI, 78, .inl (fun j_ => nI (rd j_)))), (ow, .inl (cI, 468, .inl (fun j_ => nI (ww j_)))), (oi, .inl (cI, 32, .inl (fun j_ => nI (wi_8 j_)))), (oe, .inl (cJ, 256, .inr (.inl EX_8))), (op, .inl (cJ, 256, .inr (.inl PA_8)))] [(0, .ref o), (1, .int i), (2, .long (opC c n)), (4, .int (nI n)), (5, .int (nI ((wmF c (opC c n) w).1))), (6, .int (nI ((wmF c (opC c n) w).2))), (7, .int (nI w))] [.int (nI (2 ^ c 0)), .int (nI w)] 42 0 0
              refine g_icmp_geN 98 (hd := dX7_test_42) (C := hX) (by decide) (by omega) (by omega) (fun c_42 => ?_) (fun c_42 => ?_)
              · have ew : w = 2 ^ c 0 := by omega
                subst ew
                have hb9 := wmF_in c _ _ (op_best hz9)
                refine g_iload 3 (hd := dX7_test_98) (C := hX) rfl ?_
                refine g_iload_n 1 (hd := dX7_test_100) (C := hX) rfl rfl ?_
                refine g_icmp_ne 107 (hd := dX7_test_101) (C := hX) (by decide) (fun c_101 => ?_) (fun c_101 => ?_)
                · refine g_lload_n 2 (hd := dX7_test_107) (C := hX) rfl rfl ?_
                  refine g_aload_n 0 (hd := dX7_test_108) (C := hX) rfl rfl ?_
                  refine g_get (hd := dX7_test_109) (C := hX) 0 9 rfl rfl in_X7_test_7 (by decide) (by decide +kernel) rfl ?_
                  refine g_iload 4 (hd := dX7_test_112) (C := hX) rfl ?_
                  refine g_lald (hd := dX7_test_114) (C := hX) 6 2 rfl rfl (by omega) (by decide) ?_
                  refine g_topl (y := (xC c (wmF c (opC c n) (2 ^ c 0)).1)) (hx_8 _ hb9.1).1 ?_
                  refine g_ldc2 (v := (-1)) hX dX7_test_115 (by decide +kernel) ?_
                  refine g_lxor hX dX7_test_118 ?_
                  refine g_land hX dX7_test_119 ?_
                  refine g_lstore_n [(0, .ref o), (1, .int i), (2, .long ((opC c n) &&& ((xC c (wmF c (opC c n) (2 ^ c 0)).1) ^^^ ((-1) : Int64)))), (4, .int (nI n)), (5, .int (nI ((wmF c (opC c n) (2 ^ c 0)).1))), (6, .int (nI ((wmF c (opC c n) (2 ^ c 0)).2))), (7, .int (nI (2 ^ c 0)))] [1, 2, 0, 3, 4, 5, 6] (hd := dX7_test_120) (C := hX) rfl (by decide) rfl ?_
                  refine g_iinc (v := (nI (n + 1))) 3 [(0, .ref o), (1, .int i), (2, .long ((opC c n) &&& ((xC c (wmF c (opC c n) (2 ^ c 0)).1) ^^^ ((-1) : Int64)))), (4, .int (nI (n + 1))), (5, .int (nI ((wmF c (opC c n) (2 ^ c 0)).1))), (6, .int (nI ((wmF c (opC c n) (2 ^ c 0)).2))), (7, .int (nI (2 ^ c 0)))] [1, 2, 3, 0, 4, 5, 6] (hd := dX7_test_121) (C := hX) rfl (nI_1 _) (by decide) rfl ?_
                  refine g_goto 19 (hd := dX7_test_124) (C := hX) (by decide) ?_
                  refine g_lv [(0, .ref o), (1, .int i), (2, .long ((opC c n) &&& ((xC c (wmF c (opC c n) (2 ^ c 0)).1) ^^^ ((-1) : Int64)))), (4, .int (nI (n + 1)))] [0, 1, 2, 3] rfl ?_
                  refine g_lve [(0, .ref o), (1, .int i), (2, .long (opC c (n + 1))), (4, .int (nI (n + 1)))] rfl ?_
                  exact ih_19 (n + 1) (by have q5 := op_dec hz9; omega) (fun j hj => by rcases Nat.lt_or_ge j n with q | q; exact hn j q; rw [show j = n from by omega]; exact ⟨hz9, c_101⟩)
                · refine g_iload 4 (hd := dX7_test_104) (C := hX) rfl ?_
                  exact (hret ((nI ((wmF c (opC c n) (2 ^ c 0)).1)), wi_8, EX_8, PA_8, orC c (exC c) (2 ^ c 0), orC c (paC c) (2 ^ c 0), ltL c (2 ^ c 0)) _ _ (by subst c_101; exact ts_at (fun j hj => (hn j hj).1) hz9 (by omega) rfl)).2.1 _ rfl rfl dX7_test_106
              · refine g_aload_n 0 (hd := dX7_test_45) (C := hX) rfl rfl ?_
                refine g_aload_n 0 (hd := dX7_test_46) (C := hX) rfl rfl ?_
                refine g_get (hd := dX7_test_47) (C := hX) 0 9 rfl rfl in_X7_test_7 (by decide) (by decide +kernel) rfl ?_
                refine g_iload 6 (hd := dX7_test_50) (C := hX) rfl ?_
                refine g_lald (hd := dX7_test_52) (C := hX) 6 2 rfl rfl (by omega) (by decide) ?_
                refine g_topl (y := (xC c w)) (hx_8 w (by omega)).1 ?_
                refine g_lload_n 2 (hd := dX7_test_53) (C := hX) rfl rfl ?_
                refine g_land hX dX7_test_54 ?_
                refine g_callVs (rest := []) hX (c_X7_many l D cC cI cJ cO o ot on od ow oi oe op len ch va en (orC c (exC c) (2 ^ c 0)) (orC c (paC c) (2 ^ c 0)) (ltL c (2 ^ c 0)) T c rd ww wi_8 EX_8 PA_8 ((xC c w) &&& (opC c n)) hok) ok_X7_many rfl 0 rfl rfl (hd := dX7_test_55) gX7_test_X7_many ⟨by decide, by decide⟩ rfl (Nat.le_of_ble_eq_true rfl) ⟨Nat.zero_le _, Nat.zero_le _⟩ [0, 1, 2, 3, 4, 5, 6, 7] (by decide) rfl rfl ?_
                intro r_55 e_55
                subst e_55
                show GW X [(o, .inr (7, [.int (nI len), .ref ot, .ref on, .ref od, .ref ow, .int (nI ch), .int (nI va), .int (nI en), .ref oi, .ref oe, .ref op, .long (orC c (exC c) (2 ^ c 0)), .long (orC c (paC c) (2 ^ c 0)), .long (ltL c (2 ^ c 0))])), (ot, .inl (cI, 200, .inl (fun j_ => nI (T j_)))), (on, .inl (cI, 78, .inl (fun j_ => nI (c j_)))), (od, .inl (cI, 78, .inl (fun j_ => nI (rd j_)))), (ow, .inl (cI, 468, .inl (fun j_ => nI (ww j_)))), (oi, .inl (cI, 32, .inl (fun j_ => nI (wi_8 j_)))), (oe, .inl (cJ, 256, .inr (.inl EX_8))), (op, .inl (cJ, 256, .inr (.inl PA_8)))] [(0, .ref o), (1, .int i), (2, .long (opC c n)), (4, .int (nI n)), (5, .int (nI ((wmF c (opC c n) w).1))), (6, .int (nI ((wmF c (opC c n) w).2))), (7, .int (nI w))] [.int (nI (pcL (((xC c w) &&& (opC c n)) &&& alS c)))] 58 0 0
                refine g_top (y := nI (pcL (xC c w &&& opC c n))) (by rw [x_al hok]) ?_
                have q7 := pcL_le (xC c w &&& opC c n)
                have q6 := wmF_le c (opC c n) w
                refine g_istore [(0, .ref o), (1, .int i), (2, .long (opC c n)), (4, .int (nI n)), (5, .int (nI ((wmF c (opC c n) w).1))), (6, .int (nI ((wmF c (opC c n) w).2))), (7, .int (nI w)), (8, .int (nI (pcL (xC c w &&& opC c n))))] [1, 2, 3, 4, 5, 6, 7, 0] (hd := dX7_test_58) (C := hX) (by decide) rfl ?_
                refine g_iload 7 (hd := dX7_test_60) (C := hX) rfl ?_
                refine g_iload 5 (hd := dX7_test_62) (C := hX) rfl ?_
                refine g_icmp_leN 72 (hd := dX7_test_64) (C := hX) (by decide) (by omega) (by omega) (fun c_64 => ?_) (fun c_64 => ?_)
                · refine g_iload 4 (hd := dX7_test_72) (C := hX) rfl ?_
                  refine g_istore [(0, .ref o), (1, .int i), (2, .long (opC c n)), (4, .int (nI n)), (5, .int (nI ((wmF c (opC c n) w).1))), (6, .int (nI ((wmF c (opC c n) w).2))), (7, .int (nI w)), (8, .int (nI (pcL (xC c w &&& opC c n))))] [1, 2, 3, 4, 0, 5, 6, 7] (hd := dX7_test_74) (C := hX) (by decide) rfl ?_
                  refine g_iload 7 (hd := dX7_test_76) (C := hX) rfl ?_
                  refine g_iload 5 (hd := dX7_test_78) (C := hX) rfl ?_
                  refine g_icmp_leN 88 (hd := dX7_test_80) (C := hX) (by decide) (by omega) (by omega) (fun c_80 => ?_) (fun c_80 => absurd c_64 (Nat.not_le.mpr c_80))
                  refine g_iload 5 (hd := dX7_test_88) (C := hX) rfl ?_
                  refine g_istore [(0, .ref o), (1, .int i), (2, .long (opC c n)), (4, .int (nI n)), (5, .int (nI ((wmF c (opC c n) w).1))), (6, .int (nI ((wmF c (opC c n) w).2))), (7, .int (nI w)), (8, .int (nI (pcL (xC c w &&& opC c n))))] [1, 2, 3, 4, 5, 0, 6, 7] (hd := dX7_test_90) (C := hX) (by decide) rfl ?_
                  refine g_iinc (v := (nI (w + 1))) 6 [(0, .ref o), (1, .int i), (2, .long (opC c n)), (4, .int (nI n)), (5, .int (nI ((wmF c (opC c n) w).1))), (6, .int (nI ((wmF c (opC c n) w).2))), (7, .int (nI (w + 1))), (8, .int (nI (pcL (xC c w &&& opC c n))))] [1, 2, 3, 4, 5, 6, 0, 7] (hd := dX7_test_92) (C := hX) rfl (nI_1 _) (by decide) rfl ?_
                  refine g_goto 36 (hd := dX7_test_95) (C := hX) (by decide) ?_
                  refine g_lv [(0, .ref o), (1, .int i), (2, .long (opC c n)), (4, .int (nI n)), (5, .int (nI ((wmF c (opC c n) w).1))), (6, .int (nI ((wmF c (opC c n) w).2))), (7, .int (nI (w + 1)))] [0, 1, 2, 3, 4, 5, 6] rfl ?_
                  refine g_lve [(0, .ref o), (1, .int i), (2, .long (opC c n)), (4, .int (nI n)), (5, .int (nI ((wmF c (opC c n) (w + 1)).1))), (6, .int (nI ((wmF c (opC c n) (w + 1)).2))), (7, .int (nI (w + 1)))] (by simp only [wmF]; rw [if_neg (Nat.not_lt.mpr c_64)]) ?_
                  exact ih_36 (w + 1) (by omega) (by omega)
                · refine g_iload 6 (hd := dX7_test_67) (C := hX) rfl ?_
                  refine g_goto 74 (hd := dX7_test_69) (C := hX) (by decide) ?_
                  refine g_istore [(0, .ref o), (1, .int i), (2, .long (opC c n)), (4, .int (nI n)), (5, .int (nI w)), (6, .int (nI ((wmF c (opC c n) w).2))), (7, .int (nI w)), (8, .int (nI (pcL (xC c w &&& opC c n))))] [1, 2, 3, 4, 0, 5, 6, 7] (hd := dX7_test_74) (C := hX) (by decide) rfl ?_
                  refine g_iload 7 (hd := dX7_test_76) (C := hX) rfl ?_
                  refine g_iload 5 (hd := dX7_test_78) (C := hX) rfl ?_
                  refine g_icmp_leN 88 (hd := dX7_test_80) (C := hX) (by decide) (by omega) (by omega) (fun c_80 => absurd c_80 (Nat.not_le.mpr c_64)) (fun c_80 => ?_)
                  refine g_iload 7 (hd := dX7_test_83) (C := hX) rfl ?_
                  refine g_goto 90 (hd := dX7_test_85) (C := hX) (by decide) ?_
                  refine g_istore [(0, .ref o), (1, .int i), (2, .long (opC c n)), (4, .int (nI n)), (5, .int (nI w)), (6, .int (nI (pcL (xC c w &&& opC c n)))), (7, .int (nI w)), (8, .int (nI (pcL (xC c w &&& opC c n))))] [1, 2, 3, 4, 5, 0, 6, 7] (hd := dX7_test_90) (C := hX) (by decide) rfl ?_
                  refine g_iinc (v := (nI (w + 1))) 6 [(0, .ref o), (1, .int i), (2, .long (opC c n)), (4, .int (nI n)), (5, .int (nI w)), (6, .int (nI (pcL (xC c w &&& opC c n)))), (7, .int (nI (w + 1))), (8, .int (nI (pcL (xC c w &&& opC c n))))] [1, 2, 3, 4, 5, 6, 0, 7] (hd := dX7_test_92) (C := hX) rfl (nI_1 _) (by decide) rfl ?_
                  refine g_goto 36 (hd := dX7_test_95) (C := hX) (by decide) ?_
                  refine g_lv [(0, .ref o), (1, .int i), (2, .long (opC c n)), (4, .int (nI n)), (5, .int (nI w)), (6, .int (nI (pcL (xC c w &&& opC c n)))), (7, .int (nI (w + 1)))] [0, 1, 2, 3, 4, 5, 6] rfl ?_
                  refine g_lve [(0, .ref o), (1, .int i), (2, .long (opC c n)), (4, .int (nI n)), (5, .int (nI ((wmF c (opC c n) (w + 1)).1))), (6, .int (nI ((wmF c (opC c n) (w + 1)).2))), (7, .int (nI (w + 1)))] (by simp only [wmF]; rw [if_pos c_64]) ?_
                  exact ih_36 (w + 1) (by omega) (by omega)
          refine g_lve [(0, .ref o), (1, .int i), (2, .long (opC c n)), (4, .int (nI n)), (5, .int (nI ((wmF c (opC c n) 0).1))), (6, .int (nI ((wmF c (opC c n) 0).2))), (7, .int (nI 0))] rfl ?_
          exact L_36 _ 0 (Nat.lt_succ_self _) (Nat.zero_le _)
    refine g_lve [(0, .ref o), (1, .int i), (2, .long (opC c 0)), (4, .int (nI 0))] rfl ?_
    exact L_19 _ 0 (Nat.lt_succ_self _) (fun j h => absurd h (Nat.not_lt_zero j))
  · refine g_iconst (v := (-1)) hX dX7_test_5 (by decide) ?_
    exact (hret ((-1), wi, EX, PA, aE, aP, lt) _ _ (Or.inl ⟨gl_lt c_2, rfl⟩)).2.1 _ rfl rfl dX7_test_6

theorem in_X7_both_7 : ∀ w ∈ wsX70, w ∈ wsX7_both := fun _ h => List.mem_cons_of_mem _ (List.mem_append_right _ h)
theorem ok_X7_both : gOK yX7_both wsX7_both ({ frames := 2, cells := 0, slots := 0, locals := 53 }) 8 3 := ⟨⟨_, _, _, rfl⟩, rfl, rfl, by decide, by decide, by decide +kernel⟩
set_option maxRecDepth 100000 in
set_option maxHeartbeats 4000000 in
theorem c_X7_both (l : Launch) (D : va_G) (cC cI cJ cO : ClassId) (o : Nat) (ot : Nat) (on : Nat) (od : Nat) (ow : Nat) (oi : Nat) (oe : Nat) (op : Nat) (len : Nat) (ch : Nat) (va : Nat) (en : Nat) (aE : Int64) (aP : Int64) (lt : Int64) (T : Nat → Nat) (c : Nat → Nat) (rd : Nat → Nat) (ww : Nat → Nat) (wi : Nat → Nat) (EX : Nat → Int64) (PA : Nat → Int64) (sx : Int32) (tx : Int32) (wh : Int32) (hok : okC c) : CM (S := Int32 × (Nat → Nat) × (Nat → Int64) × (Nat → Int64) × Int64 × Int64 × Int64) l D (tyL cC cI cJ cO) yX7_both wsX7_both ({ frames := 2, cells := 0, slots := 0, locals := 53 }) [.ref o, .int sx, .int tx, .int wh] [(o, .inr (7, [.int (nI len), .ref ot, .ref on, .ref od, .ref ow, .int (nI ch), .int (nI va), .int (nI en), .ref oi, .ref oe, .ref op, .long aE, .long aP, .long lt])), (ot, .inl (cI, 200, .inl (fun j_ => nI (T j_)))), (on, .inl (cI, 78, .inl (fun j_ => nI (c j_)))), (od, .inl (cI, 78, .inl (fun j_ => nI (rd j_)))), (ow, .inl (cI, 468, .inl (fun j_ => nI (ww j_)))), (oi, .inl (cI, 32, .inl (fun j_ => nI (wi j_)))), (oe, .inl (cJ, 256, .inr (.inl EX))), (op, .inl (cJ, 256, .inr (.inl PA)))] (fun u => some (.int u.1)) (fun u => btR c sx tx wh u.1) (fun u_ => [(o, .inr (7, [.int (nI len), .ref ot, .ref on, .ref od, .ref ow, .int (nI ch), .int (nI va), .int (nI en), .ref oi, .ref oe, .ref op, .long u_.2.2.2.2.1, .long u_.2.2.2.2.2.1, .long u_.2.2.2.2.2.2])), (ot, .inl (cI, 200, .inl (fun j_ => nI (T j_)))), (on, .inl (cI, 78, .inl (fun j_ => nI (c j_)))), (od, .inl (cI, 78, .inl (fun j_ => nI (rd j_)))), (ow, .inl (cI, 468, .inl (fun j_ => nI (ww j_)))), (oi, .inl (cI, 32, .inl (fun j_ => nI (u_.2.1 j_)))), (oe, .inl (cJ, 256, .inr (.inl u_.2.2.1))), (op, .inl (cJ, 256, .inr (.inl u_.2.2.2.1)))]) := by
  refine CM_in (cc := cX7_both) (maxL := 8) (ret := (some .int)) (by decide) rfl (Nat.le_of_ble_eq_true rfl) ?_
  intro X hX hret
  show GW X [(o, .inr (7, [.int (nI len), .ref ot, .ref on, .ref od, .ref ow, .int (nI ch), .int (nI va), .int (nI en), .ref oi, .ref oe, .ref op, .long aE, .long aP, .long lt])), (ot, .inl (cI, 200, .inl (fun j_ => nI (T j_)))), (on, .inl (cI, 78, .inl (fun j_ => nI (c j_)))), (od, .inl (cI, 78, .inl (fun j_ => nI (rd j_)))), (ow, .inl (cI, 468, .inl (fun j_ => nI (ww j_)))), (oi, .inl (cI, 32, .inl (fun j_ => nI (wi j_)))), (oe, .inl (cJ, 256, .inr (.inl EX))), (op, .inl (cJ, 256, .inr (.inl PA)))] [(0, .ref o), (1, .int sx), (2, .int tx), (3, .int wh)] [] 0 0 0
  have b0 := hok.2.1
  have b1 := hok.2.2.1
  have hp2 := p2_8 b0
  have hcd := hok.2.2.2.2.2.1
  refine g_aload_n 0 (hd := dX7_both_0) (C := hX) rfl rfl ?_
  refine g_iload_n 1 (hd := dX7_both_1) (C := hX) rfl rfl ?_
  refine g_callVs (rest := []) hX (c_X7_isStuck l D cC cI cJ cO o ot on od ow oi oe op len ch va en aE aP lt T c rd ww wi EX PA sx b0 b1) ok_X7_isStuck rfl 0 rfl rfl (hd := dX7_both_2) gX7_both_X7_isStuck ⟨by decide, by decide⟩ rfl (Nat.le_of_ble_eq_true rfl) ⟨Nat.zero_le _, Nat.zero_le _⟩ [0, 1, 2, 3, 4, 5, 6, 7] (by decide) rfl rfl ?_
  intro r_2 e_2
  rcases e_2 with ⟨rfl, p_2⟩ | ⟨rfl, p_2⟩
  · show GW X [(o, .inr (7, [.int (nI len), .ref ot, .ref on, .ref od, .ref ow, .int (nI ch), .int (nI va), .int (nI en), .ref oi, .ref oe, .ref op, .long aE, .long aP, .long lt])), (ot, .inl (cI, 200, .inl (fun j_ => nI (T j_)))), (on, .inl (cI, 78, .inl (fun j_ => nI (c j_)))), (od, .inl (cI, 78, .inl (fun j_ => nI (rd j_)))), (ow, .inl (cI, 468, .inl (fun j_ => nI (ww j_)))), (oi, .inl (cI, 32, .inl (fun j_ => nI (wi j_)))), (oe, .inl (cJ, 256, .inr (.inl EX))), (op, .inl (cJ, 256, .inr (.inl PA)))] [(0, .ref o), (1, .int sx), (2, .int tx), (3, .int wh)] [.int (nI 1)] 5 0 0
    refine g_if_eqN 34 (hd := dX7_both_5) (C := hX) (by decide) (by decide) (fun c_5 => absurd c_5 (by decide)) (fun c_5 => ?_)
    refine g_aload_n 0 (hd := dX7_both_8) (C := hX) rfl rfl ?_
    refine g_iload_n 2 (hd := dX7_both_9) (C := hX) rfl rfl ?_
    refine g_callVs (rest := []) hX (c_X7_isStuck l D cC cI cJ cO o ot on od ow oi oe op len ch va en aE aP lt T c rd ww wi EX PA tx b0 b1) ok_X7_isStuck rfl 0 rfl rfl (hd := dX7_both_10) gX7_both_X7_isStuck ⟨by decide, by decide⟩ rfl (Nat.le_of_ble_eq_true rfl) ⟨Nat.zero_le _, Nat.zero_le _⟩ [0, 1, 2, 3, 4, 5, 6, 7] (by decide) rfl rfl ?_
    intro r_10 e_10
    rcases e_10 with ⟨rfl, p_10⟩ | ⟨rfl, p_10⟩
    · show GW X [(o, .inr (7, [.int (nI len), .ref ot, .ref on, .ref od, .ref ow, .int (nI ch), .int (nI va), .int (nI en), .ref oi, .ref oe, .ref op, .long aE, .long aP, .long lt])), (ot, .inl (cI, 200, .inl (fun j_ => nI (T j_)))), (on, .inl (cI, 78, .inl (fun j_ => nI (c j_)))), (od, .inl (cI, 78, .inl (fun j_ => nI (rd j_)))), (ow, .inl (cI, 468, .inl (fun j_ => nI (ww j_)))), (oi, .inl (cI, 32, .inl (fun j_ => nI (wi j_)))), (oe, .inl (cJ, 256, .inr (.inl EX))), (op, .inl (cJ, 256, .inr (.inl PA)))] [(0, .ref o), (1, .int sx), (2, .int tx), (3, .int wh)] [.int (nI 1)] 13 0 0
      refine g_if_eqN 34 (hd := dX7_both_13) (C := hX) (by decide) (by decide) (fun c_13 => absurd c_13 (by decide)) (fun c_13 => ?_)
      obtain ⟨jsx, hjsx, rfl⟩ := vp_in_of p_2 (by omega)
      obtain ⟨jtx, hjtx, rfl⟩ := vp_in_of p_10 (by omega)
      refine g_iload_n 1 (hd := dX7_both_16) (C := hX) rfl rfl ?_
      refine g_iconst (v := nI 2) hX dX7_both_17 (by decide) ?_
      refine g_idiv hX dX7_both_18 (by decide) ?_
      refine g_top (y := (nI (jsx / 2))) (pk_div (by omega) (by omega) (by omega)) ?_
      refine g_iload_n 2 (hd := dX7_both_19) (C := hX) rfl rfl ?_
      refine g_iconst (v := nI 2) hX dX7_both_20 (by decide) ?_
      refine g_idiv hX dX7_both_21 (by decide) ?_
      refine g_top (y := (nI (jtx / 2))) (pk_div (by omega) (by omega) (by omega)) ?_
      refine g_icmp_eqN 34 (hd := dX7_both_22) (C := hX) (by decide) (by omega) (by omega) (fun c_22 => ?_) (fun c_22 => ?_)
      · refine g_iconst (v := (-1)) hX dX7_both_34 (by decide) ?_
        exact (hret ((-1), wi, EX, PA, aE, aP, lt) _ _ (Or.inl ⟨fun z => z.2.2.1 (by rw [cl_nI (by omega), cl_nI (by omega)]; exact c_22), rfl⟩)).2.1 _ rfl rfl dX7_both_35
      · refine g_iload_n 3 (hd := dX7_both_25) (C := hX) rfl rfl ?_
        refine g_iconst (v := nI 0) hX dX7_both_26 (by decide) ?_
        refine g_iconst (v := nI 1) hX dX7_both_27 (by decide) ?_
        refine g_callS (rest := []) hX (c_X7_isIn l D cC cI cJ cO wh (nI 0) (nI 1)) ok_X7_isIn (fun _ => rfl) (hd := dX7_both_28) gX7_both_X7_isIn ⟨by decide, by decide⟩ rfl (Nat.le_of_ble_eq_true rfl) ⟨Nat.zero_le _, Nat.zero_le _⟩ [] (by decide) rfl rfl ?_
        intro r_28 e_28
        rcases e_28 with ⟨rfl, p_28⟩ | ⟨rfl, p_28⟩
        · show GW X [(o, .inr (7, [.int (nI len), .ref ot, .ref on, .ref od, .ref ow, .int (nI ch), .int (nI va), .int (nI en), .ref oi, .ref oe, .ref op, .long aE, .long aP, .long lt])), (ot, .inl (cI, 200, .inl (fun j_ => nI (T j_)))), (on, .inl (cI, 78, .inl (fun j_ => nI (c j_)))), (od, .inl (cI, 78, .inl (fun j_ => nI (rd j_)))), (ow, .inl (cI, 468, .inl (fun j_ => nI (ww j_)))), (oi, .inl (cI, 32, .inl (fun j_ => nI (wi j_)))), (oe, .inl (cJ, 256, .inr (.inl EX))), (op, .inl (cJ, 256, .inr (.inl PA)))] [(0, .ref o), (1, .int (nI jsx)), (2, .int (nI jtx)), (3, .int wh)] [.int (nI 1)] 31 0 0
          refine g_if_neN 36 (hd := dX7_both_31) (C := hX) (by decide) (by decide) (fun c_31 => ?_) (fun c_31 => absurd c_31 (by decide))
          obtain ⟨kw, hkw, rfl⟩ := ii_nat (by decide) p_28
          refine g_iconst (v := nI 0) hX dX7_both_36 (by decide) ?_
          refine g_istore [(0, .ref o), (1, .int (nI jsx)), (2, .int (nI jtx)), (3, .int (nI kw)), (4, .int (nI 0))] [1, 2, 3, 4, 0] (hd := dX7_both_37) (C := hX) (by decide) rfl ?_
          refine g_iconst (v := nI 0) hX dX7_both_39 (by decide) ?_
          refine g_istore [(0, .ref o), (1, .int (nI jsx)), (2, .int (nI jtx)), (3, .int (nI kw)), (4, .int (nI 0)), (5, .int (nI 0))] [1, 2, 3, 4, 5, 0] (hd := dX7_both_40) (C := hX) (by decide) rfl ?_
          have L_42 : ∀ (n_42 : Nat) (w : Nat) (wj : Nat → Nat), 2 ^ c 0 - w < n_42 → (w ≤ 2 ^ c 0) → GW X [(o, .inr (7, [.int (nI len), .ref ot, .ref on, .ref od, .ref ow, .int (nI ch), .int (nI va), .int (nI en), .ref oi, .ref oe, .ref op, .long aE, .long aP, .long lt])), (ot, .inl (cI, 200, .inl (fun j_ => nI (T j_)))), (on, .inl (cI, 78, .inl (fun j_ => nI (c j_)))), (od, .inl (cI, 78, .inl (fun j_ => nI (rd j_)))), (ow, .inl (cI, 468, .inl (fun j_ => nI (ww j_)))), (oi, .inl (cI, 32, .inl (fun j_ => nI (wj j_)))), (oe, .inl (cJ, 256, .inr (.inl EX))), (op, .inl (cJ, 256, .inr (.inl PA)))] [(0, .ref o), (1, .int (nI jsx)), (2, .int (nI jtx)), (3, .int (nI kw)), (4, .int (nI (fb_ct (btP c jsx jtx kw) w))), (5, .int (nI w))] [] 42 0 0 := by
            intro n_42
            induction n_42 with
            | zero => intro w wj hm_42; exact absurd hm_42 (Nat.not_lt_zero _)
            | succ n_42 ih_42 =>
              intro w wj hm_42 hwL
              refine g_iload 5 (hd := dX7_both_42) (C := hX) rfl ?_
              refine g_aload_n 0 (hd := dX7_both_44) (C := hX) rfl rfl ?_
              refine g_callVs (rest := [.int (nI w)]) hX (c_X7_all l D cC cI cJ cO o ot on od ow oi oe op len ch va en aE aP lt T c rd ww wj EX PA b0) ok_X7_all rfl 0 rfl rfl (hd := dX7_both_45) gX7_both_X7_all ⟨by decide, by decide⟩ rfl (Nat.le_of_ble_eq_true rfl) ⟨Nat.zero_le _, Nat.zero_le _⟩ [0, 1, 2, 3, 4, 5, 6, 7] (by decide) rfl rfl ?_
              intro r_45 e_45
              subst e_45
              show GW X [(o, .inr (7, [.int (nI len), .ref ot, .ref on, .ref od, .ref ow, .int (nI ch), .int (nI va), .int (nI en), .ref oi, .ref oe, .ref op, .long aE, .long aP, .long lt])), (ot, .inl (cI, 200, .inl (fun j_ => nI (T j_)))), (on, .inl (cI, 78, .inl (fun j_ => nI (c j_)))), (od, .inl (cI, 78, .inl (fun j_ => nI (rd j_)))), (ow, .inl (cI, 468, .inl (fun j_ => nI (ww j_)))), (oi, .inl (cI, 32, .inl (fun j_ => nI (wj j_)))), (oe, .inl (cJ, 256, .inr (.inl EX))), (op, .inl (cJ, 256, .inr (.inl PA)))] [(0, .ref o), (1, .int (nI jsx)), (2, .int (nI jtx)), (3, .int (nI kw)), (4, .int (nI (fb_ct (btP c jsx jtx kw) w))), (5, .int (nI w))] [.int (nI (2 ^ c 0)), .int (nI w)] 48 0 0
              refine g_icmp_geN 133 (hd := dX7_both_48) (C := hX) (by decide) (by omega) (by omega) (fun c_48 => ?_) (fun c_48 => ?_)
              · refine g_iload 4 (hd := dX7_both_133) (C := hX) rfl ?_
                exact (hret ((nI (fb_ct (btP c jsx jtx kw) w)), wj, EX, PA, aE, aP, lt) _ _ (Or.inr ⟨jsx, jtx, hjsx, hjtx, c_22, rfl, rfl, by rw [show w = 2 ^ c 0 from by omega]; rcases (show kw = 0 ∨ kw = 1 by omega) with rfl | rfl; exact Or.inl ⟨rfl, rfl⟩; exact Or.inr ⟨rfl, rfl⟩⟩)).2.1 _ rfl rfl dX7_both_135
              · refine g_aload_n 0 (hd := dX7_both_51) (C := hX) rfl rfl ?_
                refine g_iload 5 (hd := dX7_both_52) (C := hX) rfl ?_
                refine g_callVs (rest := []) hX (c_X7_isCode l D cC cI cJ cO o ot on od ow oi oe op len ch va en aE aP lt T c rd ww wj EX PA w (by omega) b0 hcd) ok_X7_isCode rfl 0 rfl rfl (hd := dX7_both_54) gX7_both_X7_isCode ⟨by decide, by decide⟩ rfl (Nat.le_of_ble_eq_true rfl) ⟨Nat.zero_le _, Nat.zero_le _⟩ [0, 1, 2, 3, 4, 5, 6, 7] (by decide) rfl rfl ?_
                intro r_54 e_54
                rcases e_54 with ⟨rfl, p_54⟩ | ⟨rfl, p_54⟩
                · show GW X [(o, .inr (7, [.int (nI len), .ref ot, .ref on, .ref od, .ref ow, .int (nI ch), .int (nI va), .int (nI en), .ref oi, .ref oe, .ref op, .long aE, .long aP, .long lt])), (ot, .inl (cI, 200, .inl (fun j_ => nI (T j_)))), (on, .inl (cI, 78, .inl (fun j_ => nI (c j_)))), (od, .inl (cI, 78, .inl (fun j_ => nI (rd j_)))), (ow, .inl (cI, 468, .inl (fun j_ => nI (ww j_)))), (oi, .inl (cI, 32, .inl (fun j_ => nI (wj j_)))), (oe, .inl (cJ, 256, .inr (.inl EX))), (op, .inl (cJ, 256, .inr (.inl PA)))] [(0, .ref o), (1, .int (nI jsx)), (2, .int (nI jtx)), (3, .int (nI kw)), (4, .int (nI (fb_ct (btP c jsx jtx kw) w))), (5, .int (nI w))] [.int (nI 1)] 57 0 0
                  refine g_if_eqN 127 (hd := dX7_both_57) (C := hX) (by decide) (by decide) (fun c_57 => absurd c_57 (by decide)) (fun c_57 => ?_)
                  refine g_aload_n 0 (hd := dX7_both_60) (C := hX) rfl rfl ?_
                  refine g_iload 5 (hd := dX7_both_61) (C := hX) rfl ?_
                  refine g_bipush (v := (-4)) hX dX7_both_63 (by decide) ?_
                  refine g_bipush (v := (-4)) hX dX7_both_65 (by decide) ?_
                  refine g_callVp (rest := []) hX (c_X7_lets l D cC cI cJ cO o ot on od ow oi oe op len ch va en aE aP lt T c rd ww wj EX PA w (-4) (-4) none none (by first | exact so_n (by decide) | exact so_s (by omega)) (by first | exact so_n (by decide) | exact so_s (by omega)) (by omega) hok) ok_X7_lets rfl 0 rfl rfl (fun _ => rfl) (hd := dX7_both_67) gX7_both_X7_lets ⟨by decide, by decide⟩ rfl (Nat.le_of_ble_eq_true rfl) ⟨Nat.zero_le _, Nat.zero_le _⟩ [] rfl rfl ?_
                  intro r_67 e_67
                  rw [ou_can hok] at e_67
                  subst e_67
                  show GW X [(o, .inr (7, [.int (nI len), .ref ot, .ref on, .ref od, .ref ow, .int (nI ch), .int (nI va), .int (nI en), .ref oi, .ref oe, .ref op, .long aE, .long aP, .long lt])), (ot, .inl (cI, 200, .inl (fun j_ => nI (T j_)))), (on, .inl (cI, 78, .inl (fun j_ => nI (c j_)))), (od, .inl (cI, 78, .inl (fun j_ => nI (rd j_)))), (ow, .inl (cI, 468, .inl (fun j_ => nI (ww j_)))), (oi, .inl (cI, 32, .inl (fun j_ => nI ((rvA c w none none wj (c 0 + c 1)) j_)))), (oe, .inl (cJ, 256, .inr (.inl EX))), (op, .inl (cJ, 256, .inr (.inl PA)))] [(0, .ref o), (1, .int (nI jsx)), (2, .int (nI jtx)), (3, .int (nI kw)), (4, .int (nI (fb_ct (btP c jsx jtx kw) w))), (5, .int (nI w))] [.int (nI (ouC c w none none))] 70 0 0
                  have q0 := ou_lt hok w none none
                  refine g_istore [(0, .ref o), (1, .int (nI jsx)), (2, .int (nI jtx)), (3, .int (nI kw)), (4, .int (nI (fb_ct (btP c jsx jtx kw) w))), (5, .int (nI w)), (6, .int (nI (ouC c w none none)))] [1, 2, 3, 4, 5, 6, 0] (hd := dX7_both_70) (C := hX) (by decide) rfl ?_
                  refine g_aload_n 0 (hd := dX7_both_72) (C := hX) rfl rfl ?_
                  refine g_iload 5 (hd := dX7_both_73) (C := hX) rfl ?_
                  refine g_iload_n 1 (hd := dX7_both_75) (C := hX) rfl rfl ?_
                  refine g_iload_n 2 (hd := dX7_both_76) (C := hX) rfl rfl ?_
                  refine g_callVp (rest := []) hX (c_X7_lets l D cC cI cJ cO o ot on od ow oi oe op len ch va en aE aP lt T c rd ww (rvA c w none none wj (c 0 + c 1)) EX PA w (nI jsx) (nI jtx) (some jsx) (some jtx) (by first | exact so_n (by decide) | exact so_s (by omega)) (by first | exact so_n (by decide) | exact so_s (by omega)) (by omega) hok) ok_X7_lets rfl 0 rfl rfl (fun _ => rfl) (hd := dX7_both_77) gX7_both_X7_lets ⟨by decide, by decide⟩ rfl (Nat.le_of_ble_eq_true rfl) ⟨Nat.zero_le _, Nat.zero_le _⟩ [] rfl rfl ?_
                  intro r_77 e_77
                  rw [ou_can hok] at e_77
                  subst e_77
                  show GW X [(o, .inr (7, [.int (nI len), .ref ot, .ref on, .ref od, .ref ow, .int (nI ch), .int (nI va), .int (nI en), .ref oi, .ref oe, .ref op, .long aE, .long aP, .long lt])), (ot, .inl (cI, 200, .inl (fun j_ => nI (T j_)))), (on, .inl (cI, 78, .inl (fun j_ => nI (c j_)))), (od, .inl (cI, 78, .inl (fun j_ => nI (rd j_)))), (ow, .inl (cI, 468, .inl (fun j_ => nI (ww j_)))), (oi, .inl (cI, 32, .inl (fun j_ => nI ((rvA c w (some jsx) (some jtx) (rvA c w none none wj (c 0 + c 1)) (c 0 + c 1)) j_)))), (oe, .inl (cJ, 256, .inr (.inl EX))), (op, .inl (cJ, 256, .inr (.inl PA)))] [(0, .ref o), (1, .int (nI jsx)), (2, .int (nI jtx)), (3, .int (nI kw)), (4, .int (nI (fb_ct (btP c jsx jtx kw) w))), (5, .int (nI w)), (6, .int (nI (ouC c w none none)))] [.int (nI (ouC c w (some jsx) (some jtx)))] 80 0 0
                  have q1 := ou_lt hok w (some jsx) (some jtx)
                  refine g_istore [(0, .ref o), (1, .int (nI jsx)), (2, .int (nI jtx)), (3, .int (nI kw)), (4, .int (nI (fb_ct (btP c jsx jtx kw) w))), (5, .int (nI w)), (6, .int (nI (ouC c w none none))), (7, .int (nI (ouC c w (some jsx) (some jtx))))] [1, 2, 3, 4, 5, 6, 7, 0] (hd := dX7_both_80) (C := hX) (by decide) rfl ?_
                  refine g_iload 4 (hd := dX7_both_82) (C := hX) rfl ?_
                  refine g_iload_n 3 (hd := dX7_both_84) (C := hX) rfl rfl ?_
                  refine g_if_neN 104 (hd := dX7_both_85) (C := hX) (by decide) (by omega) (fun c_85 => ?_) (fun c_85 => ?_)
                  · refine g_iload 7 (hd := dX7_both_104) (C := hX) rfl ?_
                    refine g_callS (rest := [.int (nI (fb_ct (btP c jsx jtx kw) w))]) hX (c_X7_isValid l D cC cI cJ cO (ouC c w (some jsx) (some jtx)) (by omega)) ok_X7_isValid (fun _ => rfl) (hd := dX7_both_106) gX7_both_X7_isValid ⟨by decide, by decide⟩ rfl (Nat.le_of_ble_eq_true rfl) ⟨Nat.zero_le _, Nat.zero_le _⟩ [] (by decide) rfl rfl ?_
                    intro r_106 e_106
                    rcases e_106 with ⟨rfl, p_106⟩ | ⟨rfl, p_106⟩
                    · show GW X [(o, .inr (7, [.int (nI len), .ref ot, .ref on, .ref od, .ref ow, .int (nI ch), .int (nI va), .int (nI en), .ref oi, .ref oe, .ref op, .long aE, .long aP, .long lt])), (ot, .inl (cI, 200, .inl (fun j_ => nI (T j_)))), (on, .inl (cI, 78, .inl (fun j_ => nI (c j_)))), (od, .inl (cI, 78, .inl (fun j_ => nI (rd j_)))), (ow, .inl (cI, 468, .inl (fun j_ => nI (ww j_)))), (oi, .inl (cI, 32, .inl (fun j_ => nI ((rvA c w (some jsx) (some jtx) (rvA c w none none wj (c 0 + c 1)) (c 0 + c 1)) j_)))), (oe, .inl (cJ, 256, .inr (.inl EX))), (op, .inl (cJ, 256, .inr (.inl PA)))] [(0, .ref o), (1, .int (nI jsx)), (2, .int (nI jtx)), (3, .int (nI kw)), (4, .int (nI (fb_ct (btP c jsx jtx kw) w))), (5, .int (nI w)), (6, .int (nI (ouC c w none none))), (7, .int (nI (ouC c w (some jsx) (some jtx))))] [.int (nI 1), .int (nI (fb_ct (btP c jsx jtx kw) w))] 109 0 0
                      refine g_if_eqN 123 (hd := dX7_both_109) (C := hX) (by decide) (by decide) (fun c_109 => absurd c_109 (by decide)) (fun c_109 => ?_)
                      refine g_iload 7 (hd := dX7_both_112) (C := hX) rfl ?_
                      refine g_iload 6 (hd := dX7_both_114) (C := hX) rfl ?_
                      refine g_icmp_eqN 123 (hd := dX7_both_116) (C := hX) (by decide) (by omega) (by omega) (fun c_116 => ?_) (fun c_116 => ?_)
                      · refine g_iconst (v := nI 0) hX dX7_both_123 (by decide) ?_
                        refine g_iadd hX dX7_both_124 ?_
                        refine g_top (y := (nI ((fb_ct (btP c jsx jtx kw) w) + 0))) (nI_add _ _) ?_
                        refine g_istore [(0, .ref o), (1, .int (nI jsx)), (2, .int (nI jtx)), (3, .int (nI kw)), (4, .int (nI ((fb_ct (btP c jsx jtx kw) w) + 0))), (5, .int (nI w)), (6, .int (nI (ouC c w none none))), (7, .int (nI (ouC c w (some jsx) (some jtx))))] [1, 2, 3, 4, 0, 5, 6, 7] (hd := dX7_both_125) (C := hX) (by decide) rfl ?_
                        refine g_iinc (v := (nI (w + 1))) 5 [(0, .ref o), (1, .int (nI jsx)), (2, .int (nI jtx)), (3, .int (nI kw)), (4, .int (nI ((fb_ct (btP c jsx jtx kw) w) + 0))), (5, .int (nI (w + 1))), (6, .int (nI (ouC c w none none))), (7, .int (nI (ouC c w (some jsx) (some jtx))))] [1, 2, 3, 4, 5, 0, 6, 7] (hd := dX7_both_127) (C := hX) rfl (nI_1 _) (by decide) rfl ?_
                        refine g_goto 42 (hd := dX7_both_130) (C := hX) (by decide) ?_
                        refine g_lv [(0, .ref o), (1, .int (nI jsx)), (2, .int (nI jtx)), (3, .int (nI kw)), (4, .int (nI ((fb_ct (btP c jsx jtx kw) w) + 0))), (5, .int (nI (w + 1)))] [0, 1, 2, 3, 4, 5] rfl ?_
                        refine g_lve [(0, .ref o), (1, .int (nI jsx)), (2, .int (nI jtx)), (3, .int (nI kw)), (4, .int (nI (fb_ct (btP c jsx jtx kw) (w + 1)))), (5, .int (nI (w + 1)))] (by simp [fb_ct_succ, btP, p_54, c_85, pb_e hok (show jsx < 64 by omega) c_22 c_116]) ?_
                        exact ih_42 (w + 1) (rvA c w (some jsx) (some jtx) (rvA c w none none wj (c 0 + c 1)) (c 0 + c 1)) (by omega) (by omega)
                      · refine g_iconst (v := nI 1) hX dX7_both_119 (by decide) ?_
                        refine g_goto 124 (hd := dX7_both_120) (C := hX) (by decide) ?_
                        refine g_iadd hX dX7_both_124 ?_
                        refine g_top (y := (nI ((fb_ct (btP c jsx jtx kw) w) + 1))) (nI_add _ _) ?_
                        refine g_istore [(0, .ref o), (1, .int (nI jsx)), (2, .int (nI jtx)), (3, .int (nI kw)), (4, .int (nI ((fb_ct (btP c jsx jtx kw) w) + 1))), (5, .int (nI w)), (6, .int (nI (ouC c w none none))), (7, .int (nI (ouC c w (some jsx) (some jtx))))] [1, 2, 3, 4, 0, 5, 6, 7] (hd := dX7_both_125) (C := hX) (by decide) rfl ?_
                        refine g_iinc (v := (nI (w + 1))) 5 [(0, .ref o), (1, .int (nI jsx)), (2, .int (nI jtx)), (3, .int (nI kw)), (4, .int (nI ((fb_ct (btP c jsx jtx kw) w) + 1))), (5, .int (nI (w + 1))), (6, .int (nI (ouC c w none none))), (7, .int (nI (ouC c w (some jsx) (some jtx))))] [1, 2, 3, 4, 5, 0, 6, 7] (hd := dX7_both_127) (C := hX) rfl (nI_1 _) (by decide) rfl ?_
                        refine g_goto 42 (hd := dX7_both_130) (C := hX) (by decide) ?_
                        refine g_lv [(0, .ref o), (1, .int (nI jsx)), (2, .int (nI jtx)), (3, .int (nI kw)), (4, .int (nI ((fb_ct (btP c jsx jtx kw) w) + 1))), (5, .int (nI (w + 1)))] [0, 1, 2, 3, 4, 5] rfl ?_
                        refine g_lve [(0, .ref o), (1, .int (nI jsx)), (2, .int (nI jtx)), (3, .int (nI kw)), (4, .int (nI (fb_ct (btP c jsx jtx kw) (w + 1)))), (5, .int (nI (w + 1)))] (by simp [fb_ct_succ, btP, p_54, c_85, pb_y hok (show jsx < 64 by omega) c_22 p_106 c_116]) ?_
                        exact ih_42 (w + 1) (rvA c w (some jsx) (some jtx) (rvA c w none none wj (c 0 + c 1)) (c 0 + c 1)) (by omega) (by omega)
                    · show GW X [(o, .inr (7, [.int (nI len), .ref ot, .ref on, .ref od, .ref ow, .int (nI ch), .int (nI va), .int (nI en), .ref oi, .ref oe, .ref op, .long aE, .long aP, .long lt])), (ot, .inl (cI, 200, .inl (fun j_ => nI (T j_)))), (on, .inl (cI, 78, .inl (fun j_ => nI (c j_)))), (od, .inl (cI, 78, .inl (fun j_ => nI (rd j_)))), (ow, .inl (cI, 468, .inl (fun j_ => nI (ww j_)))), (oi, .inl (cI, 32, .inl (fun j_ => nI ((rvA c w (some jsx) (some jtx) (rvA c w none none wj (c 0 + c 1)) (c 0 + c 1)) j_)))), (oe, .inl (cJ, 256, .inr (.inl EX))), (op, .inl (cJ, 256, .inr (.inl PA)))] [(0, .ref o), (1, .int (nI jsx)), (2, .int (nI jtx)), (3, .int (nI kw)), (4, .int (nI (fb_ct (btP c jsx jtx kw) w))), (5, .int (nI w)), (6, .int (nI (ouC c w none none))), (7, .int (nI (ouC c w (some jsx) (some jtx))))] [.int (nI 0), .int (nI (fb_ct (btP c jsx jtx kw) w))] 109 0 0
                      refine g_if_eqN 123 (hd := dX7_both_109) (C := hX) (by decide) (by decide) (fun c_109 => ?_) (fun c_109 => absurd c_109 (by decide))
                      refine g_iconst (v := nI 0) hX dX7_both_123 (by decide) ?_
                      refine g_iadd hX dX7_both_124 ?_
                      refine g_top (y := (nI ((fb_ct (btP c jsx jtx kw) w) + 0))) (nI_add _ _) ?_
                      refine g_istore [(0, .ref o), (1, .int (nI jsx)), (2, .int (nI jtx)), (3, .int (nI kw)), (4, .int (nI ((fb_ct (btP c jsx jtx kw) w) + 0))), (5, .int (nI w)), (6, .int (nI (ouC c w none none))), (7, .int (nI (ouC c w (some jsx) (some jtx))))] [1, 2, 3, 4, 0, 5, 6, 7] (hd := dX7_both_125) (C := hX) (by decide) rfl ?_
                      refine g_iinc (v := (nI (w + 1))) 5 [(0, .ref o), (1, .int (nI jsx)), (2, .int (nI jtx)), (3, .int (nI kw)), (4, .int (nI ((fb_ct (btP c jsx jtx kw) w) + 0))), (5, .int (nI (w + 1))), (6, .int (nI (ouC c w none none))), (7, .int (nI (ouC c w (some jsx) (some jtx))))] [1, 2, 3, 4, 5, 0, 6, 7] (hd := dX7_both_127) (C := hX) rfl (nI_1 _) (by decide) rfl ?_
                      refine g_goto 42 (hd := dX7_both_130) (C := hX) (by decide) ?_
                      refine g_lv [(0, .ref o), (1, .int (nI jsx)), (2, .int (nI jtx)), (3, .int (nI kw)), (4, .int (nI ((fb_ct (btP c jsx jtx kw) w) + 0))), (5, .int (nI (w + 1)))] [0, 1, 2, 3, 4, 5] rfl ?_
                      refine g_lve [(0, .ref o), (1, .int (nI jsx)), (2, .int (nI jtx)), (3, .int (nI kw)), (4, .int (nI (fb_ct (btP c jsx jtx kw) (w + 1)))), (5, .int (nI (w + 1)))] (by simp [fb_ct_succ, btP, p_54, c_85, pb_n hok (show jsx < 64 by omega) c_22 p_106]) ?_
                      exact ih_42 (w + 1) (rvA c w (some jsx) (some jtx) (rvA c w none none wj (c 0 + c 1)) (c 0 + c 1)) (by omega) (by omega)
                  · refine g_iload 7 (hd := dX7_both_88) (C := hX) rfl ?_
                    refine g_callS (rest := [.int (nI (fb_ct (btP c jsx jtx kw) w))]) hX (c_X7_isValid l D cC cI cJ cO (ouC c w (some jsx) (some jtx)) (by omega)) ok_X7_isValid (fun _ => rfl) (hd := dX7_both_90) gX7_both_X7_isValid ⟨by decide, by decide⟩ rfl (Nat.le_of_ble_eq_true rfl) ⟨Nat.zero_le _, Nat.zero_le _⟩ [] (by decide) rfl rfl ?_
                    intro r_90 e_90
                    rcases e_90 with ⟨rfl, p_90⟩ | ⟨rfl, p_90⟩
                    · show GW X [(o, .inr (7, [.int (nI len), .ref ot, .ref on, .ref od, .ref ow, .int (nI ch), .int (nI va), .int (nI en), .ref oi, .ref oe, .ref op, .long aE, .long aP, .long lt])), (ot, .inl (cI, 200, .inl (fun j_ => nI (T j_)))), (on, .inl (cI, 78, .inl (fun j_ => nI (c j_)))), (od, .inl (cI, 78, .inl (fun j_ => nI (rd j_)))), (ow, .inl (cI, 468, .inl (fun j_ => nI (ww j_)))), (oi, .inl (cI, 32, .inl (fun j_ => nI ((rvA c w (some jsx) (some jtx) (rvA c w none none wj (c 0 + c 1)) (c 0 + c 1)) j_)))), (oe, .inl (cJ, 256, .inr (.inl EX))), (op, .inl (cJ, 256, .inr (.inl PA)))] [(0, .ref o), (1, .int (nI jsx)), (2, .int (nI jtx)), (3, .int (nI kw)), (4, .int (nI (fb_ct (btP c jsx jtx kw) w))), (5, .int (nI w)), (6, .int (nI (ouC c w none none))), (7, .int (nI (ouC c w (some jsx) (some jtx))))] [.int (nI 1), .int (nI (fb_ct (btP c jsx jtx kw) w))] 93 0 0
                      refine g_if_eqN 100 (hd := dX7_both_93) (C := hX) (by decide) (by decide) (fun c_93 => absurd c_93 (by decide)) (fun c_93 => ?_)
                      refine g_iconst (v := nI 0) hX dX7_both_96 (by decide) ?_
                      refine g_goto 124 (hd := dX7_both_97) (C := hX) (by decide) ?_
                      refine g_iadd hX dX7_both_124 ?_
                      refine g_top (y := (nI ((fb_ct (btP c jsx jtx kw) w) + 0))) (nI_add _ _) ?_
                      refine g_istore [(0, .ref o), (1, .int (nI jsx)), (2, .int (nI jtx)), (3, .int (nI kw)), (4, .int (nI ((fb_ct (btP c jsx jtx kw) w) + 0))), (5, .int (nI w)), (6, .int (nI (ouC c w none none))), (7, .int (nI (ouC c w (some jsx) (some jtx))))] [1, 2, 3, 4, 0, 5, 6, 7] (hd := dX7_both_125) (C := hX) (by decide) rfl ?_
                      refine g_iinc (v := (nI (w + 1))) 5 [(0, .ref o), (1, .int (nI jsx)), (2, .int (nI jtx)), (3, .int (nI kw)), (4, .int (nI ((fb_ct (btP c jsx jtx kw) w) + 0))), (5, .int (nI (w + 1))), (6, .int (nI (ouC c w none none))), (7, .int (nI (ouC c w (some jsx) (some jtx))))] [1, 2, 3, 4, 5, 0, 6, 7] (hd := dX7_both_127) (C := hX) rfl (nI_1 _) (by decide) rfl ?_
                      refine g_goto 42 (hd := dX7_both_130) (C := hX) (by decide) ?_
                      refine g_lv [(0, .ref o), (1, .int (nI jsx)), (2, .int (nI jtx)), (3, .int (nI kw)), (4, .int (nI ((fb_ct (btP c jsx jtx kw) w) + 0))), (5, .int (nI (w + 1)))] [0, 1, 2, 3, 4, 5] rfl ?_
                      refine g_lve [(0, .ref o), (1, .int (nI jsx)), (2, .int (nI jtx)), (3, .int (nI kw)), (4, .int (nI (fb_ct (btP c jsx jtx kw) (w + 1)))), (5, .int (nI (w + 1)))] (by simp [fb_ct_succ, btP, p_54, c_85, nv_y hok (show jsx < 64 by omega) c_22 p_90]) ?_
                      exact ih_42 (w + 1) (rvA c w (some jsx) (some jtx) (rvA c w none none wj (c 0 + c 1)) (c 0 + c 1)) (by omega) (by omega)
                    · show GW X [(o, .inr (7, [.int (nI len), .ref ot, .ref on, .ref od, .ref ow, .int (nI ch), .int (nI va), .int (nI en), .ref oi, .ref oe, .ref op, .long aE, .long aP, .long lt])), (ot, .inl (cI, 200, .inl (fun j_ => nI (T j_)))), (on, .inl (cI, 78, .inl (fun j_ => nI (c j_)))), (od, .inl (cI, 78, .inl (fun j_ => nI (rd j_)))), (ow, .inl (cI, 468, .inl (fun j_ => nI (ww j_)))), (oi, .inl (cI, 32, .inl (fun j_ => nI ((rvA c w (some jsx) (some jtx) (rvA c w none none wj (c 0 + c 1)) (c 0 + c 1)) j_)))), (oe, .inl (cJ, 256, .inr (.inl EX))), (op, .inl (cJ, 256, .inr (.inl PA)))] [(0, .ref o), (1, .int (nI jsx)), (2, .int (nI jtx)), (3, .int (nI kw)), (4, .int (nI (fb_ct (btP c jsx jtx kw) w))), (5, .int (nI w)), (6, .int (nI (ouC c w none none))), (7, .int (nI (ouC c w (some jsx) (some jtx))))] [.int (nI 0), .int (nI (fb_ct (btP c jsx jtx kw) w))] 93 0 0
                      refine g_if_eqN 100 (hd := dX7_both_93) (C := hX) (by decide) (by decide) (fun c_93 => ?_) (fun c_93 => absurd c_93 (by decide))
                      refine g_iconst (v := nI 1) hX dX7_both_100 (by decide) ?_
                      refine g_goto 124 (hd := dX7_both_101) (C := hX) (by decide) ?_
                      refine g_iadd hX dX7_both_124 ?_
                      refine g_top (y := (nI ((fb_ct (btP c jsx jtx kw) w) + 1))) (nI_add _ _) ?_
                      refine g_istore [(0, .ref o), (1, .int (nI jsx)), (2, .int (nI jtx)), (3, .int (nI kw)), (4, .int (nI ((fb_ct (btP c jsx jtx kw) w) + 1))), (5, .int (nI w)), (6, .int (nI (ouC c w none none))), (7, .int (nI (ouC c w (some jsx) (some jtx))))] [1, 2, 3, 4, 0, 5, 6, 7] (hd := dX7_both_125) (C := hX) (by decide) rfl ?_
                      refine g_iinc (v := (nI (w + 1))) 5 [(0, .ref o), (1, .int (nI jsx)), (2, .int (nI jtx)), (3, .int (nI kw)), (4, .int (nI ((fb_ct (btP c jsx jtx kw) w) + 1))), (5, .int (nI (w + 1))), (6, .int (nI (ouC c w none none))), (7, .int (nI (ouC c w (some jsx) (some jtx))))] [1, 2, 3, 4, 5, 0, 6, 7] (hd := dX7_both_127) (C := hX) rfl (nI_1 _) (by decide) rfl ?_
                      refine g_goto 42 (hd := dX7_both_130) (C := hX) (by decide) ?_
                      refine g_lv [(0, .ref o), (1, .int (nI jsx)), (2, .int (nI jtx)), (3, .int (nI kw)), (4, .int (nI ((fb_ct (btP c jsx jtx kw) w) + 1))), (5, .int (nI (w + 1)))] [0, 1, 2, 3, 4, 5] rfl ?_
                      refine g_lve [(0, .ref o), (1, .int (nI jsx)), (2, .int (nI jtx)), (3, .int (nI kw)), (4, .int (nI (fb_ct (btP c jsx jtx kw) (w + 1)))), (5, .int (nI (w + 1)))] (by simp [fb_ct_succ, btP, p_54, c_85, nv_n hok (show jsx < 64 by omega) c_22 p_90]) ?_
                      exact ih_42 (w + 1) (rvA c w (some jsx) (some jtx) (rvA c w none none wj (c 0 + c 1)) (c 0 + c 1)) (by omega) (by omega)
                · show GW X [(o, .inr (7, [.int (nI len), .ref ot, .ref on, .ref od, .ref ow, .int (nI ch), .int (nI va), .int (nI en), .ref oi, .ref oe, .ref op, .long aE, .long aP, .long lt])), (ot, .inl (cI, 200, .inl (fun j_ => nI (T j_)))), (on, .inl (cI, 78, .inl (fun j_ => nI (c j_)))), (od, .inl (cI, 78, .inl (fun j_ => nI (rd j_)))), (ow, .inl (cI, 468, .inl (fun j_ => nI (ww j_)))), (oi, .inl (cI, 32, .inl (fun j_ => nI (wj j_)))), (oe, .inl (cJ, 256, .inr (.inl EX))), (op, .inl (cJ, 256, .inr (.inl PA)))] [(0, .ref o), (1, .int (nI jsx)), (2, .int (nI jtx)), (3, .int (nI kw)), (4, .int (nI (fb_ct (btP c jsx jtx kw) w))), (5, .int (nI w))] [.int (nI 0)] 57 0 0
                  refine g_if_eqN 127 (hd := dX7_both_57) (C := hX) (by decide) (by decide) (fun c_57 => ?_) (fun c_57 => absurd c_57 (by decide))
                  refine g_iinc (v := (nI (w + 1))) 5 [(0, .ref o), (1, .int (nI jsx)), (2, .int (nI jtx)), (3, .int (nI kw)), (4, .int (nI (fb_ct (btP c jsx jtx kw) w))), (5, .int (nI (w + 1)))] [1, 2, 3, 4, 5, 0] (hd := dX7_both_127) (C := hX) rfl (nI_1 _) (by decide) rfl ?_
                  refine g_goto 42 (hd := dX7_both_130) (C := hX) (by decide) ?_
                  refine g_lve [(0, .ref o), (1, .int (nI jsx)), (2, .int (nI jtx)), (3, .int (nI kw)), (4, .int (nI (fb_ct (btP c jsx jtx kw) (w + 1)))), (5, .int (nI (w + 1)))] (by simp [fb_ct_succ, btP, p_54]) ?_
                  exact ih_42 (w + 1) wj (by omega) (by omega)
          refine g_lve [(0, .ref o), (1, .int (nI jsx)), (2, .int (nI jtx)), (3, .int (nI kw)), (4, .int (nI (fb_ct (btP c jsx jtx kw) 0))), (5, .int (nI 0))] rfl ?_
          exact L_42 _ 0 wi (Nat.lt_succ_self _) (Nat.zero_le _)
        · show GW X [(o, .inr (7, [.int (nI len), .ref ot, .ref on, .ref od, .ref ow, .int (nI ch), .int (nI va), .int (nI en), .ref oi, .ref oe, .ref op, .long aE, .long aP, .long lt])), (ot, .inl (cI, 200, .inl (fun j_ => nI (T j_)))), (on, .inl (cI, 78, .inl (fun j_ => nI (c j_)))), (od, .inl (cI, 78, .inl (fun j_ => nI (rd j_)))), (ow, .inl (cI, 468, .inl (fun j_ => nI (ww j_)))), (oi, .inl (cI, 32, .inl (fun j_ => nI (wi j_)))), (oe, .inl (cJ, 256, .inr (.inl EX))), (op, .inl (cJ, 256, .inr (.inl PA)))] [(0, .ref o), (1, .int (nI jsx)), (2, .int (nI jtx)), (3, .int wh)] [.int (nI 0)] 31 0 0
          refine g_if_neN 36 (hd := dX7_both_31) (C := hX) (by decide) (by decide) (fun c_31 => absurd c_31 (by decide)) (fun c_31 => ?_)
          refine g_iconst (v := (-1)) hX dX7_both_34 (by decide) ?_
          exact (hret ((-1), wi, EX, PA, aE, aP, lt) _ _ (Or.inl ⟨fun z => p_28 ((ii_k (by decide)).mpr z.2.2.2), rfl⟩)).2.1 _ rfl rfl dX7_both_35
    · show GW X [(o, .inr (7, [.int (nI len), .ref ot, .ref on, .ref od, .ref ow, .int (nI ch), .int (nI va), .int (nI en), .ref oi, .ref oe, .ref op, .long aE, .long aP, .long lt])), (ot, .inl (cI, 200, .inl (fun j_ => nI (T j_)))), (on, .inl (cI, 78, .inl (fun j_ => nI (c j_)))), (od, .inl (cI, 78, .inl (fun j_ => nI (rd j_)))), (ow, .inl (cI, 468, .inl (fun j_ => nI (ww j_)))), (oi, .inl (cI, 32, .inl (fun j_ => nI (wi j_)))), (oe, .inl (cJ, 256, .inr (.inl EX))), (op, .inl (cJ, 256, .inr (.inl PA)))] [(0, .ref o), (1, .int sx), (2, .int tx), (3, .int wh)] [.int (nI 0)] 13 0 0
      refine g_if_eqN 34 (hd := dX7_both_13) (C := hX) (by decide) (by decide) (fun c_13 => ?_) (fun c_13 => absurd c_13 (by decide))
      refine g_iconst (v := (-1)) hX dX7_both_34 (by decide) ?_
      exact (hret ((-1), wi, EX, PA, aE, aP, lt) _ _ (Or.inl ⟨fun z => p_10 z.2.1, rfl⟩)).2.1 _ rfl rfl dX7_both_35
  · show GW X [(o, .inr (7, [.int (nI len), .ref ot, .ref on, .ref od, .ref ow, .int (nI ch), .int (nI va), .int (nI en), .ref oi, .ref oe, .ref op, .long aE, .long aP, .long lt])), (ot, .inl (cI, 200, .inl (fun j_ => nI (T j_)))), (on, .inl (cI, 78, .inl (fun j_ => nI (c j_)))), (od, .inl (cI, 78, .inl (fun j_ => nI (rd j_)))), (ow, .inl (cI, 468, .inl (fun j_ => nI (ww j_)))), (oi, .inl (cI, 32, .inl (fun j_ => nI (wi j_)))), (oe, .inl (cJ, 256, .inr (.inl EX))), (op, .inl (cJ, 256, .inr (.inl PA)))] [(0, .ref o), (1, .int sx), (2, .int tx), (3, .int wh)] [.int (nI 0)] 5 0 0
    refine g_if_eqN 34 (hd := dX7_both_5) (C := hX) (by decide) (by decide) (fun c_5 => ?_) (fun c_5 => absurd c_5 (by decide))
    refine g_iconst (v := (-1)) hX dX7_both_34 (by decide) ?_
    exact (hret ((-1), wi, EX, PA, aE, aP, lt) _ _ (Or.inl ⟨fun z => p_2 z.1, rfl⟩)).2.1 _ rfl rfl dX7_both_35

theorem in_X7_count_7 : ∀ w ∈ wsX70, w ∈ wsX7_count := fun _ h => List.mem_cons_of_mem _ (List.mem_append_right _ h)
theorem ok_X7_count : gOK yX7_count wsX7_count ({ frames := 2, cells := 0, slots := 0, locals := 53 }) 4 1 := ⟨⟨_, _, _, rfl⟩, rfl, rfl, by decide, by decide, by decide +kernel⟩
set_option maxRecDepth 100000 in
set_option maxHeartbeats 4000000 in
theorem c_X7_count (l : Launch) (D : va_G) (cC cI cJ cO : ClassId) (o : Nat) (ot : Nat) (on : Nat) (od : Nat) (ow : Nat) (oi : Nat) (oe : Nat) (op : Nat) (len : Nat) (ch : Nat) (va : Nat) (en : Nat) (aE : Int64) (aP : Int64) (lt : Int64) (T : Nat → Nat) (c : Nat → Nat) (rd : Nat → Nat) (ww : Nat → Nat) (wi : Nat → Nat) (EX : Nat → Int64) (PA : Nat → Int64) (wh : Int32) (hok : okC c) : CM (S := Int32 × (Nat → Nat) × (Nat → Int64) × (Nat → Int64) × Int64 × Int64 × Int64) l D (tyL cC cI cJ cO) yX7_count wsX7_count ({ frames := 2, cells := 0, slots := 0, locals := 53 }) [.ref o, .int wh] [(o, .inr (7, [.int (nI len), .ref ot, .ref on, .ref od, .ref ow, .int (nI ch), .int (nI va), .int (nI en), .ref oi, .ref oe, .ref op, .long aE, .long aP, .long lt])), (ot, .inl (cI, 200, .inl (fun j_ => nI (T j_)))), (on, .inl (cI, 78, .inl (fun j_ => nI (c j_)))), (od, .inl (cI, 78, .inl (fun j_ => nI (rd j_)))), (ow, .inl (cI, 468, .inl (fun j_ => nI (ww j_)))), (oi, .inl (cI, 32, .inl (fun j_ => nI (wi j_)))), (oe, .inl (cJ, 256, .inr (.inl EX))), (op, .inl (cJ, 256, .inr (.inl PA)))] (fun u => some (.int u.1)) (fun u => cnR c ch len wh u.1) (fun u_ => [(o, .inr (7, [.int (nI len), .ref ot, .ref on, .ref od, .ref ow, .int (nI ch), .int (nI va), .int (nI en), .ref oi, .ref oe, .ref op, .long u_.2.2.2.2.1, .long u_.2.2.2.2.2.1, .long u_.2.2.2.2.2.2])), (ot, .inl (cI, 200, .inl (fun j_ => nI (T j_)))), (on, .inl (cI, 78, .inl (fun j_ => nI (c j_)))), (od, .inl (cI, 78, .inl (fun j_ => nI (rd j_)))), (ow, .inl (cI, 468, .inl (fun j_ => nI (ww j_)))), (oi, .inl (cI, 32, .inl (fun j_ => nI (u_.2.1 j_)))), (oe, .inl (cJ, 256, .inr (.inl u_.2.2.1))), (op, .inl (cJ, 256, .inr (.inl u_.2.2.2.1)))]) := by
  refine CM_in (cc := cX7_count) (maxL := 4) (ret := (some .int)) (by decide) rfl (Nat.le_of_ble_eq_true rfl) ?_
  intro X hX hret
  show GW X [(o, .inr (7, [.int (nI len), .ref ot, .ref on, .ref od, .ref ow, .int (nI ch), .int (nI va), .int (nI en), .ref oi, .ref oe, .ref op, .long aE, .long aP, .long lt])), (ot, .inl (cI, 200, .inl (fun j_ => nI (T j_)))), (on, .inl (cI, 78, .inl (fun j_ => nI (c j_)))), (od, .inl (cI, 78, .inl (fun j_ => nI (rd j_)))), (ow, .inl (cI, 468, .inl (fun j_ => nI (ww j_)))), (oi, .inl (cI, 32, .inl (fun j_ => nI (wi j_)))), (oe, .inl (cJ, 256, .inr (.inl EX))), (op, .inl (cJ, 256, .inr (.inl PA)))] [(0, .ref o), (1, .int wh)] [] 0 0 0
  have b0 := hok.2.1
  have b1 := hok.2.2.1
  have hp2 := p2_8 b0
  have hcd := hok.2.2.2.2.2.1
  refine g_iload_n 1 (hd := dX7_count_0) (C := hX) rfl rfl ?_
  refine g_iconst (v := nI 0) hX dX7_count_1 (by decide) ?_
  refine g_iconst (v := nI 5) hX dX7_count_2 (by decide) ?_
  refine g_callS (rest := []) hX (c_X7_isIn l D cC cI cJ cO wh (nI 0) (nI 5)) ok_X7_isIn (fun _ => rfl) (hd := dX7_count_3) gX7_count_X7_isIn ⟨by decide, by decide⟩ rfl (Nat.le_of_ble_eq_true rfl) ⟨Nat.zero_le _, Nat.zero_le _⟩ [] (by decide) rfl rfl ?_
  intro r_3 e_3
  rcases e_3 with ⟨rfl, p_3⟩ | ⟨rfl, p_3⟩
  · show GW X [(o, .inr (7, [.int (nI len), .ref ot, .ref on, .ref od, .ref ow, .int (nI ch), .int (nI va), .int (nI en), .ref oi, .ref oe, .ref op, .long aE, .long aP, .long lt])), (ot, .inl (cI, 200, .inl (fun j_ => nI (T j_)))), (on, .inl (cI, 78, .inl (fun j_ => nI (c j_)))), (od, .inl (cI, 78, .inl (fun j_ => nI (rd j_)))), (ow, .inl (cI, 468, .inl (fun j_ => nI (ww j_)))), (oi, .inl (cI, 32, .inl (fun j_ => nI (wi j_)))), (oe, .inl (cJ, 256, .inr (.inl EX))), (op, .inl (cJ, 256, .inr (.inl PA)))] [(0, .ref o), (1, .int wh)] [.int (nI 1)] 6 0 0
    refine g_if_eqN 16 (hd := dX7_count_6) (C := hX) (by decide) (by decide) (fun c_6 => absurd c_6 (by decide)) (fun c_6 => ?_)
    obtain ⟨kw, hkw, rfl⟩ := ii_nat (by decide) p_3
    refine g_aload_n 0 (hd := dX7_count_9) (C := hX) rfl rfl ?_
    refine g_get (hd := dX7_count_10) (C := hX) 0 2 rfl rfl in_X7_count_7 (by decide) (by decide +kernel) rfl ?_
    refine g_iload_n 1 (hd := dX7_count_13) (C := hX) rfl rfl ?_
    refine g_iald (hd := dX7_count_14) (C := hX) 2 1 rfl rfl (by omega) (by decide) ?_
    exact (hret ((nI (c kw)), wi, EX, PA, aE, aP, lt) _ _ (Or.inl ⟨kw, by omega, rfl, rfl⟩)).2.1 _ rfl rfl dX7_count_15
  · show GW X [(o, .inr (7, [.int (nI len), .ref ot, .ref on, .ref od, .ref ow, .int (nI ch), .int (nI va), .int (nI en), .ref oi, .ref oe, .ref op, .long aE, .long aP, .long lt])), (ot, .inl (cI, 200, .inl (fun j_ => nI (T j_)))), (on, .inl (cI, 78, .inl (fun j_ => nI (c j_)))), (od, .inl (cI, 78, .inl (fun j_ => nI (rd j_)))), (ow, .inl (cI, 468, .inl (fun j_ => nI (ww j_)))), (oi, .inl (cI, 32, .inl (fun j_ => nI (wi j_)))), (oe, .inl (cJ, 256, .inr (.inl EX))), (op, .inl (cJ, 256, .inr (.inl PA)))] [(0, .ref o), (1, .int wh)] [.int (nI 0)] 6 0 0
    refine g_if_eqN 16 (hd := dX7_count_6) (C := hX) (by decide) (by decide) (fun c_6 => ?_) (fun c_6 => absurd c_6 (by decide))
    refine g_iload_n 1 (hd := dX7_count_16) (C := hX) rfl rfl ?_
    rcases cn_out p_3 with rfl | rfl | rfl | ⟨o_17, ov_17⟩
    · refine g_tableIn 44 (hd := dX7_count_17) (C := hX) (by decide) (by decide) rfl (by decide) ?_
      refine g_iconst (v := nI 0) hX dX7_count_44 (by decide) ?_
      refine g_istore_n [(0, .ref o), (1, .int (nI 6)), (2, .int (nI 0))] [1, 2, 0] (hd := dX7_count_45) (C := hX) rfl (by decide) rfl ?_
      refine g_iconst (v := nI 0) hX dX7_count_46 (by decide) ?_
      refine g_istore_n [(0, .ref o), (1, .int (nI 6)), (2, .int (nI 0)), (3, .int (nI 0))] [1, 2, 3, 0] (hd := dX7_count_47) (C := hX) rfl (by decide) rfl ?_
      have L_48 : ∀ (n_48 : Nat) (w : Nat) (wj : Nat → Nat), 2 ^ c 0 - w < n_48 → (w ≤ 2 ^ c 0) → GW X [(o, .inr (7, [.int (nI len), .ref ot, .ref on, .ref od, .ref ow, .int (nI ch), .int (nI va), .int (nI en), .ref oi, .ref oe, .ref op, .long aE, .long aP, .long lt])), (ot, .inl (cI, 200, .inl (fun j_ => nI (T j_)))), (on, .inl (cI, 78, .inl (fun j_ => nI (c j_)))), (od, .inl (cI, 78, .inl (fun j_ => nI (rd j_)))), (ow, .inl (cI, 468, .inl (fun j_ => nI (ww j_)))), (oi, .inl (cI, 32, .inl (fun j_ => nI (wj j_)))), (oe, .inl (cJ, 256, .inr (.inl EX))), (op, .inl (cJ, 256, .inr (.inl PA)))] [(0, .ref o), (1, .int (nI 6)), (2, .int (nI (fb_ct (fun w_ => vaB (oC c w_)) w))), (3, .int (nI w))] [] 48 0 0 := by
        intro n_48
        induction n_48 with
        | zero => intro w wj hm_48; exact absurd hm_48 (Nat.not_lt_zero _)
        | succ n_48 ih_48 =>
          intro w wj hm_48 hwL
          refine g_iload_n 3 (hd := dX7_count_48) (C := hX) rfl rfl ?_
          refine g_aload_n 0 (hd := dX7_count_49) (C := hX) rfl rfl ?_
          refine g_callVs (rest := [.int (nI w)]) hX (c_X7_all l D cC cI cJ cO o ot on od ow oi oe op len ch va en aE aP lt T c rd ww wj EX PA b0) ok_X7_all rfl 0 rfl rfl (hd := dX7_count_50) gX7_count_X7_all ⟨by decide, by decide⟩ rfl (Nat.le_of_ble_eq_true rfl) ⟨Nat.zero_le _, Nat.zero_le _⟩ [0, 1, 2, 3, 4, 5, 6, 7] (by decide) rfl rfl ?_
          intro r_50 e_50
          subst e_50
          show GW X [(o, .inr (7, [.int (nI len), .ref ot, .ref on, .ref od, .ref ow, .int (nI ch), .int (nI va), .int (nI en), .ref oi, .ref oe, .ref op, .long aE, .long aP, .long lt])), (ot, .inl (cI, 200, .inl (fun j_ => nI (T j_)))), (on, .inl (cI, 78, .inl (fun j_ => nI (c j_)))), (od, .inl (cI, 78, .inl (fun j_ => nI (rd j_)))), (ow, .inl (cI, 468, .inl (fun j_ => nI (ww j_)))), (oi, .inl (cI, 32, .inl (fun j_ => nI (wj j_)))), (oe, .inl (cJ, 256, .inr (.inl EX))), (op, .inl (cJ, 256, .inr (.inl PA)))] [(0, .ref o), (1, .int (nI 6)), (2, .int (nI (fb_ct (fun w_ => vaB (oC c w_)) w))), (3, .int (nI w))] [.int (nI (2 ^ c 0)), .int (nI w)] 53 0 0
          refine g_icmp_geN 85 (hd := dX7_count_53) (C := hX) (by decide) (by omega) (by omega) (fun c_53 => ?_) (fun c_53 => ?_)
          · refine g_iload_n 2 (hd := dX7_count_85) (C := hX) rfl rfl ?_
            exact (hret ((nI (fb_ct (fun w_ => vaB (oC c w_)) w)), wj, EX, PA, aE, aP, lt) _ _ (Or.inr (Or.inl ⟨rfl, by rw [show w = 2 ^ c 0 from by omega]⟩))).2.1 _ rfl rfl dX7_count_86
          · refine g_iload_n 2 (hd := dX7_count_56) (C := hX) rfl rfl ?_
            refine g_aload_n 0 (hd := dX7_count_57) (C := hX) rfl rfl ?_
            refine g_iload_n 3 (hd := dX7_count_58) (C := hX) rfl rfl ?_
            refine g_bipush (v := (-4)) hX dX7_count_59 (by decide) ?_
            refine g_bipush (v := (-4)) hX dX7_count_61 (by decide) ?_
            refine g_callVp (rest := [.int (nI (fb_ct (fun w_ => vaB (oC c w_)) w))]) hX (c_X7_lets l D cC cI cJ cO o ot on od ow oi oe op len ch va en aE aP lt T c rd ww wj EX PA w (-4) (-4) none none (by first | exact so_n (by decide) | exact so_s (by omega)) (by first | exact so_n (by decide) | exact so_s (by omega)) (by omega) hok) ok_X7_lets rfl 0 rfl rfl (fun _ => rfl) (hd := dX7_count_63) gX7_count_X7_lets ⟨by decide, by decide⟩ rfl (Nat.le_of_ble_eq_true rfl) ⟨Nat.zero_le _, Nat.zero_le _⟩ [] rfl rfl ?_
            intro r_63 e_63
            rw [ou_can hok] at e_63
            subst e_63
            show GW X [(o, .inr (7, [.int (nI len), .ref ot, .ref on, .ref od, .ref ow, .int (nI ch), .int (nI va), .int (nI en), .ref oi, .ref oe, .ref op, .long aE, .long aP, .long lt])), (ot, .inl (cI, 200, .inl (fun j_ => nI (T j_)))), (on, .inl (cI, 78, .inl (fun j_ => nI (c j_)))), (od, .inl (cI, 78, .inl (fun j_ => nI (rd j_)))), (ow, .inl (cI, 468, .inl (fun j_ => nI (ww j_)))), (oi, .inl (cI, 32, .inl (fun j_ => nI ((rvA c w none none wj (c 0 + c 1)) j_)))), (oe, .inl (cJ, 256, .inr (.inl EX))), (op, .inl (cJ, 256, .inr (.inl PA)))] [(0, .ref o), (1, .int (nI 6)), (2, .int (nI (fb_ct (fun w_ => vaB (oC c w_)) w))), (3, .int (nI w))] [.int (nI (ouC c w none none)), .int (nI (fb_ct (fun w_ => vaB (oC c w_)) w))] 66 0 0
            have q0 := ou_lt hok w none none
            refine g_callS (rest := [.int (nI (fb_ct (fun w_ => vaB (oC c w_)) w))]) hX (c_X7_isValid l D cC cI cJ cO (ouC c w none none) (by omega)) ok_X7_isValid (fun _ => rfl) (hd := dX7_count_66) gX7_count_X7_isValid ⟨by decide, by decide⟩ rfl (Nat.le_of_ble_eq_true rfl) ⟨Nat.zero_le _, Nat.zero_le _⟩ [] (by decide) rfl rfl ?_
            intro r_66 e_66
            rcases e_66 with ⟨rfl, p_66⟩ | ⟨rfl, p_66⟩
            · show GW X [(o, .inr (7, [.int (nI len), .ref ot, .ref on, .ref od, .ref ow, .int (nI ch), .int (nI va), .int (nI en), .ref oi, .ref oe, .ref op, .long aE, .long aP, .long lt])), (ot, .inl (cI, 200, .inl (fun j_ => nI (T j_)))), (on, .inl (cI, 78, .inl (fun j_ => nI (c j_)))), (od, .inl (cI, 78, .inl (fun j_ => nI (rd j_)))), (ow, .inl (cI, 468, .inl (fun j_ => nI (ww j_)))), (oi, .inl (cI, 32, .inl (fun j_ => nI ((rvA c w none none wj (c 0 + c 1)) j_)))), (oe, .inl (cJ, 256, .inr (.inl EX))), (op, .inl (cJ, 256, .inr (.inl PA)))] [(0, .ref o), (1, .int (nI 6)), (2, .int (nI (fb_ct (fun w_ => vaB (oC c w_)) w))), (3, .int (nI w))] [.int (nI 1), .int (nI (fb_ct (fun w_ => vaB (oC c w_)) w))] 69 0 0
              refine g_if_eqN 76 (hd := dX7_count_69) (C := hX) (by decide) (by decide) (fun c_69 => absurd c_69 (by decide)) (fun c_69 => ?_)
              refine g_iconst (v := nI 1) hX dX7_count_72 (by decide) ?_
              refine g_goto 77 (hd := dX7_count_73) (C := hX) (by decide) ?_
              refine g_iadd hX dX7_count_77 ?_
              refine g_top (y := (nI ((fb_ct (fun w_ => vaB (oC c w_)) w) + 1))) (nI_add _ _) ?_
              refine g_istore_n [(0, .ref o), (1, .int (nI 6)), (2, .int (nI ((fb_ct (fun w_ => vaB (oC c w_)) w) + 1))), (3, .int (nI w))] [1, 2, 0, 3] (hd := dX7_count_78) (C := hX) rfl (by decide) rfl ?_
              refine g_iinc (v := (nI (w + 1))) 3 [(0, .ref o), (1, .int (nI 6)), (2, .int (nI ((fb_ct (fun w_ => vaB (oC c w_)) w) + 1))), (3, .int (nI (w + 1)))] [1, 2, 3, 0] (hd := dX7_count_79) (C := hX) rfl (nI_1 _) (by decide) rfl ?_
              refine g_goto 48 (hd := dX7_count_82) (C := hX) (by decide) ?_
              refine g_lve [(0, .ref o), (1, .int (nI 6)), (2, .int (nI (fb_ct (fun w_ => vaB (oC c w_)) (w + 1)))), (3, .int (nI (w + 1)))] (by simp [fb_ct_succ, oC_ou hok, vaB_y p_66]) ?_
              exact ih_48 (w + 1) (rvA c w none none wj (c 0 + c 1)) (by omega) (by omega)
            · show GW X [(o, .inr (7, [.int (nI len), .ref ot, .ref on, .ref od, .ref ow, .int (nI ch), .int (nI va), .int (nI en), .ref oi, .ref oe, .ref op, .long aE, .long aP, .long lt])), (ot, .inl (cI, 200, .inl (fun j_ => nI (T j_)))), (on, .inl (cI, 78, .inl (fun j_ => nI (c j_)))), (od, .inl (cI, 78, .inl (fun j_ => nI (rd j_)))), (ow, .inl (cI, 468, .inl (fun j_ => nI (ww j_)))), (oi, .inl (cI, 32, .inl (fun j_ => nI ((rvA c w none none wj (c 0 + c 1)) j_)))), (oe, .inl (cJ, 256, .inr (.inl EX))), (op, .inl (cJ, 256, .inr (.inl PA)))] [(0, .ref o), (1, .int (nI 6)), (2, .int (nI (fb_ct (fun w_ => vaB (oC c w_)) w))), (3, .int (nI w))] [.int (nI 0), .int (nI (fb_ct (fun w_ => vaB (oC c w_)) w))] 69 0 0
              refine g_if_eqN 76 (hd := dX7_count_69) (C := hX) (by decide) (by decide) (fun c_69 => ?_) (fun c_69 => absurd c_69 (by decide))
              refine g_iconst (v := nI 0) hX dX7_count_76 (by decide) ?_
              refine g_iadd hX dX7_count_77 ?_
              refine g_top (y := (nI ((fb_ct (fun w_ => vaB (oC c w_)) w) + 0))) (nI_add _ _) ?_
              refine g_istore_n [(0, .ref o), (1, .int (nI 6)), (2, .int (nI ((fb_ct (fun w_ => vaB (oC c w_)) w) + 0))), (3, .int (nI w))] [1, 2, 0, 3] (hd := dX7_count_78) (C := hX) rfl (by decide) rfl ?_
              refine g_iinc (v := (nI (w + 1))) 3 [(0, .ref o), (1, .int (nI 6)), (2, .int (nI ((fb_ct (fun w_ => vaB (oC c w_)) w) + 0))), (3, .int (nI (w + 1)))] [1, 2, 3, 0] (hd := dX7_count_79) (C := hX) rfl (nI_1 _) (by decide) rfl ?_
              refine g_goto 48 (hd := dX7_count_82) (C := hX) (by decide) ?_
              refine g_lve [(0, .ref o), (1, .int (nI 6)), (2, .int (nI (fb_ct (fun w_ => vaB (oC c w_)) (w + 1)))), (3, .int (nI (w + 1)))] (by simp [fb_ct_succ, oC_ou hok, vaB_n p_66]) ?_
              exact ih_48 (w + 1) (rvA c w none none wj (c 0 + c 1)) (by omega) (by omega)
      refine g_lve [(0, .ref o), (1, .int (nI 6)), (2, .int (nI (fb_ct (fun w_ => vaB (oC c w_)) 0))), (3, .int (nI 0))] rfl ?_
      exact L_48 _ 0 wi (Nat.lt_succ_self _) (Nat.zero_le _)
    · refine g_tableIn 87 (hd := dX7_count_17) (C := hX) (by decide) (by decide) rfl (by decide) ?_
      refine g_aload_n 0 (hd := dX7_count_87) (C := hX) rfl rfl ?_
      refine g_get (hd := dX7_count_88) (C := hX) 0 5 rfl rfl in_X7_count_7 (by decide) (by decide +kernel) rfl ?_
      exact (hret ((nI ch), wi, EX, PA, aE, aP, lt) _ _ (Or.inr (Or.inr (Or.inl ⟨rfl, rfl⟩)))).2.1 _ rfl rfl dX7_count_91
    · refine g_tableIn 92 (hd := dX7_count_17) (C := hX) (by decide) (by decide) rfl (by decide) ?_
      refine g_aload_n 0 (hd := dX7_count_92) (C := hX) rfl rfl ?_
      refine g_get (hd := dX7_count_93) (C := hX) 0 0 rfl rfl in_X7_count_7 (by decide) (by decide +kernel) rfl ?_
      exact (hret ((nI len), wi, EX, PA, aE, aP, lt) _ _ (Or.inr (Or.inr (Or.inr (Or.inl ⟨rfl, rfl⟩))))).2.1 _ rfl rfl dX7_count_96
    · refine g_tableOut 97 (hd := dX7_count_17) (C := hX) o_17 (by decide) ?_
      refine g_iconst (v := (-1)) hX dX7_count_97 (by decide) ?_
      exact (hret ((-1), wi, EX, PA, aE, aP, lt) _ _ (Or.inr (Or.inr (Or.inr (Or.inr ⟨ov_17, rfl⟩))))).2.1 _ rfl rfl dX7_count_98
