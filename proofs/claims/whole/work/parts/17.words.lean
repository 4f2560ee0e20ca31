/-! the words of a code, listed; two words held against each other -/
def lsW (b : Nat → Nat) (Wd : Nat → Nat) : Nat → Nat → Nat
  | 0 => Wd
  | i + 1 => if inB b i = true then nup (lsW b Wd i) (fb_ct (inB b) i) i else lsW b Wd i
def lsR (b : Nat → Nat) (Rk : Nat → Int32) : Nat → Nat → Int32
  | 0 => Rk
  | i + 1 => if inB b i = true then upd (upd (lsR b Rk i) i (-4)) i (nI (fb_ct (inB b) i)) else upd (lsR b Rk i) i (-4)
def neI : Option Nat → Int32
  | none => -4
  | some d => nI d
def cmM (m x y : Nat) : Nat := if x &&& y = x then m + 2 else m
def cmN (o : Option Nat) (x y : Nat) : Option Nat := match o with
  | none => some (ones8 (x ^^^ y))
  | some d => if ones8 (x ^^^ y) < d then some (ones8 (x ^^^ y)) else some d
theorem cmM_y {m x y : Nat} (h : x &&& y = x) : cmM m x y = m + 2 := if_pos h
theorem cmM_n {m x y : Nat} (h : ¬ x &&& y = x) : cmM m x y = m := if_neg h
theorem cmN_lt {d x y : Nat} (h : ones8 (x ^^^ y) < d) : cmN (some d) x y = some (ones8 (x ^^^ y)) := if_pos h
theorem cmN_ge {d x y : Nat} (h : d ≤ ones8 (x ^^^ y)) : cmN (some d) x y = some d := if_neg (Nat.not_lt.mpr h)
theorem cmN_0 {x y : Nat} : cmN none x y = some (ones8 (x ^^^ y)) := rfl
def cmI (Wd : Nat → Nat) (hi : Nat) (st : Nat × Option Nat) : Nat → Nat × Option Nat
  | 0 => st
  | j + 1 => (cmM (cmI Wd hi st j).1 (Wd j) (Wd hi), cmN (cmI Wd hi st j).2 (Wd j) (Wd hi))
def cmO (Wd : Nat → Nat) : Nat → Nat × Option Nat
  | 0 => (0, none)
  | i + 1 => cmI Wd (i + 1) (cmO Wd i) (i + 1)
theorem ones8_le (w : Nat) : ones8 w ≤ 8 := by unfold ones8; omega
theorem cmN_ok {o : Option Nat} {x y : Nat} (h : ∀ d, o = some d → d < 100) : ∀ d, cmN o x y = some d → d < 100 := by
  intro d hd
  have h8 := ones8_le (x ^^^ y)
  cases o with
  | none => cases hd; omega
  | some c =>
    by_cases hc : ones8 (x ^^^ y) < c
    · rw [cmN_lt hc] at hd; cases hd; omega
    · rw [cmN_ge (Nat.not_lt.mp hc)] at hd; cases hd; exact h _ rfl
theorem cmI_ok (Wd : Nat → Nat) (hi : Nat) {st : Nat × Option Nat} (h : ∀ d, st.2 = some d → d < 100) : ∀ j d, (cmI Wd hi st j).2 = some d → d < 100
  | 0, d, e => h d e
  | j + 1, d, e => cmN_ok (cmI_ok Wd hi h j) d e
theorem cmO_ok (Wd : Nat → Nat) : ∀ i d, (cmO Wd i).2 = some d → d < 100
  | 0, d, e => by cases e
  | i + 1, d, e => cmI_ok Wd (i + 1) (cmO_ok Wd i) (i + 1) d e
def hmS (E : Nat → Int64) (Wd : Nat → Nat) (t : Nat) : Nat → Nat
  | 0 => 0
  | i + 1 => hmS E Wd t i + tb (E (Wd i)) t

theorem in_X1_list_1 : ∀ w ∈ wsX10, w ∈ wsX1_list := fun _ h => List.mem_cons_of_mem _ (List.mem_append_left _ (List.mem_append_right _ h))
theorem in_X1_list_0 : ∀ w ∈ wsX00, w ∈ wsX1_list := fun _ h => List.mem_cons_of_mem _ (List.mem_append_right _ h)
theorem ok_X1_list : gOK yX1_list wsX1_list ({ frames := 3, cells := 0, slots := 0, locals := 64 }) 3 1 := ⟨⟨_, _, _, rfl⟩, rfl, rfl, by decide, by decide, by decide +kernel⟩
set_option maxRecDepth 100000 in
set_option maxHeartbeats 4000000 in
theorem c_X1_list (l : Launch) (D : va_G) (cC cI cJ cO : ClassId) (e : Nat) (we : Nat) (re : Nat) (sz : Nat) (mi : Int32) (ne : Int32) (fr : Nat) (cm : Nat) (Wd : Nat → Nat) (Rk : Nat → Int32) (h : Nat) (k : Nat) (f : Nat) (s : Nat) (b : Nat → Nat) (h0 : b 0 ≤ 8) (hcd : cdOK (b 0) (b 4) (b 5)) : CM (S := Unit) l D (tyL cC cI cJ cO) yX1_list wsX1_list ({ frames := 3, cells := 0, slots := 0, locals := 64 }) [.ref e, .ref h] [(e, .inr (1, [.ref we, .ref re, .int (nI sz), .int mi, .int ne, .int (nI fr), .int (nI cm)])), (we, .inl (cI, 256, .inl (fun j_ => nI (Wd j_)))), (re, .inl (cI, 256, .inl Rk)), (h, .inr (0, [.ref k, .ref f, .ref s, .int (nI (b 0)), .int (nI (b 1)), .int (nI (b 2)), .int (nI (b 3)), .int (nI (b 4)), .int (nI (b 5))])), (k, .inl (cI, 24, .inl (fun j_ => nI (b (6 + 3 * j_))))), (f, .inl (cI, 24, .inl (fun j_ => nI (b (7 + 3 * j_))))), (s, .inl (cI, 24, .inl (fun j_ => nI (b (8 + 3 * j_)))))] (fun _ => none) (fun _ => True) (fun u_ => [(e, .inr (1, [.ref we, .ref re, .int (nI (fb_ct (inB b) (2 ^ b 0))), .int mi, .int ne, .int (nI 1), .int (nI 0)])), (we, .inl (cI, 256, .inl (fun j_ => nI ((lsW b Wd (2 ^ b 0)) j_)))), (re, .inl (cI, 256, .inl (lsR b Rk (2 ^ b 0)))), (h, .inr (0, [.ref k, .ref f, .ref s, .int (nI (b 0)), .int (nI (b 1)), .int (nI (b 2)), .int (nI (b 3)), .int (nI (b 4)), .int (nI (b 5))])), (k, .inl (cI, 24, .inl (fun j_ => nI (b (6 + 3 * j_))))), (f, .inl (cI, 24, .inl (fun j_ => nI (b (7 + 3 * j_))))), (s, .inl (cI, 24, .inl (fun j_ => nI (b (8 + 3 * j_)))))]) := by
  refine CM_in (cc := cX1_list) (maxL := 3) (ret := none) (by decide) rfl (Nat.le_of_ble_eq_true rfl) ?_
  intro X hX hret
  show GW X [(e, .inr (1, [.ref we, .ref re, .int (nI sz), .int mi, .int ne, .int (nI fr), .int (nI cm)])), (we, .inl (cI, 256, .inl (fun j_ => nI (Wd j_)))), (re, .inl (cI, 256, .inl Rk)), (h, .inr (0, [.ref k, .ref f, .ref s, .int (nI (b 0)), .int (nI (b 1)), .int (nI (b 2)), .int (nI (b 3)), .int (nI (b 4)), .int (nI (b 5))])), (k, .inl (cI, 24, .inl (fun j_ => nI (b (6 + 3 * j_))))), (f, .inl (cI, 24, .inl (fun j_ => nI (b (7 + 3 * j_))))), (s, .inl (cI, 24, .inl (fun j_ => nI (b (8 + 3 * j_)))))] [(0, .ref e), (1, .ref h)] [] 0 0 0
  have hp2 := p2_8 h0
  refine g_aload_n 0 (hd := dX1_list_0) (C := hX) rfl rfl ?_
  refine g_iconst (v := nI 0) hX dX1_list_1 (by decide) ?_
  refine g_put (hd := dX1_list_2) (C := hX) 0 2 [(e, .inr (1, [.ref we, .ref re, .int (nI 0), .int mi, .int ne, .int (nI fr), .int (nI cm)])), (we, .inl (cI, 256, .inl (fun j_ => nI (Wd j_)))), (re, .inl (cI, 256, .inl Rk)), (h, .inr (0, [.ref k, .ref f, .ref s, .int (nI (b 0)), .int (nI (b 1)), .int (nI (b 2)), .int (nI (b 3)), .int (nI (b 4)), .int (nI (b 5))])), (k, .inl (cI, 24, .inl (fun j_ => nI (b (6 + 3 * j_))))), (f, .inl (cI, 24, .inl (fun j_ => nI (b (7 + 3 * j_))))), (s, .inl (cI, 24, .inl (fun j_ => nI (b (8 + 3 * j_)))))] rfl rfl in_X1_list_1 tyX1_ok nmX1 (by decide) (by decide +kernel) rfl rfl rfl (Nat.le_of_ble_eq_true rfl) rfl ?_
  refine g_iconst (v := nI 0) hX dX1_list_5 (by decide) ?_
  refine g_istore_n [(0, .ref e), (1, .ref h), (2, .int (nI 0))] [1, 2, 0] (hd := dX1_list_6) (C := hX) rfl (by decide) rfl ?_
  have L_7 : ∀ (n_7 : Nat) (i : Nat), 2 ^ b 0 - i < n_7 → (i ≤ 2 ^ b 0) → GW X [(e, .inr (1, [.ref we, .ref re, .int (nI (fb_ct (inB b) i)), .int mi, .int ne, .int (nI fr), .int (nI cm)])), (we, .inl (cI, 256, .inl (fun j_ => nI ((lsW b Wd i) j_)))), (re, .inl (cI, 256, .inl (lsR b Rk i))), (h, .inr (0, [.ref k, .ref f, .ref s, .int (nI (b 0)), .int (nI (b 1)), .int (nI (b 2)), .int (nI (b 3)), .int (nI (b 4)), .int (nI (b 5))])), (k, .inl (cI, 24, .inl (fun j_ => nI (b (6 + 3 * j_))))), (f, .inl (cI, 24, .inl (fun j_ => nI (b (7 + 3 * j_))))), (s, .inl (cI, 24, .inl (fun j_ => nI (b (8 + 3 * j_)))))] [(0, .ref e), (1, .ref h), (2, .int (nI i))] [] 7 0 0 := by
    intro n_7
    induction n_7 with
    | zero => intro i hm_7; exact absurd hm_7 (Nat.not_lt_zero _)
    | succ n_7 ih_7 =>
      intro i hm_7 hi
      refine g_iload_n 2 (hd := dX1_list_7) (C := hX) rfl rfl ?_
      refine g_aload_n 1 (hd := dX1_list_8) (C := hX) rfl rfl ?_
      refine g_callV (rest := [.int (nI i)]) hX (c_X0_wordCount l D cC cI cJ cO h k f s b (by omega)) ok_X0_wordCount rfl 0 rfl rfl (fun _ => rfl) (hd := dX1_list_9) gX1_list_X0_wordCount ⟨by decide, by decide⟩ rfl (Nat.le_of_ble_eq_true rfl) ⟨Nat.zero_le _, Nat.zero_le _⟩ [3, 4, 5, 6] (by decide) rfl rfl ?_
      intro r_9 e_9
      subst e_9
      show GW X [(e, .inr (1, [.ref we, .ref re, .int (nI (fb_ct (inB b) i)), .int mi, .int ne, .int (nI fr), .int (nI cm)])), (we, .inl (cI, 256, .inl (fun j_ => nI ((lsW b Wd i) j_)))), (re, .inl (cI, 256, .inl (lsR b Rk i))), (h, .inr (0, [.ref k, .ref f, .ref s, .int (nI (b 0)), .int (nI (b 1)), .int (nI (b 2)), .int (nI (b 3)), .int (nI (b 4)), .int (nI (b 5))])), (k, .inl (cI, 24, .inl (fun j_ => nI (b (6 + 3 * j_))))), (f, .inl (cI, 24, .inl (fun j_ => nI (b (7 + 3 * j_))))), (s, .inl (cI, 24, .inl (fun j_ => nI (b (8 + 3 * j_)))))] [(0, .ref e), (1, .ref h), (2, .int (nI i))] [.int (nI (2 ^ b 0)), .int (nI i)] 12 0 0
      refine g_icmp_geN 67 (hd := dX1_list_12) (C := hX) (by decide) (by omega) (by omega) (fun c_12 => ?_) (fun c_12 => ?_)
      · refine g_aload_n 0 (hd := dX1_list_67) (C := hX) rfl rfl ?_
        refine g_iconst (v := nI 1) hX dX1_list_68 (by decide) ?_
        refine g_put (hd := dX1_list_69) (C := hX) 0 5 [(e, .inr (1, [.ref we, .ref re, .int (nI (fb_ct (inB b) i)), .int mi, .int ne, .int (nI 1), .int (nI cm)])), (we, .inl (cI, 256, .inl (fun j_ => nI ((lsW b Wd i) j_)))), (re, .inl (cI, 256, .inl (lsR b Rk i))), (h, .inr (0, [.ref k, .ref f, .ref s, .int (nI (b 0)), .int (nI (b 1)), .int (nI (b 2)), .int (nI (b 3)), .int (nI (b 4)), .int (nI (b 5))])), (k, .inl (cI, 24, .inl (fun j_ => nI (b (6 + 3 * j_))))), (f, .inl (cI, 24, .inl (fun j_ => nI (b (7 + 3 * j_))))), (s, .inl (cI, 24, .inl (fun j_ => nI (b (8 + 3 * j_)))))] rfl rfl in_X1_list_1 tyX1_ok nmX1 (by decide) (by decide +kernel) rfl rfl rfl (Nat.le_of_ble_eq_true rfl) rfl ?_
        refine g_aload_n 0 (hd := dX1_list_72) (C := hX) rfl rfl ?_
        refine g_iconst (v := nI 0) hX dX1_list_73 (by decide) ?_
        refine g_put (hd := dX1_list_74) (C := hX) 0 6 [(e, .inr (1, [.ref we, .ref re, .int (nI (fb_ct (inB b) i)), .int mi, .int ne, .int (nI 1), .int (nI 0)])), (we, .inl (cI, 256, .inl (fun j_ => nI ((lsW b Wd i) j_)))), (re, .inl (cI, 256, .inl (lsR b Rk i))), (h, .inr (0, [.ref k, .ref f, .ref s, .int (nI (b 0)), .int (nI (b 1)), .int (nI (b 2)), .int (nI (b 3)), .int (nI (b 4)), .int (nI (b 5))])), (k, .inl (cI, 24, .inl (fun j_ => nI (b (6 + 3 * j_))))), (f, .inl (cI, 24, .inl (fun j_ => nI (b (7 + 3 * j_))))), (s, .inl (cI, 24, .inl (fun j_ => nI (b (8 + 3 * j_)))))] rfl rfl in_X1_list_1 tyX1_ok nmX1 (by decide) (by decide +kernel) rfl rfl rfl (Nat.le_of_ble_eq_true rfl) rfl ?_
        refine g_w [(e, .inr (1, [.ref we, .ref re, .int (nI (fb_ct (inB b) (2 ^ b 0))), .int mi, .int ne, .int (nI 1), .int (nI 0)])), (we, .inl (cI, 256, .inl (fun j_ => nI ((lsW b Wd (2 ^ b 0)) j_)))), (re, .inl (cI, 256, .inl (lsR b Rk (2 ^ b 0)))), (h, .inr (0, [.ref k, .ref f, .ref s, .int (nI (b 0)), .int (nI (b 1)), .int (nI (b 2)), .int (nI (b 3)), .int (nI (b 4)), .int (nI (b 5))])), (k, .inl (cI, 24, .inl (fun j_ => nI (b (6 + 3 * j_))))), (f, .inl (cI, 24, .inl (fun j_ => nI (b (7 + 3 * j_))))), (s, .inl (cI, 24, .inl (fun j_ => nI (b (8 + 3 * j_)))))] (by rw [show i = 2 ^ b 0 from by omega]) ?_
        exact (hret () _ _ trivial).1 rfl rfl dX1_list_77
      · have hct := fb_ct_le (inB b) i
        refine g_aload_n 0 (hd := dX1_list_15) (C := hX) rfl rfl ?_
        refine g_get (hd := dX1_list_16) (C := hX) 0 1 rfl rfl in_X1_list_1 (by decide) (by decide +kernel) rfl ?_
        refine g_iload_n 2 (hd := dX1_list_19) (C := hX) rfl rfl ?_
        refine g_bipush (v := (-4)) hX dX1_list_20 (by decide) ?_
        refine g_iast (hd := dX1_list_22) (C := hX) 2 1 [(e, .inr (1, [.ref we, .ref re, .int (nI (fb_ct (inB b) i)), .int mi, .int ne, .int (nI fr), .int (nI cm)])), (we, .inl (cI, 256, .inl (fun j_ => nI ((lsW b Wd i) j_)))), (re, .inl (cI, 256, .inl (upd (lsR b Rk i) i (-4)))), (h, .inr (0, [.ref k, .ref f, .ref s, .int (nI (b 0)), .int (nI (b 1)), .int (nI (b 2)), .int (nI (b 3)), .int (nI (b 4)), .int (nI (b 5))])), (k, .inl (cI, 24, .inl (fun j_ => nI (b (6 + 3 * j_))))), (f, .inl (cI, 24, .inl (fun j_ => nI (b (7 + 3 * j_))))), (s, .inl (cI, 24, .inl (fun j_ => nI (b (8 + 3 * j_)))))] rfl rfl (by omega) (by decide) rfl ?_
        refine g_aload_n 1 (hd := dX1_list_23) (C := hX) rfl rfl ?_
        refine g_iload_n 2 (hd := dX1_list_24) (C := hX) rfl rfl ?_
        refine g_callV (rest := []) hX (c_X0_isInCode l D cC cI cJ cO h k f s b i (by omega) (by omega) hcd) ok_X0_isInCode rfl 0 rfl rfl (fun _ => rfl) (hd := dX1_list_25) gX1_list_X0_isInCode ⟨by decide, by decide⟩ rfl (Nat.le_of_ble_eq_true rfl) ⟨Nat.zero_le _, Nat.zero_le _⟩ [3, 4, 5, 6] (by decide) rfl rfl ?_
        intro r_25 e_25
        rcases e_25 with ⟨rfl, p_25⟩ | ⟨rfl, p_25⟩
        · show GW X [(e, .inr (1, [.ref we, .ref re, .int (nI (fb_ct (inB b) i)), .int mi, .int ne, .int (nI fr), .int (nI cm)])), (we, .inl (cI, 256, .inl (fun j_ => nI ((lsW b Wd i) j_)))), (re, .inl (cI, 256, .inl (upd (lsR b Rk i) i (-4)))), (h, .inr (0, [.ref k, .ref f, .ref s, .int (nI (b 0)), .int (nI (b 1)), .int (nI (b 2)), .int (nI (b 3)), .int (nI (b 4)), .int (nI (b 5))])), (k, .inl (cI, 24, .inl (fun j_ => nI (b (6 + 3 * j_))))), (f, .inl (cI, 24, .inl (fun j_ => nI (b (7 + 3 * j_))))), (s, .inl (cI, 24, .inl (fun j_ => nI (b (8 + 3 * j_)))))] [(0, .ref e), (1, .ref h), (2, .int (nI i))] [.int (nI 1)] 28 0 0
          refine g_if_eqN 61 (hd := dX1_list_28) (C := hX) (by decide) (by decide) (fun c_28 => absurd c_28 (by decide)) (fun c_28 => ?_)
          refine g_aload_n 0 (hd := dX1_list_31) (C := hX) rfl rfl ?_
          refine g_get (hd := dX1_list_32) (C := hX) 0 1 rfl rfl in_X1_list_1 (by decide) (by decide +kernel) rfl ?_
          refine g_iload_n 2 (hd := dX1_list_35) (C := hX) rfl rfl ?_
          refine g_aload_n 0 (hd := dX1_list_36) (C := hX) rfl rfl ?_
          refine g_get (hd := dX1_list_37) (C := hX) 0 2 rfl rfl in_X1_list_1 (by decide) (by decide +kernel) rfl ?_
          refine g_iast (hd := dX1_list_40) (C := hX) 2 1 [(e, .inr (1, [.ref we, .ref re, .int (nI (fb_ct (inB b) i)), .int mi, .int ne, .int (nI fr), .int (nI cm)])), (we, .inl (cI, 256, .inl (fun j_ => nI ((lsW b Wd i) j_)))), (re, .inl (cI, 256, .inl (upd (upd (lsR b Rk i) i (-4)) i (nI (fb_ct (inB b) i))))), (h, .inr (0, [.ref k, .ref f, .ref s, .int (nI (b 0)), .int (nI (b 1)), .int (nI (b 2)), .int (nI (b 3)), .int (nI (b 4)), .int (nI (b 5))])), (k, .inl (cI, 24, .inl (fun j_ => nI (b (6 + 3 * j_))))), (f, .inl (cI, 24, .inl (fun j_ => nI (b (7 + 3 * j_))))), (s, .inl (cI, 24, .inl (fun j_ => nI (b (8 + 3 * j_)))))] rfl rfl (by omega) (by decide) rfl ?_
          refine g_aload_n 0 (hd := dX1_list_41) (C := hX) rfl rfl ?_
          refine g_get (hd := dX1_list_42) (C := hX) 0 0 rfl rfl in_X1_list_1 (by decide) (by decide +kernel) rfl ?_
          refine g_aload_n 0 (hd := dX1_list_45) (C := hX) rfl rfl ?_
          refine g_get (hd := dX1_list_46) (C := hX) 0 2 rfl rfl in_X1_list_1 (by decide) (by decide +kernel) rfl ?_
          refine g_iload_n 2 (hd := dX1_list_49) (C := hX) rfl rfl ?_
          refine g_iast (hd := dX1_list_50) (C := hX) 1 1 [(e, .inr (1, [.ref we, .ref re, .int (nI (fb_ct (inB b) i)), .int mi, .int ne, .int (nI fr), .int (nI cm)])), (we, .inl (cI, 256, .inl (fun j_ => nI ((nup (lsW b Wd i) (fb_ct (inB b) i) i) j_)))), (re, .inl (cI, 256, .inl (upd (upd (lsR b Rk i) i (-4)) i (nI (fb_ct (inB b) i))))), (h, .inr (0, [.ref k, .ref f, .ref s, .int (nI (b 0)), .int (nI (b 1)), .int (nI (b 2)), .int (nI (b 3)), .int (nI (b 4)), .int (nI (b 5))])), (k, .inl (cI, 24, .inl (fun j_ => nI (b (6 + 3 * j_))))), (f, .inl (cI, 24, .inl (fun j_ => nI (b (7 + 3 * j_))))), (s, .inl (cI, 24, .inl (fun j_ => nI (b (8 + 3 * j_)))))] rfl rfl (by omega) (by decide) (by rw [nup_I]; rfl) ?_
          refine g_aload_n 0 (hd := dX1_list_51) (C := hX) rfl rfl ?_
          refine g_dup hX dX1_list_52 rfl ?_
          refine g_get (hd := dX1_list_53) (C := hX) 0 2 rfl rfl in_X1_list_1 (by decide) (by decide +kernel) rfl ?_
          refine g_iconst (v := nI 1) hX dX1_list_56 (by decide) ?_
          refine g_iadd hX dX1_list_57 ?_
          refine g_top (y := (nI ((fb_ct (inB b) i) + 1))) (nI_add _ _) ?_
          refine g_put (hd := dX1_list_58) (C := hX) 0 2 [(e, .inr (1, [.ref we, .ref re, .int (nI ((fb_ct (inB b) i) + 1)), .int mi, .int ne, .int (nI fr), .int (nI cm)])), (we, .inl (cI, 256, .inl (fun j_ => nI ((nup (lsW b Wd i) (fb_ct (inB b) i) i) j_)))), (re, .inl (cI, 256, .inl (upd (upd (lsR b Rk i) i (-4)) i (nI (fb_ct (inB b) i))))), (h, .inr (0, [.ref k, .ref f, .ref s, .int (nI (b 0)), .int (nI (b 1)), .int (nI (b 2)), .int (nI (b 3)), .int (nI (b 4)), .int (nI (b 5))])), (k, .inl (cI, 24, .inl (fun j_ => nI (b (6 + 3 * j_))))), (f, .inl (cI, 24, .inl (fun j_ => nI (b (7 + 3 * j_))))), (s, .inl (cI, 24, .inl (fun j_ => nI (b (8 + 3 * j_)))))] rfl rfl in_X1_list_1 tyX1_ok nmX1 (by decide) (by decide +kernel) rfl rfl rfl (Nat.le_of_ble_eq_true rfl) rfl ?_
          refine g_iinc (v := (nI (i + 1))) 2 [(0, .ref e), (1, .ref h), (2, .int (nI (i + 1)))] [1, 2, 0] (hd := dX1_list_61) (C := hX) rfl (nI_1 _) (by decide) rfl ?_
          refine g_goto 7 (hd := dX1_list_64) (C := hX) (by decide) ?_
          refine g_w [(e, .inr (1, [.ref we, .ref re, .int (nI (fb_ct (inB b) (i + 1))), .int mi, .int ne, .int (nI fr), .int (nI cm)])), (we, .inl (cI, 256, .inl (fun j_ => nI ((lsW b Wd (i + 1)) j_)))), (re, .inl (cI, 256, .inl (lsR b Rk (i + 1)))), (h, .inr (0, [.ref k, .ref f, .ref s, .int (nI (b 0)), .int (nI (b 1)), .int (nI (b 2)), .int (nI (b 3)), .int (nI (b 4)), .int (nI (b 5))])), (k, .inl (cI, 24, .inl (fun j_ => nI (b (6 + 3 * j_))))), (f, .inl (cI, 24, .inl (fun j_ => nI (b (7 + 3 * j_))))), (s, .inl (cI, 24, .inl (fun j_ => nI (b (8 + 3 * j_)))))] (by simp [lsW, lsR, fb_ct_succ, p_25]) ?_
          exact ih_7 (i + 1) (by omega) (by omega)
        · show GW X [(e, .inr (1, [.ref we, .ref re, .int (nI (fb_ct (inB b) i)), .int mi, .int ne, .int (nI fr), .int (nI cm)])), (we, .inl (cI, 256, .inl (fun j_ => nI ((lsW b Wd i) j_)))), (re, .inl (cI, 256, .inl (upd (lsR b Rk i) i (-4)))), (h, .inr (0, [.ref k, .ref f, .ref s, .int (nI (b 0)), .int (nI (b 1)), .int (nI (b 2)), .int (nI (b 3)), .int (nI (b 4)), .int (nI (b 5))])), (k, .inl (cI, 24, .inl (fun j_ => nI (b (6 + 3 * j_))))), (f, .inl (cI, 24, .inl (fun j_ => nI (b (7 + 3 * j_))))), (s, .inl (cI, 24, .inl (fun j_ => nI (b (8 + 3 * j_)))))] [(0, .ref e), (1, .ref h), (2, .int (nI i))] [.int (nI 0)] 28 0 0
          refine g_if_eqN 61 (hd := dX1_list_28) (C := hX) (by decide) (by decide) (fun c_28 => ?_) (fun c_28 => absurd c_28 (by decide))
          refine g_iinc (v := (nI (i + 1))) 2 [(0, .ref e), (1, .ref h), (2, .int (nI (i + 1)))] [1, 2, 0] (hd := dX1_list_61) (C := hX) rfl (nI_1 _) (by decide) rfl ?_
          refine g_goto 7 (hd := dX1_list_64) (C := hX) (by decide) ?_
          refine g_w [(e, .inr (1, [.ref we, .ref re, .int (nI (fb_ct (inB b) (i + 1))), .int mi, .int ne, .int (nI fr), .int (nI cm)])), (we, .inl (cI, 256, .inl (fun j_ => nI ((lsW b Wd (i + 1)) j_)))), (re, .inl (cI, 256, .inl (lsR b Rk (i + 1)))), (h, .inr (0, [.ref k, .ref f, .ref s, .int (nI (b 0)), .int (nI (b 1)), .int (nI (b 2)), .int (nI (b 3)), .int (nI (b 4)), .int (nI (b 5))])), (k, .inl (cI, 24, .inl (fun j_ => nI (b (6 + 3 * j_))))), (f, .inl (cI, 24, .inl (fun j_ => nI (b (7 + 3 * j_))))), (s, .inl (cI, 24, .inl (fun j_ => nI (b (8 + 3 * j_)))))] (by simp [lsW, lsR, fb_ct_succ, p_25]) ?_
          exact ih_7 (i + 1) (by omega) (by omega)
  refine g_w [(e, .inr (1, [.ref we, .ref re, .int (nI (fb_ct (inB b) 0)), .int mi, .int ne, .int (nI fr), .int (nI cm)])), (we, .inl (cI, 256, .inl (fun j_ => nI ((lsW b Wd 0) j_)))), (re, .inl (cI, 256, .inl (lsR b Rk 0))), (h, .inr (0, [.ref k, .ref f, .ref s, .int (nI (b 0)), .int (nI (b 1)), .int (nI (b 2)), .int (nI (b 3)), .int (nI (b 4)), .int (nI (b 5))])), (k, .inl (cI, 24, .inl (fun j_ => nI (b (6 + 3 * j_))))), (f, .inl (cI, 24, .inl (fun j_ => nI (b (7 + 3 * j_))))), (s, .inl (cI, 24, .inl (fun j_ => nI (b (8 + 3 * j_)))))] rfl ?_
  exact L_7 _ 0 (Nat.lt_succ_self _) (Nat.zero_le _)

theorem in_X1_compareTwo_1 : ∀ w ∈ wsX10, w ∈ wsX1_compareTwo := fun _ h => List.mem_cons_of_mem _ (List.mem_append_right _ h)
theorem ok_X1_compareTwo : gOK yX1_compareTwo wsX1_compareTwo ({ frames := 1, cells := 0, slots := 0, locals := 20 }) 4 2 := ⟨⟨_, _, _, rfl⟩, rfl, rfl, by decide, by decide, by decide +kernel⟩
set_option maxRecDepth 100000 in
set_option maxHeartbeats 4000000 in
theorem c_X1_compareTwo (l : Launch) (D : va_G) (cC cI cJ cO : ClassId) (e : Nat) (we : Nat) (re : Nat) (sz : Nat) (m : Nat) (o : Option Nat) (fr : Nat) (cm : Nat) (Wd : Nat → Nat) (Rk : Nat → Int32) (x : Nat) (y : Nat) (hx : x < 256) (hy : y < 256) (hd : ∀ d, o = some d → d < 100) : CM (S := Unit) l D (tyL cC cI cJ cO) yX1_compareTwo wsX1_compareTwo ({ frames := 1, cells := 0, slots := 0, locals := 20 }) [.ref e, .int (nI x), .int (nI y)] [(e, .inr (1, [.ref we, .ref re, .int (nI sz), .int (nI m), .int (neI o), .int (nI fr), .int (nI cm)])), (we, .inl (cI, 256, .inl (fun j_ => nI (Wd j_)))), (re, .inl (cI, 256, .inl Rk))] (fun _ => none) (fun _ => True) (fun u_ => [(e, .inr (1, [.ref we, .ref re, .int (nI sz), .int (nI (cmM m x y)), .int (neI (cmN o x y)), .int (nI fr), .int (nI cm)])), (we, .inl (cI, 256, .inl (fun j_ => nI (Wd j_)))), (re, .inl (cI, 256, .inl Rk))]) := by
  refine CM_in (cc := cX1_compareTwo) (maxL := 4) (ret := none) (by decide) rfl (Nat.le_of_ble_eq_true rfl) ?_
  intro X hX hret
  show GW X [(e, .inr (1, [.ref we, .ref re, .int (nI sz), .int (nI m), .int (neI o), .int (nI fr), .int (nI cm)])), (we, .inl (cI, 256, .inl (fun j_ => nI (Wd j_)))), (re, .inl (cI, 256, .inl Rk))] [(0, .ref e), (1, .int (nI x)), (2, .int (nI y))] [] 0 0 0
  rcases o with _ | d
  · refine g_w [(e, .inr (1, [.ref we, .ref re, .int (nI sz), .int (nI m), .int (-4), .int (nI fr), .int (nI cm)])), (we, .inl (cI, 256, .inl (fun j_ => nI (Wd j_)))), (re, .inl (cI, 256, .inl Rk))] rfl ?_
    refine g_iload_n 1 (hd := dX1_compareTwo_0) (C := hX) rfl rfl ?_
    refine g_iload_n 2 (hd := dX1_compareTwo_1) (C := hX) rfl rfl ?_
    refine g_iand hX dX1_compareTwo_2 ?_
    refine g_top (y := (nI (x &&& y))) (nx_and _ _) ?_
    refine g_iload_n 1 (hd := dX1_compareTwo_3) (C := hX) rfl rfl ?_
    have q1 : x &&& y ≤ x := Nat.and_le_left
    refine g_icmp_neN 17 (hd := dX1_compareTwo_4) (C := hX) (by decide) (by omega) (by omega) (fun c_4 => ?_) (fun c_4 => ?_)
    · refine g_iload_n 1 (hd := dX1_compareTwo_17) (C := hX) rfl rfl ?_
      refine g_iload_n 2 (hd := dX1_compareTwo_18) (C := hX) rfl rfl ?_
      refine g_ixor hX dX1_compareTwo_19 ?_
      refine g_top (y := (nI (x ^^^ y))) (nx_xor _ _) ?_
      refine g_callS (rest := []) hX (c_J6_bitCount_0f7a4 l D cC cI cJ cO (x ^^^ y) (Nat.xor_lt_two_pow (n := 8) hx hy)) ok_J6_bitCount_0f7a4 (fun _ => rfl) (hd := dX1_compareTwo_20) gX1_compareTwo_J6_bitCount_0f7a4 ⟨by decide, by decide⟩ rfl (Nat.le_of_ble_eq_true rfl) ⟨Nat.zero_le _, Nat.zero_le _⟩ [] (by decide) rfl rfl ?_
      intro r_20 e_20
      subst e_20
      show GW X [(e, .inr (1, [.ref we, .ref re, .int (nI sz), .int (nI m), .int (-4), .int (nI fr), .int (nI cm)])), (we, .inl (cI, 256, .inl (fun j_ => nI (Wd j_)))), (re, .inl (cI, 256, .inl Rk))] [(0, .ref e), (1, .int (nI x)), (2, .int (nI y))] [.int (nI (ones8 (x ^^^ y)))] 23 0 0
      refine g_istore_n [(0, .ref e), (1, .int (nI x)), (2, .int (nI y)), (3, .int (nI (ones8 (x ^^^ y))))] [1, 2, 3, 0] (hd := dX1_compareTwo_23) (C := hX) rfl (by decide) rfl ?_
      have q2 := ones8_le (x ^^^ y)
      refine g_aload_n 0 (hd := dX1_compareTwo_24) (C := hX) rfl rfl ?_
      refine g_get (hd := dX1_compareTwo_25) (C := hX) 0 4 rfl rfl in_X1_compareTwo_1 (by decide) (by decide +kernel) rfl ?_
      refine g_bipush (v := (-4)) hX dX1_compareTwo_28 (by decide) ?_
      refine g_icmp_eq 41 (hd := dX1_compareTwo_30) (C := hX) (by decide) (fun c_30 => ?_) (fun c_30 => absurd c_30 (by decide))
      refine g_aload_n 0 (hd := dX1_compareTwo_41) (C := hX) rfl rfl ?_
      refine g_iload_n 3 (hd := dX1_compareTwo_42) (C := hX) rfl rfl ?_
      refine g_put (hd := dX1_compareTwo_43) (C := hX) 0 4 [(e, .inr (1, [.ref we, .ref re, .int (nI sz), .int (nI m), .int (nI (ones8 (x ^^^ y))), .int (nI fr), .int (nI cm)])), (we, .inl (cI, 256, .inl (fun j_ => nI (Wd j_)))), (re, .inl (cI, 256, .inl Rk))] rfl rfl in_X1_compareTwo_1 tyX1_ok nmX1 (by decide) (by decide +kernel) rfl rfl rfl (Nat.le_of_ble_eq_true rfl) rfl ?_
      refine g_w [(e, .inr (1, [.ref we, .ref re, .int (nI sz), .int (nI (cmM m x y)), .int (neI (cmN none x y)), .int (nI fr), .int (nI cm)])), (we, .inl (cI, 256, .inl (fun j_ => nI (Wd j_)))), (re, .inl (cI, 256, .inl Rk))] (by first | (rw [cmM_y c_4, cmN_0]; done) | (rw [cmM_y c_4, cmN_0]; rfl) | (rw [cmM_n c_4, cmN_0]; done) | (rw [cmM_n c_4, cmN_0]; rfl)) ?_
      exact (hret () _ _ trivial).1 rfl rfl dX1_compareTwo_46
    · refine g_aload_n 0 (hd := dX1_compareTwo_7) (C := hX) rfl rfl ?_
      refine g_dup hX dX1_compareTwo_8 rfl ?_
      refine g_get (hd := dX1_compareTwo_9) (C := hX) 0 3 rfl rfl in_X1_compareTwo_1 (by decide) (by decide +kernel) rfl ?_
      refine g_iconst (v := nI 2) hX dX1_compareTwo_12 (by decide) ?_
      refine g_iadd hX dX1_compareTwo_13 ?_
      refine g_top (y := (nI (m + 2))) (nI_add _ _) ?_
      refine g_put (hd := dX1_compareTwo_14) (C := hX) 0 3 [(e, .inr (1, [.ref we, .ref re, .int (nI sz), .int (nI (m + 2)), .int (-4), .int (nI fr), .int (nI cm)])), (we, .inl (cI, 256, .inl (fun j_ => nI (Wd j_)))), (re, .inl (cI, 256, .inl Rk))] rfl rfl in_X1_compareTwo_1 tyX1_ok nmX1 (by decide) (by decide +kernel) rfl rfl rfl (Nat.le_of_ble_eq_true rfl) rfl ?_
      refine g_iload_n 1 (hd := dX1_compareTwo_17) (C := hX) rfl rfl ?_
      refine g_iload_n 2 (hd := dX1_compareTwo_18) (C := hX) rfl rfl ?_
      refine g_ixor hX dX1_compareTwo_19 ?_
      refine g_top (y := (nI (x ^^^ y))) (nx_xor _ _) ?_
      refine g_callS (rest := []) hX (c_J6_bitCount_0f7a4 l D cC cI cJ cO (x ^^^ y) (Nat.xor_lt_two_pow (n := 8) hx hy)) ok_J6_bitCount_0f7a4 (fun _ => rfl) (hd := dX1_compareTwo_20) gX1_compareTwo_J6_bitCount_0f7a4 ⟨by decide, by decide⟩ rfl (Nat.le_of_ble_eq_true rfl) ⟨Nat.zero_le _, Nat.zero_le _⟩ [] (by decide) rfl rfl ?_
      intro r_20 e_20
      subst e_20
      show GW X [(e, .inr (1, [.ref we, .ref re, .int (nI sz), .int (nI (m + 2)), .int (-4), .int (nI fr), .int (nI cm)])), (we, .inl (cI, 256, .inl (fun j_ => nI (Wd j_)))), (re, .inl (cI, 256, .inl Rk))] [(0, .ref e), (1, .int (nI x)), (2, .int (nI y))] [.int (nI (ones8 (x ^^^ y)))] 23 0 0
      refine g_istore_n [(0, .ref e), (1, .int (nI x)), (2, .int (nI y)), (3, .int (nI (ones8 (x ^^^ y))))] [1, 2, 3, 0] (hd := dX1_compareTwo_23) (C := hX) rfl (by decide) rfl ?_
      have q2 := ones8_le (x ^^^ y)
      refine g_aload_n 0 (hd := dX1_compareTwo_24) (C := hX) rfl rfl ?_
      refine g_get (hd := dX1_compareTwo_25) (C := hX) 0 4 rfl rfl in_X1_compareTwo_1 (by decide) (by decide +kernel) rfl ?_
      refine g_bipush (v := (-4)) hX dX1_compareTwo_28 (by decide) ?_
      refine g_icmp_eq 41 (hd := dX1_compareTwo_30) (C := hX) (by decide) (fun c_30 => ?_) (fun c_30 => absurd c_30 (by decide))
      refine g_aload_n 0 (hd := dX1_compareTwo_41) (C := hX) rfl rfl ?_
      refine g_iload_n 3 (hd := dX1_compareTwo_42) (C := hX) rfl rfl ?_
      refine g_put (hd := dX1_compareTwo_43) (C := hX) 0 4 [(e, .inr (1, [.ref we, .ref re, .int (nI sz), .int (nI (m + 2)), .int (nI (ones8 (x ^^^ y))), .int (nI fr), .int (nI cm)])), (we, .inl (cI, 256, .inl (fun j_ => nI (Wd j_)))), (re, .inl (cI, 256, .inl Rk))] rfl rfl in_X1_compareTwo_1 tyX1_ok nmX1 (by decide) (by decide +kernel) rfl rfl rfl (Nat.le_of_ble_eq_true rfl) rfl ?_
      refine g_w [(e, .inr (1, [.ref we, .ref re, .int (nI sz), .int (nI (cmM m x y)), .int (neI (cmN none x y)), .int (nI fr), .int (nI cm)])), (we, .inl (cI, 256, .inl (fun j_ => nI (Wd j_)))), (re, .inl (cI, 256, .inl Rk))] (by first | (rw [cmM_y c_4, cmN_0]; done) | (rw [cmM_y c_4, cmN_0]; rfl) | (rw [cmM_n c_4, cmN_0]; done) | (rw [cmM_n c_4, cmN_0]; rfl)) ?_
      exact (hret () _ _ trivial).1 rfl rfl dX1_compareTwo_46
  · have hdd := hd d rfl
    refine g_w [(e, .inr (1, [.ref we, .ref re, .int (nI sz), .int (nI m), .int (nI d), .int (nI fr), .int (nI cm)])), (we, .inl (cI, 256, .inl (fun j_ => nI (Wd j_)))), (re, .inl (cI, 256, .inl Rk))] rfl ?_
    refine g_iload_n 1 (hd := dX1_compareTwo_0) (C := hX) rfl rfl ?_
    refine g_iload_n 2 (hd := dX1_compareTwo_1) (C := hX) rfl rfl ?_
    refine g_iand hX dX1_compareTwo_2 ?_
    refine g_top (y := (nI (x &&& y))) (nx_and _ _) ?_
    refine g_iload_n 1 (hd := dX1_compareTwo_3) (C := hX) rfl rfl ?_
    have q1 : x &&& y ≤ x := Nat.and_le_left
    refine g_icmp_neN 17 (hd := dX1_compareTwo_4) (C := hX) (by decide) (by omega) (by omega) (fun c_4 => ?_) (fun c_4 => ?_)
    · refine g_iload_n 1 (hd := dX1_compareTwo_17) (C := hX) rfl rfl ?_
      refine g_iload_n 2 (hd := dX1_compareTwo_18) (C := hX) rfl rfl ?_
      refine g_ixor hX dX1_compareTwo_19 ?_
      refine g_top (y := (nI (x ^^^ y))) (nx_xor _ _) ?_
      refine g_callS (rest := []) hX (c_J6_bitCount_0f7a4 l D cC cI cJ cO (x ^^^ y) (Nat.xor_lt_two_pow (n := 8) hx hy)) ok_J6_bitCount_0f7a4 (fun _ => rfl) (hd := dX1_compareTwo_20) gX1_compareTwo_J6_bitCount_0f7a4 ⟨by decide, by decide⟩ rfl (Nat.le_of_ble_eq_true rfl) ⟨Nat.zero_le _, Nat.zero_le _⟩ [] (by decide) rfl rfl ?_
      intro r_20 e_20
      subst e_20
      show GW X [(e, .inr (1, [.ref we, .ref re, .int (nI sz), .int (nI m), .int (nI d), .int (nI fr), .int (nI cm)])), (we, .inl (cI, 256, .inl (fun j_ => nI (Wd j_)))), (re, .inl (cI, 256, .inl Rk))] [(0, .ref e), (1, .int (nI x)), (2, .int (nI y))] [.int (nI (ones8 (x ^^^ y)))] 23 0 0
      refine g_istore_n [(0, .ref e), (1, .int (nI x)), (2, .int (nI y)), (3, .int (nI (ones8 (x ^^^ y))))] [1, 2, 3, 0] (hd := dX1_compareTwo_23) (C := hX) rfl (by decide) rfl ?_
      have q2 := ones8_le (x ^^^ y)
      refine g_aload_n 0 (hd := dX1_compareTwo_24) (C := hX) rfl rfl ?_
      refine g_get (hd := dX1_compareTwo_25) (C := hX) 0 4 rfl rfl in_X1_compareTwo_1 (by decide) (by decide +kernel) rfl ?_
      refine g_bipush (v := (-4)) hX dX1_compareTwo_28 (by decide) ?_
      refine g_icmp_eq 41 (hd := dX1_compareTwo_30) (C := hX) (by decide) (fun c_30 => absurd c_30 (nI_neg (by decide) (by omega))) (fun c_30 => ?_)
      refine g_iload_n 3 (hd := dX1_compareTwo_33) (C := hX) rfl rfl ?_
      refine g_aload_n 0 (hd := dX1_compareTwo_34) (C := hX) rfl rfl ?_
      refine g_get (hd := dX1_compareTwo_35) (C := hX) 0 4 rfl rfl in_X1_compareTwo_1 (by decide) (by decide +kernel) rfl ?_
      refine g_icmp_geN 46 (hd := dX1_compareTwo_38) (C := hX) (by decide) (by omega) (by omega) (fun c_38 => ?_) (fun c_38 => ?_)
      · refine g_w [(e, .inr (1, [.ref we, .ref re, .int (nI sz), .int (nI (cmM m x y)), .int (neI (cmN (some d) x y)), .int (nI fr), .int (nI cm)])), (we, .inl (cI, 256, .inl (fun j_ => nI (Wd j_)))), (re, .inl (cI, 256, .inl Rk))] (by first | (rw [cmM_y c_4, cmN_lt c_38]; done) | (rw [cmM_y c_4, cmN_lt c_38]; rfl) | (rw [cmM_y c_4, cmN_ge c_38]; done) | (rw [cmM_y c_4, cmN_ge c_38]; rfl) | (rw [cmM_n c_4, cmN_lt c_38]; done) | (rw [cmM_n c_4, cmN_lt c_38]; rfl) | (rw [cmM_n c_4, cmN_ge c_38]; done) | (rw [cmM_n c_4, cmN_ge c_38]; rfl)) ?_
        exact (hret () _ _ trivial).1 rfl rfl dX1_compareTwo_46
      · refine g_aload_n 0 (hd := dX1_compareTwo_41) (C := hX) rfl rfl ?_
        refine g_iload_n 3 (hd := dX1_compareTwo_42) (C := hX) rfl rfl ?_
        refine g_put (hd := dX1_compareTwo_43) (C := hX) 0 4 [(e, .inr (1, [.ref we, .ref re, .int (nI sz), .int (nI m), .int (nI (ones8 (x ^^^ y))), .int (nI fr), .int (nI cm)])), (we, .inl (cI, 256, .inl (fun j_ => nI (Wd j_)))), (re, .inl (cI, 256, .inl Rk))] rfl rfl in_X1_compareTwo_1 tyX1_ok nmX1 (by decide) (by decide +kernel) rfl rfl rfl (Nat.le_of_ble_eq_true rfl) rfl ?_
        refine g_w [(e, .inr (1, [.ref we, .ref re, .int (nI sz), .int (nI (cmM m x y)), .int (neI (cmN (some d) x y)), .int (nI fr), .int (nI cm)])), (we, .inl (cI, 256, .inl (fun j_ => nI (Wd j_)))), (re, .inl (cI, 256, .inl Rk))] (by first | (rw [cmM_y c_4, cmN_lt c_38]; done) | (rw [cmM_y c_4, cmN_lt c_38]; rfl) | (rw [cmM_y c_4, cmN_ge c_38]; done) | (rw [cmM_y c_4, cmN_ge c_38]; rfl) | (rw [cmM_n c_4, cmN_lt c_38]; done) | (rw [cmM_n c_4, cmN_lt c_38]; rfl) | (rw [cmM_n c_4, cmN_ge c_38]; done) | (rw [cmM_n c_4, cmN_ge c_38]; rfl)) ?_
        exact (hret () _ _ trivial).1 rfl rfl dX1_compareTwo_46
    · refine g_aload_n 0 (hd := dX1_compareTwo_7) (C := hX) rfl rfl ?_
      refine g_dup hX dX1_compareTwo_8 rfl ?_
      refine g_get (hd := dX1_compareTwo_9) (C := hX) 0 3 rfl rfl in_X1_compareTwo_1 (by decide) (by decide +kernel) rfl ?_
      refine g_iconst (v := nI 2) hX dX1_compareTwo_12 (by decide) ?_
      refine g_iadd hX dX1_compareTwo_13 ?_
      refine g_top (y := (nI (m + 2))) (nI_add _ _) ?_
      refine g_put (hd := dX1_compareTwo_14) (C := hX) 0 3 [(e, .inr (1, [.ref we, .ref re, .int (nI sz), .int (nI (m + 2)), .int (nI d), .int (nI fr), .int (nI cm)])), (we, .inl (cI, 256, .inl (fun j_ => nI (Wd j_)))), (re, .inl (cI, 256, .inl Rk))] rfl rfl in_X1_compareTwo_1 tyX1_ok nmX1 (by decide) (by decide +kernel) rfl rfl rfl (Nat.le_of_ble_eq_true rfl) rfl ?_
      refine g_iload_n 1 (hd := dX1_compareTwo_17) (C := hX) rfl rfl ?_
      refine g_iload_n 2 (hd := dX1_compareTwo_18) (C := hX) rfl rfl ?_
      refine g_ixor hX dX1_compareTwo_19 ?_
      refine g_top (y := (nI (x ^^^ y))) (nx_xor _ _) ?_
      refine g_callS (rest := []) hX (c_J6_bitCount_0f7a4 l D cC cI cJ cO (x ^^^ y) (Nat.xor_lt_two_pow (n := 8) hx hy)) ok_J6_bitCount_0f7a4 (fun _ => rfl) (hd := dX1_compareTwo_20) gX1_compareTwo_J6_bitCount_0f7a4 ⟨by decide, by decide⟩ rfl (Nat.le_of_ble_eq_true rfl) ⟨Nat.zero_le _, Nat.zero_le _⟩ [] (by decide) rfl rfl ?_
      intro r_20 e_20
      subst e_20
      show GW X [(e, .inr (1, [.ref we, .ref re, .int (nI sz), .int (nI (m + 2)), .int (nI d), .int (nI fr), .int (nI cm)])), (we, .inl (cI, 256, .inl (fun j_ => nI (Wd j_)))), (re, .inl (cI, 256, .inl Rk))] [(0, .ref e), (1, .int (nI x)), (2, .int (nI y))] [.int (nI (ones8 (x ^^^ y)))] 23 0 0
      refine g_istore_n [(0, .ref e), (1, .int (nI x)), (2, .int (nI y)), (3, .int (nI (ones8 (x ^^^ y))))] [1, 2, 3, 0] (hd := dX1_compareTwo_23) (C := hX) rfl (by decide) rfl ?_
      have q2 := ones8_le (x ^^^ y)
      refine g_aload_n 0 (hd := dX1_compareTwo_24) (C := hX) rfl rfl ?_
      refine g_get (hd := dX1_compareTwo_25) (C := hX) 0 4 rfl rfl in_X1_compareTwo_1 (by decide) (by decide +kernel) rfl ?_
      refine g_bipush (v := (-4)) hX dX1_compareTwo_28 (by decide) ?_
      refine g_icmp_eq 41 (hd := dX1_compareTwo_30) (C := hX) (by decide) (fun c_30 => absurd c_30 (nI_neg (by decide) (by omega))) (fun c_30 => ?_)
      refine g_iload_n 3 (hd := dX1_compareTwo_33) (C := hX) rfl rfl ?_
      refine g_aload_n 0 (hd := dX1_compareTwo_34) (C := hX) rfl rfl ?_
      refine g_get (hd := dX1_compareTwo_35) (C := hX) 0 4 rfl rfl in_X1_compareTwo_1 (by decide) (by decide +kernel) rfl ?_
      refine g_icmp_geN 46 (hd := dX1_compareTwo_38) (C := hX) (by decide) (by omega) (by omega) (fun c_38 => ?_) (fun c_38 => ?_)
      · refine g_w [(e, .inr (1, [.ref we, .ref re, .int (nI sz), .int (nI (cmM m x y)), .int (neI (cmN (some d) x y)), .int (nI fr), .int (nI cm)])), (we, .inl (cI, 256, .inl (fun j_ => nI (Wd j_)))), (re, .inl (cI, 256, .inl Rk))] (by first | (rw [cmM_y c_4, cmN_lt c_38]; done) | (rw [cmM_y c_4, cmN_lt c_38]; rfl) | (rw [cmM_y c_4, cmN_ge c_38]; done) | (rw [cmM_y c_4, cmN_ge c_38]; rfl) | (rw [cmM_n c_4, cmN_lt c_38]; done) | (rw [cmM_n c_4, cmN_lt c_38]; rfl) | (rw [cmM_n c_4, cmN_ge c_38]; done) | (rw [cmM_n c_4, cmN_ge c_38]; rfl)) ?_
        exact (hret () _ _ trivial).1 rfl rfl dX1_compareTwo_46
      · refine g_aload_n 0 (hd := dX1_compareTwo_41) (C := hX) rfl rfl ?_
        refine g_iload_n 3 (hd := dX1_compareTwo_42) (C := hX) rfl rfl ?_
        refine g_put (hd := dX1_compareTwo_43) (C := hX) 0 4 [(e, .inr (1, [.ref we, .ref re, .int (nI sz), .int (nI (m + 2)), .int (nI (ones8 (x ^^^ y))), .int (nI fr), .int (nI cm)])), (we, .inl (cI, 256, .inl (fun j_ => nI (Wd j_)))), (re, .inl (cI, 256, .inl Rk))] rfl rfl in_X1_compareTwo_1 tyX1_ok nmX1 (by decide) (by decide +kernel) rfl rfl rfl (Nat.le_of_ble_eq_true rfl) rfl ?_
        refine g_w [(e, .inr (1, [.ref we, .ref re, .int (nI sz), .int (nI (cmM m x y)), .int (neI (cmN (some d) x y)), .int (nI fr), .int (nI cm)])), (we, .inl (cI, 256, .inl (fun j_ => nI (Wd j_)))), (re, .inl (cI, 256, .inl Rk))] (by first | (rw [cmM_y c_4, cmN_lt c_38]; done) | (rw [cmM_y c_4, cmN_lt c_38]; rfl) | (rw [cmM_y c_4, cmN_ge c_38]; done) | (rw [cmM_y c_4, cmN_ge c_38]; rfl) | (rw [cmM_n c_4, cmN_lt c_38]; done) | (rw [cmM_n c_4, cmN_lt c_38]; rfl) | (rw [cmM_n c_4, cmN_ge c_38]; done) | (rw [cmM_n c_4, cmN_ge c_38]; rfl)) ?_
        exact (hret () _ _ trivial).1 rfl rfl dX1_compareTwo_46

theorem in_X1_compare_1 : ∀ w ∈ wsX10, w ∈ wsX1_compare := fun _ h => List.mem_cons_of_mem _ (List.mem_append_right _ h)
theorem ok_X1_compare : gOK yX1_compare wsX1_compare ({ frames := 2, cells := 0, slots := 0, locals := 43 }) 3 0 := ⟨⟨_, _, _, rfl⟩, rfl, rfl, by decide, by decide, by decide +kernel⟩
set_option maxRecDepth 100000 in
set_option maxHeartbeats 4000000 in
theorem c_X1_compare (l : Launch) (D : va_G) (cC cI cJ cO : ClassId) (e : Nat) (we : Nat) (re : Nat) (sz : Nat) (mi : Int32) (ne : Int32) (fr : Nat) (cm : Nat) (Wd : Nat → Nat) (Rk : Nat → Int32) (hs : sz ≤ 256) (hW : ∀ j, j < sz → Wd j < 256) : CM (S := Unit) l D (tyL cC cI cJ cO) yX1_compare wsX1_compare ({ frames := 2, cells := 0, slots := 0, locals := 43 }) [.ref e] [(e, .inr (1, [.ref we, .ref re, .int (nI sz), .int mi, .int ne, .int (nI fr), .int (nI cm)])), (we, .inl (cI, 256, .inl (fun j_ => nI (Wd j_)))), (re, .inl (cI, 256, .inl Rk))] (fun _ => none) (fun _ => True) (fun u_ => [(e, .inr (1, [.ref we, .ref re, .int (nI sz), .int (nI ((cmO Wd (sz - 1)).1)), .int (neI (cmO Wd (sz - 1)).2), .int (nI fr), .int (nI 1)])), (we, .inl (cI, 256, .inl (fun j_ => nI (Wd j_)))), (re, .inl (cI, 256, .inl Rk))]) := by
  refine CM_in (cc := cX1_compare) (maxL := 3) (ret := none) (by decide) rfl (Nat.le_of_ble_eq_true rfl) ?_
  intro X hX hret
  show GW X [(e, .inr (1, [.ref we, .ref re, .int (nI sz), .int mi, .int ne, .int (nI fr), .int (nI cm)])), (we, .inl (cI, 256, .inl (fun j_ => nI (Wd j_)))), (re, .inl (cI, 256, .inl Rk))] [(0, .ref e)] [] 0 0 0
  refine g_aload_n 0 (hd := dX1_compare_0) (C := hX) rfl rfl ?_
  refine g_iconst (v := nI 0) hX dX1_compare_1 (by decide) ?_
  refine g_put (hd := dX1_compare_2) (C := hX) 0 3 [(e, .inr (1, [.ref we, .ref re, .int (nI sz), .int (nI 0), .int ne, .int (nI fr), .int (nI cm)])), (we, .inl (cI, 256, .inl (fun j_ => nI (Wd j_)))), (re, .inl (cI, 256, .inl Rk))] rfl rfl in_X1_compare_1 tyX1_ok nmX1 (by decide) (by decide +kernel) rfl rfl rfl (Nat.le_of_ble_eq_true rfl) rfl ?_
  refine g_aload_n 0 (hd := dX1_compare_5) (C := hX) rfl rfl ?_
  refine g_bipush (v := (-4)) hX dX1_compare_6 (by decide) ?_
  refine g_put (hd := dX1_compare_8) (C := hX) 0 4 [(e, .inr (1, [.ref we, .ref re, .int (nI sz), .int (nI 0), .int (-4), .int (nI fr), .int (nI cm)])), (we, .inl (cI, 256, .inl (fun j_ => nI (Wd j_)))), (re, .inl (cI, 256, .inl Rk))] rfl rfl in_X1_compare_1 tyX1_ok nmX1 (by decide) (by decide +kernel) rfl rfl rfl (Nat.le_of_ble_eq_true rfl) rfl ?_
  refine g_iconst (v := nI 1) hX dX1_compare_11 (by decide) ?_
  refine g_istore_n [(0, .ref e), (1, .int (nI 1))] [1, 0] (hd := dX1_compare_12) (C := hX) rfl (by decide) rfl ?_
  have L_13 : ∀ (n_13 : Nat) (i : Nat), sz - i < n_13 → (i + 1 ≤ sz ∨ i = 0) → GW X [(e, .inr (1, [.ref we, .ref re, .int (nI sz), .int (nI ((cmO Wd i).1)), .int (neI (cmO Wd i).2), .int (nI fr), .int (nI cm)])), (we, .inl (cI, 256, .inl (fun j_ => nI (Wd j_)))), (re, .inl (cI, 256, .inl Rk))] [(0, .ref e), (1, .int (nI (i + 1)))] [] 13 0 0 := by
    intro n_13
    induction n_13 with
    | zero => intro i hm_13; exact absurd hm_13 (Nat.not_lt_zero _)
    | succ n_13 ih_13 =>
      intro i hm_13 hi
      refine g_iload_n 1 (hd := dX1_compare_13) (C := hX) rfl rfl ?_
      refine g_aload_n 0 (hd := dX1_compare_14) (C := hX) rfl rfl ?_
      refine g_get (hd := dX1_compare_15) (C := hX) 0 2 rfl rfl in_X1_compare_1 (by decide) (by decide +kernel) rfl ?_
      refine g_icmp_geN 56 (hd := dX1_compare_18) (C := hX) (by decide) (by omega) (by omega) (fun c_18 => ?_) (fun c_18 => ?_)
      · refine g_aload_n 0 (hd := dX1_compare_56) (C := hX) rfl rfl ?_
        refine g_iconst (v := nI 1) hX dX1_compare_57 (by decide) ?_
        refine g_put (hd := dX1_compare_58) (C := hX) 0 6 [(e, .inr (1, [.ref we, .ref re, .int (nI sz), .int (nI ((cmO Wd i).1)), .int (neI (cmO Wd i).2), .int (nI fr), .int (nI 1)])), (we, .inl (cI, 256, .inl (fun j_ => nI (Wd j_)))), (re, .inl (cI, 256, .inl Rk))] rfl rfl in_X1_compare_1 tyX1_ok nmX1 (by decide) (by decide +kernel) rfl rfl rfl (Nat.le_of_ble_eq_true rfl) rfl ?_
        refine g_w [(e, .inr (1, [.ref we, .ref re, .int (nI sz), .int (nI ((cmO Wd (sz - 1)).1)), .int (neI (cmO Wd (sz - 1)).2), .int (nI fr), .int (nI 1)])), (we, .inl (cI, 256, .inl (fun j_ => nI (Wd j_)))), (re, .inl (cI, 256, .inl Rk))] (by rw [show i = sz - 1 from by omega]) ?_
        exact (hret () _ _ trivial).1 rfl rfl dX1_compare_61
      · refine g_iconst (v := nI 0) hX dX1_compare_21 (by decide) ?_
        refine g_istore_n [(0, .ref e), (1, .int (nI (i + 1))), (2, .int (nI 0))] [1, 2, 0] (hd := dX1_compare_22) (C := hX) rfl (by decide) rfl ?_
        have L_23 : ∀ (n_23 : Nat) (j : Nat), i + 1 - j < n_23 → (j ≤ i + 1) → GW X [(e, .inr (1, [.ref we, .ref re, .int (nI sz), .int (nI ((cmI Wd (i + 1) (cmO Wd i) j).1)), .int (neI (cmI Wd (i + 1) (cmO Wd i) j).2), .int (nI fr), .int (nI cm)])), (we, .inl (cI, 256, .inl (fun j_ => nI (Wd j_)))), (re, .inl (cI, 256, .inl Rk))] [(0, .ref e), (1, .int (nI (i + 1))), (2, .int (nI j))] [] 23 0 0 := by
          intro n_23
          induction n_23 with
          | zero => intro j hm_23; exact absurd hm_23 (Nat.not_lt_zero _)
          | succ n_23 ih_23 =>
            intro j hm_23 hj
            refine g_iload_n 2 (hd := dX1_compare_23) (C := hX) rfl rfl ?_
            refine g_iload_n 1 (hd := dX1_compare_24) (C := hX) rfl rfl ?_
            refine g_icmp_geN 50 (hd := dX1_compare_25) (C := hX) (by decide) (by omega) (by omega) (fun c_25 => ?_) (fun c_25 => ?_)
            · refine g_iinc (v := (nI (i + 1 + 1))) 1 [(0, .ref e), (1, .int (nI (i + 1 + 1))), (2, .int (nI j))] [1, 0, 2] (hd := dX1_compare_50) (C := hX) rfl (nI_1 _) (by decide) rfl ?_
              refine g_goto 13 (hd := dX1_compare_53) (C := hX) (by decide) ?_
              refine g_w [(e, .inr (1, [.ref we, .ref re, .int (nI sz), .int (nI ((cmO Wd (i + 1)).1)), .int (neI (cmO Wd (i + 1)).2), .int (nI fr), .int (nI cm)])), (we, .inl (cI, 256, .inl (fun j_ => nI (Wd j_)))), (re, .inl (cI, 256, .inl Rk))] (by rw [show j = i + 1 from by omega]; rfl) ?_
              refine g_lv [(0, .ref e), (1, .int (nI (i + 1 + 1)))] [0, 1] rfl ?_
              exact ih_13 (i + 1) (by omega) (by omega)
            · refine g_aload_n 0 (hd := dX1_compare_28) (C := hX) rfl rfl ?_
              refine g_aload_n 0 (hd := dX1_compare_29) (C := hX) rfl rfl ?_
              refine g_get (hd := dX1_compare_30) (C := hX) 0 0 rfl rfl in_X1_compare_1 (by decide) (by decide +kernel) rfl ?_
              refine g_iload_n 2 (hd := dX1_compare_33) (C := hX) rfl rfl ?_
              refine g_iald (hd := dX1_compare_34) (C := hX) 1 1 rfl rfl (by omega) (by decide) ?_
              refine g_aload_n 0 (hd := dX1_compare_35) (C := hX) rfl rfl ?_
              refine g_get (hd := dX1_compare_36) (C := hX) 0 0 rfl rfl in_X1_compare_1 (by decide) (by decide +kernel) rfl ?_
              refine g_iload_n 1 (hd := dX1_compare_39) (C := hX) rfl rfl ?_
              refine g_iald (hd := dX1_compare_40) (C := hX) 1 1 rfl rfl (by omega) (by decide) ?_
              refine g_callV (rest := []) hX (c_X1_compareTwo l D cC cI cJ cO e we re sz ((cmI Wd (i + 1) (cmO Wd i) j).1) ((cmI Wd (i + 1) (cmO Wd i) j).2) fr cm Wd Rk (Wd j) (Wd (i + 1)) (hW j (by omega)) (hW (i + 1) (by omega)) (cmI_ok Wd (i + 1) (cmO_ok Wd i) j)) ok_X1_compareTwo rfl 0 rfl rfl (fun _ => rfl) (hd := dX1_compare_41) gX1_compare_X1_compareTwo ⟨by decide, by decide⟩ rfl (Nat.le_of_ble_eq_true rfl) ⟨Nat.zero_le _, Nat.zero_le _⟩ [0, 1, 2] (by decide) rfl rfl ?_
              intro _u41 _p41
              show GW X [(e, .inr (1, [.ref we, .ref re, .int (nI sz), .int (nI (cmM ((cmI Wd (i + 1) (cmO Wd i) j).1) (Wd j) (Wd (i + 1)))), .int (neI (cmN ((cmI Wd (i + 1) (cmO Wd i) j).2) (Wd j) (Wd (i + 1)))), .int (nI fr), .int (nI cm)])), (we, .inl (cI, 256, .inl (fun j_ => nI (Wd j_)))), (re, .inl (cI, 256, .inl Rk))] [(0, .ref e), (1, .int (nI (i + 1))), (2, .int (nI j))] [] 44 0 0
              refine g_iinc (v := (nI (j + 1))) 2 [(0, .ref e), (1, .int (nI (i + 1))), (2, .int (nI (j + 1)))] [1, 2, 0] (hd := dX1_compare_44) (C := hX) rfl (nI_1 _) (by decide) rfl ?_
              refine g_goto 23 (hd := dX1_compare_47) (C := hX) (by decide) ?_
              refine g_w [(e, .inr (1, [.ref we, .ref re, .int (nI sz), .int (nI ((cmI Wd (i + 1) (cmO Wd i) (j + 1)).1)), .int (neI (cmI Wd (i + 1) (cmO Wd i) (j + 1)).2), .int (nI fr), .int (nI cm)])), (we, .inl (cI, 256, .inl (fun j_ => nI (Wd j_)))), (re, .inl (cI, 256, .inl Rk))] rfl ?_
              exact ih_23 (j + 1) (by omega) (by omega)
        refine g_w [(e, .inr (1, [.ref we, .ref re, .int (nI sz), .int (nI ((cmI Wd (i + 1) (cmO Wd i) 0).1)), .int (neI (cmI Wd (i + 1) (cmO Wd i) 0).2), .int (nI fr), .int (nI cm)])), (we, .inl (cI, 256, .inl (fun j_ => nI (Wd j_)))), (re, .inl (cI, 256, .inl Rk))] rfl ?_
        exact L_23 _ 0 (Nat.lt_succ_self _) (Nat.zero_le _)
  refine g_w [(e, .inr (1, [.ref we, .ref re, .int (nI sz), .int (nI ((cmO Wd 0).1)), .int (neI (cmO Wd 0).2), .int (nI fr), .int (nI cm)])), (we, .inl (cI, 256, .inl (fun j_ => nI (Wd j_)))), (re, .inl (cI, 256, .inl Rk))] rfl ?_
  exact L_13 _ 0 (Nat.lt_succ_self _) (Or.inr rfl)

theorem in_X1_howManyHave_1 : ∀ w ∈ wsX10, w ∈ wsX1_howManyHave := fun _ h => List.mem_cons_of_mem _ (List.mem_append_right _ h)
theorem ok_X1_howManyHave : gOK yX1_howManyHave wsX1_howManyHave ({ frames := 1, cells := 0, slots := 0, locals := 22 }) 5 2 := ⟨⟨_, _, _, rfl⟩, rfl, rfl, by decide, by decide, by decide +kernel⟩
set_option maxRecDepth 100000 in
set_option maxHeartbeats 4000000 in
theorem c_X1_howManyHave (l : Launch) (D : va_G) (cC cI cJ cO : ClassId) (e : Nat) (we : Nat) (re : Nat) (sz : Nat) (mi : Int32) (ne : Int32) (fr : Nat) (cm : Nat) (Wd : Nat → Nat) (Rk : Nat → Int32) (ar : Nat) (E : Nat → Int64) (t : Nat) (ht : t < 64) (hs : sz ≤ 256) (hW : ∀ j, j < sz → Wd j < 256) : CM (S := Int32) l D (tyL cC cI cJ cO) yX1_howManyHave wsX1_howManyHave ({ frames := 1, cells := 0, slots := 0, locals := 22 }) [.ref e, .ref ar, .int (nI t)] [(e, .inr (1, [.ref we, .ref re, .int (nI sz), .int mi, .int ne, .int (nI fr), .int (nI cm)])), (we, .inl (cI, 256, .inl (fun j_ => nI (Wd j_)))), (re, .inl (cI, 256, .inl Rk)), (ar, .inl (cJ, 256, .inr (.inl E)))] (fun r => some (.int r)) (fun r => r = nI (hmS E Wd t sz)) (fun u_ => [(e, .inr (1, [.ref we, .ref re, .int (nI sz), .int mi, .int ne, .int (nI fr), .int (nI cm)])), (we, .inl (cI, 256, .inl (fun j_ => nI (Wd j_)))), (re, .inl (cI, 256, .inl Rk)), (ar, .inl (cJ, 256, .inr (.inl E)))]) := by
  refine CM_in (cc := cX1_howManyHave) (maxL := 5) (ret := (some .int)) (by decide) rfl (Nat.le_of_ble_eq_true rfl) ?_
  intro X hX hret
  show GW X [(e, .inr (1, [.ref we, .ref re, .int (nI sz), .int mi, .int ne, .int (nI fr), .int (nI cm)])), (we, .inl (cI, 256, .inl (fun j_ => nI (Wd j_)))), (re, .inl (cI, 256, .inl Rk)), (ar, .inl (cJ, 256, .inr (.inl E)))] [(0, .ref e), (1, .ref ar), (2, .int (nI t))] [] 0 0 0
  refine g_iconst (v := nI 0) hX dX1_howManyHave_0 (by decide) ?_
  refine g_istore_n [(0, .ref e), (1, .ref ar), (2, .int (nI t)), (3, .int (nI 0))] [1, 2, 3, 0] (hd := dX1_howManyHave_1) (C := hX) rfl (by decide) rfl ?_
  refine g_iconst (v := nI 0) hX dX1_howManyHave_2 (by decide) ?_
  refine g_istore [(0, .ref e), (1, .ref ar), (2, .int (nI t)), (3, .int (nI 0)), (4, .int (nI 0))] [1, 2, 3, 4, 0] (hd := dX1_howManyHave_3) (C := hX) (by decide) rfl ?_
  have L_5 : ∀ (n_5 : Nat) (i : Nat), sz - i < n_5 → (i ≤ sz) → GW X [(e, .inr (1, [.ref we, .ref re, .int (nI sz), .int mi, .int ne, .int (nI fr), .int (nI cm)])), (we, .inl (cI, 256, .inl (fun j_ => nI (Wd j_)))), (re, .inl (cI, 256, .inl Rk)), (ar, .inl (cJ, 256, .inr (.inl E)))] [(0, .ref e), (1, .ref ar), (2, .int (nI t)), (3, .int (nI (hmS E Wd t i))), (4, .int (nI i))] [] 5 0 0 := by
    intro n_5
    induction n_5 with
    | zero => intro i hm_5; exact absurd hm_5 (Nat.not_lt_zero _)
    | succ n_5 ih_5 =>
      intro i hm_5 hi
      refine g_iload 4 (hd := dX1_howManyHave_5) (C := hX) rfl ?_
      refine g_aload_n 0 (hd := dX1_howManyHave_7) (C := hX) rfl rfl ?_
      refine g_get (hd := dX1_howManyHave_8) (C := hX) 0 2 rfl rfl in_X1_howManyHave_1 (by decide) (by decide +kernel) rfl ?_
      refine g_icmp_geN 36 (hd := dX1_howManyHave_11) (C := hX) (by decide) (by omega) (by omega) (fun c_11 => ?_) (fun c_11 => ?_)
      · refine g_iload_n 3 (hd := dX1_howManyHave_36) (C := hX) rfl rfl ?_
        exact (hret (nI (hmS E Wd t i)) _ _ (by rw [show i = sz from by omega])).2.1 _ rfl rfl dX1_howManyHave_37
      · refine g_iload_n 3 (hd := dX1_howManyHave_14) (C := hX) rfl rfl ?_
        refine g_aload_n 1 (hd := dX1_howManyHave_15) (C := hX) rfl rfl ?_
        refine g_aload_n 0 (hd := dX1_howManyHave_16) (C := hX) rfl rfl ?_
        refine g_get (hd := dX1_howManyHave_17) (C := hX) 0 0 rfl rfl in_X1_howManyHave_1 (by decide) (by decide +kernel) rfl ?_
        refine g_iload 4 (hd := dX1_howManyHave_20) (C := hX) rfl ?_
        refine g_iald (hd := dX1_howManyHave_22) (C := hX) 1 1 rfl rfl (by omega) (by decide) ?_
        refine g_lald (hd := dX1_howManyHave_23) (C := hX) 3 2 rfl rfl (hW i (by omega)) (by decide) ?_
        refine g_iload_n 2 (hd := dX1_howManyHave_24) (C := hX) rfl rfl ?_
        refine g_callSN (rest := [.int (nI (hmS E Wd t i))]) hX (c_X6_bit l D cC cI cJ cO (E (Wd i)) t (by omega)) ok_X6_bit (fun _ => rfl) (fun _ h => h.1) (by decide +kernel) (by decide +kernel) (hd := dX1_howManyHave_25) gX1_howManyHave_X6_bit_n55 ⟨by decide, by decide⟩ rfl (Nat.le_of_ble_eq_true rfl) ⟨Nat.zero_le _, Nat.zero_le _⟩ [] (by decide) rfl rfl ?_
        intro r_25 e_25
        subst e_25
        show GW X [(e, .inr (1, [.ref we, .ref re, .int (nI sz), .int mi, .int ne, .int (nI fr), .int (nI cm)])), (we, .inl (cI, 256, .inl (fun j_ => nI (Wd j_)))), (re, .inl (cI, 256, .inl Rk)), (ar, .inl (cJ, 256, .inr (.inl E)))] [(0, .ref e), (1, .ref ar), (2, .int (nI t)), (3, .int (nI (hmS E Wd t i))), (4, .int (nI i))] [.int (nI (tb (E (Wd i)) t)), .int (nI (hmS E Wd t i))] 28 0 0
        refine g_iadd hX dX1_howManyHave_28 ?_
        refine g_top (y := (nI ((hmS E Wd t i) + (tb (E (Wd i)) t)))) (nI_add _ _) ?_
        refine g_istore_n [(0, .ref e), (1, .ref ar), (2, .int (nI t)), (3, .int (nI ((hmS E Wd t i) + (tb (E (Wd i)) t)))), (4, .int (nI i))] [1, 2, 3, 0, 4] (hd := dX1_howManyHave_29) (C := hX) rfl (by decide) rfl ?_
        refine g_iinc (v := (nI (i + 1))) 4 [(0, .ref e), (1, .ref ar), (2, .int (nI t)), (3, .int (nI ((hmS E Wd t i) + (tb (E (Wd i)) t)))), (4, .int (nI (i + 1)))] [1, 2, 3, 4, 0] (hd := dX1_howManyHave_30) (C := hX) rfl (nI_1 _) (by decide) rfl ?_
        refine g_goto 5 (hd := dX1_howManyHave_33) (C := hX) (by decide) ?_
        refine g_lve [(0, .ref e), (1, .ref ar), (2, .int (nI t)), (3, .int (nI (hmS E Wd t (i + 1)))), (4, .int (nI (i + 1)))] rfl ?_
        exact ih_5 (i + 1) (by omega) (by omega)
  refine g_lve [(0, .ref e), (1, .ref ar), (2, .int (nI t)), (3, .int (nI (hmS E Wd t 0))), (4, .int (nI 0))] rfl ?_
  exact L_5 _ 0 (Nat.lt_succ_self _) (Nat.zero_le _)

theorem in_X1_lowestThatHas_1 : ∀ w ∈ wsX10, w ∈ wsX1_lowestThatHas := fun _ h => List.mem_cons_of_mem _ (List.mem_append_right _ h)
theorem ok_X1_lowestThatHas : gOK yX1_lowestThatHas wsX1_lowestThatHas ({ frames := 1, cells := 0, slots := 0, locals := 22 }) 4 2 := ⟨⟨_, _, _, rfl⟩, rfl, rfl, by decide, by decide, by decide +kernel⟩
set_option maxRecDepth 100000 in
set_option maxHeartbeats 4000000 in
theorem c_X1_lowestThatHas (l : Launch) (D : va_G) (cC cI cJ cO : ClassId) (e : Nat) (we : Nat) (re : Nat) (sz : Nat) (mi : Int32) (ne : Int32) (fr : Nat) (cm : Nat) (Wd : Nat → Nat) (Rk : Nat → Int32) (ar : Nat) (E : Nat → Int64) (t : Nat) (ht : t < 64) (hs : sz ≤ 256) (hW : ∀ j, j < sz → Wd j < 256) : CM (S := Int32) l D (tyL cC cI cJ cO) yX1_lowestThatHas wsX1_lowestThatHas ({ frames := 1, cells := 0, slots := 0, locals := 22 }) [.ref e, .ref ar, .int (nI t)] [(e, .inr (1, [.ref we, .ref re, .int (nI sz), .int mi, .int ne, .int (nI fr), .int (nI cm)])), (we, .inl (cI, 256, .inl (fun j_ => nI (Wd j_)))), (re, .inl (cI, 256, .inl Rk)), (ar, .inl (cJ, 256, .inr (.inl E)))] (fun r => some (.int r)) (fun r => (∃ i, i < sz ∧ tb (E (Wd i)) t = 1 ∧ (∀ j, j < i → tb (E (Wd j)) t = 0) ∧ r = nI (Wd i)) ∨ ((∀ i, i < sz → tb (E (Wd i)) t = 0) ∧ r = (-4))) (fun u_ => [(e, .inr (1, [.ref we, .ref re, .int (nI sz), .int mi, .int ne, .int (nI fr), .int (nI cm)])), (we, .inl (cI, 256, .inl (fun j_ => nI (Wd j_)))), (re, .inl (cI, 256, .inl Rk)), (ar, .inl (cJ, 256, .inr (.inl E)))]) := by
  refine CM_in (cc := cX1_lowestThatHas) (maxL := 4) (ret := (some .int)) (by decide) rfl (Nat.le_of_ble_eq_true rfl) ?_
  intro X hX hret
  show GW X [(e, .inr (1, [.ref we, .ref re, .int (nI sz), .int mi, .int ne, .int (nI fr), .int (nI cm)])), (we, .inl (cI, 256, .inl (fun j_ => nI (Wd j_)))), (re, .inl (cI, 256, .inl Rk)), (ar, .inl (cJ, 256, .inr (.inl E)))] [(0, .ref e), (1, .ref ar), (2, .int (nI t))] [] 0 0 0
  refine g_iconst (v := nI 0) hX dX1_lowestThatHas_0 (by decide) ?_
  refine g_istore_n [(0, .ref e), (1, .ref ar), (2, .int (nI t)), (3, .int (nI 0))] [1, 2, 3, 0] (hd := dX1_lowestThatHas_1) (C := hX) rfl (by decide) rfl ?_
  have L_2 : ∀ (n_2 : Nat) (i : Nat), sz - i < n_2 → (i ≤ sz) → (∀ j, j < i → tb (E (Wd j)) t = 0) → GW X [(e, .inr (1, [.ref we, .ref re, .int (nI sz), .int mi, .int ne, .int (nI fr), .int (nI cm)])), (we, .inl (cI, 256, .inl (fun j_ => nI (Wd j_)))), (re, .inl (cI, 256, .inl Rk)), (ar, .inl (cJ, 256, .inr (.inl E)))] [(0, .ref e), (1, .ref ar), (2, .int (nI t)), (3, .int (nI i))] [] 2 0 0 := by
    intro n_2
    induction n_2 with
    | zero => intro i hm_2; exact absurd hm_2 (Nat.not_lt_zero _)
    | succ n_2 ih_2 =>
      intro i hm_2 hi hno
      refine g_iload_n 3 (hd := dX1_lowestThatHas_2) (C := hX) rfl rfl ?_
      refine g_aload_n 0 (hd := dX1_lowestThatHas_3) (C := hX) rfl rfl ?_
      refine g_get (hd := dX1_lowestThatHas_4) (C := hX) 0 2 rfl rfl in_X1_lowestThatHas_1 (by decide) (by decide +kernel) rfl ?_
      refine g_icmp_geN 39 (hd := dX1_lowestThatHas_7) (C := hX) (by decide) (by omega) (by omega) (fun c_7 => ?_) (fun c_7 => ?_)
      · refine g_bipush (v := (-4)) hX dX1_lowestThatHas_39 (by decide) ?_
        exact (hret (-4) _ _ (Or.inr ⟨fun j hj => hno j (by omega), rfl⟩)).2.1 _ rfl rfl dX1_lowestThatHas_41
      · refine g_aload_n 1 (hd := dX1_lowestThatHas_10) (C := hX) rfl rfl ?_
        refine g_aload_n 0 (hd := dX1_lowestThatHas_11) (C := hX) rfl rfl ?_
        refine g_get (hd := dX1_lowestThatHas_12) (C := hX) 0 0 rfl rfl in_X1_lowestThatHas_1 (by decide) (by decide +kernel) rfl ?_
        refine g_iload_n 3 (hd := dX1_lowestThatHas_15) (C := hX) rfl rfl ?_
        refine g_iald (hd := dX1_lowestThatHas_16) (C := hX) 1 1 rfl rfl (by omega) (by decide) ?_
        refine g_lald (hd := dX1_lowestThatHas_17) (C := hX) 3 2 rfl rfl (hW i (by omega)) (by decide) ?_
        refine g_iload_n 2 (hd := dX1_lowestThatHas_18) (C := hX) rfl rfl ?_
        refine g_callSN (rest := []) hX (c_X6_bit l D cC cI cJ cO (E (Wd i)) t (by omega)) ok_X6_bit (fun _ => rfl) (fun _ h => h.1) (by decide +kernel) (by decide +kernel) (hd := dX1_lowestThatHas_19) gX1_lowestThatHas_X6_bit_n55 ⟨by decide, by decide⟩ rfl (Nat.le_of_ble_eq_true rfl) ⟨Nat.zero_le _, Nat.zero_le _⟩ [] (by decide) rfl rfl ?_
        intro r_19 e_19
        subst e_19
        show GW X [(e, .inr (1, [.ref we, .ref re, .int (nI sz), .int mi, .int ne, .int (nI fr), .int (nI cm)])), (we, .inl (cI, 256, .inl (fun j_ => nI (Wd j_)))), (re, .inl (cI, 256, .inl Rk)), (ar, .inl (cJ, 256, .inr (.inl E)))] [(0, .ref e), (1, .ref ar), (2, .int (nI t)), (3, .int (nI i))] [.int (nI (tb (E (Wd i)) t))] 22 0 0
        have q9 := tb_lt (E (Wd i)) t
        refine g_iconst (v := nI 1) hX dX1_lowestThatHas_22 (by decide) ?_
        refine g_icmp_neN 33 (hd := dX1_lowestThatHas_23) (C := hX) (by decide) (by omega) (by omega) (fun c_23 => ?_) (fun c_23 => ?_)
        · refine g_iinc (v := (nI (i + 1))) 3 [(0, .ref e), (1, .ref ar), (2, .int (nI t)), (3, .int (nI (i + 1)))] [1, 2, 3, 0] (hd := dX1_lowestThatHas_33) (C := hX) rfl (nI_1 _) (by decide) rfl ?_
          refine g_goto 2 (hd := dX1_lowestThatHas_36) (C := hX) (by decide) ?_
          exact ih_2 (i + 1) (by omega) (by omega) (fun j hj => by rcases Nat.lt_or_ge j i with q | q; exact hno j q; rw [show j = i from by omega]; omega)
        · refine g_aload_n 0 (hd := dX1_lowestThatHas_26) (C := hX) rfl rfl ?_
          refine g_get (hd := dX1_lowestThatHas_27) (C := hX) 0 0 rfl rfl in_X1_lowestThatHas_1 (by decide) (by decide +kernel) rfl ?_
          refine g_iload_n 3 (hd := dX1_lowestThatHas_30) (C := hX) rfl rfl ?_
          refine g_iald (hd := dX1_lowestThatHas_31) (C := hX) 1 1 rfl rfl (by omega) (by decide) ?_
          exact (hret (nI (Wd i)) _ _ (Or.inl ⟨i, c_7, c_23, hno, rfl⟩)).2.1 _ rfl rfl dX1_lowestThatHas_32
  exact L_2 _ 0 (Nat.lt_succ_self _) (Nat.zero_le _) (fun j h => absurd h (Nat.not_lt_zero j))

theorem ok_X6_lowestBit : gOK yX6_lowestBit wsX6_lowestBit ({ frames := 1, cells := 0, slots := 0, locals := 22 }) 3 1 := ⟨⟨_, _, _, rfl⟩, rfl, rfl, by decide, by decide, by decide +kernel⟩
set_option maxRecDepth 100000 in
set_option maxHeartbeats 4000000 in
theorem c_X6_lowestBit (l : Launch) (D : va_G) (cC cI cJ cO : ClassId) (x : Int64) : CM (S := Int32) l D (tyL cC cI cJ cO) yX6_lowestBit wsX6_lowestBit ({ frames := 1, cells := 0, slots := 0, locals := 22 }) [.long x] [] (fun r => some (.int r)) (fun r => (∃ i, i < 64 ∧ tb x i = 1 ∧ (∀ j, j < i → tb x j = 0) ∧ r = nI i) ∨ ((∀ i, i < 64 → tb x i = 0) ∧ r = (-4))) (fun u_ => []) := by
  refine CM_in (cc := cX6_lowestBit) (maxL := 3) (ret := (some .int)) (by decide) rfl (Nat.le_of_ble_eq_true rfl) ?_
  intro X hX hret
  show GW X [] [(0, .long x)] [] 0 0 0
  refine g_iconst (v := nI 0) hX dX6_lowestBit_0 (by decide) ?_
  refine g_istore_n [(0, .long x), (2, .int (nI 0))] [1, 0] (hd := dX6_lowestBit_1) (C := hX) rfl (by decide) rfl ?_
  have L_2 : ∀ (n_2 : Nat) (i : Nat), 64 - i < n_2 → (i ≤ 64) → (∀ j, j < i → tb x j = 0) → GW X [] [(0, .long x), (2, .int (nI i))] [] 2 0 0 := by
    intro n_2
    induction n_2 with
    | zero => intro i hm_2; exact absurd hm_2 (Nat.not_lt_zero _)
    | succ n_2 ih_2 =>
      intro i hm_2 hi hno
      refine g_iload_n 1 (hd := dX6_lowestBit_2) (C := hX) rfl rfl ?_
      refine g_bipush (v := nI 64) hX dX6_lowestBit_3 (by decide) ?_
      refine g_icmp_geN 25 (hd := dX6_lowestBit_5) (C := hX) (by decide) (by omega) (by omega) (fun c_5 => ?_) (fun c_5 => ?_)
      · refine g_bipush (v := (-4)) hX dX6_lowestBit_25 (by decide) ?_
        exact (hret (-4) _ _ (Or.inr ⟨fun j hj => hno j (by omega), rfl⟩)).2.1 _ rfl rfl dX6_lowestBit_27
      · refine g_lload_n 0 (hd := dX6_lowestBit_8) (C := hX) rfl rfl ?_
        refine g_iload_n 1 (hd := dX6_lowestBit_9) (C := hX) rfl rfl ?_
        refine g_callS (rest := []) hX (c_X6_bit l D cC cI cJ cO x i (by omega)) ok_X6_bit (fun _ => rfl) (hd := dX6_lowestBit_10) gX6_lowestBit_X6_bit ⟨by decide, by decide⟩ rfl (Nat.le_of_ble_eq_true rfl) ⟨Nat.zero_le _, Nat.zero_le _⟩ [] (by decide) rfl rfl ?_
        intro r_10 e_10
        subst e_10
        show GW X [] [(0, .long x), (2, .int (nI i))] [.int (nI (tb x i))] 13 0 0
        have q9 := tb_lt x i
        refine g_iconst (v := nI 1) hX dX6_lowestBit_13 (by decide) ?_
        refine g_icmp_neN 19 (hd := dX6_lowestBit_14) (C := hX) (by decide) (by omega) (by omega) (fun c_14 => ?_) (fun c_14 => ?_)
        · refine g_iinc (v := (nI (i + 1))) 1 [(0, .long x), (2, .int (nI (i + 1)))] [1, 0] (hd := dX6_lowestBit_19) (C := hX) rfl (nI_1 _) (by decide) rfl ?_
          refine g_goto 2 (hd := dX6_lowestBit_22) (C := hX) (by decide) ?_
          exact ih_2 (i + 1) (by omega) (by omega) (fun j hj => by rcases Nat.lt_or_ge j i with q | q; exact hno j q; rw [show j = i from by omega]; omega)
        · refine g_iload_n 1 (hd := dX6_lowestBit_17) (C := hX) rfl rfl ?_
          exact (hret (nI i) _ _ (Or.inl ⟨i, c_5, c_14, hno, rfl⟩)).2.1 _ rfl rfl dX6_lowestBit_18
  exact L_2 _ 0 (Nat.lt_succ_self _) (Nat.zero_le _) (fun j h => absurd h (Nat.not_lt_zero j))
