/-! the tests -/
theorem lg0 {x : Int64} (h : lg_cmp x 0 = 0) : x = 0 := by
  unfold lg_cmp at h
  repeat' split at h
  all_goals first | assumption | (exact absurd h (by decide))
theorem lg0n {x : Int64} (h : ¬ lg_cmp x 0 = 0) : ¬ x = 0 := fun z => h (by rw [z]; decide)
theorem pcL_le (x : Int64) : pcL x ≤ 64 := fb_ct_le _ 64
/-- the word that exposes most of what is open, and how much -/
def wmS (E : Nat → Int64) (Wd : Nat → Nat) (op : Int64) : Nat → Nat × Nat
  | 0 => (0, 0)
  | i + 1 => if (wmS E Wd op i).2 < pcL (E (Wd i) &&& op) then (Wd i, pcL (E (Wd i) &&& op)) else wmS E Wd op i
theorem wmS_lt {E : Nat → Int64} {Wd : Nat → Nat} {op : Int64} {sz : Nat} (h : ∀ j, j < sz → Wd j < 256) : ∀ i, i ≤ sz → (wmS E Wd op i).1 < 256 ∧ (wmS E Wd op i).2 ≤ 64
  | 0, _ => ⟨by simp [wmS], by simp [wmS]⟩
  | i + 1, hi => by
    simp only [wmS]
    split
    · exact ⟨h i (by omega), pcL_le _⟩
    · exact wmS_lt h i (by omega)
def opS (E : Nat → Int64) (Wd : Nat → Nat) (sz : Nat) (e : Int64) : Nat → Int64
  | 0 => e
  | i + 1 => opS E Wd sz e i &&& (E (wmS E Wd (opS E Wd sz e i) sz).1 ^^^ (-1))
def teS (E : Nat → Int64) (Wd : Nat → Nat) (sz : Nat) (e : Int64) (T : Nat → Nat) : Nat → Nat → Nat
  | 0 => T
  | i + 1 => nup (teS E Wd sz e T i) i (wmS E Wd (opS E Wd sz e i) sz).1

theorem ok_J13_bitCount_95d88 : gOK yJ13_bitCount_95d88 wsJ13_bitCount_95d88 ({ frames := 0, cells := 0, slots := 0, locals := 0 }) 2 1 := ⟨⟨_, _, _, rfl⟩, rfl, rfl, by decide, by decide, by decide +kernel⟩
set_option maxRecDepth 100000 in
set_option maxHeartbeats 4000000 in
theorem c_J13_bitCount_95d88 (l : Launch) (D : va_G) (cC cI cJ cO : ClassId) (x : Int64) : CM (S := Int32) l D (tyL cC cI cJ cO) yJ13_bitCount_95d88 wsJ13_bitCount_95d88 ({ frames := 0, cells := 0, slots := 0, locals := 0 }) [.long x] [] (fun r => some (.int r)) (fun r => r = nI (pcL x)) (fun u_ => []) := by
  refine CM_in (cc := cJ13_bitCount_95d88) (maxL := 2) (ret := (some .int)) (by decide) rfl (Nat.le_of_ble_eq_true rfl) ?_
  intro X hX hret
  show GW X [] [(0, .long x)] [] 0 0 0
  refine g_lload_n 0 (hd := dJ13_bitCount_95d88_0) (C := hX) rfl rfl ?_
  refine g_lload_n 0 (hd := dJ13_bitCount_95d88_1) (C := hX) rfl rfl ?_
  refine g_iconst (v := nI 1) hX dJ13_bitCount_95d88_2 (by decide) ?_
  refine g_lushr (v := ((x.toUInt64 >>> ((nI 1).toInt64.toUInt64 &&& Int64.toUInt64 63)).toInt64)) hX dJ13_bitCount_95d88_3 rfl ?_
  refine g_ldc2 (v := 6148914691236517205) hX dJ13_bitCount_95d88_4 (by decide +kernel) ?_
  refine g_land hX dJ13_bitCount_95d88_7 ?_
  refine g_lsub hX dJ13_bitCount_95d88_8 ?_
  obtain ⟨i1, e_i1⟩ : ∃ y_ : Int64, y_ = (x - (((x.toUInt64 >>> ((nI 1).toInt64.toUInt64 &&& Int64.toUInt64 63)).toInt64) &&& (6148914691236517205 : Int64))) := ⟨_, rfl⟩
  refine g_topl (y := i1) e_i1.symm ?_
  refine g_lstore_n [(0, .long i1)] [0] (hd := dJ13_bitCount_95d88_9) (C := hX) rfl (by decide) rfl ?_
  refine g_lload_n 0 (hd := dJ13_bitCount_95d88_10) (C := hX) rfl rfl ?_
  refine g_ldc2 (v := 3689348814741910323) hX dJ13_bitCount_95d88_11 (by decide +kernel) ?_
  refine g_land hX dJ13_bitCount_95d88_14 ?_
  refine g_lload_n 0 (hd := dJ13_bitCount_95d88_15) (C := hX) rfl rfl ?_
  refine g_iconst (v := nI 2) hX dJ13_bitCount_95d88_16 (by decide) ?_
  refine g_lushr (v := ((i1.toUInt64 >>> ((nI 2).toInt64.toUInt64 &&& Int64.toUInt64 63)).toInt64)) hX dJ13_bitCount_95d88_17 rfl ?_
  refine g_ldc2 (v := 3689348814741910323) hX dJ13_bitCount_95d88_18 (by decide +kernel) ?_
  refine g_land hX dJ13_bitCount_95d88_21 ?_
  refine g_ladd hX dJ13_bitCount_95d88_22 ?_
  obtain ⟨i2, e_i2⟩ : ∃ y_ : Int64, y_ = ((i1 &&& (3689348814741910323 : Int64)) + (((i1.toUInt64 >>> ((nI 2).toInt64.toUInt64 &&& Int64.toUInt64 63)).toInt64) &&& (3689348814741910323 : Int64))) := ⟨_, rfl⟩
  refine g_topl (y := i2) e_i2.symm ?_
  refine g_lstore_n [(0, .long i2)] [0] (hd := dJ13_bitCount_95d88_23) (C := hX) rfl (by decide) rfl ?_
  refine g_lload_n 0 (hd := dJ13_bitCount_95d88_24) (C := hX) rfl rfl ?_
  refine g_lload_n 0 (hd := dJ13_bitCount_95d88_25) (C := hX) rfl rfl ?_
  refine g_iconst (v := nI 4) hX dJ13_bitCount_95d88_26 (by decide) ?_
  refine g_lushr (v := ((i2.toUInt64 >>> ((nI 4).toInt64.toUInt64 &&& Int64.toUInt64 63)).toInt64)) hX dJ13_bitCount_95d88_27 rfl ?_
  refine g_ladd hX dJ13_bitCount_95d88_28 ?_
  refine g_ldc2 (v := 1085102592571150095) hX dJ13_bitCount_95d88_29 (by decide +kernel) ?_
  refine g_land hX dJ13_bitCount_95d88_32 ?_
  obtain ⟨i3, e_i3⟩ : ∃ y_ : Int64, y_ = ((i2 + ((i2.toUInt64 >>> ((nI 4).toInt64.toUInt64 &&& Int64.toUInt64 63)).toInt64)) &&& (1085102592571150095 : Int64)) := ⟨_, rfl⟩
  refine g_topl (y := i3) e_i3.symm ?_
  refine g_lstore_n [(0, .long i3)] [0] (hd := dJ13_bitCount_95d88_33) (C := hX) rfl (by decide) rfl ?_
  refine g_lload_n 0 (hd := dJ13_bitCount_95d88_34) (C := hX) rfl rfl ?_
  refine g_lload_n 0 (hd := dJ13_bitCount_95d88_35) (C := hX) rfl rfl ?_
  refine g_bipush (v := nI 8) hX dJ13_bitCount_95d88_36 (by decide) ?_
  refine g_lushr (v := ((i3.toUInt64 >>> ((nI 8).toInt64.toUInt64 &&& Int64.toUInt64 63)).toInt64)) hX dJ13_bitCount_95d88_38 rfl ?_
  refine g_ladd hX dJ13_bitCount_95d88_39 ?_
  obtain ⟨i4, e_i4⟩ : ∃ y_ : Int64, y_ = (i3 + ((i3.toUInt64 >>> ((nI 8).toInt64.toUInt64 &&& Int64.toUInt64 63)).toInt64)) := ⟨_, rfl⟩
  refine g_topl (y := i4) e_i4.symm ?_
  refine g_lstore_n [(0, .long i4)] [0] (hd := dJ13_bitCount_95d88_40) (C := hX) rfl (by decide) rfl ?_
  refine g_lload_n 0 (hd := dJ13_bitCount_95d88_41) (C := hX) rfl rfl ?_
  refine g_lload_n 0 (hd := dJ13_bitCount_95d88_42) (C := hX) rfl rfl ?_
  refine g_bipush (v := nI 16) hX dJ13_bitCount_95d88_43 (by decide) ?_
  refine g_lushr (v := ((i4.toUInt64 >>> ((nI 16).toInt64.toUInt64 &&& Int64.toUInt64 63)).toInt64)) hX dJ13_bitCount_95d88_45 rfl ?_
  refine g_ladd hX dJ13_bitCount_95d88_46 ?_
  obtain ⟨i5, e_i5⟩ : ∃ y_ : Int64, y_ = (i4 + ((i4.toUInt64 >>> ((nI 16).toInt64.toUInt64 &&& Int64.toUInt64 63)).toInt64)) := ⟨_, rfl⟩
  refine g_topl (y := i5) e_i5.symm ?_
  refine g_lstore_n [(0, .long i5)] [0] (hd := dJ13_bitCount_95d88_47) (C := hX) rfl (by decide) rfl ?_
  refine g_lload_n 0 (hd := dJ13_bitCount_95d88_48) (C := hX) rfl rfl ?_
  refine g_lload_n 0 (hd := dJ13_bitCount_95d88_49) (C := hX) rfl rfl ?_
  refine g_bipush (v := nI 32) hX dJ13_bitCount_95d88_50 (by decide) ?_
  refine g_lushr (v := ((i5.toUInt64 >>> ((nI 32).toInt64.toUInt64 &&& Int64.toUInt64 63)).toInt64)) hX dJ13_bitCount_95d88_52 rfl ?_
  refine g_ladd hX dJ13_bitCount_95d88_53 ?_
  obtain ⟨i6, e_i6⟩ : ∃ y_ : Int64, y_ = (i5 + ((i5.toUInt64 >>> ((nI 32).toInt64.toUInt64 &&& Int64.toUInt64 63)).toInt64)) := ⟨_, rfl⟩
  refine g_topl (y := i6) e_i6.symm ?_
  refine g_lstore_n [(0, .long i6)] [0] (hd := dJ13_bitCount_95d88_54) (C := hX) rfl (by decide) rfl ?_
  refine g_lload_n 0 (hd := dJ13_bitCount_95d88_55) (C := hX) rfl rfl ?_
  refine g_l2i (v := i6.toInt32) hX dJ13_bitCount_95d88_56 rfl ?_
  refine g_bipush (v := nI 127) hX dJ13_bitCount_95d88_57 (by decide) ?_
  refine g_iand hX dJ13_bitCount_95d88_59 ?_
  exact (hret (i6.toInt32 &&& (nI 127)) _ _ (by subst e_i6 e_i5 e_i4 e_i3 e_i2 e_i1; exact sw64_ok x)).2.1 _ rfl rfl dJ13_bitCount_95d88_60

theorem in_X4_wordThatExposesMost_1 : ∀ w ∈ wsX10, w ∈ wsX4_wordThatExposesMost := fun _ h => List.mem_cons_of_mem _ (List.mem_append_left _ (List.mem_append_right _ h))
theorem in_X4_wordThatExposesMost_4 : ∀ w ∈ wsX40, w ∈ wsX4_wordThatExposesMost := fun _ h => List.mem_cons_of_mem _ (List.mem_append_right _ h)
theorem ok_X4_wordThatExposesMost : gOK yX4_wordThatExposesMost wsX4_wordThatExposesMost ({ frames := 1, cells := 0, slots := 0, locals := 21 }) 9 2 := ⟨⟨_, _, _, rfl⟩, rfl, rfl, by decide, by decide, by decide +kernel⟩
set_option maxRecDepth 100000 in
set_option maxHeartbeats 4000000 in
theorem c_X4_wordThatExposesMost (l : Launch) (D : va_G) (cC cI cJ cO : ClassId) (v : Nat) (ou : Nat) (ex : Nat) (pa : Nat) (te : Nat) (tc : Nat) (vw : Nat) (al : Int64) (eE : Int64) (eP : Int64) (eC : Int64) (dj : Nat) (tch : Nat) (sf : Nat) (O : Nat → Nat) (EX : Nat → Int64) (PA : Nat → Int64) (TE : Nat → Nat) (e : Nat) (we : Nat) (re : Nat) (sz : Nat) (mi : Int32) (ne : Int32) (fr : Nat) (cm : Nat) (Wd : Nat → Nat) (Rk : Nat → Int32) (op : Int64) (hs : sz ≤ 256) (hW : ∀ j, j < sz → Wd j < 256) : CM (S := Int32) l D (tyL cC cI cJ cO) yX4_wordThatExposesMost wsX4_wordThatExposesMost ({ frames := 1, cells := 0, slots := 0, locals := 21 }) [.ref v, .ref e, .long op] [(v, .inr (4, [.ref ou, .ref ex, .ref pa, .ref te, .int (nI tc), .int (nI vw), .long al, .long eE, .long eP, .long eC, .int (nI dj), .int (nI tch), .int (nI sf)])), (ou, .inl (cI, 256, .inl (fun j_ => nI (O j_)))), (ex, .inl (cJ, 256, .inr (.inl EX))), (pa, .inl (cJ, 256, .inr (.inl PA))), (te, .inl (cI, 64, .inl (fun j_ => nI (TE j_)))), (e, .inr (1, [.ref we, .ref re, .int (nI sz), .int mi, .int ne, .int (nI fr), .int (nI cm)])), (we, .inl (cI, 256, .inl (fun j_ => nI (Wd j_)))), (re, .inl (cI, 256, .inl Rk))] (fun r => some (.int r)) (fun r => r = nI (wmS EX Wd op sz).1) (fun u_ => [(v, .inr (4, [.ref ou, .ref ex, .ref pa, .ref te, .int (nI tc), .int (nI vw), .long al, .long eE, .long eP, .long eC, .int (nI dj), .int (nI tch), .int (nI sf)])), (ou, .inl (cI, 256, .inl (fun j_ => nI (O j_)))), (ex, .inl (cJ, 256, .inr (.inl EX))), (pa, .inl (cJ, 256, .inr (.inl PA))), (te, .inl (cI, 64, .inl (fun j_ => nI (TE j_)))), (e, .inr (1, [.ref we, .ref re, .int (nI sz), .int mi, .int ne, .int (nI fr), .int (nI cm)])), (we, .inl (cI, 256, .inl (fun j_ => nI (Wd j_)))), (re, .inl (cI, 256, .inl Rk))]) := by
  refine CM_in (cc := cX4_wordThatExposesMost) (maxL := 9) (ret := (some .int)) (by decide) rfl (Nat.le_of_ble_eq_true rfl) ?_
  intro X hX hret
  show GW X [(v, .inr (4, [.ref ou, .ref ex, .ref pa, .ref te, .int (nI tc), .int (nI vw), .long al, .long eE, .long eP, .long eC, .int (nI dj), .int (nI tch), .int (nI sf)])), (ou, .inl (cI, 256, .inl (fun j_ => nI (O j_)))), (ex, .inl (cJ, 256, .inr (.inl EX))), (pa, .inl (cJ, 256, .inr (.inl PA))), (te, .inl (cI, 64, .inl (fun j_ => nI (TE j_)))), (e, .inr (1, [.ref we, .ref re, .int (nI sz), .int mi, .int ne, .int (nI fr), .int (nI cm)])), (we, .inl (cI, 256, .inl (fun j_ => nI (Wd j_)))), (re, .inl (cI, 256, .inl Rk))] [(0, .ref v), (1, .ref e), (2, .long op)] [] 0 0 0
  refine g_iconst (v := nI 0) hX dX4_wordThatExposesMost_0 (by decide) ?_
  refine g_istore [(0, .ref v), (1, .ref e), (2, .long op), (4, .int (nI 0))] [1, 2, 3, 0] (hd := dX4_wordThatExposesMost_1) (C := hX) (by decide) rfl ?_
  refine g_iconst (v := nI 0) hX dX4_wordThatExposesMost_3 (by decide) ?_
  refine g_istore [(0, .ref v), (1, .ref e), (2, .long op), (4, .int (nI 0)), (5, .int (nI 0))] [1, 2, 3, 4, 0] (hd := dX4_wordThatExposesMost_4) (C := hX) (by decide) rfl ?_
  refine g_iconst (v := nI 0) hX dX4_wordThatExposesMost_6 (by decide) ?_
  refine g_istore [(0, .ref v), (1, .ref e), (2, .long op), (4, .int (nI 0)), (5, .int (nI 0)), (6, .int (nI 0))] [1, 2, 3, 4, 5, 0] (hd := dX4_wordThatExposesMost_7) (C := hX) (by decide) rfl ?_
  have L_9 : ∀ (n_9 : Nat) (i : Nat), sz - i < n_9 → (i ≤ sz) → GW X [(v, .inr (4, [.ref ou, .ref ex, .ref pa, .ref te, .int (nI tc), .int (nI vw), .long al, .long eE, .long eP, .long eC, .int (nI dj), .int (nI tch), .int (nI sf)])), (ou, .inl (cI, 256, .inl (fun j_ => nI (O j_)))), (ex, .inl (cJ, 256, .inr (.inl EX))), (pa, .inl (cJ, 256, .inr (.inl PA))), (te, .inl (cI, 64, .inl (fun j_ => nI (TE j_)))), (e, .inr (1, [.ref we, .ref re, .int (nI sz), .int mi, .int ne, .int (nI fr), .int (nI cm)])), (we, .inl (cI, 256, .inl (fun j_ => nI (Wd j_)))), (re, .inl (cI, 256, .inl Rk))] [(0, .ref v), (1, .ref e), (2, .long op), (4, .int (nI ((wmS EX Wd op i).1))), (5, .int (nI ((wmS EX Wd op i).2))), (6, .int (nI i))] [] 9 0 0 := by
    intro n_9
    induction n_9 with
    | zero => intro i hm_9; exact absurd hm_9 (Nat.not_lt_zero _)
    | succ n_9 ih_9 =>
      intro i hm_9 hi
      refine g_iload 5 (hd := dX4_wordThatExposesMost_9) (C := hX) rfl ?_
      refine g_aload_n 1 (hd := dX4_wordThatExposesMost_11) (C := hX) rfl rfl ?_
      refine g_get (hd := dX4_wordThatExposesMost_12) (C := hX) 5 2 rfl rfl in_X4_wordThatExposesMost_1 (by decide) (by decide +kernel) rfl ?_
      refine g_icmp_geN 62 (hd := dX4_wordThatExposesMost_15) (C := hX) (by decide) (by omega) (by omega) (fun c_15 => ?_) (fun c_15 => ?_)
      · refine g_iload 3 (hd := dX4_wordThatExposesMost_62) (C := hX) rfl ?_
        exact (hret (nI ((wmS EX Wd op i).1)) _ _ (by rw [show i = sz from by omega])).2.1 _ rfl rfl dX4_wordThatExposesMost_64
      · refine g_aload_n 1 (hd := dX4_wordThatExposesMost_18) (C := hX) rfl rfl ?_
        refine g_get (hd := dX4_wordThatExposesMost_19) (C := hX) 5 0 rfl rfl in_X4_wordThatExposesMost_1 (by decide) (by decide +kernel) rfl ?_
        refine g_iload 5 (hd := dX4_wordThatExposesMost_22) (C := hX) rfl ?_
        refine g_iald (hd := dX4_wordThatExposesMost_24) (C := hX) 6 1 rfl rfl (by omega) (by decide) ?_
        refine g_istore [(0, .ref v), (1, .ref e), (2, .long op), (4, .int (nI ((wmS EX Wd op i).1))), (5, .int (nI ((wmS EX Wd op i).2))), (6, .int (nI i)), (7, .int (nI (Wd i)))] [1, 2, 3, 4, 5, 6, 0] (hd := dX4_wordThatExposesMost_25) (C := hX) (by decide) rfl ?_
        refine g_aload_n 0 (hd := dX4_wordThatExposesMost_27) (C := hX) rfl rfl ?_
        refine g_get (hd := dX4_wordThatExposesMost_28) (C := hX) 0 1 rfl rfl in_X4_wordThatExposesMost_4 (by decide) (by decide +kernel) rfl ?_
        refine g_iload 6 (hd := dX4_wordThatExposesMost_31) (C := hX) rfl ?_
        refine g_lald (hd := dX4_wordThatExposesMost_33) (C := hX) 2 2 rfl rfl (hW i (by omega)) (by decide) ?_
        refine g_lload_n 2 (hd := dX4_wordThatExposesMost_34) (C := hX) rfl rfl ?_
        refine g_land hX dX4_wordThatExposesMost_35 ?_
        refine g_callS (rest := []) hX (c_J13_bitCount_95d88 l D cC cI cJ cO ((EX (Wd i)) &&& op)) ok_J13_bitCount_95d88 (fun _ => rfl) (hd := dX4_wordThatExposesMost_36) gX4_wordThatExposesMost_J13_bitCount_95d88 ⟨by decide, by decide⟩ rfl (Nat.le_of_ble_eq_true rfl) ⟨Nat.zero_le _, Nat.zero_le _⟩ [] (by decide) rfl rfl ?_
        intro r_36 e_36
        subst e_36
        show GW X [(v, .inr (4, [.ref ou, .ref ex, .ref pa, .ref te, .int (nI tc), .int (nI vw), .long al, .long eE, .long eP, .long eC, .int (nI dj), .int (nI tch), .int (nI sf)])), (ou, .inl (cI, 256, .inl (fun j_ => nI (O j_)))), (ex, .inl (cJ, 256, .inr (.inl EX))), (pa, .inl (cJ, 256, .inr (.inl PA))), (te, .inl (cI, 64, .inl (fun j_ => nI (TE j_)))), (e, .inr (1, [.ref we, .ref re, .int (nI sz), .int mi, .int ne, .int (nI fr), .int (nI cm)])), (we, .inl (cI, 256, .inl (fun j_ => nI (Wd j_)))), (re, .inl (cI, 256, .inl Rk))] [(0, .ref v), (1, .ref e), (2, .long op), (4, .int (nI ((wmS EX Wd op i).1))), (5, .int (nI ((wmS EX Wd op i).2))), (6, .int (nI i)), (7, .int (nI (Wd i)))] [.int (nI (pcL ((EX (Wd i)) &&& op)))] 39 0 0
        refine g_istore [(0, .ref v), (1, .ref e), (2, .long op), (4, .int (nI ((wmS EX Wd op i).1))), (5, .int (nI ((wmS EX Wd op i).2))), (6, .int (nI i)), (7, .int (nI (Wd i))), (8, .int (nI (pcL ((EX (Wd i)) &&& op))))] [1, 2, 3, 4, 5, 6, 7, 0] (hd := dX4_wordThatExposesMost_39) (C := hX) (by decide) rfl ?_
        have q1 := pcL_le ((EX (Wd i)) &&& op)
        have q2 := wmS_lt (E := EX) (op := op) hW i hi
        refine g_iload 7 (hd := dX4_wordThatExposesMost_41) (C := hX) rfl ?_
        refine g_iload 4 (hd := dX4_wordThatExposesMost_43) (C := hX) rfl ?_
        refine g_icmp_leN 56 (hd := dX4_wordThatExposesMost_45) (C := hX) (by decide) (by omega) (by omega) (fun c_45 => ?_) (fun c_45 => ?_)
        · refine g_iinc (v := (nI (i + 1))) 5 [(0, .ref v), (1, .ref e), (2, .long op), (4, .int (nI ((wmS EX Wd op i).1))), (5, .int (nI ((wmS EX Wd op i).2))), (6, .int (nI (i + 1))), (7, .int (nI (Wd i))), (8, .int (nI (pcL ((EX (Wd i)) &&& op))))] [1, 2, 3, 4, 5, 0, 6, 7] (hd := dX4_wordThatExposesMost_56) (C := hX) rfl (nI_1 _) (by decide) rfl ?_
          refine g_goto 9 (hd := dX4_wordThatExposesMost_59) (C := hX) (by decide) ?_
          refine g_lv [(0, .ref v), (1, .ref e), (2, .long op), (4, .int (nI ((wmS EX Wd op i).1))), (5, .int (nI ((wmS EX Wd op i).2))), (6, .int (nI (i + 1)))] [0, 1, 2, 3, 4, 5] rfl ?_
          refine g_lve [(0, .ref v), (1, .ref e), (2, .long op), (4, .int (nI ((wmS EX Wd op (i + 1)).1))), (5, .int (nI ((wmS EX Wd op (i + 1)).2))), (6, .int (nI (i + 1)))] (by simp only [wmS]; first | rw [if_pos c_45] | rw [if_neg (Nat.not_lt.mpr c_45)]) ?_
          exact ih_9 (i + 1) (by omega) (by omega)
        · refine g_iload 7 (hd := dX4_wordThatExposesMost_48) (C := hX) rfl ?_
          refine g_istore [(0, .ref v), (1, .ref e), (2, .long op), (4, .int (nI ((wmS EX Wd op i).1))), (5, .int (nI (pcL ((EX (Wd i)) &&& op)))), (6, .int (nI i)), (7, .int (nI (Wd i))), (8, .int (nI (pcL ((EX (Wd i)) &&& op))))] [1, 2, 3, 4, 0, 5, 6, 7] (hd := dX4_wordThatExposesMost_50) (C := hX) (by decide) rfl ?_
          refine g_iload 6 (hd := dX4_wordThatExposesMost_52) (C := hX) rfl ?_
          refine g_istore [(0, .ref v), (1, .ref e), (2, .long op), (4, .int (nI (Wd i))), (5, .int (nI (pcL ((EX (Wd i)) &&& op)))), (6, .int (nI i)), (7, .int (nI (Wd i))), (8, .int (nI (pcL ((EX (Wd i)) &&& op))))] [1, 2, 3, 0, 4, 5, 6, 7] (hd := dX4_wordThatExposesMost_54) (C := hX) (by decide) rfl ?_
          refine g_iinc (v := (nI (i + 1))) 5 [(0, .ref v), (1, .ref e), (2, .long op), (4, .int (nI (Wd i))), (5, .int (nI (pcL ((EX (Wd i)) &&& op)))), (6, .int (nI (i + 1))), (7, .int (nI (Wd i))), (8, .int (nI (pcL ((EX (Wd i)) &&& op))))] [1, 2, 3, 4, 5, 0, 6, 7] (hd := dX4_wordThatExposesMost_56) (C := hX) rfl (nI_1 _) (by decide) rfl ?_
          refine g_goto 9 (hd := dX4_wordThatExposesMost_59) (C := hX) (by decide) ?_
          refine g_lv [(0, .ref v), (1, .ref e), (2, .long op), (4, .int (nI (Wd i))), (5, .int (nI (pcL ((EX (Wd i)) &&& op)))), (6, .int (nI (i + 1)))] [0, 1, 2, 3, 4, 5] rfl ?_
          refine g_lve [(0, .ref v), (1, .ref e), (2, .long op), (4, .int (nI ((wmS EX Wd op (i + 1)).1))), (5, .int (nI ((wmS EX Wd op (i + 1)).2))), (6, .int (nI (i + 1)))] (by simp only [wmS]; first | rw [if_pos c_45] | rw [if_neg (Nat.not_lt.mpr c_45)]) ?_
          exact ih_9 (i + 1) (by omega) (by omega)
  refine g_lve [(0, .ref v), (1, .ref e), (2, .long op), (4, .int (nI ((wmS EX Wd op 0).1))), (5, .int (nI ((wmS EX Wd op 0).2))), (6, .int (nI 0))] rfl ?_
  exact L_9 _ 0 (Nat.lt_succ_self _) (Nat.zero_le _)

theorem in_X4_chooseTests_4 : ∀ w ∈ wsX40, w ∈ wsX4_chooseTests := fun _ h => List.mem_cons_of_mem _ (List.mem_append_left _ (List.mem_append_right _ h))
theorem in_X4_chooseTests_1 : ∀ w ∈ wsX10, w ∈ wsX4_chooseTests := fun _ h => List.mem_cons_of_mem _ (List.mem_append_right _ h)
theorem ok_X4_chooseTests : gOK yX4_chooseTests wsX4_chooseTests ({ frames := 2, cells := 0, slots := 0, locals := 49 }) 6 1 := ⟨⟨_, _, _, rfl⟩, rfl, rfl, by decide, by decide, by decide +kernel⟩
set_option maxRecDepth 100000 in
set_option maxHeartbeats 4000000 in
theorem c_X4_chooseTests (l : Launch) (D : va_G) (cC cI cJ cO : ClassId) (v : Nat) (ou : Nat) (ex : Nat) (pa : Nat) (te : Nat) (tc : Nat) (vw : Nat) (al : Int64) (eE : Int64) (eP : Int64) (eC : Int64) (dj : Nat) (tch : Nat) (sf : Nat) (O : Nat → Nat) (EX : Nat → Int64) (PA : Nat → Int64) (TE : Nat → Nat) (e : Nat) (we : Nat) (re : Nat) (sz : Nat) (mi : Int32) (ne : Int32) (fr : Nat) (cm : Nat) (Wd : Nat → Nat) (Rk : Nat → Int32) (hs : sz ≤ 256) (hW : ∀ j, j < sz → Wd j < 256) : CM (S := Nat) l D (tyL cC cI cJ cO) yX4_chooseTests wsX4_chooseTests ({ frames := 2, cells := 0, slots := 0, locals := 49 }) [.ref v, .ref e] [(v, .inr (4, [.ref ou, .ref ex, .ref pa, .ref te, .int (nI tc), .int (nI vw), .long al, .long eE, .long eP, .long eC, .int (nI dj), .int (nI tch), .int (nI sf)])), (ou, .inl (cI, 256, .inl (fun j_ => nI (O j_)))), (ex, .inl (cJ, 256, .inr (.inl EX))), (pa, .inl (cJ, 256, .inr (.inl PA))), (te, .inl (cI, 64, .inl (fun j_ => nI (TE j_)))), (e, .inr (1, [.ref we, .ref re, .int (nI sz), .int mi, .int ne, .int (nI fr), .int (nI cm)])), (we, .inl (cI, 256, .inl (fun j_ => nI (Wd j_)))), (re, .inl (cI, 256, .inl Rk))] (fun _ => none) (fun n => n ≤ 64 ∧ (∀ j, j < n → ¬ opS EX Wd sz eE j = 0) ∧ (n = 64 ∨ opS EX Wd sz eE n = 0)) (fun u_ => [(v, .inr (4, [.ref ou, .ref ex, .ref pa, .ref te, .int (nI u_), .int (nI vw), .long al, .long eE, .long eP, .long eC, .int (nI dj), .int (nI 1), .int (nI sf)])), (ou, .inl (cI, 256, .inl (fun j_ => nI (O j_)))), (ex, .inl (cJ, 256, .inr (.inl EX))), (pa, .inl (cJ, 256, .inr (.inl PA))), (te, .inl (cI, 64, .inl (fun j_ => nI ((teS EX Wd sz eE TE u_) j_)))), (e, .inr (1, [.ref we, .ref re, .int (nI sz), .int mi, .int ne, .int (nI fr), .int (nI cm)])), (we, .inl (cI, 256, .inl (fun j_ => nI (Wd j_)))), (re, .inl (cI, 256, .inl Rk))]) := by
  refine CM_in (cc := cX4_chooseTests) (maxL := 6) (ret := none) (by decide) rfl (Nat.le_of_ble_eq_true rfl) ?_
  intro X hX hret
  show GW X [(v, .inr (4, [.ref ou, .ref ex, .ref pa, .ref te, .int (nI tc), .int (nI vw), .long al, .long eE, .long eP, .long eC, .int (nI dj), .int (nI tch), .int (nI sf)])), (ou, .inl (cI, 256, .inl (fun j_ => nI (O j_)))), (ex, .inl (cJ, 256, .inr (.inl EX))), (pa, .inl (cJ, 256, .inr (.inl PA))), (te, .inl (cI, 64, .inl (fun j_ => nI (TE j_)))), (e, .inr (1, [.ref we, .ref re, .int (nI sz), .int mi, .int ne, .int (nI fr), .int (nI cm)])), (we, .inl (cI, 256, .inl (fun j_ => nI (Wd j_)))), (re, .inl (cI, 256, .inl Rk))] [(0, .ref v), (1, .ref e)] [] 0 0 0
  refine g_aload_n 0 (hd := dX4_chooseTests_0) (C := hX) rfl rfl ?_
  refine g_iconst (v := nI 0) hX dX4_chooseTests_1 (by decide) ?_
  refine g_put (hd := dX4_chooseTests_2) (C := hX) 0 4 [(v, .inr (4, [.ref ou, .ref ex, .ref pa, .ref te, .int (nI 0), .int (nI vw), .long al, .long eE, .long eP, .long eC, .int (nI dj), .int (nI tch), .int (nI sf)])), (ou, .inl (cI, 256, .inl (fun j_ => nI (O j_)))), (ex, .inl (cJ, 256, .inr (.inl EX))), (pa, .inl (cJ, 256, .inr (.inl PA))), (te, .inl (cI, 64, .inl (fun j_ => nI (TE j_)))), (e, .inr (1, [.ref we, .ref re, .int (nI sz), .int mi, .int ne, .int (nI fr), .int (nI cm)])), (we, .inl (cI, 256, .inl (fun j_ => nI (Wd j_)))), (re, .inl (cI, 256, .inl Rk))] rfl rfl in_X4_chooseTests_4 tyX4_ok nmX4 (by decide) (by decide +kernel) rfl rfl rfl (Nat.le_of_ble_eq_true rfl) rfl ?_
  refine g_aload_n 0 (hd := dX4_chooseTests_5) (C := hX) rfl rfl ?_
  refine g_get (hd := dX4_chooseTests_6) (C := hX) 0 7 rfl rfl in_X4_chooseTests_4 (by decide) (by decide +kernel) rfl ?_
  refine g_lstore_n [(0, .ref v), (1, .ref e), (2, .long eE)] [1, 2, 0] (hd := dX4_chooseTests_9) (C := hX) rfl (by decide) rfl ?_
  refine g_iconst (v := nI 0) hX dX4_chooseTests_10 (by decide) ?_
  refine g_istore [(0, .ref v), (1, .ref e), (2, .long eE), (4, .int (nI 0))] [1, 2, 3, 0] (hd := dX4_chooseTests_11) (C := hX) (by decide) rfl ?_
  have L_13 : ∀ (n_13 : Nat) (i : Nat), 64 - i < n_13 → (i ≤ 64) → (∀ j, j < i → ¬ opS EX Wd sz eE j = 0) → GW X [(v, .inr (4, [.ref ou, .ref ex, .ref pa, .ref te, .int (nI i), .int (nI vw), .long al, .long eE, .long eP, .long eC, .int (nI dj), .int (nI tch), .int (nI sf)])), (ou, .inl (cI, 256, .inl (fun j_ => nI (O j_)))), (ex, .inl (cJ, 256, .inr (.inl EX))), (pa, .inl (cJ, 256, .inr (.inl PA))), (te, .inl (cI, 64, .inl (fun j_ => nI ((teS EX Wd sz eE TE i) j_)))), (e, .inr (1, [.ref we, .ref re, .int (nI sz), .int mi, .int ne, .int (nI fr), .int (nI cm)])), (we, .inl (cI, 256, .inl (fun j_ => nI (Wd j_)))), (re, .inl (cI, 256, .inl Rk))] [(0, .ref v), (1, .ref e), (2, .long (opS EX Wd sz eE i)), (4, .int (nI i))] [] 13 0 0 := by
    intro n_13
    induction n_13 with
    | zero => intro i hm_13; exact absurd hm_13 (Nat.not_lt_zero _)
    | succ n_13 ih_13 =>
      intro i hm_13 hi hno
      refine g_iload 3 (hd := dX4_chooseTests_13) (C := hX) rfl ?_
      refine g_bipush (v := nI 64) hX dX4_chooseTests_15 (by decide) ?_
      refine g_icmp_geN 73 (hd := dX4_chooseTests_17) (C := hX) (by decide) (by omega) (by omega) (fun c_17 => ?_) (fun c_17 => ?_)
      · refine g_aload_n 0 (hd := dX4_chooseTests_73) (C := hX) rfl rfl ?_
        refine g_iconst (v := nI 1) hX dX4_chooseTests_74 (by decide) ?_
        refine g_put (hd := dX4_chooseTests_75) (C := hX) 0 11 [(v, .inr (4, [.ref ou, .ref ex, .ref pa, .ref te, .int (nI i), .int (nI vw), .long al, .long eE, .long eP, .long eC, .int (nI dj), .int (nI 1), .int (nI sf)])), (ou, .inl (cI, 256, .inl (fun j_ => nI (O j_)))), (ex, .inl (cJ, 256, .inr (.inl EX))), (pa, .inl (cJ, 256, .inr (.inl PA))), (te, .inl (cI, 64, .inl (fun j_ => nI ((teS EX Wd sz eE TE i) j_)))), (e, .inr (1, [.ref we, .ref re, .int (nI sz), .int mi, .int ne, .int (nI fr), .int (nI cm)])), (we, .inl (cI, 256, .inl (fun j_ => nI (Wd j_)))), (re, .inl (cI, 256, .inl Rk))] rfl rfl in_X4_chooseTests_4 tyX4_ok nmX4 (by decide) (by decide +kernel) rfl rfl rfl (Nat.le_of_ble_eq_true rfl) rfl ?_
        exact (hret i _ _ (by first | exact ⟨hi, hno, Or.inr (lg0 c_23)⟩ | exact ⟨hi, hno, Or.inl (by omega)⟩)).1 rfl rfl dX4_chooseTests_78
      · refine g_lload_n 2 (hd := dX4_chooseTests_20) (C := hX) rfl rfl ?_
        refine g_lconst (v := 0) hX dX4_chooseTests_21 rfl ?_
        refine g_lcmp hX dX4_chooseTests_22 ?_
        refine g_if_eq 73 (hd := dX4_chooseTests_23) (C := hX) (by decide) (fun c_23 => ?_) (fun c_23 => ?_)
        · refine g_aload_n 0 (hd := dX4_chooseTests_73) (C := hX) rfl rfl ?_
          refine g_iconst (v := nI 1) hX dX4_chooseTests_74 (by decide) ?_
          refine g_put (hd := dX4_chooseTests_75) (C := hX) 0 11 [(v, .inr (4, [.ref ou, .ref ex, .ref pa, .ref te, .int (nI i), .int (nI vw), .long al, .long eE, .long eP, .long eC, .int (nI dj), .int (nI 1), .int (nI sf)])), (ou, .inl (cI, 256, .inl (fun j_ => nI (O j_)))), (ex, .inl (cJ, 256, .inr (.inl EX))), (pa, .inl (cJ, 256, .inr (.inl PA))), (te, .inl (cI, 64, .inl (fun j_ => nI ((teS EX Wd sz eE TE i) j_)))), (e, .inr (1, [.ref we, .ref re, .int (nI sz), .int mi, .int ne, .int (nI fr), .int (nI cm)])), (we, .inl (cI, 256, .inl (fun j_ => nI (Wd j_)))), (re, .inl (cI, 256, .inl Rk))] rfl rfl in_X4_chooseTests_4 tyX4_ok nmX4 (by decide) (by decide +kernel) rfl rfl rfl (Nat.le_of_ble_eq_true rfl) rfl ?_
          exact (hret i _ _ (by first | exact ⟨hi, hno, Or.inr (lg0 c_23)⟩ | exact ⟨hi, hno, Or.inl (by omega)⟩)).1 rfl rfl dX4_chooseTests_78
        · refine g_aload_n 0 (hd := dX4_chooseTests_26) (C := hX) rfl rfl ?_
          refine g_aload_n 1 (hd := dX4_chooseTests_27) (C := hX) rfl rfl ?_
          refine g_lload_n 2 (hd := dX4_chooseTests_28) (C := hX) rfl rfl ?_
          refine g_callV (rest := []) hX (c_X4_wordThatExposesMost l D cC cI cJ cO v ou ex pa te i vw al eE eP eC dj tch sf O EX PA (teS EX Wd sz eE TE i) e we re sz mi ne fr cm Wd Rk (opS EX Wd sz eE i) hs hW) ok_X4_wordThatExposesMost rfl 0 rfl rfl (fun _ => rfl) (hd := dX4_chooseTests_29) gX4_chooseTests_X4_wordThatExposesMost ⟨by decide, by decide⟩ rfl (Nat.le_of_ble_eq_true rfl) ⟨Nat.zero_le _, Nat.zero_le _⟩ [0, 1, 2, 3, 4, 5, 6, 7] (by decide) rfl rfl ?_
          intro r_29 e_29
          subst e_29
          show GW X [(v, .inr (4, [.ref ou, .ref ex, .ref pa, .ref te, .int (nI i), .int (nI vw), .long al, .long eE, .long eP, .long eC, .int (nI dj), .int (nI tch), .int (nI sf)])), (ou, .inl (cI, 256, .inl (fun j_ => nI (O j_)))), (ex, .inl (cJ, 256, .inr (.inl EX))), (pa, .inl (cJ, 256, .inr (.inl PA))), (te, .inl (cI, 64, .inl (fun j_ => nI ((teS EX Wd sz eE TE i) j_)))), (e, .inr (1, [.ref we, .ref re, .int (nI sz), .int mi, .int ne, .int (nI fr), .int (nI cm)])), (we, .inl (cI, 256, .inl (fun j_ => nI (Wd j_)))), (re, .inl (cI, 256, .inl Rk))] [(0, .ref v), (1, .ref e), (2, .long (opS EX Wd sz eE i)), (4, .int (nI i))] [.int (nI ((wmS EX Wd (opS EX Wd sz eE i) sz).1))] 32 0 0
          refine g_istore [(0, .ref v), (1, .ref e), (2, .long (opS EX Wd sz eE i)), (4, .int (nI i)), (5, .int (nI ((wmS EX Wd (opS EX Wd sz eE i) sz).1)))] [1, 2, 3, 4, 0] (hd := dX4_chooseTests_32) (C := hX) (by decide) rfl ?_
          refine g_aload_n 0 (hd := dX4_chooseTests_34) (C := hX) rfl rfl ?_
          refine g_get (hd := dX4_chooseTests_35) (C := hX) 0 3 rfl rfl in_X4_chooseTests_4 (by decide) (by decide +kernel) rfl ?_
          refine g_iload 3 (hd := dX4_chooseTests_38) (C := hX) rfl ?_
          refine g_iload 4 (hd := dX4_chooseTests_40) (C := hX) rfl ?_
          refine g_iast (hd := dX4_chooseTests_42) (C := hX) 4 1 [(v, .inr (4, [.ref ou, .ref ex, .ref pa, .ref te, .int (nI i), .int (nI vw), .long al, .long eE, .long eP, .long eC, .int (nI dj), .int (nI tch), .int (nI sf)])), (ou, .inl (cI, 256, .inl (fun j_ => nI (O j_)))), (ex, .inl (cJ, 256, .inr (.inl EX))), (pa, .inl (cJ, 256, .inr (.inl PA))), (te, .inl (cI, 64, .inl (fun j_ => nI ((nup (teS EX Wd sz eE TE i) i ((wmS EX Wd (opS EX Wd sz eE i) sz).1)) j_)))), (e, .inr (1, [.ref we, .ref re, .int (nI sz), .int mi, .int ne, .int (nI fr), .int (nI cm)])), (we, .inl (cI, 256, .inl (fun j_ => nI (Wd j_)))), (re, .inl (cI, 256, .inl Rk))] rfl rfl (by omega) (by decide) (by rw [nup_I]; rfl) ?_
          refine g_aload_n 0 (hd := dX4_chooseTests_43) (C := hX) rfl rfl ?_
          refine g_dup hX dX4_chooseTests_44 rfl ?_
          refine g_get (hd := dX4_chooseTests_45) (C := hX) 0 4 rfl rfl in_X4_chooseTests_4 (by decide) (by decide +kernel) rfl ?_
          refine g_iconst (v := nI 1) hX dX4_chooseTests_48 (by decide) ?_
          refine g_iadd hX dX4_chooseTests_49 ?_
          refine g_top (y := (nI (i + 1))) (nI_add _ _) ?_
          refine g_put (hd := dX4_chooseTests_50) (C := hX) 0 4 [(v, .inr (4, [.ref ou, .ref ex, .ref pa, .ref te, .int (nI (i + 1)), .int (nI vw), .long al, .long eE, .long eP, .long eC, .int (nI dj), .int (nI tch), .int (nI sf)])), (ou, .inl (cI, 256, .inl (fun j_ => nI (O j_)))), (ex, .inl (cJ, 256, .inr (.inl EX))), (pa, .inl (cJ, 256, .inr (.inl PA))), (te, .inl (cI, 64, .inl (fun j_ => nI ((nup (teS EX Wd sz eE TE i) i ((wmS EX Wd (opS EX Wd sz eE i) sz).1)) j_)))), (e, .inr (1, [.ref we, .ref re, .int (nI sz), .int mi, .int ne, .int (nI fr), .int (nI cm)])), (we, .inl (cI, 256, .inl (fun j_ => nI (Wd j_)))), (re, .inl (cI, 256, .inl Rk))] rfl rfl in_X4_chooseTests_4 tyX4_ok nmX4 (by decide) (by decide +kernel) rfl rfl rfl (Nat.le_of_ble_eq_true rfl) rfl ?_
          refine g_lload_n 2 (hd := dX4_chooseTests_53) (C := hX) rfl rfl ?_
          refine g_aload_n 0 (hd := dX4_chooseTests_54) (C := hX) rfl rfl ?_
          refine g_get (hd := dX4_chooseTests_55) (C := hX) 0 1 rfl rfl in_X4_chooseTests_4 (by decide) (by decide +kernel) rfl ?_
          refine g_iload 4 (hd := dX4_chooseTests_58) (C := hX) rfl ?_
          refine g_lald (hd := dX4_chooseTests_60) (C := hX) 2 2 rfl rfl (wmS_lt hW sz (Nat.le_refl _)).1 (by decide) ?_
          refine g_ldc2 (v := (-1)) hX dX4_chooseTests_61 (by decide +kernel) ?_
          refine g_lxor hX dX4_chooseTests_64 ?_
          refine g_land hX dX4_chooseTests_65 ?_
          refine g_lstore_n [(0, .ref v), (1, .ref e), (2, .long ((opS EX Wd sz eE i) &&& ((EX ((wmS EX Wd (opS EX Wd sz eE i) sz).1)) ^^^ ((-1) : Int64)))), (4, .int (nI i)), (5, .int (nI ((wmS EX Wd (opS EX Wd sz eE i) sz).1)))] [1, 2, 0, 3, 4] (hd := dX4_chooseTests_66) (C := hX) rfl (by decide) rfl ?_
          refine g_iinc (v := (nI (i + 1))) 3 [(0, .ref v), (1, .ref e), (2, .long ((opS EX Wd sz eE i) &&& ((EX ((wmS EX Wd (opS EX Wd sz eE i) sz).1)) ^^^ ((-1) : Int64)))), (4, .int (nI (i + 1))), (5, .int (nI ((wmS EX Wd (opS EX Wd sz eE i) sz).1)))] [1, 2, 3, 0, 4] (hd := dX4_chooseTests_67) (C := hX) rfl (nI_1 _) (by decide) rfl ?_
          refine g_goto 13 (hd := dX4_chooseTests_70) (C := hX) (by decide) ?_
          refine g_w [(v, .inr (4, [.ref ou, .ref ex, .ref pa, .ref te, .int (nI (i + 1)), .int (nI vw), .long al, .long eE, .long eP, .long eC, .int (nI dj), .int (nI tch), .int (nI sf)])), (ou, .inl (cI, 256, .inl (fun j_ => nI (O j_)))), (ex, .inl (cJ, 256, .inr (.inl EX))), (pa, .inl (cJ, 256, .inr (.inl PA))), (te, .inl (cI, 64, .inl (fun j_ => nI ((teS EX Wd sz eE TE (i + 1)) j_)))), (e, .inr (1, [.ref we, .ref re, .int (nI sz), .int mi, .int ne, .int (nI fr), .int (nI cm)])), (we, .inl (cI, 256, .inl (fun j_ => nI (Wd j_)))), (re, .inl (cI, 256, .inl Rk))] rfl ?_
          refine g_lv [(0, .ref v), (1, .ref e), (2, .long ((opS EX Wd sz eE i) &&& ((EX ((wmS EX Wd (opS EX Wd sz eE i) sz).1)) ^^^ ((-1) : Int64)))), (4, .int (nI (i + 1)))] [0, 1, 2, 3] rfl ?_
          refine g_lve [(0, .ref v), (1, .ref e), (2, .long (opS EX Wd sz eE (i + 1))), (4, .int (nI (i + 1)))] rfl ?_
          exact ih_13 (i + 1) (by omega) (by omega) (fun j hj => by rcases Nat.lt_or_ge j i with q | q; exact hno j q; rw [show j = i from by omega]; exact lg0n c_23)
  refine g_w [(v, .inr (4, [.ref ou, .ref ex, .ref pa, .ref te, .int (nI 0), .int (nI vw), .long al, .long eE, .long eP, .long eC, .int (nI dj), .int (nI tch), .int (nI sf)])), (ou, .inl (cI, 256, .inl (fun j_ => nI (O j_)))), (ex, .inl (cJ, 256, .inr (.inl EX))), (pa, .inl (cJ, 256, .inr (.inl PA))), (te, .inl (cI, 64, .inl (fun j_ => nI ((teS EX Wd sz eE TE 0) j_)))), (e, .inr (1, [.ref we, .ref re, .int (nI sz), .int mi, .int ne, .int (nI fr), .int (nI cm)])), (we, .inl (cI, 256, .inl (fun j_ => nI (Wd j_)))), (re, .inl (cI, 256, .inl Rk))] rfl ?_
  refine g_lve [(0, .ref v), (1, .ref e), (2, .long (opS EX Wd sz eE 0)), (4, .int (nI 0))] rfl ?_
  exact L_13 _ 0 (Nat.lt_succ_self _) (Nat.zero_le _) (fun j h => absurd h (Nat.not_lt_zero j))
