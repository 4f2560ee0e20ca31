/-! the reference's words counted, errors, distances -/
def mB (c : Nat → Nat) (w v : Nat) : Bool := inB c w && (!(v == w) && ((v &&& w == w || v &&& w == v) && inB c v))
def msO (c : Nat → Nat) : Nat → Nat
  | 0 => 0
  | w + 1 => msO c w + fb_ct (mB c w) (2 ^ c 0)
theorem mB_0 {c : Nat → Nat} {w : Nat} (h : ¬ inB c w = true) (n : Nat) : fb_ct (mB c w) n = 0 := fb_ct_zero.mpr (fun v _ => by unfold mB; simp [h])
def nrI (c : Nat → Nat) (w : Nat) (o : Option Nat) : Nat → Option Nat
  | 0 => o
  | v + 1 => if inB c w = true ∧ inB c v = true then cmN (nrI c w o v) v w else nrI c w o v
def nrO (c : Nat → Nat) : Nat → Option Nat
  | 0 => none
  | w + 1 => nrI c w (nrO c w) w
theorem nrI_n {c : Nat → Nat} {w : Nat} (h : ¬ inB c w = true) (o : Option Nat) : ∀ n, nrI c w o n = o
  | 0 => rfl
  | n + 1 => by simp only [nrI]; rw [if_neg (fun z => h z.1)]; exact nrI_n h o n
theorem nrI_ok {c : Nat → Nat} {w : Nat} {o : Option Nat} (h : ∀ d, o = some d → d < 100) : ∀ n d, nrI c w o n = some d → d < 100
  | 0, d, e => h d e
  | n + 1, d, e => by
    simp only [nrI] at e
    split at e
    · exact cmN_ok (nrI_ok h n) d e
    · exact nrI_ok h n d e
theorem nrO_ok (c : Nat → Nat) : ∀ n d, nrO c n = some d → d < 100
  | 0, d, e => by cases e
  | n + 1, d, e => nrI_ok (nrO_ok c n) n d e
theorem gl_0 {i : Int32} (h1 : -1 ≤ i) (h2 : ¬ 0 ≤ i) : i = -1 := by
  apply Int32.toInt_inj.mp
  rw [Int32.le_iff_toInt_le] at h1 h2
  have e1 : (-1 : Int32).toInt = -1 := rfl
  have e0 : (0 : Int32).toInt = 0 := rfl
  omega
theorem gl_00 {i : Int32} (h2 : 0 ≤ i) : ∃ j, j < 2147483648 ∧ i = nI j := by
  have h3 : ¬ i < 0 := fun z => by
    rw [Int32.le_iff_toInt_le] at h2
    rw [Int32.lt_iff_toInt_lt] at z
    omega
  obtain ⟨j, hj, e⟩ := nI_of h3
  exact ⟨j, hj, e⟩
noncomputable def wiR (c : Nat → Nat) (wd w : Int32) : Int32 := iP (vp_in wd (2 ^ c 0) ∧ vp_in w (c 0 + c 1)) (nI (rvA c (cl wd) none none (fun _ => 0) (c 0 + c 1) (cl w))) (-1)
def ouC (c : Nat → Nat) (wd : Nat) (s t : Option Nat) : Nat := 2 * rvA c wd s t (fun _ => 0) (c 0 + c 1) (c 2) + rvA c wd s t (fun _ => 0) (c 0 + c 1) (c 3)
noncomputable def otR (c : Nat → Nat) (wd s : Int32) : Int32 := iP (vp_in wd (2 ^ c 0) ∧ (s = -1 ∨ vp_in s (2 * (c 0 + c 1)))) (iP (s = -1) (nI (ouC c (cl wd) none none)) (nI (ouC c (cl wd) (some (cl s)) none))) (-1)
theorem rv_can {c : Nat → Nat} (hok : okC c) (wd : Nat) (s t : Option Nat) (R R' : Nat → Nat) : ∀ i, i ≤ c 0 + c 1 → ∀ j, j < i → rvA c wd s t R i j = rvA c wd s t R' i j
  | 0, _, j, h => absurd h (Nat.not_lt_zero j)
  | i + 1, hi, j, hj => by
    have ih := rv_can hok wd s t R R' i (by omega)
    simp only [rvA]
    rcases Nat.lt_or_ge j i with q | q
    · rw [nup_ne (by omega), nup_ne (by omega)]; exact ih j q
    · have e : j = i := by omega
      subst e
      rw [nup_same, nup_same]
      unfold rvX
      by_cases hb : j < c 0
      · rw [if_pos hb, if_pos hb]
      · rw [if_neg hb, if_neg hb]
        have g := hok.2.2.2.2.2.2 (j - c 0) (by omega)
        have h1 : c (6 + 3 * (j - c 0) + 1) < j := by rw [show 6 + 3 * (j - c 0) + 1 = 7 + 3 * (j - c 0) by omega]; omega
        have h2 : c (6 + 3 * (j - c 0) + 2) < j := by rw [show 6 + 3 * (j - c 0) + 2 = 8 + 3 * (j - c 0) by omega]; omega
        rw [ih _ h1, ih _ h2]
theorem rv_c0 {c : Nat → Nat} (hok : okC c) (wd : Nat) (s t : Option Nat) (R : Nat → Nat) {j : Nat} (hj : j < c 0 + c 1) : rvA c wd s t R (c 0 + c 1) j = rvA c wd s t (fun _ => 0) (c 0 + c 1) j := rv_can hok wd s t _ _ _ (Nat.le_refl _) j hj
theorem ou_can {c : Nat → Nat} (hok : okC c) (wd : Nat) (s t : Option Nat) (R : Nat → Nat) : 2 * rvA c wd s t R (c 0 + c 1) (c 2) + rvA c wd s t R (c 0 + c 1) (c 3) = ouC c wd s t := by
  unfold ouC
  rw [rv_c0 hok wd s t R hok.2.2.2.1, rv_c0 hok wd s t R hok.2.2.2.2.1]
theorem ou_lt {c : Nat → Nat} (hok : okC c) (wd : Nat) (s t : Option Nat) : ouC c wd s t < 4 := by
  have h1 := rv_le hok wd s t (fun _ => 0) _ (Nat.le_refl _) _ hok.2.2.2.1
  have h2 := rv_le hok wd s t (fun _ => 0) _ (Nat.le_refl _) _ hok.2.2.2.2.1
  unfold ouC; omega

theorem in_X7_words_7 : ∀ w ∈ wsX70, w ∈ wsX7_words := fun _ h => List.mem_cons_of_mem _ (List.mem_append_right _ h)
theorem ok_X7_words : gOK yX7_words wsX7_words ({ frames := 2, cells := 0, slots := 0, locals := 48 }) 3 0 := ⟨⟨_, _, _, rfl⟩, rfl, rfl, by decide, by decide, by decide +kernel⟩
set_option maxRecDepth 100000 in
set_option maxHeartbeats 4000000 in
theorem c_X7_words (l : Launch) (D : va_G) (cC cI cJ cO : ClassId) (o : Nat) (ot : Nat) (on : Nat) (od : Nat) (ow : Nat) (oi : Nat) (oe : Nat) (op : Nat) (len : Nat) (ch : Nat) (va : Nat) (en : Nat) (aE : Int64) (aP : Int64) (lt : Int64) (T : Nat → Nat) (c : Nat → Nat) (rd : Nat → Nat) (ww : Nat → Nat) (wi : Nat → Nat) (EX : Nat → Int64) (PA : Nat → Int64) (hok : okC c) : CM (S := Int32) l D (tyL cC cI cJ cO) yX7_words wsX7_words ({ frames := 2, cells := 0, slots := 0, locals := 48 }) [.ref o] [(o, .inr (7, [.int (nI len), .ref ot, .ref on, .ref od, .ref ow, .int (nI ch), .int (nI va), .int (nI en), .ref oi, .ref oe, .ref op, .long aE, .long aP, .long lt])), (ot, .inl (cI, 200, .inl (fun j_ => nI (T j_)))), (on, .inl (cI, 78, .inl (fun j_ => nI (c j_)))), (od, .inl (cI, 78, .inl (fun j_ => nI (rd j_)))), (ow, .inl (cI, 468, .inl (fun j_ => nI (ww j_)))), (oi, .inl (cI, 32, .inl (fun j_ => nI (wi j_)))), (oe, .inl (cJ, 256, .inr (.inl EX))), (op, .inl (cJ, 256, .inr (.inl PA)))] (fun r => some (.int r)) (fun r => r = nI (fb_ct (inB c) (2 ^ c 0))) (fun u_ => [(o, .inr (7, [.int (nI len), .ref ot, .ref on, .ref od, .ref ow, .int (nI ch), .int (nI va), .int (nI en), .ref oi, .ref oe, .ref op, .long aE, .long aP, .long lt])), (ot, .inl (cI, 200, .inl (fun j_ => nI (T j_)))), (on, .inl (cI, 78, .inl (fun j_ => nI (c j_)))), (od, .inl (cI, 78, .inl (fun j_ => nI (rd j_)))), (ow, .inl (cI, 468, .inl (fun j_ => nI (ww j_)))), (oi, .inl (cI, 32, .inl (fun j_ => nI (wi j_)))), (oe, .inl (cJ, 256, .inr (.inl EX))), (op, .inl (cJ, 256, .inr (.inl PA)))]) := by
  refine CM_in (cc := cX7_words) (maxL := 3) (ret := (some .int)) (by decide) rfl (Nat.le_of_ble_eq_true rfl) ?_
  intro X hX hret
  show GW X [(o, .inr (7, [.int (nI len), .ref ot, .ref on, .ref od, .ref ow, .int (nI ch), .int (nI va), .int (nI en), .ref oi, .ref oe, .ref op, .long aE, .long aP, .long lt])), (ot, .inl (cI, 200, .inl (fun j_ => nI (T j_)))), (on, .inl (cI, 78, .inl (fun j_ => nI (c j_)))), (od, .inl (cI, 78, .inl (fun j_ => nI (rd j_)))), (ow, .inl (cI, 468, .inl (fun j_ => nI (ww j_)))), (oi, .inl (cI, 32, .inl (fun j_ => nI (wi j_)))), (oe, .inl (cJ, 256, .inr (.inl EX))), (op, .inl (cJ, 256, .inr (.inl PA)))] [(0, .ref o)] [] 0 0 0
  have b0 := hok.2.1
  have b1 := hok.2.2.1
  have hp2 := p2_8 b0
  have hcd := hok.2.2.2.2.2.1
  refine g_iconst (v := nI 0) hX dX7_words_0 (by decide) ?_
  refine g_istore_n [(0, .ref o), (1, .int (nI 0))] [1, 0] (hd := dX7_words_1) (C := hX) rfl (by decide) rfl ?_
  refine g_iconst (v := nI 0) hX dX7_words_2 (by decide) ?_
  refine g_istore_n [(0, .ref o), (1, .int (nI 0)), (2, .int (nI 0))] [1, 2, 0] (hd := dX7_words_3) (C := hX) rfl (by decide) rfl ?_
  have L_4 : ∀ (n_4 : Nat) (i : Nat), 2 ^ c 0 - i < n_4 → (i ≤ 2 ^ c 0) → GW X [(o, .inr (7, [.int (nI len), .ref ot, .ref on, .ref od, .ref ow, .int (nI ch), .int (nI va), .int (nI en), .ref oi, .ref oe, .ref op, .long aE, .long aP, .long lt])), (ot, .inl (cI, 200, .inl (fun j_ => nI (T j_)))), (on, .inl (cI, 78, .inl (fun j_ => nI (c j_)))), (od, .inl (cI, 78, .inl (fun j_ => nI (rd j_)))), (ow, .inl (cI, 468, .inl (fun j_ => nI (ww j_)))), (oi, .inl (cI, 32, .inl (fun j_ => nI (wi j_)))), (oe, .inl (cJ, 256, .inr (.inl EX))), (op, .inl (cJ, 256, .inr (.inl PA)))] [(0, .ref o), (1, .int (nI (fb_ct (inB c) i))), (2, .int (nI i))] [] 4 0 0 := by
    intro n_4
    induction n_4 with
    | zero => intro i hm_4; exact absurd hm_4 (Nat.not_lt_zero _)
    | succ n_4 ih_4 =>
      intro i hm_4 hiL
      refine g_iload_n 2 (hd := dX7_words_4) (C := hX) rfl rfl ?_
      refine g_aload_n 0 (hd := dX7_words_5) (C := hX) rfl rfl ?_
      refine g_callVs (rest := [.int (nI i)]) hX (c_X7_all l D cC cI cJ cO o ot on od ow oi oe op len ch va en aE aP lt T c rd ww wi EX PA b0) ok_X7_all rfl 0 rfl rfl (hd := dX7_words_6) gX7_words_X7_all ⟨by decide, by decide⟩ rfl (Nat.le_of_ble_eq_true rfl) ⟨Nat.zero_le _, Nat.zero_le _⟩ [0, 1, 2, 3, 4, 5, 6, 7] (by decide) rfl rfl ?_
      intro r_6 e_6
      subst e_6
      show GW X [(o, .inr (7, [.int (nI len), .ref ot, .ref on, .ref od, .ref ow, .int (nI ch), .int (nI va), .int (nI en), .ref oi, .ref oe, .ref op, .long aE, .long aP, .long lt])), (ot, .inl (cI, 200, .inl (fun j_ => nI (T j_)))), (on, .inl (cI, 78, .inl (fun j_ => nI (c j_)))), (od, .inl (cI, 78, .inl (fun j_ => nI (rd j_)))), (ow, .inl (cI, 468, .inl (fun j_ => nI (ww j_)))), (oi, .inl (cI, 32, .inl (fun j_ => nI (wi j_)))), (oe, .inl (cJ, 256, .inr (.inl EX))), (op, .inl (cJ, 256, .inr (.inl PA)))] [(0, .ref o), (1, .int (nI (fb_ct (inB c) i))), (2, .int (nI i))] [.int (nI (2 ^ c 0)), .int (nI i)] 9 0 0
      refine g_icmp_geN 34 (hd := dX7_words_9) (C := hX) (by decide) (by omega) (by omega) (fun c_9 => ?_) (fun c_9 => ?_)
      · refine g_iload_n 1 (hd := dX7_words_34) (C := hX) rfl rfl ?_
        exact (hret (nI (fb_ct (inB c) i)) _ _ (by rw [show i = 2 ^ c 0 from by omega])).2.1 _ rfl rfl dX7_words_35
      · refine g_iload_n 1 (hd := dX7_words_12) (C := hX) rfl rfl ?_
        refine g_aload_n 0 (hd := dX7_words_13) (C := hX) rfl rfl ?_
        refine g_iload_n 2 (hd := dX7_words_14) (C := hX) rfl rfl ?_
        refine g_callVs (rest := [.int (nI (fb_ct (inB c) i))]) hX (c_X7_isCode l D cC cI cJ cO o ot on od ow oi oe op len ch va en aE aP lt T c rd ww wi EX PA i (by omega) b0 hcd) ok_X7_isCode rfl 0 rfl rfl (hd := dX7_words_15) gX7_words_X7_isCode ⟨by decide, by decide⟩ rfl (Nat.le_of_ble_eq_true rfl) ⟨Nat.zero_le _, Nat.zero_le _⟩ [0, 1, 2, 3, 4, 5, 6, 7] (by decide) rfl rfl ?_
        intro r_15 e_15
        rcases e_15 with ⟨rfl, p_15⟩ | ⟨rfl, p_15⟩
        · show GW X [(o, .inr (7, [.int (nI len), .ref ot, .ref on, .ref od, .ref ow, .int (nI ch), .int (nI va), .int (nI en), .ref oi, .ref oe, .ref op, .long aE, .long aP, .long lt])), (ot, .inl (cI, 200, .inl (fun j_ => nI (T j_)))), (on, .inl (cI, 78, .inl (fun j_ => nI (c j_)))), (od, .inl (cI, 78, .inl (fun j_ => nI (rd j_)))), (ow, .inl (cI, 468, .inl (fun j_ => nI (ww j_)))), (oi, .inl (cI, 32, .inl (fun j_ => nI (wi j_)))), (oe, .inl (cJ, 256, .inr (.inl EX))), (op, .inl (cJ, 256, .inr (.inl PA)))] [(0, .ref o), (1, .int (nI (fb_ct (inB c) i))), (2, .int (nI i))] [.int (nI 1), .int (nI (fb_ct (inB c) i))] 18 0 0
          refine g_if_eqN 25 (hd := dX7_words_18) (C := hX) (by decide) (by decide) (fun c_18 => absurd c_18 (by decide)) (fun c_18 => ?_)
          refine g_iconst (v := nI 1) hX dX7_words_21 (by decide) ?_
          refine g_goto 26 (hd := dX7_words_22) (C := hX) (by decide) ?_
          refine g_iadd hX dX7_words_26 ?_
          refine g_top (y := (nI ((fb_ct (inB c) i) + 1))) (nI_add _ _) ?_
          refine g_istore_n [(0, .ref o), (1, .int (nI ((fb_ct (inB c) i) + 1))), (2, .int (nI i))] [1, 0, 2] (hd := dX7_words_27) (C := hX) rfl (by decide) rfl ?_
          refine g_iinc (v := (nI (i + 1))) 2 [(0, .ref o), (1, .int (nI ((fb_ct (inB c) i) + 1))), (2, .int (nI (i + 1)))] [1, 2, 0] (hd := dX7_words_28) (C := hX) rfl (nI_1 _) (by decide) rfl ?_
          refine g_goto 4 (hd := dX7_words_31) (C := hX) (by decide) ?_
          refine g_lve [(0, .ref o), (1, .int (nI (fb_ct (inB c) (i + 1)))), (2, .int (nI (i + 1)))] (by rw [fb_ct_succ]; first | rw [if_pos p_15] | rw [if_neg p_15]) ?_
          exact ih_4 (i + 1) (by omega) (by omega)
        · show GW X [(o, .inr (7, [.int (nI len), .ref ot, .ref on, .ref od, .ref ow, .int (nI ch), .int (nI va), .int (nI en), .ref oi, .ref oe, .ref op, .long aE, .long aP, .long lt])), (ot, .inl (cI, 200, .inl (fun j_ => nI (T j_)))), (on, .inl (cI, 78, .inl (fun j_ => nI (c j_)))), (od, .inl (cI, 78, .inl (fun j_ => nI (rd j_)))), (ow, .inl (cI, 468, .inl (fun j_ => nI (ww j_)))), (oi, .inl (cI, 32, .inl (fun j_ => nI (wi j_)))), (oe, .inl (cJ, 256, .inr (.inl EX))), (op, .inl (cJ, 256, .inr (.inl PA)))] [(0, .ref o), (1, .int (nI (fb_ct (inB c) i))), (2, .int (nI i))] [.int (nI 0), .int (nI (fb_ct (inB c) i))] 18 0 0
          refine g_if_eqN 25 (hd := dX7_words_18) (C := hX) (by decide) (by decide) (fun c_18 => ?_) (fun c_18 => absurd c_18 (by decide))
          refine g_iconst (v := nI 0) hX dX7_words_25 (by decide) ?_
          refine g_iadd hX dX7_words_26 ?_
          refine g_top (y := (nI ((fb_ct (inB c) i) + 0))) (nI_add _ _) ?_
          refine g_istore_n [(0, .ref o), (1, .int (nI ((fb_ct (inB c) i) + 0))), (2, .int (nI i))] [1, 0, 2] (hd := dX7_words_27) (C := hX) rfl (by decide) rfl ?_
          refine g_iinc (v := (nI (i + 1))) 2 [(0, .ref o), (1, .int (nI ((fb_ct (inB c) i) + 0))), (2, .int (nI (i + 1)))] [1, 2, 0] (hd := dX7_words_28) (C := hX) rfl (nI_1 _) (by decide) rfl ?_
          refine g_goto 4 (hd := dX7_words_31) (C := hX) (by decide) ?_
          refine g_lve [(0, .ref o), (1, .int (nI (fb_ct (inB c) (i + 1)))), (2, .int (nI (i + 1)))] (by rw [fb_ct_succ]; first | rw [if_pos p_15] | rw [if_neg p_15]) ?_
          exact ih_4 (i + 1) (by omega) (by omega)
  refine g_lve [(0, .ref o), (1, .int (nI (fb_ct (inB c) 0))), (2, .int (nI 0))] rfl ?_
  exact L_4 _ 0 (Nat.lt_succ_self _) (Nat.zero_le _)

theorem in_X7_word_7 : ∀ w ∈ wsX70, w ∈ wsX7_word := fun _ h => List.mem_cons_of_mem _ (List.mem_append_right _ h)
theorem ok_X7_word : gOK yX7_word wsX7_word ({ frames := 2, cells := 0, slots := 0, locals := 48 }) 4 1 := ⟨⟨_, _, _, rfl⟩, rfl, rfl, by decide, by decide, by decide +kernel⟩
set_option maxRecDepth 100000 in
set_option maxHeartbeats 4000000 in
theorem c_X7_word (l : Launch) (D : va_G) (cC cI cJ cO : ClassId) (o : Nat) (ot : Nat) (on : Nat) (od : Nat) (ow : Nat) (oi : Nat) (oe : Nat) (op : Nat) (len : Nat) (ch : Nat) (va : Nat) (en : Nat) (aE : Int64) (aP : Int64) (lt : Int64) (T : Nat → Nat) (c : Nat → Nat) (rd : Nat → Nat) (ww : Nat → Nat) (wi : Nat → Nat) (EX : Nat → Int64) (PA : Nat → Int64) (i : Int32) (hok : okC c) : CM (S := Int32) l D (tyL cC cI cJ cO) yX7_word wsX7_word ({ frames := 2, cells := 0, slots := 0, locals := 48 }) [.ref o, .int i] [(o, .inr (7, [.int (nI len), .ref ot, .ref on, .ref od, .ref ow, .int (nI ch), .int (nI va), .int (nI en), .ref oi, .ref oe, .ref op, .long aE, .long aP, .long lt])), (ot, .inl (cI, 200, .inl (fun j_ => nI (T j_)))), (on, .inl (cI, 78, .inl (fun j_ => nI (c j_)))), (od, .inl (cI, 78, .inl (fun j_ => nI (rd j_)))), (ow, .inl (cI, 468, .inl (fun j_ => nI (ww j_)))), (oi, .inl (cI, 32, .inl (fun j_ => nI (wi j_)))), (oe, .inl (cJ, 256, .inr (.inl EX))), (op, .inl (cJ, 256, .inr (.inl PA)))] (fun r => some (.int r)) (fun r => wdR c i r) (fun u_ => [(o, .inr (7, [.int (nI len), .ref ot, .ref on, .ref od, .ref ow, .int (nI ch), .int (nI va), .int (nI en), .ref oi, .ref oe, .ref op, .long aE, .long aP, .long lt])), (ot, .inl (cI, 200, .inl (fun j_ => nI (T j_)))), (on, .inl (cI, 78, .inl (fun j_ => nI (c j_)))), (od, .inl (cI, 78, .inl (fun j_ => nI (rd j_)))), (ow, .inl (cI, 468, .inl (fun j_ => nI (ww j_)))), (oi, .inl (cI, 32, .inl (fun j_ => nI (wi j_)))), (oe, .inl (cJ, 256, .inr (.inl EX))), (op, .inl (cJ, 256, .inr (.inl PA)))]) := by
  refine CM_in (cc := cX7_word) (maxL := 4) (ret := (some .int)) (by decide) rfl (Nat.le_of_ble_eq_true rfl) ?_
  intro X hX hret
  show GW X [(o, .inr (7, [.int (nI len), .ref ot, .ref on, .ref od, .ref ow, .int (nI ch), .int (nI va), .int (nI en), .ref oi, .ref oe, .ref op, .long aE, .long aP, .long lt])), (ot, .inl (cI, 200, .inl (fun j_ => nI (T j_)))), (on, .inl (cI, 78, .inl (fun j_ => nI (c j_)))), (od, .inl (cI, 78, .inl (fun j_ => nI (rd j_)))), (ow, .inl (cI, 468, .inl (fun j_ => nI (ww j_)))), (oi, .inl (cI, 32, .inl (fun j_ => nI (wi j_)))), (oe, .inl (cJ, 256, .inr (.inl EX))), (op, .inl (cJ, 256, .inr (.inl PA)))] [(0, .ref o), (1, .int i)] [] 0 0 0
  have b0 := hok.2.1
  have b1 := hok.2.2.1
  have hp2 := p2_8 b0
  have hcd := hok.2.2.2.2.2.1
  refine g_iload_n 1 (hd := dX7_word_0) (C := hX) rfl rfl ?_
  refine g_iconst (v := (-1)) hX dX7_word_1 (by decide) ?_
  refine g_icmp_ge 7 (hd := dX7_word_2) (C := hX) (by decide) (fun c_2 => ?_) (fun c_2 => ?_)
  · refine g_iconst (v := nI 0) hX dX7_word_7 (by decide) ?_
    refine g_istore_n [(0, .ref o), (1, .int i), (2, .int (nI 0))] [1, 2, 0] (hd := dX7_word_8) (C := hX) rfl (by decide) rfl ?_
    refine g_iconst (v := nI 0) hX dX7_word_9 (by decide) ?_
    refine g_istore_n [(0, .ref o), (1, .int i), (2, .int (nI 0)), (3, .int (nI 0))] [1, 2, 3, 0] (hd := dX7_word_10) (C := hX) rfl (by decide) rfl ?_
    have L_11 : ∀ (n_11 : Nat) (w : Nat), 2 ^ c 0 - w < n_11 → (w ≤ 2 ^ c 0) → (∀ v, v < w → inB c v = true → ¬ nI (fb_ct (inB c) v) = i) → GW X [(o, .inr (7, [.int (nI len), .ref ot, .ref on, .ref od, .ref ow, .int (nI ch), .int (nI va), .int (nI en), .ref oi, .ref oe, .ref op, .long aE, .long aP, .long lt])), (ot, .inl (cI, 200, .inl (fun j_ => nI (T j_)))), (on, .inl (cI, 78, .inl (fun j_ => nI (c j_)))), (od, .inl (cI, 78, .inl (fun j_ => nI (rd j_)))), (ow, .inl (cI, 468, .inl (fun j_ => nI (ww j_)))), (oi, .inl (cI, 32, .inl (fun j_ => nI (wi j_)))), (oe, .inl (cJ, 256, .inr (.inl EX))), (op, .inl (cJ, 256, .inr (.inl PA)))] [(0, .ref o), (1, .int i), (2, .int (nI (fb_ct (inB c) w))), (3, .int (nI w))] [] 11 0 0 := by
      intro n_11
      induction n_11 with
      | zero => intro w hm_11; exact absurd hm_11 (Nat.not_lt_zero _)
      | succ n_11 ih_11 =>
        intro w hm_11 hiL hno
        refine g_iload_n 3 (hd := dX7_word_11) (C := hX) rfl rfl ?_
        refine g_aload_n 0 (hd := dX7_word_12) (C := hX) rfl rfl ?_
        refine g_callVs (rest := [.int (nI w)]) hX (c_X7_all l D cC cI cJ cO o ot on od ow oi oe op len ch va en aE aP lt T c rd ww wi EX PA b0) ok_X7_all rfl 0 rfl rfl (hd := dX7_word_13) gX7_word_X7_all ⟨by decide, by decide⟩ rfl (Nat.le_of_ble_eq_true rfl) ⟨Nat.zero_le _, Nat.zero_le _⟩ [0, 1, 2, 3, 4, 5, 6, 7] (by decide) rfl rfl ?_
        intro r_13 e_13
        subst e_13
        show GW X [(o, .inr (7, [.int (nI len), .ref ot, .ref on, .ref od, .ref ow, .int (nI ch), .int (nI va), .int (nI en), .ref oi, .ref oe, .ref op, .long aE, .long aP, .long lt])), (ot, .inl (cI, 200, .inl (fun j_ => nI (T j_)))), (on, .inl (cI, 78, .inl (fun j_ => nI (c j_)))), (od, .inl (cI, 78, .inl (fun j_ => nI (rd j_)))), (ow, .inl (cI, 468, .inl (fun j_ => nI (ww j_)))), (oi, .inl (cI, 32, .inl (fun j_ => nI (wi j_)))), (oe, .inl (cJ, 256, .inr (.inl EX))), (op, .inl (cJ, 256, .inr (.inl PA)))] [(0, .ref o), (1, .int i), (2, .int (nI (fb_ct (inB c) w))), (3, .int (nI w))] [.int (nI (2 ^ c 0)), .int (nI w)] 16 0 0
        refine g_icmp_geN 43 (hd := dX7_word_16) (C := hX) (by decide) (by omega) (by omega) (fun c_16 => ?_) (fun c_16 => ?_)
        · refine g_iload_n 1 (hd := dX7_word_43) (C := hX) rfl rfl ?_
          refine g_if_ge 51 (hd := dX7_word_44) (C := hX) (by decide) (fun c_44 => ?_) (fun c_44 => ?_)
          · refine g_bipush (v := (-4)) hX dX7_word_51 (by decide) ?_
            exact (hret (-4) _ _ (by obtain ⟨j, hj, rfl⟩ := gl_00 c_44; refine Or.inr (Or.inr (Or.inr ⟨j, rfl, hj, Nat.le_of_not_lt (fun z => ?_), rfl⟩)); obtain ⟨w9, h1, h2, h3⟩ := fb_ct_kth z; exact hno w9 (by omega) h2 (by rw [h3]))).2.1 _ rfl rfl dX7_word_53
          · refine g_iload_n 2 (hd := dX7_word_47) (C := hX) rfl rfl ?_
            refine g_goto 53 (hd := dX7_word_48) (C := hX) (by decide) ?_
            exact (hret (nI (fb_ct (inB c) w)) _ _ (Or.inr (Or.inl ⟨gl_0 c_2 c_44, by rw [show w = 2 ^ c 0 from by omega]⟩))).2.1 _ rfl rfl dX7_word_53
        · refine g_aload_n 0 (hd := dX7_word_19) (C := hX) rfl rfl ?_
          refine g_iload_n 3 (hd := dX7_word_20) (C := hX) rfl rfl ?_
          refine g_callVs (rest := []) hX (c_X7_isCode l D cC cI cJ cO o ot on od ow oi oe op len ch va en aE aP lt T c rd ww wi EX PA w (by omega) b0 hcd) ok_X7_isCode rfl 0 rfl rfl (hd := dX7_word_21) gX7_word_X7_isCode ⟨by decide, by decide⟩ rfl (Nat.le_of_ble_eq_true rfl) ⟨Nat.zero_le _, Nat.zero_le _⟩ [0, 1, 2, 3, 4, 5, 6, 7] (by decide) rfl rfl ?_
          intro r_21 e_21
          rcases e_21 with ⟨rfl, p_21⟩ | ⟨rfl, p_21⟩
          · show GW X [(o, .inr (7, [.int (nI len), .ref ot, .ref on, .ref od, .ref ow, .int (nI ch), .int (nI va), .int (nI en), .ref oi, .ref oe, .ref op, .long aE, .long aP, .long lt])), (ot, .inl (cI, 200, .inl (fun j_ => nI (T j_)))), (on, .inl (cI, 78, .inl (fun j_ => nI (c j_)))), (od, .inl (cI, 78, .inl (fun j_ => nI (rd j_)))), (ow, .inl (cI, 468, .inl (fun j_ => nI (ww j_)))), (oi, .inl (cI, 32, .inl (fun j_ => nI (wi j_)))), (oe, .inl (cJ, 256, .inr (.inl EX))), (op, .inl (cJ, 256, .inr (.inl PA)))] [(0, .ref o), (1, .int i), (2, .int (nI (fb_ct (inB c) w))), (3, .int (nI w))] [.int (nI 1)] 24 0 0
            refine g_if_eqN 37 (hd := dX7_word_24) (C := hX) (by decide) (by decide) (fun c_24 => absurd c_24 (by decide)) (fun c_24 => ?_)
            refine g_iload_n 2 (hd := dX7_word_27) (C := hX) rfl rfl ?_
            refine g_iload_n 1 (hd := dX7_word_28) (C := hX) rfl rfl ?_
            refine g_icmp_ne 34 (hd := dX7_word_29) (C := hX) (by decide) (fun c_29 => ?_) (fun c_29 => ?_)
            · refine g_iinc (v := (nI (fb_ct (inB c) w + 1))) 2 [(0, .ref o), (1, .int i), (2, .int (nI (fb_ct (inB c) w + 1))), (3, .int (nI w))] [1, 2, 0, 3] (hd := dX7_word_34) (C := hX) rfl (nI_1 _) (by decide) rfl ?_
              refine g_iinc (v := (nI (w + 1))) 3 [(0, .ref o), (1, .int i), (2, .int (nI (fb_ct (inB c) w + 1))), (3, .int (nI (w + 1)))] [1, 2, 3, 0] (hd := dX7_word_37) (C := hX) rfl (nI_1 _) (by decide) rfl ?_
              refine g_goto 11 (hd := dX7_word_40) (C := hX) (by decide) ?_
              refine g_lve [(0, .ref o), (1, .int i), (2, .int (nI (fb_ct (inB c) (w + 1)))), (3, .int (nI (w + 1)))] (by rw [fb_ct_succ, if_pos p_21]) ?_
              exact ih_11 (w + 1) (by omega) (by omega) (fun v hv hb => by rcases Nat.lt_or_ge v w with q | q; exact hno v q hb; rw [show v = w from by omega]; exact c_29)
            · refine g_iload_n 3 (hd := dX7_word_32) (C := hX) rfl rfl ?_
              exact (hret (nI w) _ _ (Or.inr (Or.inr (Or.inl ⟨_, w, c_29.symm, ct_lt p_21 c_16, c_16, p_21, rfl, rfl⟩)))).2.1 _ rfl rfl dX7_word_33
          · show GW X [(o, .inr (7, [.int (nI len), .ref ot, .ref on, .ref od, .ref ow, .int (nI ch), .int (nI va), .int (nI en), .ref oi, .ref oe, .ref op, .long aE, .long aP, .long lt])), (ot, .inl (cI, 200, .inl (fun j_ => nI (T j_)))), (on, .inl (cI, 78, .inl (fun j_ => nI (c j_)))), (od, .inl (cI, 78, .inl (fun j_ => nI (rd j_)))), (ow, .inl (cI, 468, .inl (fun j_ => nI (ww j_)))), (oi, .inl (cI, 32, .inl (fun j_ => nI (wi j_)))), (oe, .inl (cJ, 256, .inr (.inl EX))), (op, .inl (cJ, 256, .inr (.inl PA)))] [(0, .ref o), (1, .int i), (2, .int (nI (fb_ct (inB c) w))), (3, .int (nI w))] [.int (nI 0)] 24 0 0
            refine g_if_eqN 37 (hd := dX7_word_24) (C := hX) (by decide) (by decide) (fun c_24 => ?_) (fun c_24 => absurd c_24 (by decide))
            refine g_iinc (v := (nI (w + 1))) 3 [(0, .ref o), (1, .int i), (2, .int (nI (fb_ct (inB c) w))), (3, .int (nI (w + 1)))] [1, 2, 3, 0] (hd := dX7_word_37) (C := hX) rfl (nI_1 _) (by decide) rfl ?_
            refine g_goto 11 (hd := dX7_word_40) (C := hX) (by decide) ?_
            refine g_lve [(0, .ref o), (1, .int i), (2, .int (nI (fb_ct (inB c) (w + 1)))), (3, .int (nI (w + 1)))] (by rw [show fb_ct (inB c) (w + 1) = fb_ct (inB c) w from by rw [fb_ct_succ, if_neg p_21]; rfl]) ?_
            exact ih_11 (w + 1) (by omega) (by omega) (fun v hv hb => by rcases Nat.lt_or_ge v w with q | q; exact hno v q hb; rw [show v = w from by omega] at hb; exact absurd hb p_21)
    refine g_lve [(0, .ref o), (1, .int i), (2, .int (nI (fb_ct (inB c) 0))), (3, .int (nI 0))] rfl ?_
    exact L_11 _ 0 (Nat.lt_succ_self _) (Nat.zero_le _) (fun v h => absurd h (Nat.not_lt_zero v))
  · refine g_iconst (v := (-1)) hX dX7_word_5 (by decide) ?_
    exact (hret (-1) _ _ (Or.inl ⟨gl_lt c_2, rfl⟩)).2.1 _ rfl rfl dX7_word_6

theorem in_X7_rank_7 : ∀ w ∈ wsX70, w ∈ wsX7_rank := fun _ h => List.mem_cons_of_mem _ (List.mem_append_right _ h)
theorem ok_X7_rank : gOK yX7_rank wsX7_rank ({ frames := 2, cells := 0, slots := 0, locals := 48 }) 4 1 := ⟨⟨_, _, _, rfl⟩, rfl, rfl, by decide, by decide, by decide +kernel⟩
set_option maxRecDepth 100000 in
set_option maxHeartbeats 4000000 in
theorem c_X7_rank (l : Launch) (D : va_G) (cC cI cJ cO : ClassId) (o : Nat) (ot : Nat) (on : Nat) (od : Nat) (ow : Nat) (oi : Nat) (oe : Nat) (op : Nat) (len : Nat) (ch : Nat) (va : Nat) (en : Nat) (aE : Int64) (aP : Int64) (lt : Int64) (T : Nat → Nat) (c : Nat → Nat) (rd : Nat → Nat) (ww : Nat → Nat) (wi : Nat → Nat) (EX : Nat → Int64) (PA : Nat → Int64) (wd : Int32) (hok : okC c) : CM (S := Int32) l D (tyL cC cI cJ cO) yX7_rank wsX7_rank ({ frames := 2, cells := 0, slots := 0, locals := 48 }) [.ref o, .int wd] [(o, .inr (7, [.int (nI len), .ref ot, .ref on, .ref od, .ref ow, .int (nI ch), .int (nI va), .int (nI en), .ref oi, .ref oe, .ref op, .long aE, .long aP, .long lt])), (ot, .inl (cI, 200, .inl (fun j_ => nI (T j_)))), (on, .inl (cI, 78, .inl (fun j_ => nI (c j_)))), (od, .inl (cI, 78, .inl (fun j_ => nI (rd j_)))), (ow, .inl (cI, 468, .inl (fun j_ => nI (ww j_)))), (oi, .inl (cI, 32, .inl (fun j_ => nI (wi j_)))), (oe, .inl (cJ, 256, .inr (.inl EX))), (op, .inl (cJ, 256, .inr (.inl PA)))] (fun r => some (.int r)) (fun r => r = rkS c wd) (fun u_ => [(o, .inr (7, [.int (nI len), .ref ot, .ref on, .ref od, .ref ow, .int (nI ch), .int (nI va), .int (nI en), .ref oi, .ref oe, .ref op, .long aE, .long aP, .long lt])), (ot, .inl (cI, 200, .inl (fun j_ => nI (T j_)))), (on, .inl (cI, 78, .inl (fun j_ => nI (c j_)))), (od, .inl (cI, 78, .inl (fun j_ => nI (rd j_)))), (ow, .inl (cI, 468, .inl (fun j_ => nI (ww j_)))), (oi, .inl (cI, 32, .inl (fun j_ => nI (wi j_)))), (oe, .inl (cJ, 256, .inr (.inl EX))), (op, .inl (cJ, 256, .inr (.inl PA)))]) := by
  refine CM_in (cc := cX7_rank) (maxL := 4) (ret := (some .int)) (by decide) rfl (Nat.le_of_ble_eq_true rfl) ?_
  intro X hX hret
  show GW X [(o, .inr (7, [.int (nI len), .ref ot, .ref on, .ref od, .ref ow, .int (nI ch), .int (nI va), .int (nI en), .ref oi, .ref oe, .ref op, .long aE, .long aP, .long lt])), (ot, .inl (cI, 200, .inl (fun j_ => nI (T j_)))), (on, .inl (cI, 78, .inl (fun j_ => nI (c j_)))), (od, .inl (cI, 78, .inl (fun j_ => nI (rd j_)))), (ow, .inl (cI, 468, .inl (fun j_ => nI (ww j_)))), (oi, .inl (cI, 32, .inl (fun j_ => nI (wi j_)))), (oe, .inl (cJ, 256, .inr (.inl EX))), (op, .inl (cJ, 256, .inr (.inl PA)))] [(0, .ref o), (1, .int wd)] [] 0 0 0
  have b0 := hok.2.1
  have b1 := hok.2.2.1
  have hp2 := p2_8 b0
  have hcd := hok.2.2.2.2.2.1
  refine g_aload_n 0 (hd := dX7_rank_0) (C := hX) rfl rfl ?_
  refine g_iload_n 1 (hd := dX7_rank_1) (C := hX) rfl rfl ?_
  refine g_callVs (rest := []) hX (c_X7_isWord l D cC cI cJ cO o ot on od ow oi oe op len ch va en aE aP lt T c rd ww wi EX PA wd b0) ok_X7_isWord rfl 0 rfl rfl (hd := dX7_rank_2) gX7_rank_X7_isWord ⟨by decide, by decide⟩ rfl (Nat.le_of_ble_eq_true rfl) ⟨Nat.zero_le _, Nat.zero_le _⟩ [0, 1, 2, 3, 4, 5, 6, 7] (by decide) rfl rfl ?_
  intro r_2 e_2
  rcases e_2 with ⟨rfl, p_2⟩ | ⟨rfl, p_2⟩
  · show GW X [(o, .inr (7, [.int (nI len), .ref ot, .ref on, .ref od, .ref ow, .int (nI ch), .int (nI va), .int (nI en), .ref oi, .ref oe, .ref op, .long aE, .long aP, .long lt])), (ot, .inl (cI, 200, .inl (fun j_ => nI (T j_)))), (on, .inl (cI, 78, .inl (fun j_ => nI (c j_)))), (od, .inl (cI, 78, .inl (fun j_ => nI (rd j_)))), (ow, .inl (cI, 468, .inl (fun j_ => nI (ww j_)))), (oi, .inl (cI, 32, .inl (fun j_ => nI (wi j_)))), (oe, .inl (cJ, 256, .inr (.inl EX))), (op, .inl (cJ, 256, .inr (.inl PA)))] [(0, .ref o), (1, .int wd)] [.int (nI 1)] 5 0 0
    refine g_if_neN 10 (hd := dX7_rank_5) (C := hX) (by decide) (by decide) (fun c_5 => ?_) (fun c_5 => absurd c_5 (by decide))
    obtain ⟨jwd, hjwd, rfl⟩ := vp_in_of p_2 (by omega)
    refine g_iconst (v := nI 0) hX dX7_rank_10 (by decide) ?_
    refine g_istore_n [(0, .ref o), (1, .int (nI jwd)), (2, .int (nI 0))] [1, 2, 0] (hd := dX7_rank_11) (C := hX) rfl (by decide) rfl ?_
    refine g_iconst (v := nI 0) hX dX7_rank_12 (by decide) ?_
    refine g_istore_n [(0, .ref o), (1, .int (nI jwd)), (2, .int (nI 0)), (3, .int (nI 0))] [1, 2, 3, 0] (hd := dX7_rank_13) (C := hX) rfl (by decide) rfl ?_
    have L_14 : ∀ (n_14 : Nat) (i : Nat), jwd - i < n_14 → (i ≤ jwd) → GW X [(o, .inr (7, [.int (nI len), .ref ot, .ref on, .ref od, .ref ow, .int (nI ch), .int (nI va), .int (nI en), .ref oi, .ref oe, .ref op, .long aE, .long aP, .long lt])), (ot, .inl (cI, 200, .inl (fun j_ => nI (T j_)))), (on, .inl (cI, 78, .inl (fun j_ => nI (c j_)))), (od, .inl (cI, 78, .inl (fun j_ => nI (rd j_)))), (ow, .inl (cI, 468, .inl (fun j_ => nI (ww j_)))), (oi, .inl (cI, 32, .inl (fun j_ => nI (wi j_)))), (oe, .inl (cJ, 256, .inr (.inl EX))), (op, .inl (cJ, 256, .inr (.inl PA)))] [(0, .ref o), (1, .int (nI jwd)), (2, .int (nI (fb_ct (inB c) i))), (3, .int (nI i))] [] 14 0 0 := by
      intro n_14
      induction n_14 with
      | zero => intro i hm_14; exact absurd hm_14 (Nat.not_lt_zero _)
      | succ n_14 ih_14 =>
        intro i hm_14 hiL
        refine g_iload_n 3 (hd := dX7_rank_14) (C := hX) rfl rfl ?_
        refine g_iload_n 1 (hd := dX7_rank_15) (C := hX) rfl rfl ?_
        refine g_icmp_geN 41 (hd := dX7_rank_16) (C := hX) (by decide) (by omega) (by omega) (fun c_16 => ?_) (fun c_16 => ?_)
        · refine g_aload_n 0 (hd := dX7_rank_41) (C := hX) rfl rfl ?_
          refine g_iload_n 1 (hd := dX7_rank_42) (C := hX) rfl rfl ?_
          refine g_callVs (rest := []) hX (c_X7_isCode l D cC cI cJ cO o ot on od ow oi oe op len ch va en aE aP lt T c rd ww wi EX PA jwd (by omega) b0 hcd) ok_X7_isCode rfl 0 rfl rfl (hd := dX7_rank_43) gX7_rank_X7_isCode ⟨by decide, by decide⟩ rfl (Nat.le_of_ble_eq_true rfl) ⟨Nat.zero_le _, Nat.zero_le _⟩ [0, 1, 2, 3, 4, 5, 6, 7] (by decide) rfl rfl ?_
          intro r_43 e_43
          rcases e_43 with ⟨rfl, p_43⟩ | ⟨rfl, p_43⟩
          · show GW X [(o, .inr (7, [.int (nI len), .ref ot, .ref on, .ref od, .ref ow, .int (nI ch), .int (nI va), .int (nI en), .ref oi, .ref oe, .ref op, .long aE, .long aP, .long lt])), (ot, .inl (cI, 200, .inl (fun j_ => nI (T j_)))), (on, .inl (cI, 78, .inl (fun j_ => nI (c j_)))), (od, .inl (cI, 78, .inl (fun j_ => nI (rd j_)))), (ow, .inl (cI, 468, .inl (fun j_ => nI (ww j_)))), (oi, .inl (cI, 32, .inl (fun j_ => nI (wi j_)))), (oe, .inl (cJ, 256, .inr (.inl EX))), (op, .inl (cJ, 256, .inr (.inl PA)))] [(0, .ref o), (1, .int (nI jwd)), (2, .int (nI (fb_ct (inB c) i))), (3, .int (nI i))] [.int (nI 1)] 46 0 0
            refine g_if_eqN 53 (hd := dX7_rank_46) (C := hX) (by decide) (by decide) (fun c_46 => absurd c_46 (by decide)) (fun c_46 => ?_)
            refine g_iload_n 2 (hd := dX7_rank_49) (C := hX) rfl rfl ?_
            refine g_goto 55 (hd := dX7_rank_50) (C := hX) (by decide) ?_
            exact (hret (nI (fb_ct (inB c) i)) _ _ (by unfold rkS; rw [iP_y p_2, cl_nI (by omega), if_pos p_43, show i = jwd from by omega])).2.1 _ rfl rfl dX7_rank_55
          · show GW X [(o, .inr (7, [.int (nI len), .ref ot, .ref on, .ref od, .ref ow, .int (nI ch), .int (nI va), .int (nI en), .ref oi, .ref oe, .ref op, .long aE, .long aP, .long lt])), (ot, .inl (cI, 200, .inl (fun j_ => nI (T j_)))), (on, .inl (cI, 78, .inl (fun j_ => nI (c j_)))), (od, .inl (cI, 78, .inl (fun j_ => nI (rd j_)))), (ow, .inl (cI, 468, .inl (fun j_ => nI (ww j_)))), (oi, .inl (cI, 32, .inl (fun j_ => nI (wi j_)))), (oe, .inl (cJ, 256, .inr (.inl EX))), (op, .inl (cJ, 256, .inr (.inl PA)))] [(0, .ref o), (1, .int (nI jwd)), (2, .int (nI (fb_ct (inB c) i))), (3, .int (nI i))] [.int (nI 0)] 46 0 0
            refine g_if_eqN 53 (hd := dX7_rank_46) (C := hX) (by decide) (by decide) (fun c_46 => ?_) (fun c_46 => absurd c_46 (by decide))
            refine g_bipush (v := (-4)) hX dX7_rank_53 (by decide) ?_
            exact (hret (-4) _ _ (by unfold rkS; rw [iP_y p_2, cl_nI (by omega), if_neg p_43])).2.1 _ rfl rfl dX7_rank_55
        · refine g_iload_n 2 (hd := dX7_rank_19) (C := hX) rfl rfl ?_
          refine g_aload_n 0 (hd := dX7_rank_20) (C := hX) rfl rfl ?_
          refine g_iload_n 3 (hd := dX7_rank_21) (C := hX) rfl rfl ?_
          refine g_callVs (rest := [.int (nI (fb_ct (inB c) i))]) hX (c_X7_isCode l D cC cI cJ cO o ot on od ow oi oe op len ch va en aE aP lt T c rd ww wi EX PA i (by omega) b0 hcd) ok_X7_isCode rfl 0 rfl rfl (hd := dX7_rank_22) gX7_rank_X7_isCode ⟨by decide, by decide⟩ rfl (Nat.le_of_ble_eq_true rfl) ⟨Nat.zero_le _, Nat.zero_le _⟩ [0, 1, 2, 3, 4, 5, 6, 7] (by decide) rfl rfl ?_
          intro r_22 e_22
          rcases e_22 with ⟨rfl, p_22⟩ | ⟨rfl, p_22⟩
          · show GW X [(o, .inr (7, [.int (nI len), .ref ot, .ref on, .ref od, .ref ow, .int (nI ch), .int (nI va), .int (nI en), .ref oi, .ref oe, .ref op, .long aE, .long aP, .long lt])), (ot, .inl (cI, 200, .inl (fun j_ => nI (T j_)))), (on, .inl (cI, 78, .inl (fun j_ => nI (c j_)))), (od, .inl (cI, 78, .inl (fun j_ => nI (rd j_)))), (ow, .inl (cI, 468, .inl (fun j_ => nI (ww j_)))), (oi, .inl (cI, 32, .inl (fun j_ => nI (wi j_)))), (oe, .inl (cJ, 256, .inr (.inl EX))), (op, .inl (cJ, 256, .inr (.inl PA)))] [(0, .ref o), (1, .int (nI jwd)), (2, .int (nI (fb_ct (inB c) i))), (3, .int (nI i))] [.int (nI 1), .int (nI (fb_ct (inB c) i))] 25 0 0
            refine g_if_eqN 32 (hd := dX7_rank_25) (C := hX) (by decide) (by decide) (fun c_25 => absurd c_25 (by decide)) (fun c_25 => ?_)
            refine g_iconst (v := nI 1) hX dX7_rank_28 (by decide) ?_
            refine g_goto 33 (hd := dX7_rank_29) (C := hX) (by decide) ?_
            refine g_iadd hX dX7_rank_33 ?_
            refine g_top (y := (nI ((fb_ct (inB c) i) + 1))) (nI_add _ _) ?_
            refine g_istore_n [(0, .ref o), (1, .int (nI jwd)), (2, .int (nI ((fb_ct (inB c) i) + 1))), (3, .int (nI i))] [1, 2, 0, 3] (hd := dX7_rank_34) (C := hX) rfl (by decide) rfl ?_
            refine g_iinc (v := (nI (i + 1))) 3 [(0, .ref o), (1, .int (nI jwd)), (2, .int (nI ((fb_ct (inB c) i) + 1))), (3, .int (nI (i + 1)))] [1, 2, 3, 0] (hd := dX7_rank_35) (C := hX) rfl (nI_1 _) (by decide) rfl ?_
            refine g_goto 14 (hd := dX7_rank_38) (C := hX) (by decide) ?_
            refine g_lve [(0, .ref o), (1, .int (nI jwd)), (2, .int (nI (fb_ct (inB c) (i + 1)))), (3, .int (nI (i + 1)))] (by rw [fb_ct_succ]; first | rw [if_pos p_22] | rw [if_neg p_22]) ?_
            exact ih_14 (i + 1) (by omega) (by omega)
          · show GW X [(o, .inr (7, [.int (nI len), .ref ot, .ref on, .ref od, .ref ow, .int (nI ch), .int (nI va), .int (nI en), .ref oi, .ref oe, .ref op, .long aE, .long aP, .long lt])), (ot, .inl (cI, 200, .inl (fun j_ => nI (T j_)))), (on, .inl (cI, 78, .inl (fun j_ => nI (c j_)))), (od, .inl (cI, 78, .inl (fun j_ => nI (rd j_)))), (ow, .inl (cI, 468, .inl (fun j_ => nI (ww j_)))), (oi, .inl (cI, 32, .inl (fun j_ => nI (wi j_)))), (oe, .inl (cJ, 256, .inr (.inl EX))), (op, .inl (cJ, 256, .inr (.inl PA)))] [(0, .ref o), (1, .int (nI jwd)), (2, .int (nI (fb_ct (inB c) i))), (3, .int (nI i))] [.int (nI 0), .int (nI (fb_ct (inB c) i))] 25 0 0
            refine g_if_eqN 32 (hd := dX7_rank_25) (C := hX) (by decide) (by decide) (fun c_25 => ?_) (fun c_25 => absurd c_25 (by decide))
            refine g_iconst (v := nI 0) hX dX7_rank_32 (by decide) ?_
            refine g_iadd hX dX7_rank_33 ?_
            refine g_top (y := (nI ((fb_ct (inB c) i) + 0))) (nI_add _ _) ?_
            refine g_istore_n [(0, .ref o), (1, .int (nI jwd)), (2, .int (nI ((fb_ct (inB c) i) + 0))), (3, .int (nI i))] [1, 2, 0, 3] (hd := dX7_rank_34) (C := hX) rfl (by decide) rfl ?_
            refine g_iinc (v := (nI (i + 1))) 3 [(0, .ref o), (1, .int (nI jwd)), (2, .int (nI ((fb_ct (inB c) i) + 0))), (3, .int (nI (i + 1)))] [1, 2, 3, 0] (hd := dX7_rank_35) (C := hX) rfl (nI_1 _) (by decide) rfl ?_
            refine g_goto 14 (hd := dX7_rank_38) (C := hX) (by decide) ?_
            refine g_lve [(0, .ref o), (1, .int (nI jwd)), (2, .int (nI (fb_ct (inB c) (i + 1)))), (3, .int (nI (i + 1)))] (by rw [fb_ct_succ]; first | rw [if_pos p_22] | rw [if_neg p_22]) ?_
            exact ih_14 (i + 1) (by omega) (by omega)
    refine g_lve [(0, .ref o), (1, .int (nI jwd)), (2, .int (nI (fb_ct (inB c) 0))), (3, .int (nI 0))] rfl ?_
    exact L_14 _ 0 (Nat.lt_succ_self _) (Nat.zero_le _)
  · show GW X [(o, .inr (7, [.int (nI len), .ref ot, .ref on, .ref od, .ref ow, .int (nI ch), .int (nI va), .int (nI en), .ref oi, .ref oe, .ref op, .long aE, .long aP, .long lt])), (ot, .inl (cI, 200, .inl (fun j_ => nI (T j_)))), (on, .inl (cI, 78, .inl (fun j_ => nI (c j_)))), (od, .inl (cI, 78, .inl (fun j_ => nI (rd j_)))), (ow, .inl (cI, 468, .inl (fun j_ => nI (ww j_)))), (oi, .inl (cI, 32, .inl (fun j_ => nI (wi j_)))), (oe, .inl (cJ, 256, .inr (.inl EX))), (op, .inl (cJ, 256, .inr (.inl PA)))] [(0, .ref o), (1, .int wd)] [.int (nI 0)] 5 0 0
    refine g_if_neN 10 (hd := dX7_rank_5) (C := hX) (by decide) (by decide) (fun c_5 => absurd c_5 (by decide)) (fun c_5 => ?_)
    refine g_iconst (v := (-1)) hX dX7_rank_8 (by decide) ?_
    exact (hret (-1) _ _ (iP_n p_2).symm).2.1 _ rfl rfl dX7_rank_9

theorem in_X7_missed_7 : ∀ w ∈ wsX70, w ∈ wsX7_missed := fun _ h => List.mem_cons_of_mem _ (List.mem_append_right _ h)
theorem ok_X7_missed : gOK yX7_missed wsX7_missed ({ frames := 2, cells := 0, slots := 0, locals := 48 }) 4 0 := ⟨⟨_, _, _, rfl⟩, rfl, rfl, by decide, by decide, by decide +kernel⟩
set_option maxRecDepth 100000 in
set_option maxHeartbeats 4000000 in
theorem c_X7_missed (l : Launch) (D : va_G) (cC cI cJ cO : ClassId) (o : Nat) (ot : Nat) (on : Nat) (od : Nat) (ow : Nat) (oi : Nat) (oe : Nat) (op : Nat) (len : Nat) (ch : Nat) (va : Nat) (en : Nat) (aE : Int64) (aP : Int64) (lt : Int64) (T : Nat → Nat) (c : Nat → Nat) (rd : Nat → Nat) (ww : Nat → Nat) (wi : Nat → Nat) (EX : Nat → Int64) (PA : Nat → Int64) (hok : okC c) : CM (S := Int32) l D (tyL cC cI cJ cO) yX7_missed wsX7_missed ({ frames := 2, cells := 0, slots := 0, locals := 48 }) [.ref o] [(o, .inr (7, [.int (nI len), .ref ot, .ref on, .ref od, .ref ow, .int (nI ch), .int (nI va), .int (nI en), .ref oi, .ref oe, .ref op, .long aE, .long aP, .long lt])), (ot, .inl (cI, 200, .inl (fun j_ => nI (T j_)))), (on, .inl (cI, 78, .inl (fun j_ => nI (c j_)))), (od, .inl (cI, 78, .inl (fun j_ => nI (rd j_)))), (ow, .inl (cI, 468, .inl (fun j_ => nI (ww j_)))), (oi, .inl (cI, 32, .inl (fun j_ => nI (wi j_)))), (oe, .inl (cJ, 256, .inr (.inl EX))), (op, .inl (cJ, 256, .inr (.inl PA)))] (fun r => some (.int r)) (fun r => r = nI (msO c (2 ^ c 0))) (fun u_ => [(o, .inr (7, [.int (nI len), .ref ot, .ref on, .ref od, .ref ow, .int (nI ch), .int (nI va), .int (nI en), .ref oi, .ref oe, .ref op, .long aE, .long aP, .long lt])), (ot, .inl (cI, 200, .inl (fun j_ => nI (T j_)))), (on, .inl (cI, 78, .inl (fun j_ => nI (c j_)))), (od, .inl (cI, 78, .inl (fun j_ => nI (rd j_)))), (ow, .inl (cI, 468, .inl (fun j_ => nI (ww j_)))), (oi, .inl (cI, 32, .inl (fun j_ => nI (wi j_)))), (oe, .inl (cJ, 256, .inr (.inl EX))), (op, .inl (cJ, 256, .inr (.inl PA)))]) := by
  refine CM_in (cc := cX7_missed) (maxL := 4) (ret := (some .int)) (by decide) rfl (Nat.le_of_ble_eq_true rfl) ?_
  intro X hX hret
  show GW X [(o, .inr (7, [.int (nI len), .ref ot, .ref on, .ref od, .ref ow, .int (nI ch), .int (nI va), .int (nI en), .ref oi, .ref oe, .ref op, .long aE, .long aP, .long lt])), (ot, .inl (cI, 200, .inl (fun j_ => nI (T j_)))), (on, .inl (cI, 78, .inl (fun j_ => nI (c j_)))), (od, .inl (cI, 78, .inl (fun j_ => nI (rd j_)))), (ow, .inl (cI, 468, .inl (fun j_ => nI (ww j_)))), (oi, .inl (cI, 32, .inl (fun j_ => nI (wi j_)))), (oe, .inl (cJ, 256, .inr (.inl EX))), (op, .inl (cJ, 256, .inr (.inl PA)))] [(0, .ref o)] [] 0 0 0
  have b0 := hok.2.1
  have b1 := hok.2.2.1
  have hp2 := p2_8 b0
  have hcd := hok.2.2.2.2.2.1
  refine g_iconst (v := nI 0) hX dX7_missed_0 (by decide) ?_
  refine g_istore_n [(0, .ref o), (1, .int (nI 0))] [1, 0] (hd := dX7_missed_1) (C := hX) rfl (by decide) rfl ?_
  refine g_iconst (v := nI 0) hX dX7_missed_2 (by decide) ?_
  refine g_istore_n [(0, .ref o), (1, .int (nI 0)), (2, .int (nI 0))] [1, 2, 0] (hd := dX7_missed_3) (C := hX) rfl (by decide) rfl ?_
  have L_4 : ∀ (n_4 : Nat) (w : Nat), 2 ^ c 0 - w < n_4 → (w ≤ 2 ^ c 0) → GW X [(o, .inr (7, [.int (nI len), .ref ot, .ref on, .ref od, .ref ow, .int (nI ch), .int (nI va), .int (nI en), .ref oi, .ref oe, .ref op, .long aE, .long aP, .long lt])), (ot, .inl (cI, 200, .inl (fun j_ => nI (T j_)))), (on, .inl (cI, 78, .inl (fun j_ => nI (c j_)))), (od, .inl (cI, 78, .inl (fun j_ => nI (rd j_)))), (ow, .inl (cI, 468, .inl (fun j_ => nI (ww j_)))), (oi, .inl (cI, 32, .inl (fun j_ => nI (wi j_)))), (oe, .inl (cJ, 256, .inr (.inl EX))), (op, .inl (cJ, 256, .inr (.inl PA)))] [(0, .ref o), (1, .int (nI (msO c w))), (2, .int (nI w))] [] 4 0 0 := by
    intro n_4
    induction n_4 with
    | zero => intro w hm_4; exact absurd hm_4 (Nat.not_lt_zero _)
    | succ n_4 ih_4 =>
      intro w hm_4 hiL
      refine g_iload_n 2 (hd := dX7_missed_4) (C := hX) rfl rfl ?_
      refine g_aload_n 0 (hd := dX7_missed_5) (C := hX) rfl rfl ?_
      refine g_callVs (rest := [.int (nI w)]) hX (c_X7_all l D cC cI cJ cO o ot on od ow oi oe op len ch va en aE aP lt T c rd ww wi EX PA b0) ok_X7_all rfl 0 rfl rfl (hd := dX7_missed_6) gX7_missed_X7_all ⟨by decide, by decide⟩ rfl (Nat.le_of_ble_eq_true rfl) ⟨Nat.zero_le _, Nat.zero_le _⟩ [0, 1, 2, 3, 4, 5, 6, 7] (by decide) rfl rfl ?_
      intro r_6 e_6
      subst e_6
      show GW X [(o, .inr (7, [.int (nI len), .ref ot, .ref on, .ref od, .ref ow, .int (nI ch), .int (nI va), .int (nI en), .ref oi, .ref oe, .ref op, .long aE, .long aP, .long lt])), (ot, .inl (cI, 200, .inl (fun j_ => nI (T j_)))), (on, .inl (cI, 78, .inl (fun j_ => nI (c j_)))), (od, .inl (cI, 78, .inl (fun j_ => nI (rd j_)))), (ow, .inl (cI, 468, .inl (fun j_ => nI (ww j_)))), (oi, .inl (cI, 32, .inl (fun j_ => nI (wi j_)))), (oe, .inl (cJ, 256, .inr (.inl EX))), (op, .inl (cJ, 256, .inr (.inl PA)))] [(0, .ref o), (1, .int (nI (msO c w))), (2, .int (nI w))] [.int (nI (2 ^ c 0)), .int (nI w)] 9 0 0
      refine g_icmp_geN 77 (hd := dX7_missed_9) (C := hX) (by decide) (by omega) (by omega) (fun c_9 => ?_) (fun c_9 => ?_)
      · refine g_iload_n 1 (hd := dX7_missed_77) (C := hX) rfl rfl ?_
        exact (hret (nI (msO c w)) _ _ (by rw [show w = 2 ^ c 0 from by omega])).2.1 _ rfl rfl dX7_missed_78
      · refine g_iconst (v := nI 0) hX dX7_missed_12 (by decide) ?_
        refine g_istore_n [(0, .ref o), (1, .int (nI (msO c w))), (2, .int (nI w)), (3, .int (nI 0))] [1, 2, 3, 0] (hd := dX7_missed_13) (C := hX) rfl (by decide) rfl ?_
        have L_14 : ∀ (n_14 : Nat) (v : Nat), 2 ^ c 0 - v < n_14 → (v ≤ 2 ^ c 0) → GW X [(o, .inr (7, [.int (nI len), .ref ot, .ref on, .ref od, .ref ow, .int (nI ch), .int (nI va), .int (nI en), .ref oi, .ref oe, .ref op, .long aE, .long aP, .long lt])), (ot, .inl (cI, 200, .inl (fun j_ => nI (T j_)))), (on, .inl (cI, 78, .inl (fun j_ => nI (c j_)))), (od, .inl (cI, 78, .inl (fun j_ => nI (rd j_)))), (ow, .inl (cI, 468, .inl (fun j_ => nI (ww j_)))), (oi, .inl (cI, 32, .inl (fun j_ => nI (wi j_)))), (oe, .inl (cJ, 256, .inr (.inl EX))), (op, .inl (cJ, 256, .inr (.inl PA)))] [(0, .ref o), (1, .int (nI (msO c w + fb_ct (mB c w) v))), (2, .int (nI w)), (3, .int (nI v))] [] 14 0 0 := by
          intro n_14
          induction n_14 with
          | zero => intro v hm_14; exact absurd hm_14 (Nat.not_lt_zero _)
          | succ n_14 ih_14 =>
            intro v hm_14 hvL
            refine g_iload_n 3 (hd := dX7_missed_14) (C := hX) rfl rfl ?_
            refine g_aload_n 0 (hd := dX7_missed_15) (C := hX) rfl rfl ?_
            refine g_callVs (rest := [.int (nI v)]) hX (c_X7_all l D cC cI cJ cO o ot on od ow oi oe op len ch va en aE aP lt T c rd ww wi EX PA b0) ok_X7_all rfl 0 rfl rfl (hd := dX7_missed_16) gX7_missed_X7_all ⟨by decide, by decide⟩ rfl (Nat.le_of_ble_eq_true rfl) ⟨Nat.zero_le _, Nat.zero_le _⟩ [0, 1, 2, 3, 4, 5, 6, 7] (by decide) rfl rfl ?_
            intro r_16 e_16
            subst e_16
            show GW X [(o, .inr (7, [.int (nI len), .ref ot, .ref on, .ref od, .ref ow, .int (nI ch), .int (nI va), .int (nI en), .ref oi, .ref oe, .ref op, .long aE, .long aP, .long lt])), (ot, .inl (cI, 200, .inl (fun j_ => nI (T j_)))), (on, .inl (cI, 78, .inl (fun j_ => nI (c j_)))), (od, .inl (cI, 78, .inl (fun j_ => nI (rd j_)))), (ow, .inl (cI, 468, .inl (fun j_ => nI (ww j_)))), (oi, .inl (cI, 32, .inl (fun j_ => nI (wi j_)))), (oe, .inl (cJ, 256, .inr (.inl EX))), (op, .inl (cJ, 256, .inr (.inl PA)))] [(0, .ref o), (1, .int (nI (msO c w + fb_ct (mB c w) v))), (2, .int (nI w)), (3, .int (nI v))] [.int (nI (2 ^ c 0)), .int (nI v)] 19 0 0
            refine g_icmp_geN 71 (hd := dX7_missed_19) (C := hX) (by decide) (by omega) (by omega) (fun c_19 => ?_) (fun c_19 => ?_)
            · refine g_iinc (v := (nI (w + 1))) 2 [(0, .ref o), (1, .int (nI (msO c w + fb_ct (mB c w) v))), (2, .int (nI (w + 1))), (3, .int (nI v))] [1, 2, 0, 3] (hd := dX7_missed_71) (C := hX) rfl (nI_1 _) (by decide) rfl ?_
              refine g_goto 4 (hd := dX7_missed_74) (C := hX) (by decide) ?_
              refine g_lv [(0, .ref o), (1, .int (nI (msO c w + fb_ct (mB c w) v))), (2, .int (nI (w + 1)))] [0, 1, 2] rfl ?_
              refine g_lve [(0, .ref o), (1, .int (nI (msO c (w + 1)))), (2, .int (nI (w + 1)))] (by simp only [msO]; rw [show v = 2 ^ c 0 from by omega]) ?_
              exact ih_4 (w + 1) (by omega) (by omega)
            · refine g_aload_n 0 (hd := dX7_missed_22) (C := hX) rfl rfl ?_
              refine g_iload_n 2 (hd := dX7_missed_23) (C := hX) rfl rfl ?_
              refine g_callVs (rest := []) hX (c_X7_isCode l D cC cI cJ cO o ot on od ow oi oe op len ch va en aE aP lt T c rd ww wi EX PA w (by omega) b0 hcd) ok_X7_isCode rfl 0 rfl rfl (hd := dX7_missed_24) gX7_missed_X7_isCode ⟨by decide, by decide⟩ rfl (Nat.le_of_ble_eq_true rfl) ⟨Nat.zero_le _, Nat.zero_le _⟩ [0, 1, 2, 3, 4, 5, 6, 7] (by decide) rfl rfl ?_
              intro r_24 e_24
              rcases e_24 with ⟨rfl, p_24⟩ | ⟨rfl, p_24⟩
              · show GW X [(o, .inr (7, [.int (nI len), .ref ot, .ref on, .ref od, .ref ow, .int (nI ch), .int (nI va), .int (nI en), .ref oi, .ref oe, .ref op, .long aE, .long aP, .long lt])), (ot, .inl (cI, 200, .inl (fun j_ => nI (T j_)))), (on, .inl (cI, 78, .inl (fun j_ => nI (c j_)))), (od, .inl (cI, 78, .inl (fun j_ => nI (rd j_)))), (ow, .inl (cI, 468, .inl (fun j_ => nI (ww j_)))), (oi, .inl (cI, 32, .inl (fun j_ => nI (wi j_)))), (oe, .inl (cJ, 256, .inr (.inl EX))), (op, .inl (cJ, 256, .inr (.inl PA)))] [(0, .ref o), (1, .int (nI (msO c w + fb_ct (mB c w) v))), (2, .int (nI w)), (3, .int (nI v))] [.int (nI 1)] 27 0 0
                refine g_if_eqN 71 (hd := dX7_missed_27) (C := hX) (by decide) (by decide) (fun c_27 => absurd c_27 (by decide)) (fun c_27 => ?_)
                refine g_iload_n 1 (hd := dX7_missed_30) (C := hX) rfl rfl ?_
                refine g_iload_n 3 (hd := dX7_missed_31) (C := hX) rfl rfl ?_
                refine g_iload_n 2 (hd := dX7_missed_32) (C := hX) rfl rfl ?_
                refine g_icmp_eqN 62 (hd := dX7_missed_33) (C := hX) (by decide) (by omega) (by omega) (fun c_33 => ?_) (fun c_33 => ?_)
                · refine g_iconst (v := nI 0) hX dX7_missed_62 (by decide) ?_
                  refine g_iadd hX dX7_missed_63 ?_
                  refine g_top (y := (nI ((msO c w + fb_ct (mB c w) v) + 0))) (nI_add _ _) ?_
                  refine g_istore_n [(0, .ref o), (1, .int (nI ((msO c w + fb_ct (mB c w) v) + 0))), (2, .int (nI w)), (3, .int (nI v))] [1, 0, 2, 3] (hd := dX7_missed_64) (C := hX) rfl (by decide) rfl ?_
                  refine g_iinc (v := (nI (v + 1))) 3 [(0, .ref o), (1, .int (nI ((msO c w + fb_ct (mB c w) v) + 0))), (2, .int (nI w)), (3, .int (nI (v + 1)))] [1, 2, 3, 0] (hd := dX7_missed_65) (C := hX) rfl (nI_1 _) (by decide) rfl ?_
                  refine g_goto 14 (hd := dX7_missed_68) (C := hX) (by decide) ?_
                  refine g_lve [(0, .ref o), (1, .int (nI (msO c w + fb_ct (mB c w) (v + 1)))), (2, .int (nI w)), (3, .int (nI (v + 1)))] (by simp [fb_ct_succ, mB, p_24, c_33, Nat.add_assoc]) ?_
                  exact ih_14 (v + 1) (by omega) (by omega)
                · have q1 : v &&& w ≤ w := Nat.and_le_right
                  refine g_iload_n 3 (hd := dX7_missed_36) (C := hX) rfl rfl ?_
                  refine g_iload_n 2 (hd := dX7_missed_37) (C := hX) rfl rfl ?_
                  refine g_iand hX dX7_missed_38 ?_
                  refine g_top (y := (nI (v &&& w))) (nx_and _ _) ?_
                  refine g_iload_n 2 (hd := dX7_missed_39) (C := hX) rfl rfl ?_
                  refine g_icmp_eqN 50 (hd := dX7_missed_40) (C := hX) (by decide) (by omega) (by omega) (fun c_40 => ?_) (fun c_40 => ?_)
                  · refine g_aload_n 0 (hd := dX7_missed_50) (C := hX) rfl rfl ?_
                    refine g_iload_n 3 (hd := dX7_missed_51) (C := hX) rfl rfl ?_
                    refine g_callVs (rest := [.int (nI (msO c w + fb_ct (mB c w) v))]) hX (c_X7_isCode l D cC cI cJ cO o ot on od ow oi oe op len ch va en aE aP lt T c rd ww wi EX PA v (by omega) b0 hcd) ok_X7_isCode rfl 0 rfl rfl (hd := dX7_missed_52) gX7_missed_X7_isCode ⟨by decide, by decide⟩ rfl (Nat.le_of_ble_eq_true rfl) ⟨Nat.zero_le _, Nat.zero_le _⟩ [0, 1, 2, 3, 4, 5, 6, 7] (by decide) rfl rfl ?_
                    intro r_52 e_52
                    rcases e_52 with ⟨rfl, p_52⟩ | ⟨rfl, p_52⟩
                    · show GW X [(o, .inr (7, [.int (nI len), .ref ot, .ref on, .ref od, .ref ow, .int (nI ch), .int (nI va), .int (nI en), .ref oi, .ref oe, .ref op, .long aE, .long aP, .long lt])), (ot, .inl (cI, 200, .inl (fun j_ => nI (T j_)))), (on, .inl (cI, 78, .inl (fun j_ => nI (c j_)))), (od, .inl (cI, 78, .inl (fun j_ => nI (rd j_)))), (ow, .inl (cI, 468, .inl (fun j_ => nI (ww j_)))), (oi, .inl (cI, 32, .inl (fun j_ => nI (wi j_)))), (oe, .inl (cJ, 256, .inr (.inl EX))), (op, .inl (cJ, 256, .inr (.inl PA)))] [(0, .ref o), (1, .int (nI (msO c w + fb_ct (mB c w) v))), (2, .int (nI w)), (3, .int (nI v))] [.int (nI 1), .int (nI (msO c w + fb_ct (mB c w) v))] 55 0 0
                      refine g_if_eqN 62 (hd := dX7_missed_55) (C := hX) (by decide) (by decide) (fun c_55 => absurd c_55 (by decide)) (fun c_55 => ?_)
                      refine g_iconst (v := nI 1) hX dX7_missed_58 (by decide) ?_
                      refine g_goto 63 (hd := dX7_missed_59) (C := hX) (by decide) ?_
                      refine g_iadd hX dX7_missed_63 ?_
                      refine g_top (y := (nI ((msO c w + fb_ct (mB c w) v) + 1))) (nI_add _ _) ?_
                      refine g_istore_n [(0, .ref o), (1, .int (nI ((msO c w + fb_ct (mB c w) v) + 1))), (2, .int (nI w)), (3, .int (nI v))] [1, 0, 2, 3] (hd := dX7_missed_64) (C := hX) rfl (by decide) rfl ?_
                      refine g_iinc (v := (nI (v + 1))) 3 [(0, .ref o), (1, .int (nI ((msO c w + fb_ct (mB c w) v) + 1))), (2, .int (nI w)), (3, .int (nI (v + 1)))] [1, 2, 3, 0] (hd := dX7_missed_65) (C := hX) rfl (nI_1 _) (by decide) rfl ?_
                      refine g_goto 14 (hd := dX7_missed_68) (C := hX) (by decide) ?_
                      refine g_lve [(0, .ref o), (1, .int (nI (msO c w + fb_ct (mB c w) (v + 1)))), (2, .int (nI w)), (3, .int (nI (v + 1)))] (by simp [fb_ct_succ, mB, p_24, c_33, c_40, p_52, Nat.add_assoc]) ?_
                      exact ih_14 (v + 1) (by omega) (by omega)
                    · show GW X [(o, .inr (7, [.int (nI len), .ref ot, .ref on, .ref od, .ref ow, .int (nI ch), .int (nI va), .int (nI en), .ref oi, .ref oe, .ref op, .long aE, .long aP, .long lt])), (ot, .inl (cI, 200, .inl (fun j_ => nI (T j_)))), (on, .inl (cI, 78, .inl (fun j_ => nI (c j_)))), (od, .inl (cI, 78, .inl (fun j_ => nI (rd j_)))), (ow, .inl (cI, 468, .inl (fun j_ => nI (ww j_)))), (oi, .inl (cI, 32, .inl (fun j_ => nI (wi j_)))), (oe, .inl (cJ, 256, .inr (.inl EX))), (op, .inl (cJ, 256, .inr (.inl PA)))] [(0, .ref o), (1, .int (nI (msO c w + fb_ct (mB c w) v))), (2, .int (nI w)), (3, .int (nI v))] [.int (nI 0), .int (nI (msO c w + fb_ct (mB c w) v))] 55 0 0
                      refine g_if_eqN 62 (hd := dX7_missed_55) (C := hX) (by decide) (by decide) (fun c_55 => ?_) (fun c_55 => absurd c_55 (by decide))
                      refine g_iconst (v := nI 0) hX dX7_missed_62 (by decide) ?_
                      refine g_iadd hX dX7_missed_63 ?_
                      refine g_top (y := (nI ((msO c w + fb_ct (mB c w) v) + 0))) (nI_add _ _) ?_
                      refine g_istore_n [(0, .ref o), (1, .int (nI ((msO c w + fb_ct (mB c w) v) + 0))), (2, .int (nI w)), (3, .int (nI v))] [1, 0, 2, 3] (hd := dX7_missed_64) (C := hX) rfl (by decide) rfl ?_
                      refine g_iinc (v := (nI (v + 1))) 3 [(0, .ref o), (1, .int (nI ((msO c w + fb_ct (mB c w) v) + 0))), (2, .int (nI w)), (3, .int (nI (v + 1)))] [1, 2, 3, 0] (hd := dX7_missed_65) (C := hX) rfl (nI_1 _) (by decide) rfl ?_
                      refine g_goto 14 (hd := dX7_missed_68) (C := hX) (by decide) ?_
                      refine g_lve [(0, .ref o), (1, .int (nI (msO c w + fb_ct (mB c w) (v + 1)))), (2, .int (nI w)), (3, .int (nI (v + 1)))] (by simp [fb_ct_succ, mB, p_24, c_33, c_40, p_52, Nat.add_assoc]) ?_
                      exact ih_14 (v + 1) (by omega) (by omega)
                  · refine g_iload_n 3 (hd := dX7_missed_43) (C := hX) rfl rfl ?_
                    refine g_iload_n 2 (hd := dX7_missed_44) (C := hX) rfl rfl ?_
                    refine g_iand hX dX7_missed_45 ?_
                    refine g_top (y := (nI (v &&& w))) (nx_and _ _) ?_
                    refine g_iload_n 3 (hd := dX7_missed_46) (C := hX) rfl rfl ?_
                    refine g_icmp_neN 62 (hd := dX7_missed_47) (C := hX) (by decide) (by omega) (by omega) (fun c_47 => ?_) (fun c_47 => ?_)
                    · refine g_iconst (v := nI 0) hX dX7_missed_62 (by decide) ?_
                      refine g_iadd hX dX7_missed_63 ?_
                      refine g_top (y := (nI ((msO c w + fb_ct (mB c w) v) + 0))) (nI_add _ _) ?_
                      refine g_istore_n [(0, .ref o), (1, .int (nI ((msO c w + fb_ct (mB c w) v) + 0))), (2, .int (nI w)), (3, .int (nI v))] [1, 0, 2, 3] (hd := dX7_missed_64) (C := hX) rfl (by decide) rfl ?_
                      refine g_iinc (v := (nI (v + 1))) 3 [(0, .ref o), (1, .int (nI ((msO c w + fb_ct (mB c w) v) + 0))), (2, .int (nI w)), (3, .int (nI (v + 1)))] [1, 2, 3, 0] (hd := dX7_missed_65) (C := hX) rfl (nI_1 _) (by decide) rfl ?_
                      refine g_goto 14 (hd := dX7_missed_68) (C := hX) (by decide) ?_
                      refine g_lve [(0, .ref o), (1, .int (nI (msO c w + fb_ct (mB c w) (v + 1)))), (2, .int (nI w)), (3, .int (nI (v + 1)))] (by simp [fb_ct_succ, mB, p_24, c_33, c_40, c_47, Nat.add_assoc]) ?_
                      exact ih_14 (v + 1) (by omega) (by omega)
                    · refine g_aload_n 0 (hd := dX7_missed_50) (C := hX) rfl rfl ?_
                      refine g_iload_n 3 (hd := dX7_missed_51) (C := hX) rfl rfl ?_
                      refine g_callVs (rest := [.int (nI (msO c w + fb_ct (mB c w) v))]) hX (c_X7_isCode l D cC cI cJ cO o ot on od ow oi oe op len ch va en aE aP lt T c rd ww wi EX PA v (by omega) b0 hcd) ok_X7_isCode rfl 0 rfl rfl (hd := dX7_missed_52) gX7_missed_X7_isCode ⟨by decide, by decide⟩ rfl (Nat.le_of_ble_eq_true rfl) ⟨Nat.zero_le _, Nat.zero_le _⟩ [0, 1, 2, 3, 4, 5, 6, 7] (by decide) rfl rfl ?_
                      intro r_52 e_52
                      rcases e_52 with ⟨rfl, p_52⟩ | ⟨rfl, p_52⟩
                      · show GW X [(o, .inr (7, [.int (nI len), .ref ot, .ref on, .ref od, .ref ow, .int (nI ch), .int (nI va), .int (nI en), .ref oi, .ref oe, .ref op, .long aE, .long aP, .long lt])), (ot, .inl (cI, 200, .inl (fun j_ => nI (T j_)))), (on, .inl (cI, 78, .inl (fun j_ => nI (c j_)))), (od, .inl (cI, 78, .inl (fun j_ => nI (rd j_)))), (ow, .inl (cI, 468, .inl (fun j_ => nI (ww j_)))), (oi, .inl (cI, 32, .inl (fun j_ => nI (wi j_)))), (oe, .inl (cJ, 256, .inr (.inl EX))), (op, .inl (cJ, 256, .inr (.inl PA)))] [(0, .ref o), (1, .int (nI (msO c w + fb_ct (mB c w) v))), (2, .int (nI w)), (3, .int (nI v))] [.int (nI 1), .int (nI (msO c w + fb_ct (mB c w) v))] 55 0 0
                        refine g_if_eqN 62 (hd := dX7_missed_55) (C := hX) (by decide) (by decide) (fun c_55 => absurd c_55 (by decide)) (fun c_55 => ?_)
                        refine g_iconst (v := nI 1) hX dX7_missed_58 (by decide) ?_
                        refine g_goto 63 (hd := dX7_missed_59) (C := hX) (by decide) ?_
                        refine g_iadd hX dX7_missed_63 ?_
                        refine g_top (y := (nI ((msO c w + fb_ct (mB c w) v) + 1))) (nI_add _ _) ?_
                        refine g_istore_n [(0, .ref o), (1, .int (nI ((msO c w + fb_ct (mB c w) v) + 1))), (2, .int (nI w)), (3, .int (nI v))] [1, 0, 2, 3] (hd := dX7_missed_64) (C := hX) rfl (by decide) rfl ?_
                        refine g_iinc (v := (nI (v + 1))) 3 [(0, .ref o), (1, .int (nI ((msO c w + fb_ct (mB c w) v) + 1))), (2, .int (nI w)), (3, .int (nI (v + 1)))] [1, 2, 3, 0] (hd := dX7_missed_65) (C := hX) rfl (nI_1 _) (by decide) rfl ?_
                        refine g_goto 14 (hd := dX7_missed_68) (C := hX) (by decide) ?_
                        refine g_lve [(0, .ref o), (1, .int (nI (msO c w + fb_ct (mB c w) (v + 1)))), (2, .int (nI w)), (3, .int (nI (v + 1)))] (by simp [fb_ct_succ, mB, p_24, c_33, c_40, c_47, p_52, Nat.add_assoc]) ?_
                        exact ih_14 (v + 1) (by omega) (by omega)
                      · show GW X [(o, .inr (7, [.int (nI len), .ref ot, .ref on, .ref od, .ref ow, .int (nI ch), .int (nI va), .int (nI en), .ref oi, .ref oe, .ref op, .long aE, .long aP, .long lt])), (ot, .inl (cI, 200, .inl (fun j_ => nI (T j_)))), (on, .inl (cI, 78, .inl (fun j_ => nI (c j_)))), (od, .inl (cI, 78, .inl (fun j_ => nI (rd j_)))), (ow, .inl (cI, 468, .inl (fun j_ => nI (ww j_)))), (oi, .inl (cI, 32, .inl (fun j_ => nI (wi j_)))), (oe, .inl (cJ, 256, .inr (.inl EX))), (op, .inl (cJ, 256, .inr (.inl PA)))] [(0, .ref o), (1, .int (nI (msO c w + fb_ct (mB c w) v))), (2, .int (nI w)), (3, .int (nI v))] [.int (nI 0), .int (nI (msO c w + fb_ct (mB c w) v))] 55 0 0
                        refine g_if_eqN 62 (hd := dX7_missed_55) (C := hX) (by decide) (by decide) (fun c_55 => ?_) (fun c_55 => absurd c_55 (by decide))
                        refine g_iconst (v := nI 0) hX dX7_missed_62 (by decide) ?_
                        refine g_iadd hX dX7_missed_63 ?_
                        refine g_top (y := (nI ((msO c w + fb_ct (mB c w) v) + 0))) (nI_add _ _) ?_
                        refine g_istore_n [(0, .ref o), (1, .int (nI ((msO c w + fb_ct (mB c w) v) + 0))), (2, .int (nI w)), (3, .int (nI v))] [1, 0, 2, 3] (hd := dX7_missed_64) (C := hX) rfl (by decide) rfl ?_
                        refine g_iinc (v := (nI (v + 1))) 3 [(0, .ref o), (1, .int (nI ((msO c w + fb_ct (mB c w) v) + 0))), (2, .int (nI w)), (3, .int (nI (v + 1)))] [1, 2, 3, 0] (hd := dX7_missed_65) (C := hX) rfl (nI_1 _) (by decide) rfl ?_
                        refine g_goto 14 (hd := dX7_missed_68) (C := hX) (by decide) ?_
                        refine g_lve [(0, .ref o), (1, .int (nI (msO c w + fb_ct (mB c w) (v + 1)))), (2, .int (nI w)), (3, .int (nI (v + 1)))] (by simp [fb_ct_succ, mB, p_24, c_33, c_40, c_47, p_52, Nat.add_assoc]) ?_
                        exact ih_14 (v + 1) (by omega) (by omega)
              · show GW X [(o, .inr (7, [.int (nI len), .ref ot, .ref on, .ref od, .ref ow, .int (nI ch), .int (nI va), .int (nI en), .ref oi, .ref oe, .ref op, .long aE, .long aP, .long lt])), (ot, .inl (cI, 200, .inl (fun j_ => nI (T j_)))), (on, .inl (cI, 78, .inl (fun j_ => nI (c j_)))), (od, .inl (cI, 78, .inl (fun j_ => nI (rd j_)))), (ow, .inl (cI, 468, .inl (fun j_ => nI (ww j_)))), (oi, .inl (cI, 32, .inl (fun j_ => nI (wi j_)))), (oe, .inl (cJ, 256, .inr (.inl EX))), (op, .inl (cJ, 256, .inr (.inl PA)))] [(0, .ref o), (1, .int (nI (msO c w + fb_ct (mB c w) v))), (2, .int (nI w)), (3, .int (nI v))] [.int (nI 0)] 27 0 0
                refine g_if_eqN 71 (hd := dX7_missed_27) (C := hX) (by decide) (by decide) (fun c_27 => ?_) (fun c_27 => absurd c_27 (by decide))
                refine g_iinc (v := (nI (w + 1))) 2 [(0, .ref o), (1, .int (nI (msO c w + fb_ct (mB c w) v))), (2, .int (nI (w + 1))), (3, .int (nI v))] [1, 2, 0, 3] (hd := dX7_missed_71) (C := hX) rfl (nI_1 _) (by decide) rfl ?_
                refine g_goto 4 (hd := dX7_missed_74) (C := hX) (by decide) ?_
                refine g_lv [(0, .ref o), (1, .int (nI (msO c w + fb_ct (mB c w) v))), (2, .int (nI (w + 1)))] [0, 1, 2] rfl ?_
                refine g_lve [(0, .ref o), (1, .int (nI (msO c (w + 1)))), (2, .int (nI (w + 1)))] (by simp only [msO]; rw [mB_0 p_24, mB_0 p_24]) ?_
                exact ih_4 (w + 1) (by omega) (by omega)
        refine g_lve [(0, .ref o), (1, .int (nI (msO c w + fb_ct (mB c w) 0))), (2, .int (nI w)), (3, .int (nI 0))] rfl ?_
        exact L_14 _ 0 (Nat.lt_succ_self _) (Nat.zero_le _)
  refine g_lve [(0, .ref o), (1, .int (nI (msO c 0))), (2, .int (nI 0))] rfl ?_
  exact L_4 _ 0 (Nat.lt_succ_self _) (Nat.zero_le _)

theorem in_X7_near_7 : ∀ w ∈ wsX70, w ∈ wsX7_near := fun _ h => List.mem_cons_of_mem _ (List.mem_append_right _ h)
theorem ok_X7_near : gOK yX7_near wsX7_near ({ frames := 2, cells := 0, slots := 0, locals := 48 }) 5 0 := ⟨⟨_, _, _, rfl⟩, rfl, rfl, by decide, by decide, by decide +kernel⟩
set_option maxRecDepth 100000 in
set_option maxHeartbeats 4000000 in
theorem c_X7_near (l : Launch) (D : va_G) (cC cI cJ cO : ClassId) (o : Nat) (ot : Nat) (on : Nat) (od : Nat) (ow : Nat) (oi : Nat) (oe : Nat) (op : Nat) (len : Nat) (ch : Nat) (va : Nat) (en : Nat) (aE : Int64) (aP : Int64) (lt : Int64) (T : Nat → Nat) (c : Nat → Nat) (rd : Nat → Nat) (ww : Nat → Nat) (wi : Nat → Nat) (EX : Nat → Int64) (PA : Nat → Int64) (hok : okC c) : CM (S := Int32) l D (tyL cC cI cJ cO) yX7_near wsX7_near ({ frames := 2, cells := 0, slots := 0, locals := 48 }) [.ref o] [(o, .inr (7, [.int (nI len), .ref ot, .ref on, .ref od, .ref ow, .int (nI ch), .int (nI va), .int (nI en), .ref oi, .ref oe, .ref op, .long aE, .long aP, .long lt])), (ot, .inl (cI, 200, .inl (fun j_ => nI (T j_)))), (on, .inl (cI, 78, .inl (fun j_ => nI (c j_)))), (od, .inl (cI, 78, .inl (fun j_ => nI (rd j_)))), (ow, .inl (cI, 468, .inl (fun j_ => nI (ww j_)))), (oi, .inl (cI, 32, .inl (fun j_ => nI (wi j_)))), (oe, .inl (cJ, 256, .inr (.inl EX))), (op, .inl (cJ, 256, .inr (.inl PA)))] (fun r => some (.int r)) (fun r => r = neI (nrO c (2 ^ c 0))) (fun u_ => [(o, .inr (7, [.int (nI len), .ref ot, .ref on, .ref od, .ref ow, .int (nI ch), .int (nI va), .int (nI en), .ref oi, .ref oe, .ref op, .long aE, .long aP, .long lt])), (ot, .inl (cI, 200, .inl (fun j_ => nI (T j_)))), (on, .inl (cI, 78, .inl (fun j_ => nI (c j_)))), (od, .inl (cI, 78, .inl (fun j_ => nI (rd j_)))), (ow, .inl (cI, 468, .inl (fun j_ => nI (ww j_)))), (oi, .inl (cI, 32, .inl (fun j_ => nI (wi j_)))), (oe, .inl (cJ, 256, .inr (.inl EX))), (op, .inl (cJ, 256, .inr (.inl PA)))]) := by
  refine CM_in (cc := cX7_near) (maxL := 5) (ret := (some .int)) (by decide) rfl (Nat.le_of_ble_eq_true rfl) ?_
  intro X hX hret
  show GW X [(o, .inr (7, [.int (nI len), .ref ot, .ref on, .ref od, .ref ow, .int (nI ch), .int (nI va), .int (nI en), .ref oi, .ref oe, .ref op, .long aE, .long aP, .long lt])), (ot, .inl (cI, 200, .inl (fun j_ => nI (T j_)))), (on, .inl (cI, 78, .inl (fun j_ => nI (c j_)))), (od, .inl (cI, 78, .inl (fun j_ => nI (rd j_)))), (ow, .inl (cI, 468, .inl (fun j_ => nI (ww j_)))), (oi, .inl (cI, 32, .inl (fun j_ => nI (wi j_)))), (oe, .inl (cJ, 256, .inr (.inl EX))), (op, .inl (cJ, 256, .inr (.inl PA)))] [(0, .ref o)] [] 0 0 0
  have b0 := hok.2.1
  have b1 := hok.2.2.1
  have hp2 := p2_8 b0
  have hcd := hok.2.2.2.2.2.1
  refine g_bipush (v := (-4)) hX dX7_near_0 (by decide) ?_
  refine g_istore_n [(0, .ref o), (1, .int (-4))] [1, 0] (hd := dX7_near_2) (C := hX) rfl (by decide) rfl ?_
  refine g_iconst (v := nI 0) hX dX7_near_3 (by decide) ?_
  refine g_istore_n [(0, .ref o), (1, .int (-4)), (2, .int (nI 0))] [1, 2, 0] (hd := dX7_near_4) (C := hX) rfl (by decide) rfl ?_
  have L_5 : ∀ (n_5 : Nat) (w : Nat), 2 ^ c 0 - w < n_5 → (w ≤ 2 ^ c 0) → GW X [(o, .inr (7, [.int (nI len), .ref ot, .ref on, .ref od, .ref ow, .int (nI ch), .int (nI va), .int (nI en), .ref oi, .ref oe, .ref op, .long aE, .long aP, .long lt])), (ot, .inl (cI, 200, .inl (fun j_ => nI (T j_)))), (on, .inl (cI, 78, .inl (fun j_ => nI (c j_)))), (od, .inl (cI, 78, .inl (fun j_ => nI (rd j_)))), (ow, .inl (cI, 468, .inl (fun j_ => nI (ww j_)))), (oi, .inl (cI, 32, .inl (fun j_ => nI (wi j_)))), (oe, .inl (cJ, 256, .inr (.inl EX))), (op, .inl (cJ, 256, .inr (.inl PA)))] [(0, .ref o), (1, .int (neI (nrO c w))), (2, .int (nI w))] [] 5 0 0 := by
    intro n_5
    induction n_5 with
    | zero => intro w hm_5; exact absurd hm_5 (Nat.not_lt_zero _)
    | succ n_5 ih_5 =>
      intro w hm_5 hiL
      refine g_iload_n 2 (hd := dX7_near_5) (C := hX) rfl rfl ?_
      refine g_aload_n 0 (hd := dX7_near_6) (C := hX) rfl rfl ?_
      refine g_callVs (rest := [.int (nI w)]) hX (c_X7_all l D cC cI cJ cO o ot on od ow oi oe op len ch va en aE aP lt T c rd ww wi EX PA b0) ok_X7_all rfl 0 rfl rfl (hd := dX7_near_7) gX7_near_X7_all ⟨by decide, by decide⟩ rfl (Nat.le_of_ble_eq_true rfl) ⟨Nat.zero_le _, Nat.zero_le _⟩ [0, 1, 2, 3, 4, 5, 6, 7] (by decide) rfl rfl ?_
      intro r_7 e_7
      subst e_7
      show GW X [(o, .inr (7, [.int (nI len), .ref ot, .ref on, .ref od, .ref ow, .int (nI ch), .int (nI va), .int (nI en), .ref oi, .ref oe, .ref op, .long aE, .long aP, .long lt])), (ot, .inl (cI, 200, .inl (fun j_ => nI (T j_)))), (on, .inl (cI, 78, .inl (fun j_ => nI (c j_)))), (od, .inl (cI, 78, .inl (fun j_ => nI (rd j_)))), (ow, .inl (cI, 468, .inl (fun j_ => nI (ww j_)))), (oi, .inl (cI, 32, .inl (fun j_ => nI (wi j_)))), (oe, .inl (cJ, 256, .inr (.inl EX))), (op, .inl (cJ, 256, .inr (.inl PA)))] [(0, .ref o), (1, .int (neI (nrO c w))), (2, .int (nI w))] [.int (nI (2 ^ c 0)), .int (nI w)] 10 0 0
      refine g_icmp_geN 73 (hd := dX7_near_10) (C := hX) (by decide) (by omega) (by omega) (fun c_10 => ?_) (fun c_10 => ?_)
      · refine g_iload_n 1 (hd := dX7_near_73) (C := hX) rfl rfl ?_
        exact (hret (neI (nrO c w)) _ _ (by rw [show w = 2 ^ c 0 from by omega])).2.1 _ rfl rfl dX7_near_74
      · refine g_iconst (v := nI 0) hX dX7_near_13 (by decide) ?_
        refine g_istore_n [(0, .ref o), (1, .int (neI (nrO c w))), (2, .int (nI w)), (3, .int (nI 0))] [1, 2, 3, 0] (hd := dX7_near_14) (C := hX) rfl (by decide) rfl ?_
        have L_15 : ∀ (n_15 : Nat) (v : Nat), w - v < n_15 → (v ≤ w) → GW X [(o, .inr (7, [.int (nI len), .ref ot, .ref on, .ref od, .ref ow, .int (nI ch), .int (nI va), .int (nI en), .ref oi, .ref oe, .ref op, .long aE, .long aP, .long lt])), (ot, .inl (cI, 200, .inl (fun j_ => nI (T j_)))), (on, .inl (cI, 78, .inl (fun j_ => nI (c j_)))), (od, .inl (cI, 78, .inl (fun j_ => nI (rd j_)))), (ow, .inl (cI, 468, .inl (fun j_ => nI (ww j_)))), (oi, .inl (cI, 32, .inl (fun j_ => nI (wi j_)))), (oe, .inl (cJ, 256, .inr (.inl EX))), (op, .inl (cJ, 256, .inr (.inl PA)))] [(0, .ref o), (1, .int (neI (nrI c w (nrO c w) v))), (2, .int (nI w)), (3, .int (nI v))] [] 15 0 0 := by
          intro n_15
          induction n_15 with
          | zero => intro v hm_15; exact absurd hm_15 (Nat.not_lt_zero _)
          | succ n_15 ih_15 =>
            intro v hm_15 hvL
            refine g_iload_n 3 (hd := dX7_near_15) (C := hX) rfl rfl ?_
            refine g_iload_n 2 (hd := dX7_near_16) (C := hX) rfl rfl ?_
            refine g_icmp_geN 67 (hd := dX7_near_17) (C := hX) (by decide) (by omega) (by omega) (fun c_17 => ?_) (fun c_17 => ?_)
            · refine g_iinc (v := (nI (w + 1))) 2 [(0, .ref o), (1, .int (neI (nrI c w (nrO c w) v))), (2, .int (nI (w + 1))), (3, .int (nI v))] [1, 2, 0, 3] (hd := dX7_near_67) (C := hX) rfl (nI_1 _) (by decide) rfl ?_
              refine g_goto 5 (hd := dX7_near_70) (C := hX) (by decide) ?_
              refine g_lv [(0, .ref o), (1, .int (neI (nrI c w (nrO c w) v))), (2, .int (nI (w + 1)))] [0, 1, 2] rfl ?_
              refine g_lve [(0, .ref o), (1, .int (neI (nrO c (w + 1)))), (2, .int (nI (w + 1)))] (by simp only [nrO]; rw [show v = w from by omega]) ?_
              exact ih_5 (w + 1) (by omega) (by omega)
            · refine g_aload_n 0 (hd := dX7_near_20) (C := hX) rfl rfl ?_
              refine g_iload_n 2 (hd := dX7_near_21) (C := hX) rfl rfl ?_
              refine g_callVs (rest := []) hX (c_X7_isCode l D cC cI cJ cO o ot on od ow oi oe op len ch va en aE aP lt T c rd ww wi EX PA w (by omega) b0 hcd) ok_X7_isCode rfl 0 rfl rfl (hd := dX7_near_22) gX7_near_X7_isCode ⟨by decide, by decide⟩ rfl (Nat.le_of_ble_eq_true rfl) ⟨Nat.zero_le _, Nat.zero_le _⟩ [0, 1, 2, 3, 4, 5, 6, 7] (by decide) rfl rfl ?_
              intro r_22 e_22
              rcases e_22 with ⟨rfl, p_22⟩ | ⟨rfl, p_22⟩
              · show GW X [(o, .inr (7, [.int (nI len), .ref ot, .ref on, .ref od, .ref ow, .int (nI ch), .int (nI va), .int (nI en), .ref oi, .ref oe, .ref op, .long aE, .long aP, .long lt])), (ot, .inl (cI, 200, .inl (fun j_ => nI (T j_)))), (on, .inl (cI, 78, .inl (fun j_ => nI (c j_)))), (od, .inl (cI, 78, .inl (fun j_ => nI (rd j_)))), (ow, .inl (cI, 468, .inl (fun j_ => nI (ww j_)))), (oi, .inl (cI, 32, .inl (fun j_ => nI (wi j_)))), (oe, .inl (cJ, 256, .inr (.inl EX))), (op, .inl (cJ, 256, .inr (.inl PA)))] [(0, .ref o), (1, .int (neI (nrI c w (nrO c w) v))), (2, .int (nI w)), (3, .int (nI v))] [.int (nI 1)] 25 0 0
                refine g_if_eqN 67 (hd := dX7_near_25) (C := hX) (by decide) (by decide) (fun c_25 => absurd c_25 (by decide)) (fun c_25 => ?_)
                refine g_iload_n 3 (hd := dX7_near_28) (C := hX) rfl rfl ?_
                refine g_iload_n 2 (hd := dX7_near_29) (C := hX) rfl rfl ?_
                refine g_ixor hX dX7_near_30 ?_
                refine g_top (y := (nI (v ^^^ w))) (nx_xor _ _) ?_
                refine g_callS (rest := []) hX (c_X7_ones l D cC cI cJ cO (v ^^^ w) (Nat.xor_lt_two_pow (n := 8) (by omega) (by omega))) ok_X7_ones (fun _ => rfl) (hd := dX7_near_31) gX7_near_X7_ones ⟨by decide, by decide⟩ rfl (Nat.le_of_ble_eq_true rfl) ⟨Nat.zero_le _, Nat.zero_le _⟩ [] (by decide) rfl rfl ?_
                intro r_31 e_31
                subst e_31
                show GW X [(o, .inr (7, [.int (nI len), .ref ot, .ref on, .ref od, .ref ow, .int (nI ch), .int (nI va), .int (nI en), .ref oi, .ref oe, .ref op, .long aE, .long aP, .long lt])), (ot, .inl (cI, 200, .inl (fun j_ => nI (T j_)))), (on, .inl (cI, 78, .inl (fun j_ => nI (c j_)))), (od, .inl (cI, 78, .inl (fun j_ => nI (rd j_)))), (ow, .inl (cI, 468, .inl (fun j_ => nI (ww j_)))), (oi, .inl (cI, 32, .inl (fun j_ => nI (wi j_)))), (oe, .inl (cJ, 256, .inr (.inl EX))), (op, .inl (cJ, 256, .inr (.inl PA)))] [(0, .ref o), (1, .int (neI (nrI c w (nrO c w) v))), (2, .int (nI w)), (3, .int (nI v))] [.int (nI (ones8 (v ^^^ w)))] 34 0 0
                refine g_istore [(0, .ref o), (1, .int (neI (nrI c w (nrO c w) v))), (2, .int (nI w)), (3, .int (nI v)), (4, .int (nI (ones8 (v ^^^ w))))] [1, 2, 3, 4, 0] (hd := dX7_near_34) (C := hX) (by decide) rfl ?_
                have q2 := ones8_le (v ^^^ w)
                refine g_aload_n 0 (hd := dX7_near_36) (C := hX) rfl rfl ?_
                refine g_iload_n 3 (hd := dX7_near_37) (C := hX) rfl rfl ?_
                refine g_callVs (rest := []) hX (c_X7_isCode l D cC cI cJ cO o ot on od ow oi oe op len ch va en aE aP lt T c rd ww wi EX PA v (by omega) b0 hcd) ok_X7_isCode rfl 0 rfl rfl (hd := dX7_near_38) gX7_near_X7_isCode ⟨by decide, by decide⟩ rfl (Nat.le_of_ble_eq_true rfl) ⟨Nat.zero_le _, Nat.zero_le _⟩ [0, 1, 2, 3, 4, 5, 6, 7] (by decide) rfl rfl ?_
                intro r_38 e_38
                rcases e_38 with ⟨rfl, p_38⟩ | ⟨rfl, p_38⟩
                · show GW X [(o, .inr (7, [.int (nI len), .ref ot, .ref on, .ref od, .ref ow, .int (nI ch), .int (nI va), .int (nI en), .ref oi, .ref oe, .ref op, .long aE, .long aP, .long lt])), (ot, .inl (cI, 200, .inl (fun j_ => nI (T j_)))), (on, .inl (cI, 78, .inl (fun j_ => nI (c j_)))), (od, .inl (cI, 78, .inl (fun j_ => nI (rd j_)))), (ow, .inl (cI, 468, .inl (fun j_ => nI (ww j_)))), (oi, .inl (cI, 32, .inl (fun j_ => nI (wi j_)))), (oe, .inl (cJ, 256, .inr (.inl EX))), (op, .inl (cJ, 256, .inr (.inl PA)))] [(0, .ref o), (1, .int (neI (nrI c w (nrO c w) v))), (2, .int (nI w)), (3, .int (nI v)), (4, .int (nI (ones8 (v ^^^ w))))] [.int (nI 1)] 41 0 0
                  refine g_if_eqN 59 (hd := dX7_near_41) (C := hX) (by decide) (by decide) (fun c_41 => absurd c_41 (by decide)) (fun c_41 => ?_)
                  rcases ho : (nrI c w (nrO c w) v) with _ | d9
                  · refine g_lve [(0, .ref o), (1, .int (-4)), (2, .int (nI w)), (3, .int (nI v)), (4, .int (nI (ones8 (v ^^^ w))))] rfl ?_
                    refine g_iload_n 1 (hd := dX7_near_44) (C := hX) rfl rfl ?_
                    refine g_if_lt 54 (hd := dX7_near_45) (C := hX) (by decide) (fun c_45 => ?_) (fun c_45 => absurd (by decide) c_45)
                    refine g_iload 4 (hd := dX7_near_54) (C := hX) rfl ?_
                    refine g_goto 60 (hd := dX7_near_56) (C := hX) (by decide) ?_
                    refine g_istore_n [(0, .ref o), (1, .int (nI (ones8 (v ^^^ w)))), (2, .int (nI w)), (3, .int (nI v)), (4, .int (nI (ones8 (v ^^^ w))))] [1, 0, 2, 3, 4] (hd := dX7_near_60) (C := hX) rfl (by decide) rfl ?_
                    refine g_iinc (v := (nI (v + 1))) 3 [(0, .ref o), (1, .int (nI (ones8 (v ^^^ w)))), (2, .int (nI w)), (3, .int (nI (v + 1))), (4, .int (nI (ones8 (v ^^^ w))))] [1, 2, 3, 0, 4] (hd := dX7_near_61) (C := hX) rfl (nI_1 _) (by decide) rfl ?_
                    refine g_goto 15 (hd := dX7_near_64) (C := hX) (by decide) ?_
                    refine g_lv [(0, .ref o), (1, .int (nI (ones8 (v ^^^ w)))), (2, .int (nI w)), (3, .int (nI (v + 1)))] [0, 1, 2, 3] rfl ?_
                    refine g_lve [(0, .ref o), (1, .int (neI (nrI c w (nrO c w) (v + 1)))), (2, .int (nI w)), (3, .int (nI (v + 1)))] (by simp only [nrI]; rw [if_pos ⟨p_22, p_38⟩, ho, cmN_0]; rfl) ?_
                    exact ih_15 (v + 1) (by omega) (by omega)
                  · have hd9 := nrI_ok (nrO_ok c w) v d9 ho
                    refine g_lve [(0, .ref o), (1, .int (nI d9)), (2, .int (nI w)), (3, .int (nI v)), (4, .int (nI (ones8 (v ^^^ w))))] rfl ?_
                    refine g_iload_n 1 (hd := dX7_near_44) (C := hX) rfl rfl ?_
                    refine g_if_lt 54 (hd := dX7_near_45) (C := hX) (by decide) (fun c_45 => absurd c_45 (nI_pos (by omega))) (fun c_45 => ?_)
                    refine g_iload 4 (hd := dX7_near_48) (C := hX) rfl ?_
                    refine g_iload_n 1 (hd := dX7_near_50) (C := hX) rfl rfl ?_
                    refine g_icmp_geN 59 (hd := dX7_near_51) (C := hX) (by decide) (by omega) (by omega) (fun c_51 => ?_) (fun c_51 => ?_)
                    · refine g_iload_n 1 (hd := dX7_near_59) (C := hX) rfl rfl ?_
                      refine g_istore_n [(0, .ref o), (1, .int (nI d9)), (2, .int (nI w)), (3, .int (nI v)), (4, .int (nI (ones8 (v ^^^ w))))] [1, 0, 2, 3, 4] (hd := dX7_near_60) (C := hX) rfl (by decide) rfl ?_
                      refine g_iinc (v := (nI (v + 1))) 3 [(0, .ref o), (1, .int (nI d9)), (2, .int (nI w)), (3, .int (nI (v + 1))), (4, .int (nI (ones8 (v ^^^ w))))] [1, 2, 3, 0, 4] (hd := dX7_near_61) (C := hX) rfl (nI_1 _) (by decide) rfl ?_
                      refine g_goto 15 (hd := dX7_near_64) (C := hX) (by decide) ?_
                      refine g_lv [(0, .ref o), (1, .int (nI d9)), (2, .int (nI w)), (3, .int (nI (v + 1)))] [0, 1, 2, 3] rfl ?_
                      refine g_lve [(0, .ref o), (1, .int (neI (nrI c w (nrO c w) (v + 1)))), (2, .int (nI w)), (3, .int (nI (v + 1)))] (by simp only [nrI]; rw [if_pos ⟨p_22, p_38⟩, ho]; first | (rw [cmN_lt c_51]; rfl) | (rw [cmN_ge c_51]; rfl)) ?_
                      exact ih_15 (v + 1) (by omega) (by omega)
                    · refine g_iload 4 (hd := dX7_near_54) (C := hX) rfl ?_
                      refine g_goto 60 (hd := dX7_near_56) (C := hX) (by decide) ?_
                      refine g_istore_n [(0, .ref o), (1, .int (nI (ones8 (v ^^^ w)))), (2, .int (nI w)), (3, .int (nI v)), (4, .int (nI (ones8 (v ^^^ w))))] [1, 0, 2, 3, 4] (hd := dX7_near_60) (C := hX) rfl (by decide) rfl ?_
                      refine g_iinc (v := (nI (v + 1))) 3 [(0, .ref o), (1, .int (nI (ones8 (v ^^^ w)))), (2, .int (nI w)), (3, .int (nI (v + 1))), (4, .int (nI (ones8 (v ^^^ w))))] [1, 2, 3, 0, 4] (hd := dX7_near_61) (C := hX) rfl (nI_1 _) (by decide) rfl ?_
                      refine g_goto 15 (hd := dX7_near_64) (C := hX) (by decide) ?_
                      refine g_lv [(0, .ref o), (1, .int (nI (ones8 (v ^^^ w)))), (2, .int (nI w)), (3, .int (nI (v + 1)))] [0, 1, 2, 3] rfl ?_
                      refine g_lve [(0, .ref o), (1, .int (neI (nrI c w (nrO c w) (v + 1)))), (2, .int (nI w)), (3, .int (nI (v + 1)))] (by simp only [nrI]; rw [if_pos ⟨p_22, p_38⟩, ho]; first | (rw [cmN_lt c_51]; rfl) | (rw [cmN_ge c_51]; rfl)) ?_
                      exact ih_15 (v + 1) (by omega) (by omega)
                · show GW X [(o, .inr (7, [.int (nI len), .ref ot, .ref on, .ref od, .ref ow, .int (nI ch), .int (nI va), .int (nI en), .ref oi, .ref oe, .ref op, .long aE, .long aP, .long lt])), (ot, .inl (cI, 200, .inl (fun j_ => nI (T j_)))), (on, .inl (cI, 78, .inl (fun j_ => nI (c j_)))), (od, .inl (cI, 78, .inl (fun j_ => nI (rd j_)))), (ow, .inl (cI, 468, .inl (fun j_ => nI (ww j_)))), (oi, .inl (cI, 32, .inl (fun j_ => nI (wi j_)))), (oe, .inl (cJ, 256, .inr (.inl EX))), (op, .inl (cJ, 256, .inr (.inl PA)))] [(0, .ref o), (1, .int (neI (nrI c w (nrO c w) v))), (2, .int (nI w)), (3, .int (nI v)), (4, .int (nI (ones8 (v ^^^ w))))] [.int (nI 0)] 41 0 0
                  refine g_if_eqN 59 (hd := dX7_near_41) (C := hX) (by decide) (by decide) (fun c_41 => ?_) (fun c_41 => absurd c_41 (by decide))
                  refine g_iload_n 1 (hd := dX7_near_59) (C := hX) rfl rfl ?_
                  refine g_istore_n [(0, .ref o), (1, .int (neI (nrI c w (nrO c w) v))), (2, .int (nI w)), (3, .int (nI v)), (4, .int (nI (ones8 (v ^^^ w))))] [1, 0, 2, 3, 4] (hd := dX7_near_60) (C := hX) rfl (by decide) rfl ?_
                  refine g_iinc (v := (nI (v + 1))) 3 [(0, .ref o), (1, .int (neI (nrI c w (nrO c w) v))), (2, .int (nI w)), (3, .int (nI (v + 1))), (4, .int (nI (ones8 (v ^^^ w))))] [1, 2, 3, 0, 4] (hd := dX7_near_61) (C := hX) rfl (nI_1 _) (by decide) rfl ?_
                  refine g_goto 15 (hd := dX7_near_64) (C := hX) (by decide) ?_
                  refine g_lv [(0, .ref o), (1, .int (neI (nrI c w (nrO c w) v))), (2, .int (nI w)), (3, .int (nI (v + 1)))] [0, 1, 2, 3] rfl ?_
                  refine g_lve [(0, .ref o), (1, .int (neI (nrI c w (nrO c w) (v + 1)))), (2, .int (nI w)), (3, .int (nI (v + 1)))] (by simp only [nrI]; rw [if_neg (fun z => p_38 z.2)]) ?_
                  exact ih_15 (v + 1) (by omega) (by omega)
              · show GW X [(o, .inr (7, [.int (nI len), .ref ot, .ref on, .ref od, .ref ow, .int (nI ch), .int (nI va), .int (nI en), .ref oi, .ref oe, .ref op, .long aE, .long aP, .long lt])), (ot, .inl (cI, 200, .inl (fun j_ => nI (T j_)))), (on, .inl (cI, 78, .inl (fun j_ => nI (c j_)))), (od, .inl (cI, 78, .inl (fun j_ => nI (rd j_)))), (ow, .inl (cI, 468, .inl (fun j_ => nI (ww j_)))), (oi, .inl (cI, 32, .inl (fun j_ => nI (wi j_)))), (oe, .inl (cJ, 256, .inr (.inl EX))), (op, .inl (cJ, 256, .inr (.inl PA)))] [(0, .ref o), (1, .int (neI (nrI c w (nrO c w) v))), (2, .int (nI w)), (3, .int (nI v))] [.int (nI 0)] 25 0 0
                refine g_if_eqN 67 (hd := dX7_near_25) (C := hX) (by decide) (by decide) (fun c_25 => ?_) (fun c_25 => absurd c_25 (by decide))
                refine g_iinc (v := (nI (w + 1))) 2 [(0, .ref o), (1, .int (neI (nrI c w (nrO c w) v))), (2, .int (nI (w + 1))), (3, .int (nI v))] [1, 2, 0, 3] (hd := dX7_near_67) (C := hX) rfl (nI_1 _) (by decide) rfl ?_
                refine g_goto 5 (hd := dX7_near_70) (C := hX) (by decide) ?_
                refine g_lv [(0, .ref o), (1, .int (neI (nrI c w (nrO c w) v))), (2, .int (nI (w + 1)))] [0, 1, 2] rfl ?_
                refine g_lve [(0, .ref o), (1, .int (neI (nrO c (w + 1)))), (2, .int (nI (w + 1)))] (by simp only [nrO]; rw [nrI_n p_22, nrI_n p_22]) ?_
                exact ih_5 (w + 1) (by omega) (by omega)
        refine g_lve [(0, .ref o), (1, .int (neI (nrI c w (nrO c w) 0))), (2, .int (nI w)), (3, .int (nI 0))] rfl ?_
        exact L_15 _ 0 (Nat.lt_succ_self _) (Nat.zero_le _)
  refine g_lve [(0, .ref o), (1, .int (neI (nrO c 0))), (2, .int (nI 0))] rfl ?_
  exact L_5 _ 0 (Nat.lt_succ_self _) (Nat.zero_le _)

theorem in_X7_gateOf_7 : ∀ w ∈ wsX70, w ∈ wsX7_gateOf := fun _ h => List.mem_cons_of_mem _ (List.mem_append_right _ h)
theorem ok_X7_gateOf : gOK yX7_gateOf wsX7_gateOf ({ frames := 2, cells := 0, slots := 0, locals := 43 }) 6 2 := ⟨⟨_, _, _, rfl⟩, rfl, rfl, by decide, by decide, by decide +kernel⟩
set_option maxRecDepth 100000 in
set_option maxHeartbeats 4000000 in
theorem c_X7_gateOf (l : Launch) (D : va_G) (cC cI cJ cO : ClassId) (o : Nat) (ot : Nat) (on : Nat) (od : Nat) (ow : Nat) (oi : Nat) (oe : Nat) (op : Nat) (len : Nat) (ch : Nat) (va : Nat) (en : Nat) (aE : Int64) (aP : Int64) (lt : Int64) (T : Nat → Nat) (c : Nat → Nat) (rd : Nat → Nat) (ww : Nat → Nat) (wi : Nat → Nat) (EX : Nat → Int64) (PA : Nat → Int64) (g : Int32) (wh : Int32) (hok : okC c) : CM (S := Int32) l D (tyL cC cI cJ cO) yX7_gateOf wsX7_gateOf ({ frames := 2, cells := 0, slots := 0, locals := 43 }) [.ref o, .int g, .int wh] [(o, .inr (7, [.int (nI len), .ref ot, .ref on, .ref od, .ref ow, .int (nI ch), .int (nI va), .int (nI en), .ref oi, .ref oe, .ref op, .long aE, .long aP, .long lt])), (ot, .inl (cI, 200, .inl (fun j_ => nI (T j_)))), (on, .inl (cI, 78, .inl (fun j_ => nI (c j_)))), (od, .inl (cI, 78, .inl (fun j_ => nI (rd j_)))), (ow, .inl (cI, 468, .inl (fun j_ => nI (ww j_)))), (oi, .inl (cI, 32, .inl (fun j_ => nI (wi j_)))), (oe, .inl (cJ, 256, .inr (.inl EX))), (op, .inl (cJ, 256, .inr (.inl PA)))] (fun r => some (.int r)) (fun r => r = gfS c g wh) (fun u_ => [(o, .inr (7, [.int (nI len), .ref ot, .ref on, .ref od, .ref ow, .int (nI ch), .int (nI va), .int (nI en), .ref oi, .ref oe, .ref op, .long aE, .long aP, .long lt])), (ot, .inl (cI, 200, .inl (fun j_ => nI (T j_)))), (on, .inl (cI, 78, .inl (fun j_ => nI (c j_)))), (od, .inl (cI, 78, .inl (fun j_ => nI (rd j_)))), (ow, .inl (cI, 468, .inl (fun j_ => nI (ww j_)))), (oi, .inl (cI, 32, .inl (fun j_ => nI (wi j_)))), (oe, .inl (cJ, 256, .inr (.inl EX))), (op, .inl (cJ, 256, .inr (.inl PA)))]) := by
  refine CM_in (cc := cX7_gateOf) (maxL := 6) (ret := (some .int)) (by decide) rfl (Nat.le_of_ble_eq_true rfl) ?_
  intro X hX hret
  show GW X [(o, .inr (7, [.int (nI len), .ref ot, .ref on, .ref od, .ref ow, .int (nI ch), .int (nI va), .int (nI en), .ref oi, .ref oe, .ref op, .long aE, .long aP, .long lt])), (ot, .inl (cI, 200, .inl (fun j_ => nI (T j_)))), (on, .inl (cI, 78, .inl (fun j_ => nI (c j_)))), (od, .inl (cI, 78, .inl (fun j_ => nI (rd j_)))), (ow, .inl (cI, 468, .inl (fun j_ => nI (ww j_)))), (oi, .inl (cI, 32, .inl (fun j_ => nI (wi j_)))), (oe, .inl (cJ, 256, .inr (.inl EX))), (op, .inl (cJ, 256, .inr (.inl PA)))] [(0, .ref o), (1, .int g), (2, .int wh)] [] 0 0 0
  have b0 := hok.2.1
  have b1 := hok.2.2.1
  have hp2 := p2_8 b0
  have hcd := hok.2.2.2.2.2.1
  refine g_aload_n 0 (hd := dX7_gateOf_0) (C := hX) rfl rfl ?_
  refine g_iload_n 1 (hd := dX7_gateOf_1) (C := hX) rfl rfl ?_
  refine g_callVs (rest := []) hX (c_X7_isGate l D cC cI cJ cO o ot on od ow oi oe op len ch va en aE aP lt T c rd ww wi EX PA g b0 b1) ok_X7_isGate rfl 0 rfl rfl (hd := dX7_gateOf_2) gX7_gateOf_X7_isGate ⟨by decide, by decide⟩ rfl (Nat.le_of_ble_eq_true rfl) ⟨Nat.zero_le _, Nat.zero_le _⟩ [0, 1, 2, 3, 4, 5, 6, 7] (by decide) rfl rfl ?_
  intro r_2 e_2
  rcases e_2 with ⟨rfl, p_2⟩ | ⟨rfl, p_2⟩
  · show GW X [(o, .inr (7, [.int (nI len), .ref ot, .ref on, .ref od, .ref ow, .int (nI ch), .int (nI va), .int (nI en), .ref oi, .ref oe, .ref op, .long aE, .long aP, .long lt])), (ot, .inl (cI, 200, .inl (fun j_ => nI (T j_)))), (on, .inl (cI, 78, .inl (fun j_ => nI (c j_)))), (od, .inl (cI, 78, .inl (fun j_ => nI (rd j_)))), (ow, .inl (cI, 468, .inl (fun j_ => nI (ww j_)))), (oi, .inl (cI, 32, .inl (fun j_ => nI (wi j_)))), (oe, .inl (cJ, 256, .inr (.inl EX))), (op, .inl (cJ, 256, .inr (.inl PA)))] [(0, .ref o), (1, .int g), (2, .int wh)] [.int (nI 1)] 5 0 0
    refine g_if_eqN 17 (hd := dX7_gateOf_5) (C := hX) (by decide) (by decide) (fun c_5 => absurd c_5 (by decide)) (fun c_5 => ?_)
    refine g_iload_n 2 (hd := dX7_gateOf_8) (C := hX) rfl rfl ?_
    refine g_iconst (v := nI 0) hX dX7_gateOf_9 (by decide) ?_
    refine g_iconst (v := nI 3) hX dX7_gateOf_10 (by decide) ?_
    refine g_callS (rest := []) hX (c_X7_isIn l D cC cI cJ cO wh (nI 0) (nI 3)) ok_X7_isIn (fun _ => rfl) (hd := dX7_gateOf_11) gX7_gateOf_X7_isIn ⟨by decide, by decide⟩ rfl (Nat.le_of_ble_eq_true rfl) ⟨Nat.zero_le _, Nat.zero_le _⟩ [] (by decide) rfl rfl ?_
    intro r_11 e_11
    rcases e_11 with ⟨rfl, p_11⟩ | ⟨rfl, p_11⟩
    · show GW X [(o, .inr (7, [.int (nI len), .ref ot, .ref on, .ref od, .ref ow, .int (nI ch), .int (nI va), .int (nI en), .ref oi, .ref oe, .ref op, .long aE, .long aP, .long lt])), (ot, .inl (cI, 200, .inl (fun j_ => nI (T j_)))), (on, .inl (cI, 78, .inl (fun j_ => nI (c j_)))), (od, .inl (cI, 78, .inl (fun j_ => nI (rd j_)))), (ow, .inl (cI, 468, .inl (fun j_ => nI (ww j_)))), (oi, .inl (cI, 32, .inl (fun j_ => nI (wi j_)))), (oe, .inl (cJ, 256, .inr (.inl EX))), (op, .inl (cJ, 256, .inr (.inl PA)))] [(0, .ref o), (1, .int g), (2, .int wh)] [.int (nI 1)] 14 0 0
      refine g_if_neN 19 (hd := dX7_gateOf_14) (C := hX) (by decide) (by decide) (fun c_14 => ?_) (fun c_14 => absurd c_14 (by decide))
      obtain ⟨jg, hjg, rfl⟩ := vp_in_of p_2 (by omega)
      obtain ⟨jw, hjw, rfl⟩ := ii_nat (by decide) p_11
      refine g_iload_n 2 (hd := dX7_gateOf_19) (C := hX) rfl rfl ?_
      refine g_iconst (v := nI 3) hX dX7_gateOf_20 (by decide) ?_
      refine g_icmp_geN 38 (hd := dX7_gateOf_21) (C := hX) (by decide) (by omega) (by omega) (fun c_21 => ?_) (fun c_21 => ?_)
      · refine g_iconst (v := nI 0) hX dX7_gateOf_38 (by decide) ?_
        refine g_istore_n [(0, .ref o), (1, .int (nI jg)), (2, .int (nI jw)), (3, .int (nI 0))] [1, 2, 3, 0] (hd := dX7_gateOf_39) (C := hX) rfl (by decide) rfl ?_
        refine g_aload_n 0 (hd := dX7_gateOf_40) (C := hX) rfl rfl ?_
        refine g_get (hd := dX7_gateOf_41) (C := hX) 0 2 rfl rfl in_X7_gateOf_7 (by decide) (by decide +kernel) rfl ?_
        refine g_iconst (v := nI 0) hX dX7_gateOf_44 (by decide) ?_
        refine g_iald (hd := dX7_gateOf_45) (C := hX) 2 1 rfl rfl (by omega) (by decide) ?_
        refine g_iload_n 1 (hd := dX7_gateOf_46) (C := hX) rfl rfl ?_
        refine g_iadd hX dX7_gateOf_47 ?_
        refine g_top (y := (nI ((c 0) + jg))) (nI_add _ _) ?_
        refine g_istore [(0, .ref o), (1, .int (nI jg)), (2, .int (nI jw)), (3, .int (nI 0)), (4, .int (nI ((c 0) + jg)))] [1, 2, 3, 4, 0] (hd := dX7_gateOf_48) (C := hX) (by decide) rfl ?_
        refine g_iconst (v := nI 0) hX dX7_gateOf_50 (by decide) ?_
        refine g_istore [(0, .ref o), (1, .int (nI jg)), (2, .int (nI jw)), (3, .int (nI 0)), (4, .int (nI ((c 0) + jg))), (5, .int (nI 0))] [1, 2, 3, 4, 5, 0] (hd := dX7_gateOf_51) (C := hX) (by decide) rfl ?_
        have L_53 : ∀ (n_53 : Nat) (i : Nat), c 1 - i < n_53 → (i ≤ c 1) → GW X [(o, .inr (7, [.int (nI len), .ref ot, .ref on, .ref od, .ref ow, .int (nI ch), .int (nI va), .int (nI en), .ref oi, .ref oe, .ref op, .long aE, .long aP, .long lt])), (ot, .inl (cI, 200, .inl (fun j_ => nI (T j_)))), (on, .inl (cI, 78, .inl (fun j_ => nI (c j_)))), (od, .inl (cI, 78, .inl (fun j_ => nI (rd j_)))), (ow, .inl (cI, 468, .inl (fun j_ => nI (ww j_)))), (oi, .inl (cI, 32, .inl (fun j_ => nI (wi j_)))), (oe, .inl (cJ, 256, .inr (.inl EX))), (op, .inl (cJ, 256, .inr (.inl PA)))] [(0, .ref o), (1, .int (nI jg)), (2, .int (nI jw)), (3, .int (nI (fb_ct (rdC c (c 0 + jg)) i))), (4, .int (nI (c 0 + jg))), (5, .int (nI i))] [] 53 0 0 := by
          intro n_53
          induction n_53 with
          | zero => intro i hm_53; exact absurd hm_53 (Nat.not_lt_zero _)
          | succ n_53 ih_53 =>
            intro i hm_53 hiL
            refine g_iload 5 (hd := dX7_gateOf_53) (C := hX) rfl ?_
            refine g_aload_n 0 (hd := dX7_gateOf_55) (C := hX) rfl rfl ?_
            refine g_get (hd := dX7_gateOf_56) (C := hX) 0 2 rfl rfl in_X7_gateOf_7 (by decide) (by decide +kernel) rfl ?_
            refine g_iconst (v := nI 1) hX dX7_gateOf_59 (by decide) ?_
            refine g_iald (hd := dX7_gateOf_60) (C := hX) 2 1 rfl rfl (by omega) (by decide) ?_
            refine g_icmp_geN 112 (hd := dX7_gateOf_61) (C := hX) (by decide) (by omega) (by omega) (fun c_61 => ?_) (fun c_61 => ?_)
            · refine g_iload_n 3 (hd := dX7_gateOf_112) (C := hX) rfl rfl ?_
              exact (hret (nI (fb_ct (rdC c (c 0 + jg)) i)) _ _ (by unfold gfS; rw [iP_y ⟨p_2, (ii_k (by decide)).mp p_11⟩, cl_nI (by omega), cl_nI (by omega), if_neg (Nat.not_lt.mpr c_21), show i = c 1 from by omega])).2.1 _ rfl rfl dX7_gateOf_113
            · have hq := hok.2.2.2.2.2.2 i (by omega)
              refine g_iload_n 3 (hd := dX7_gateOf_64) (C := hX) rfl rfl ?_
              refine g_aload_n 0 (hd := dX7_gateOf_65) (C := hX) rfl rfl ?_
              refine g_get (hd := dX7_gateOf_66) (C := hX) 0 2 rfl rfl in_X7_gateOf_7 (by decide) (by decide +kernel) rfl ?_
              refine g_bipush (v := nI 7) hX dX7_gateOf_69 (by decide) ?_
              refine g_iconst (v := nI 3) hX dX7_gateOf_71 (by decide) ?_
              refine g_iload 5 (hd := dX7_gateOf_72) (C := hX) rfl ?_
              refine g_imul hX dX7_gateOf_74 ?_
              refine g_top (y := (nI (3 * i))) (pk_mul _ _) ?_
              refine g_iadd hX dX7_gateOf_75 ?_
              refine g_top (y := (nI (7 + (3 * i)))) (nI_add _ _) ?_
              refine g_iald (hd := dX7_gateOf_76) (C := hX) 2 1 rfl rfl (by omega) (by decide) ?_
              refine g_iload 4 (hd := dX7_gateOf_77) (C := hX) rfl ?_
              refine g_icmp_eqN 99 (hd := dX7_gateOf_79) (C := hX) (by decide) (by omega) (by omega) (fun c_79 => ?_) (fun c_79 => ?_)
              · refine g_iconst (v := nI 1) hX dX7_gateOf_99 (by decide) ?_
                refine g_goto 104 (hd := dX7_gateOf_100) (C := hX) (by decide) ?_
                refine g_iadd hX dX7_gateOf_104 ?_
                refine g_top (y := (nI ((fb_ct (rdC c (c 0 + jg)) i) + 1))) (nI_add _ _) ?_
                refine g_istore_n [(0, .ref o), (1, .int (nI jg)), (2, .int (nI jw)), (3, .int (nI ((fb_ct (rdC c (c 0 + jg)) i) + 1))), (4, .int (nI (c 0 + jg))), (5, .int (nI i))] [1, 2, 3, 0, 4, 5] (hd := dX7_gateOf_105) (C := hX) rfl (by decide) rfl ?_
                refine g_iinc (v := (nI (i + 1))) 5 [(0, .ref o), (1, .int (nI jg)), (2, .int (nI jw)), (3, .int (nI ((fb_ct (rdC c (c 0 + jg)) i) + 1))), (4, .int (nI (c 0 + jg))), (5, .int (nI (i + 1)))] [1, 2, 3, 4, 5, 0] (hd := dX7_gateOf_106) (C := hX) rfl (nI_1 _) (by decide) rfl ?_
                refine g_goto 53 (hd := dX7_gateOf_109) (C := hX) (by decide) ?_
                refine g_lve [(0, .ref o), (1, .int (nI jg)), (2, .int (nI jw)), (3, .int (nI (fb_ct (rdC c (c 0 + jg)) (i + 1)))), (4, .int (nI (c 0 + jg))), (5, .int (nI (i + 1)))] (by simp [fb_ct_succ, rdC, c_79]) ?_
                exact ih_53 (i + 1) (by omega) (by omega)
              · refine g_aload_n 0 (hd := dX7_gateOf_82) (C := hX) rfl rfl ?_
                refine g_get (hd := dX7_gateOf_83) (C := hX) 0 2 rfl rfl in_X7_gateOf_7 (by decide) (by decide +kernel) rfl ?_
                refine g_bipush (v := nI 8) hX dX7_gateOf_86 (by decide) ?_
                refine g_iconst (v := nI 3) hX dX7_gateOf_88 (by decide) ?_
                refine g_iload 5 (hd := dX7_gateOf_89) (C := hX) rfl ?_
                refine g_imul hX dX7_gateOf_91 ?_
                refine g_top (y := (nI (3 * i))) (pk_mul _ _) ?_
                refine g_iadd hX dX7_gateOf_92 ?_
                refine g_top (y := (nI (8 + (3 * i)))) (nI_add _ _) ?_
                refine g_iald (hd := dX7_gateOf_93) (C := hX) 2 1 rfl rfl (by omega) (by decide) ?_
                refine g_iload 4 (hd := dX7_gateOf_94) (C := hX) rfl ?_
                refine g_icmp_neN 103 (hd := dX7_gateOf_96) (C := hX) (by decide) (by omega) (by omega) (fun c_96 => ?_) (fun c_96 => ?_)
                · refine g_iconst (v := nI 0) hX dX7_gateOf_103 (by decide) ?_
                  refine g_iadd hX dX7_gateOf_104 ?_
                  refine g_top (y := (nI ((fb_ct (rdC c (c 0 + jg)) i) + 0))) (nI_add _ _) ?_
                  refine g_istore_n [(0, .ref o), (1, .int (nI jg)), (2, .int (nI jw)), (3, .int (nI ((fb_ct (rdC c (c 0 + jg)) i) + 0))), (4, .int (nI (c 0 + jg))), (5, .int (nI i))] [1, 2, 3, 0, 4, 5] (hd := dX7_gateOf_105) (C := hX) rfl (by decide) rfl ?_
                  refine g_iinc (v := (nI (i + 1))) 5 [(0, .ref o), (1, .int (nI jg)), (2, .int (nI jw)), (3, .int (nI ((fb_ct (rdC c (c 0 + jg)) i) + 0))), (4, .int (nI (c 0 + jg))), (5, .int (nI (i + 1)))] [1, 2, 3, 4, 5, 0] (hd := dX7_gateOf_106) (C := hX) rfl (nI_1 _) (by decide) rfl ?_
                  refine g_goto 53 (hd := dX7_gateOf_109) (C := hX) (by decide) ?_
                  refine g_lve [(0, .ref o), (1, .int (nI jg)), (2, .int (nI jw)), (3, .int (nI (fb_ct (rdC c (c 0 + jg)) (i + 1)))), (4, .int (nI (c 0 + jg))), (5, .int (nI (i + 1)))] (by simp [fb_ct_succ, rdC, c_79, c_96]) ?_
                  exact ih_53 (i + 1) (by omega) (by omega)
                · refine g_iconst (v := nI 1) hX dX7_gateOf_99 (by decide) ?_
                  refine g_goto 104 (hd := dX7_gateOf_100) (C := hX) (by decide) ?_
                  refine g_iadd hX dX7_gateOf_104 ?_
                  refine g_top (y := (nI ((fb_ct (rdC c (c 0 + jg)) i) + 1))) (nI_add _ _) ?_
                  refine g_istore_n [(0, .ref o), (1, .int (nI jg)), (2, .int (nI jw)), (3, .int (nI ((fb_ct (rdC c (c 0 + jg)) i) + 1))), (4, .int (nI (c 0 + jg))), (5, .int (nI i))] [1, 2, 3, 0, 4, 5] (hd := dX7_gateOf_105) (C := hX) rfl (by decide) rfl ?_
                  refine g_iinc (v := (nI (i + 1))) 5 [(0, .ref o), (1, .int (nI jg)), (2, .int (nI jw)), (3, .int (nI ((fb_ct (rdC c (c 0 + jg)) i) + 1))), (4, .int (nI (c 0 + jg))), (5, .int (nI (i + 1)))] [1, 2, 3, 4, 5, 0] (hd := dX7_gateOf_106) (C := hX) rfl (nI_1 _) (by decide) rfl ?_
                  refine g_goto 53 (hd := dX7_gateOf_109) (C := hX) (by decide) ?_
                  refine g_lve [(0, .ref o), (1, .int (nI jg)), (2, .int (nI jw)), (3, .int (nI (fb_ct (rdC c (c 0 + jg)) (i + 1)))), (4, .int (nI (c 0 + jg))), (5, .int (nI (i + 1)))] (by simp [fb_ct_succ, rdC, c_79, c_96]) ?_
                  exact ih_53 (i + 1) (by omega) (by omega)
        refine g_lve [(0, .ref o), (1, .int (nI jg)), (2, .int (nI jw)), (3, .int (nI (fb_ct (rdC c (c 0 + jg)) 0))), (4, .int (nI (c 0 + jg))), (5, .int (nI 0))] rfl ?_
        exact L_53 _ 0 (Nat.lt_succ_self _) (Nat.zero_le _)
      · refine g_aload_n 0 (hd := dX7_gateOf_24) (C := hX) rfl rfl ?_
        refine g_get (hd := dX7_gateOf_25) (C := hX) 0 2 rfl rfl in_X7_gateOf_7 (by decide) (by decide +kernel) rfl ?_
        refine g_bipush (v := nI 6) hX dX7_gateOf_28 (by decide) ?_
        refine g_iconst (v := nI 3) hX dX7_gateOf_30 (by decide) ?_
        refine g_iload_n 1 (hd := dX7_gateOf_31) (C := hX) rfl rfl ?_
        refine g_imul hX dX7_gateOf_32 ?_
        refine g_top (y := (nI (3 * jg))) (pk_mul _ _) ?_
        refine g_iadd hX dX7_gateOf_33 ?_
        refine g_top (y := (nI (6 + (3 * jg)))) (nI_add _ _) ?_
        refine g_iload_n 2 (hd := dX7_gateOf_34) (C := hX) rfl rfl ?_
        refine g_iadd hX dX7_gateOf_35 ?_
        refine g_top (y := (nI ((6 + (3 * jg)) + jw))) (nI_add _ _) ?_
        refine g_iald (hd := dX7_gateOf_36) (C := hX) 2 1 rfl rfl (by omega) (by decide) ?_
        exact (hret (nI (c ((6 + (3 * jg)) + jw))) _ _ (by unfold gfS; rw [iP_y ⟨p_2, (ii_k (by decide)).mp p_11⟩, cl_nI (by omega), cl_nI (by omega), if_pos c_21])).2.1 _ rfl rfl dX7_gateOf_37
    · show GW X [(o, .inr (7, [.int (nI len), .ref ot, .ref on, .ref od, .ref ow, .int (nI ch), .int (nI va), .int (nI en), .ref oi, .ref oe, .ref op, .long aE, .long aP, .long lt])), (ot, .inl (cI, 200, .inl (fun j_ => nI (T j_)))), (on, .inl (cI, 78, .inl (fun j_ => nI (c j_)))), (od, .inl (cI, 78, .inl (fun j_ => nI (rd j_)))), (ow, .inl (cI, 468, .inl (fun j_ => nI (ww j_)))), (oi, .inl (cI, 32, .inl (fun j_ => nI (wi j_)))), (oe, .inl (cJ, 256, .inr (.inl EX))), (op, .inl (cJ, 256, .inr (.inl PA)))] [(0, .ref o), (1, .int g), (2, .int wh)] [.int (nI 0)] 14 0 0
      refine g_if_neN 19 (hd := dX7_gateOf_14) (C := hX) (by decide) (by decide) (fun c_14 => absurd c_14 (by decide)) (fun c_14 => ?_)
      refine g_iconst (v := (-1)) hX dX7_gateOf_17 (by decide) ?_
      exact (hret (-1) _ _ (iP_n (fun z => p_11 ((ii_k (by decide)).mpr z.2))).symm).2.1 _ rfl rfl dX7_gateOf_18
  · show GW X [(o, .inr (7, [.int (nI len), .ref ot, .ref on, .ref od, .ref ow, .int (nI ch), .int (nI va), .int (nI en), .ref oi, .ref oe, .ref op, .long aE, .long aP, .long lt])), (ot, .inl (cI, 200, .inl (fun j_ => nI (T j_)))), (on, .inl (cI, 78, .inl (fun j_ => nI (c j_)))), (od, .inl (cI, 78, .inl (fun j_ => nI (rd j_)))), (ow, .inl (cI, 468, .inl (fun j_ => nI (ww j_)))), (oi, .inl (cI, 32, .inl (fun j_ => nI (wi j_)))), (oe, .inl (cJ, 256, .inr (.inl EX))), (op, .inl (cJ, 256, .inr (.inl PA)))] [(0, .ref o), (1, .int g), (2, .int wh)] [.int (nI 0)] 5 0 0
    refine g_if_eqN 17 (hd := dX7_gateOf_5) (C := hX) (by decide) (by decide) (fun c_5 => ?_) (fun c_5 => absurd c_5 (by decide))
    refine g_iconst (v := (-1)) hX dX7_gateOf_17 (by decide) ?_
    exact (hret (-1) _ _ (iP_n (fun z => p_2 z.1)).symm).2.1 _ rfl rfl dX7_gateOf_18

theorem in_X7_wire_7 : ∀ w ∈ wsX70, w ∈ wsX7_wire := fun _ h => List.mem_cons_of_mem _ (List.mem_append_right _ h)
theorem ok_X7_wire : gOK yX7_wire wsX7_wire ({ frames := 2, cells := 0, slots := 0, locals := 53 }) 3 2 := ⟨⟨_, _, _, rfl⟩, rfl, rfl, by decide, by decide, by decide +kernel⟩
set_option maxRecDepth 100000 in
set_option maxHeartbeats 4000000 in
theorem c_X7_wire (l : Launch) (D : va_G) (cC cI cJ cO : ClassId) (o : Nat) (ot : Nat) (on : Nat) (od : Nat) (ow : Nat) (oi : Nat) (oe : Nat) (op : Nat) (len : Nat) (ch : Nat) (va : Nat) (en : Nat) (aE : Int64) (aP : Int64) (lt : Int64) (T : Nat → Nat) (c : Nat → Nat) (rd : Nat → Nat) (ww : Nat → Nat) (wi : Nat → Nat) (EX : Nat → Int64) (PA : Nat → Int64) (wd : Int32) (w : Int32) (hok : okC c) : CM (S := Int32 × (Nat → Nat)) l D (tyL cC cI cJ cO) yX7_wire wsX7_wire ({ frames := 2, cells := 0, slots := 0, locals := 53 }) [.ref o, .int wd, .int w] [(o, .inr (7, [.int (nI len), .ref ot, .ref on, .ref od, .ref ow, .int (nI ch), .int (nI va), .int (nI en), .ref oi, .ref oe, .ref op, .long aE, .long aP, .long lt])), (ot, .inl (cI, 200, .inl (fun j_ => nI (T j_)))), (on, .inl (cI, 78, .inl (fun j_ => nI (c j_)))), (od, .inl (cI, 78, .inl (fun j_ => nI (rd j_)))), (ow, .inl (cI, 468, .inl (fun j_ => nI (ww j_)))), (oi, .inl (cI, 32, .inl (fun j_ => nI (wi j_)))), (oe, .inl (cJ, 256, .inr (.inl EX))), (op, .inl (cJ, 256, .inr (.inl PA)))] (fun u => some (.int u.1)) (fun u => u.1 = wiR c wd w) (fun u_ => [(o, .inr (7, [.int (nI len), .ref ot, .ref on, .ref od, .ref ow, .int (nI ch), .int (nI va), .int (nI en), .ref oi, .ref oe, .ref op, .long aE, .long aP, .long lt])), (ot, .inl (cI, 200, .inl (fun j_ => nI (T j_)))), (on, .inl (cI, 78, .inl (fun j_ => nI (c j_)))), (od, .inl (cI, 78, .inl (fun j_ => nI (rd j_)))), (ow, .inl (cI, 468, .inl (fun j_ => nI (ww j_)))), (oi, .inl (cI, 32, .inl (fun j_ => nI (u_.2 j_)))), (oe, .inl (cJ, 256, .inr (.inl EX))), (op, .inl (cJ, 256, .inr (.inl PA)))]) := by
  refine CM_in (cc := cX7_wire) (maxL := 3) (ret := (some .int)) (by decide) rfl (Nat.le_of_ble_eq_true rfl) ?_
  intro X hX hret
  show GW X [(o, .inr (7, [.int (nI len), .ref ot, .ref on, .ref od, .ref ow, .int (nI ch), .int (nI va), .int (nI en), .ref oi, .ref oe, .ref op, .long aE, .long aP, .long lt])), (ot, .inl (cI, 200, .inl (fun j_ => nI (T j_)))), (on, .inl (cI, 78, .inl (fun j_ => nI (c j_)))), (od, .inl (cI, 78, .inl (fun j_ => nI (rd j_)))), (ow, .inl (cI, 468, .inl (fun j_ => nI (ww j_)))), (oi, .inl (cI, 32, .inl (fun j_ => nI (wi j_)))), (oe, .inl (cJ, 256, .inr (.inl EX))), (op, .inl (cJ, 256, .inr (.inl PA)))] [(0, .ref o), (1, .int wd), (2, .int w)] [] 0 0 0
  have b0 := hok.2.1
  have b1 := hok.2.2.1
  have hp2 := p2_8 b0
  have hcd := hok.2.2.2.2.2.1
  refine g_aload_n 0 (hd := dX7_wire_0) (C := hX) rfl rfl ?_
  refine g_iload_n 1 (hd := dX7_wire_1) (C := hX) rfl rfl ?_
  refine g_callVs (rest := []) hX (c_X7_isWord l D cC cI cJ cO o ot on od ow oi oe op len ch va en aE aP lt T c rd ww wi EX PA wd b0) ok_X7_isWord rfl 0 rfl rfl (hd := dX7_wire_2) gX7_wire_X7_isWord ⟨by decide, by decide⟩ rfl (Nat.le_of_ble_eq_true rfl) ⟨Nat.zero_le _, Nat.zero_le _⟩ [0, 1, 2, 3, 4, 5, 6, 7] (by decide) rfl rfl ?_
  intro r_2 e_2
  rcases e_2 with ⟨rfl, p_2⟩ | ⟨rfl, p_2⟩
  · show GW X [(o, .inr (7, [.int (nI len), .ref ot, .ref on, .ref od, .ref ow, .int (nI ch), .int (nI va), .int (nI en), .ref oi, .ref oe, .ref op, .long aE, .long aP, .long lt])), (ot, .inl (cI, 200, .inl (fun j_ => nI (T j_)))), (on, .inl (cI, 78, .inl (fun j_ => nI (c j_)))), (od, .inl (cI, 78, .inl (fun j_ => nI (rd j_)))), (ow, .inl (cI, 468, .inl (fun j_ => nI (ww j_)))), (oi, .inl (cI, 32, .inl (fun j_ => nI (wi j_)))), (oe, .inl (cJ, 256, .inr (.inl EX))), (op, .inl (cJ, 256, .inr (.inl PA)))] [(0, .ref o), (1, .int wd), (2, .int w)] [.int (nI 1)] 5 0 0
    refine g_if_eqN 16 (hd := dX7_wire_5) (C := hX) (by decide) (by decide) (fun c_5 => absurd c_5 (by decide)) (fun c_5 => ?_)
    refine g_aload_n 0 (hd := dX7_wire_8) (C := hX) rfl rfl ?_
    refine g_iload_n 2 (hd := dX7_wire_9) (C := hX) rfl rfl ?_
    refine g_callVs (rest := []) hX (c_X7_isWire l D cC cI cJ cO o ot on od ow oi oe op len ch va en aE aP lt T c rd ww wi EX PA w b0 b1) ok_X7_isWire rfl 0 rfl rfl (hd := dX7_wire_10) gX7_wire_X7_isWire ⟨by decide, by decide⟩ rfl (Nat.le_of_ble_eq_true rfl) ⟨Nat.zero_le _, Nat.zero_le _⟩ [0, 1, 2, 3, 4, 5, 6, 7] (by decide) rfl rfl ?_
    intro r_10 e_10
    rcases e_10 with ⟨rfl, p_10⟩ | ⟨rfl, p_10⟩
    · show GW X [(o, .inr (7, [.int (nI len), .ref ot, .ref on, .ref od, .ref ow, .int (nI ch), .int (nI va), .int (nI en), .ref oi, .ref oe, .ref op, .long aE, .long aP, .long lt])), (ot, .inl (cI, 200, .inl (fun j_ => nI (T j_)))), (on, .inl (cI, 78, .inl (fun j_ => nI (c j_)))), (od, .inl (cI, 78, .inl (fun j_ => nI (rd j_)))), (ow, .inl (cI, 468, .inl (fun j_ => nI (ww j_)))), (oi, .inl (cI, 32, .inl (fun j_ => nI (wi j_)))), (oe, .inl (cJ, 256, .inr (.inl EX))), (op, .inl (cJ, 256, .inr (.inl PA)))] [(0, .ref o), (1, .int wd), (2, .int w)] [.int (nI 1)] 13 0 0
      refine g_if_neN 18 (hd := dX7_wire_13) (C := hX) (by decide) (by decide) (fun c_13 => ?_) (fun c_13 => absurd c_13 (by decide))
      obtain ⟨jwd, hjwd, rfl⟩ := vp_in_of p_2 (by omega)
      obtain ⟨jw, hjw, rfl⟩ := vp_in_of p_10 (by omega)
      refine g_aload_n 0 (hd := dX7_wire_18) (C := hX) rfl rfl ?_
      refine g_iload_n 1 (hd := dX7_wire_19) (C := hX) rfl rfl ?_
      refine g_bipush (v := (-4)) hX dX7_wire_20 (by decide) ?_
      refine g_bipush (v := (-4)) hX dX7_wire_22 (by decide) ?_
      refine g_callVp (rest := []) hX (c_X7_lets l D cC cI cJ cO o ot on od ow oi oe op len ch va en aE aP lt T c rd ww wi EX PA jwd (-4) (-4) none none (so_n (by decide)) (so_n (by decide)) (by omega) hok) ok_X7_lets rfl 0 rfl rfl (fun _ => rfl) (hd := dX7_wire_24) gX7_wire_X7_lets ⟨by decide, by decide⟩ rfl (Nat.le_of_ble_eq_true rfl) ⟨Nat.zero_le _, Nat.zero_le _⟩ [] rfl rfl ?_
      intro r_24 e_24
      subst e_24
      show GW X [(o, .inr (7, [.int (nI len), .ref ot, .ref on, .ref od, .ref ow, .int (nI ch), .int (nI va), .int (nI en), .ref oi, .ref oe, .ref op, .long aE, .long aP, .long lt])), (ot, .inl (cI, 200, .inl (fun j_ => nI (T j_)))), (on, .inl (cI, 78, .inl (fun j_ => nI (c j_)))), (od, .inl (cI, 78, .inl (fun j_ => nI (rd j_)))), (ow, .inl (cI, 468, .inl (fun j_ => nI (ww j_)))), (oi, .inl (cI, 32, .inl (fun j_ => nI ((rvA c jwd none none wi (c 0 + c 1)) j_)))), (oe, .inl (cJ, 256, .inr (.inl EX))), (op, .inl (cJ, 256, .inr (.inl PA)))] [(0, .ref o), (1, .int (nI jwd)), (2, .int (nI jw))] [.int (nI (2 * (rvA c jwd none none wi (c 0 + c 1)) (c 2) + (rvA c jwd none none wi (c 0 + c 1)) (c 3)))] 27 0 0
      refine g_pop hX dX7_wire_27 rfl ?_
      refine g_aload_n 0 (hd := dX7_wire_28) (C := hX) rfl rfl ?_
      refine g_get (hd := dX7_wire_29) (C := hX) 0 8 rfl rfl in_X7_wire_7 (by decide) (by decide +kernel) rfl ?_
      refine g_iload_n 2 (hd := dX7_wire_32) (C := hX) rfl rfl ?_
      refine g_iald (hd := dX7_wire_33) (C := hX) 5 1 rfl rfl (by omega) (by decide) ?_
      exact (hret ((nI ((rvA c jwd none none wi (c 0 + c 1)) jw)), (rvA c jwd none none wi (c 0 + c 1))) _ _ (by unfold wiR; rw [iP_y ⟨p_2, p_10⟩, cl_nI (by omega), cl_nI (by omega), rv_c0 hok jwd none none wi hjw])).2.1 _ rfl rfl dX7_wire_34
    · show GW X [(o, .inr (7, [.int (nI len), .ref ot, .ref on, .ref od, .ref ow, .int (nI ch), .int (nI va), .int (nI en), .ref oi, .ref oe, .ref op, .long aE, .long aP, .long lt])), (ot, .inl (cI, 200, .inl (fun j_ => nI (T j_)))), (on, .inl (cI, 78, .inl (fun j_ => nI (c j_)))), (od, .inl (cI, 78, .inl (fun j_ => nI (rd j_)))), (ow, .inl (cI, 468, .inl (fun j_ => nI (ww j_)))), (oi, .inl (cI, 32, .inl (fun j_ => nI (wi j_)))), (oe, .inl (cJ, 256, .inr (.inl EX))), (op, .inl (cJ, 256, .inr (.inl PA)))] [(0, .ref o), (1, .int wd), (2, .int w)] [.int (nI 0)] 13 0 0
      refine g_if_neN 18 (hd := dX7_wire_13) (C := hX) (by decide) (by decide) (fun c_13 => absurd c_13 (by decide)) (fun c_13 => ?_)
      refine g_iconst (v := (-1)) hX dX7_wire_16 (by decide) ?_
      exact (hret ((-1), wi) _ _ (iP_n (fun z => p_10 z.2)).symm).2.1 _ rfl rfl dX7_wire_17
  · show GW X [(o, .inr (7, [.int (nI len), .ref ot, .ref on, .ref od, .ref ow, .int (nI ch), .int (nI va), .int (nI en), .ref oi, .ref oe, .ref op, .long aE, .long aP, .long lt])), (ot, .inl (cI, 200, .inl (fun j_ => nI (T j_)))), (on, .inl (cI, 78, .inl (fun j_ => nI (c j_)))), (od, .inl (cI, 78, .inl (fun j_ => nI (rd j_)))), (ow, .inl (cI, 468, .inl (fun j_ => nI (ww j_)))), (oi, .inl (cI, 32, .inl (fun j_ => nI (wi j_)))), (oe, .inl (cJ, 256, .inr (.inl EX))), (op, .inl (cJ, 256, .inr (.inl PA)))] [(0, .ref o), (1, .int wd), (2, .int w)] [.int (nI 0)] 5 0 0
    refine g_if_eqN 16 (hd := dX7_wire_5) (C := hX) (by decide) (by decide) (fun c_5 => ?_) (fun c_5 => absurd c_5 (by decide))
    refine g_iconst (v := (-1)) hX dX7_wire_16 (by decide) ?_
    exact (hret ((-1), wi) _ _ (iP_n (fun z => p_2 z.1)).symm).2.1 _ rfl rfl dX7_wire_17

theorem in_X7_out_7 : ∀ w ∈ wsX70, w ∈ wsX7_out := fun _ h => List.mem_cons_of_mem _ (List.mem_append_right _ h)
theorem ok_X7_out : gOK yX7_out wsX7_out ({ frames := 2, cells := 0, slots := 0, locals := 53 }) 3 2 := ⟨⟨_, _, _, rfl⟩, rfl, rfl, by decide, by decide, by decide +kernel⟩
set_option maxRecDepth 100000 in
set_option maxHeartbeats 4000000 in
theorem c_X7_out (l : Launch) (D : va_G) (cC cI cJ cO : ClassId) (o : Nat) (ot : Nat) (on : Nat) (od : Nat) (ow : Nat) (oi : Nat) (oe : Nat) (op : Nat) (len : Nat) (ch : Nat) (va : Nat) (en : Nat) (aE : Int64) (aP : Int64) (lt : Int64) (T : Nat → Nat) (c : Nat → Nat) (rd : Nat → Nat) (ww : Nat → Nat) (wi : Nat → Nat) (EX : Nat → Int64) (PA : Nat → Int64) (wd : Int32) (sx : Int32) (hok : okC c) : CM (S := Int32 × (Nat → Nat)) l D (tyL cC cI cJ cO) yX7_out wsX7_out ({ frames := 2, cells := 0, slots := 0, locals := 53 }) [.ref o, .int wd, .int sx] [(o, .inr (7, [.int (nI len), .ref ot, .ref on, .ref od, .ref ow, .int (nI ch), .int (nI va), .int (nI en), .ref oi, .ref oe, .ref op, .long aE, .long aP, .long lt])), (ot, .inl (cI, 200, .inl (fun j_ => nI (T j_)))), (on, .inl (cI, 78, .inl (fun j_ => nI (c j_)))), (od, .inl (cI, 78, .inl (fun j_ => nI (rd j_)))), (ow, .inl (cI, 468, .inl (fun j_ => nI (ww j_)))), (oi, .inl (cI, 32, .inl (fun j_ => nI (wi j_)))), (oe, .inl (cJ, 256, .inr (.inl EX))), (op, .inl (cJ, 256, .inr (.inl PA)))] (fun u => some (.int u.1)) (fun u => u.1 = otR c wd sx) (fun u_ => [(o, .inr (7, [.int (nI len), .ref ot, .ref on, .ref od, .ref ow, .int (nI ch), .int (nI va), .int (nI en), .ref oi, .ref oe, .ref op, .long aE, .long aP, .long lt])), (ot, .inl (cI, 200, .inl (fun j_ => nI (T j_)))), (on, .inl (cI, 78, .inl (fun j_ => nI (c j_)))), (od, .inl (cI, 78, .inl (fun j_ => nI (rd j_)))), (ow, .inl (cI, 468, .inl (fun j_ => nI (ww j_)))), (oi, .inl (cI, 32, .inl (fun j_ => nI (u_.2 j_)))), (oe, .inl (cJ, 256, .inr (.inl EX))), (op, .inl (cJ, 256, .inr (.inl PA)))]) := by
  refine CM_in (cc := cX7_out) (maxL := 3) (ret := (some .int)) (by decide) rfl (Nat.le_of_ble_eq_true rfl) ?_
  intro X hX hret
  show GW X [(o, .inr (7, [.int (nI len), .ref ot, .ref on, .ref od, .ref ow, .int (nI ch), .int (nI va), .int (nI en), .ref oi, .ref oe, .ref op, .long aE, .long aP, .long lt])), (ot, .inl (cI, 200, .inl (fun j_ => nI (T j_)))), (on, .inl (cI, 78, .inl (fun j_ => nI (c j_)))), (od, .inl (cI, 78, .inl (fun j_ => nI (rd j_)))), (ow, .inl (cI, 468, .inl (fun j_ => nI (ww j_)))), (oi, .inl (cI, 32, .inl (fun j_ => nI (wi j_)))), (oe, .inl (cJ, 256, .inr (.inl EX))), (op, .inl (cJ, 256, .inr (.inl PA)))] [(0, .ref o), (1, .int wd), (2, .int sx)] [] 0 0 0
  have b0 := hok.2.1
  have b1 := hok.2.2.1
  have hp2 := p2_8 b0
  have hcd := hok.2.2.2.2.2.1
  refine g_aload_n 0 (hd := dX7_out_0) (C := hX) rfl rfl ?_
  refine g_iload_n 1 (hd := dX7_out_1) (C := hX) rfl rfl ?_
  refine g_callVs (rest := []) hX (c_X7_isWord l D cC cI cJ cO o ot on od ow oi oe op len ch va en aE aP lt T c rd ww wi EX PA wd b0) ok_X7_isWord rfl 0 rfl rfl (hd := dX7_out_2) gX7_out_X7_isWord ⟨by decide, by decide⟩ rfl (Nat.le_of_ble_eq_true rfl) ⟨Nat.zero_le _, Nat.zero_le _⟩ [0, 1, 2, 3, 4, 5, 6, 7] (by decide) rfl rfl ?_
  intro r_2 e_2
  rcases e_2 with ⟨rfl, p_2⟩ | ⟨rfl, p_2⟩
  · show GW X [(o, .inr (7, [.int (nI len), .ref ot, .ref on, .ref od, .ref ow, .int (nI ch), .int (nI va), .int (nI en), .ref oi, .ref oe, .ref op, .long aE, .long aP, .long lt])), (ot, .inl (cI, 200, .inl (fun j_ => nI (T j_)))), (on, .inl (cI, 78, .inl (fun j_ => nI (c j_)))), (od, .inl (cI, 78, .inl (fun j_ => nI (rd j_)))), (ow, .inl (cI, 468, .inl (fun j_ => nI (ww j_)))), (oi, .inl (cI, 32, .inl (fun j_ => nI (wi j_)))), (oe, .inl (cJ, 256, .inr (.inl EX))), (op, .inl (cJ, 256, .inr (.inl PA)))] [(0, .ref o), (1, .int wd), (2, .int sx)] [.int (nI 1)] 5 0 0
    refine g_if_eqN 32 (hd := dX7_out_5) (C := hX) (by decide) (by decide) (fun c_5 => absurd c_5 (by decide)) (fun c_5 => ?_)
    refine g_iload_n 2 (hd := dX7_out_8) (C := hX) rfl rfl ?_
    refine g_iconst (v := (-1)) hX dX7_out_9 (by decide) ?_
    refine g_icmp_eq 21 (hd := dX7_out_10) (C := hX) (by decide) (fun c_10 => ?_) (fun c_10 => ?_)
    · obtain ⟨jwd, hjwd, rfl⟩ := vp_in_of p_2 (by omega)
      subst c_10
      refine g_aload_n 0 (hd := dX7_out_21) (C := hX) rfl rfl ?_
      refine g_iload_n 1 (hd := dX7_out_22) (C := hX) rfl rfl ?_
      refine g_iload_n 2 (hd := dX7_out_23) (C := hX) rfl rfl ?_
      refine g_bipush (v := (-4)) hX dX7_out_24 (by decide) ?_
      refine g_callVp (rest := []) hX (c_X7_lets l D cC cI cJ cO o ot on od ow oi oe op len ch va en aE aP lt T c rd ww wi EX PA jwd (-1) (-4) none none (by first | exact so_n (by decide) | exact so_s (by omega)) (so_n (by decide)) (by omega) hok) ok_X7_lets rfl 0 rfl rfl (fun _ => rfl) (hd := dX7_out_26) gX7_out_X7_lets ⟨by decide, by decide⟩ rfl (Nat.le_of_ble_eq_true rfl) ⟨Nat.zero_le _, Nat.zero_le _⟩ [] rfl rfl ?_
      intro r_26 e_26
      subst e_26
      show GW X [(o, .inr (7, [.int (nI len), .ref ot, .ref on, .ref od, .ref ow, .int (nI ch), .int (nI va), .int (nI en), .ref oi, .ref oe, .ref op, .long aE, .long aP, .long lt])), (ot, .inl (cI, 200, .inl (fun j_ => nI (T j_)))), (on, .inl (cI, 78, .inl (fun j_ => nI (c j_)))), (od, .inl (cI, 78, .inl (fun j_ => nI (rd j_)))), (ow, .inl (cI, 468, .inl (fun j_ => nI (ww j_)))), (oi, .inl (cI, 32, .inl (fun j_ => nI ((rvA c jwd none none wi (c 0 + c 1)) j_)))), (oe, .inl (cJ, 256, .inr (.inl EX))), (op, .inl (cJ, 256, .inr (.inl PA)))] [(0, .ref o), (1, .int (nI jwd)), (2, .int (-1))] [.int (nI (2 * (rvA c jwd none none wi (c 0 + c 1)) (c 2) + (rvA c jwd none none wi (c 0 + c 1)) (c 3)))] 29 0 0
      refine g_goto 33 (hd := dX7_out_29) (C := hX) (by decide) ?_
      exact (hret ((nI (2 * (rvA c jwd none none wi (c 0 + c 1)) (c 2) + (rvA c jwd none none wi (c 0 + c 1)) (c 3))), (rvA c jwd none none wi (c 0 + c 1))) _ _ (by unfold otR; rw [iP_y ⟨p_2, Or.inl rfl⟩, iP_y rfl, cl_nI (by omega), ou_can hok])).2.1 _ rfl rfl dX7_out_33
    · refine g_aload_n 0 (hd := dX7_out_13) (C := hX) rfl rfl ?_
      refine g_iload_n 2 (hd := dX7_out_14) (C := hX) rfl rfl ?_
      refine g_callVs (rest := []) hX (c_X7_isStuck l D cC cI cJ cO o ot on od ow oi oe op len ch va en aE aP lt T c rd ww wi EX PA sx b0 b1) ok_X7_isStuck rfl 0 rfl rfl (hd := dX7_out_15) gX7_out_X7_isStuck ⟨by decide, by decide⟩ rfl (Nat.le_of_ble_eq_true rfl) ⟨Nat.zero_le _, Nat.zero_le _⟩ [0, 1, 2, 3, 4, 5, 6, 7] (by decide) rfl rfl ?_
      intro r_15 e_15
      rcases e_15 with ⟨rfl, p_15⟩ | ⟨rfl, p_15⟩
      · show GW X [(o, .inr (7, [.int (nI len), .ref ot, .ref on, .ref od, .ref ow, .int (nI ch), .int (nI va), .int (nI en), .ref oi, .ref oe, .ref op, .long aE, .long aP, .long lt])), (ot, .inl (cI, 200, .inl (fun j_ => nI (T j_)))), (on, .inl (cI, 78, .inl (fun j_ => nI (c j_)))), (od, .inl (cI, 78, .inl (fun j_ => nI (rd j_)))), (ow, .inl (cI, 468, .inl (fun j_ => nI (ww j_)))), (oi, .inl (cI, 32, .inl (fun j_ => nI (wi j_)))), (oe, .inl (cJ, 256, .inr (.inl EX))), (op, .inl (cJ, 256, .inr (.inl PA)))] [(0, .ref o), (1, .int wd), (2, .int sx)] [.int (nI 1)] 18 0 0
        refine g_if_eqN 32 (hd := dX7_out_18) (C := hX) (by decide) (by decide) (fun c_18 => absurd c_18 (by decide)) (fun c_18 => ?_)
        obtain ⟨jwd, hjwd, rfl⟩ := vp_in_of p_2 (by omega)
        obtain ⟨js, hjs, rfl⟩ := vp_in_of p_15 (by omega)
        refine g_aload_n 0 (hd := dX7_out_21) (C := hX) rfl rfl ?_
        refine g_iload_n 1 (hd := dX7_out_22) (C := hX) rfl rfl ?_
        refine g_iload_n 2 (hd := dX7_out_23) (C := hX) rfl rfl ?_
        refine g_bipush (v := (-4)) hX dX7_out_24 (by decide) ?_
        refine g_callVp (rest := []) hX (c_X7_lets l D cC cI cJ cO o ot on od ow oi oe op len ch va en aE aP lt T c rd ww wi EX PA jwd (nI js) (-4) (some js) none (by first | exact so_n (by decide) | exact so_s (by omega)) (so_n (by decide)) (by omega) hok) ok_X7_lets rfl 0 rfl rfl (fun _ => rfl) (hd := dX7_out_26) gX7_out_X7_lets ⟨by decide, by decide⟩ rfl (Nat.le_of_ble_eq_true rfl) ⟨Nat.zero_le _, Nat.zero_le _⟩ [] rfl rfl ?_
        intro r_26 e_26
        subst e_26
        show GW X [(o, .inr (7, [.int (nI len), .ref ot, .ref on, .ref od, .ref ow, .int (nI ch), .int (nI va), .int (nI en), .ref oi, .ref oe, .ref op, .long aE, .long aP, .long lt])), (ot, .inl (cI, 200, .inl (fun j_ => nI (T j_)))), (on, .inl (cI, 78, .inl (fun j_ => nI (c j_)))), (od, .inl (cI, 78, .inl (fun j_ => nI (rd j_)))), (ow, .inl (cI, 468, .inl (fun j_ => nI (ww j_)))), (oi, .inl (cI, 32, .inl (fun j_ => nI ((rvA c jwd (some js) none wi (c 0 + c 1)) j_)))), (oe, .inl (cJ, 256, .inr (.inl EX))), (op, .inl (cJ, 256, .inr (.inl PA)))] [(0, .ref o), (1, .int (nI jwd)), (2, .int (nI js))] [.int (nI (2 * (rvA c jwd (some js) none wi (c 0 + c 1)) (c 2) + (rvA c jwd (some js) none wi (c 0 + c 1)) (c 3)))] 29 0 0
        refine g_goto 33 (hd := dX7_out_29) (C := hX) (by decide) ?_
        exact (hret ((nI (2 * (rvA c jwd (some js) none wi (c 0 + c 1)) (c 2) + (rvA c jwd (some js) none wi (c 0 + c 1)) (c 3))), (rvA c jwd (some js) none wi (c 0 + c 1))) _ _ (by unfold otR; rw [iP_y ⟨p_2, Or.inr p_15⟩, iP_n (nI_neg (by decide) (by omega)), cl_nI (by omega), cl_nI (by omega), ou_can hok])).2.1 _ rfl rfl dX7_out_33
      · show GW X [(o, .inr (7, [.int (nI len), .ref ot, .ref on, .ref od, .ref ow, .int (nI ch), .int (nI va), .int (nI en), .ref oi, .ref oe, .ref op, .long aE, .long aP, .long lt])), (ot, .inl (cI, 200, .inl (fun j_ => nI (T j_)))), (on, .inl (cI, 78, .inl (fun j_ => nI (c j_)))), (od, .inl (cI, 78, .inl (fun j_ => nI (rd j_)))), (ow, .inl (cI, 468, .inl (fun j_ => nI (ww j_)))), (oi, .inl (cI, 32, .inl (fun j_ => nI (wi j_)))), (oe, .inl (cJ, 256, .inr (.inl EX))), (op, .inl (cJ, 256, .inr (.inl PA)))] [(0, .ref o), (1, .int wd), (2, .int sx)] [.int (nI 0)] 18 0 0
        refine g_if_eqN 32 (hd := dX7_out_18) (C := hX) (by decide) (by decide) (fun c_18 => ?_) (fun c_18 => absurd c_18 (by decide))
        refine g_iconst (v := (-1)) hX dX7_out_32 (by decide) ?_
        exact (hret ((-1), wi) _ _ (iP_n (fun z => z.2.elim c_10 p_15)).symm).2.1 _ rfl rfl dX7_out_33
  · show GW X [(o, .inr (7, [.int (nI len), .ref ot, .ref on, .ref od, .ref ow, .int (nI ch), .int (nI va), .int (nI en), .ref oi, .ref oe, .ref op, .long aE, .long aP, .long lt])), (ot, .inl (cI, 200, .inl (fun j_ => nI (T j_)))), (on, .inl (cI, 78, .inl (fun j_ => nI (c j_)))), (od, .inl (cI, 78, .inl (fun j_ => nI (rd j_)))), (ow, .inl (cI, 468, .inl (fun j_ => nI (ww j_)))), (oi, .inl (cI, 32, .inl (fun j_ => nI (wi j_)))), (oe, .inl (cJ, 256, .inr (.inl EX))), (op, .inl (cJ, 256, .inr (.inl PA)))] [(0, .ref o), (1, .int wd), (2, .int sx)] [.int (nI 0)] 5 0 0
    refine g_if_eqN 32 (hd := dX7_out_5) (C := hX) (by decide) (by decide) (fun c_5 => ?_) (fun c_5 => absurd c_5 (by decide))
    refine g_iconst (v := (-1)) hX dX7_out_32 (by decide) ?_
    exact (hret ((-1), wi) _ _ (iP_n (fun z => p_2 z.1)).symm).2.1 _ rfl rfl dX7_out_33

theorem in_X7_write_7 : ∀ w ∈ wsX70, w ∈ wsX7_write := fun _ h => List.mem_cons_of_mem _ (List.mem_append_right _ h)
theorem ok_X7_write : gOK yX7_write wsX7_write ({ frames := 0, cells := 0, slots := 0, locals := 0 }) 2 1 := ⟨⟨_, _, _, rfl⟩, rfl, rfl, by decide, by decide, by decide +kernel⟩
set_option maxRecDepth 100000 in
set_option maxHeartbeats 4000000 in
theorem c_X7_write (l : Launch) (D : va_G) (cC cI cJ cO : ClassId) (o : Nat) (ot : Nat) (on : Nat) (od : Nat) (ow : Nat) (oi : Nat) (oe : Nat) (op : Nat) (len : Nat) (ch : Nat) (va : Nat) (en : Nat) (aE : Int64) (aP : Int64) (lt : Int64) (T : Nat → Nat) (c : Nat → Nat) (rd : Nat → Nat) (ww : Nat → Nat) (wi : Nat → Nat) (EX : Nat → Int64) (PA : Nat → Int64) (le : Int32) (hl : len ≤ 200) : CM (S := Int32 × Nat × (Nat → Nat)) l D (tyL cC cI cJ cO) yX7_write wsX7_write ({ frames := 0, cells := 0, slots := 0, locals := 0 }) [.ref o, .int le] [(o, .inr (7, [.int (nI len), .ref ot, .ref on, .ref od, .ref ow, .int (nI ch), .int (nI va), .int (nI en), .ref oi, .ref oe, .ref op, .long aE, .long aP, .long lt])), (ot, .inl (cI, 200, .inl (fun j_ => nI (T j_)))), (on, .inl (cI, 78, .inl (fun j_ => nI (c j_)))), (od, .inl (cI, 78, .inl (fun j_ => nI (rd j_)))), (ow, .inl (cI, 468, .inl (fun j_ => nI (ww j_)))), (oi, .inl (cI, 32, .inl (fun j_ => nI (wi j_)))), (oe, .inl (cJ, 256, .inr (.inl EX))), (op, .inl (cJ, 256, .inr (.inl PA)))] (fun u => some (.int u.1)) (fun u => u = wrS le len T) (fun u_ => [(o, .inr (7, [.int (nI u_.2.1), .ref ot, .ref on, .ref od, .ref ow, .int (nI ch), .int (nI va), .int (nI en), .ref oi, .ref oe, .ref op, .long aE, .long aP, .long lt])), (ot, .inl (cI, 200, .inl (fun j_ => nI (u_.2.2 j_)))), (on, .inl (cI, 78, .inl (fun j_ => nI (c j_)))), (od, .inl (cI, 78, .inl (fun j_ => nI (rd j_)))), (ow, .inl (cI, 468, .inl (fun j_ => nI (ww j_)))), (oi, .inl (cI, 32, .inl (fun j_ => nI (wi j_)))), (oe, .inl (cJ, 256, .inr (.inl EX))), (op, .inl (cJ, 256, .inr (.inl PA)))]) := by
  refine CM_in (cc := cX7_write) (maxL := 2) (ret := (some .int)) (by decide) rfl (Nat.le_of_ble_eq_true rfl) ?_
  intro X hX hret
  show GW X [(o, .inr (7, [.int (nI len), .ref ot, .ref on, .ref od, .ref ow, .int (nI ch), .int (nI va), .int (nI en), .ref oi, .ref oe, .ref op, .long aE, .long aP, .long lt])), (ot, .inl (cI, 200, .inl (fun j_ => nI (T j_)))), (on, .inl (cI, 78, .inl (fun j_ => nI (c j_)))), (od, .inl (cI, 78, .inl (fun j_ => nI (rd j_)))), (ow, .inl (cI, 468, .inl (fun j_ => nI (ww j_)))), (oi, .inl (cI, 32, .inl (fun j_ => nI (wi j_)))), (oe, .inl (cJ, 256, .inr (.inl EX))), (op, .inl (cJ, 256, .inr (.inl PA)))] [(0, .ref o), (1, .int le)] [] 0 0 0
  refine g_iload_n 1 (hd := dX7_write_0) (C := hX) rfl rfl ?_
  refine g_bipush (v := nI 32) hX dX7_write_1 (by decide) ?_
  refine g_icmp_lt 12 (hd := dX7_write_3) (C := hX) (by decide) (fun c_3 => ?_) (fun c_3 => ?_)
  · refine g_iconst (v := (-1)) hX dX7_write_12 (by decide) ?_
    exact (hret ((-1), len, T) _ _ (wr_lo c_3).symm).2.1 _ rfl rfl dX7_write_13
  · refine g_iload_n 1 (hd := dX7_write_6) (C := hX) rfl rfl ?_
    refine g_bipush (v := nI 126) hX dX7_write_7 (by decide) ?_
    refine g_icmp_le 14 (hd := dX7_write_9) (C := hX) (by decide) (fun c_9 => ?_) (fun c_9 => ?_)
    · obtain ⟨z, h1, h2, rfl⟩ := gl_rng (by omega) (by omega) c_3 c_9
      refine g_aload_n 0 (hd := dX7_write_14) (C := hX) rfl rfl ?_
      refine g_get (hd := dX7_write_15) (C := hX) 0 0 rfl rfl in_X7_write_7 (by decide) (by decide +kernel) rfl ?_
      refine g_sipush (v := nI 200) hX dX7_write_18 (by decide) ?_
      refine g_icmp_neN 27 (hd := dX7_write_21) (C := hX) (by decide) (by omega) (by omega) (fun c_21 => ?_) (fun c_21 => ?_)
      · refine g_aload_n 0 (hd := dX7_write_27) (C := hX) rfl rfl ?_
        refine g_get (hd := dX7_write_28) (C := hX) 0 1 rfl rfl in_X7_write_7 (by decide) (by decide +kernel) rfl ?_
        refine g_aload_n 0 (hd := dX7_write_31) (C := hX) rfl rfl ?_
        refine g_get (hd := dX7_write_32) (C := hX) 0 0 rfl rfl in_X7_write_7 (by decide) (by decide +kernel) rfl ?_
        refine g_iload_n 1 (hd := dX7_write_35) (C := hX) rfl rfl ?_
        refine g_iast (hd := dX7_write_36) (C := hX) 1 1 [(o, .inr (7, [.int (nI len), .ref ot, .ref on, .ref od, .ref ow, .int (nI ch), .int (nI va), .int (nI en), .ref oi, .ref oe, .ref op, .long aE, .long aP, .long lt])), (ot, .inl (cI, 200, .inl (fun j_ => nI ((nup T len z) j_)))), (on, .inl (cI, 78, .inl (fun j_ => nI (c j_)))), (od, .inl (cI, 78, .inl (fun j_ => nI (rd j_)))), (ow, .inl (cI, 468, .inl (fun j_ => nI (ww j_)))), (oi, .inl (cI, 32, .inl (fun j_ => nI (wi j_)))), (oe, .inl (cJ, 256, .inr (.inl EX))), (op, .inl (cJ, 256, .inr (.inl PA)))] rfl rfl (by omega) (by decide) (by rw [nup_I]; rfl) ?_
        refine g_aload_n 0 (hd := dX7_write_37) (C := hX) rfl rfl ?_
        refine g_dup hX dX7_write_38 rfl ?_
        refine g_get (hd := dX7_write_39) (C := hX) 0 0 rfl rfl in_X7_write_7 (by decide) (by decide +kernel) rfl ?_
        refine g_iconst (v := nI 1) hX dX7_write_42 (by decide) ?_
        refine g_iadd hX dX7_write_43 ?_
        refine g_top (y := (nI (len + 1))) (nI_add _ _) ?_
        refine g_put (hd := dX7_write_44) (C := hX) 0 0 [(o, .inr (7, [.int (nI (len + 1)), .ref ot, .ref on, .ref od, .ref ow, .int (nI ch), .int (nI va), .int (nI en), .ref oi, .ref oe, .ref op, .long aE, .long aP, .long lt])), (ot, .inl (cI, 200, .inl (fun j_ => nI ((nup T len z) j_)))), (on, .inl (cI, 78, .inl (fun j_ => nI (c j_)))), (od, .inl (cI, 78, .inl (fun j_ => nI (rd j_)))), (ow, .inl (cI, 468, .inl (fun j_ => nI (ww j_)))), (oi, .inl (cI, 32, .inl (fun j_ => nI (wi j_)))), (oe, .inl (cJ, 256, .inr (.inl EX))), (op, .inl (cJ, 256, .inr (.inl PA)))] rfl rfl in_X7_write_7 tyX7_ok nmX7 (by decide) (by decide +kernel) rfl rfl rfl (Nat.le_of_ble_eq_true rfl) rfl ?_
        refine g_aload_n 0 (hd := dX7_write_47) (C := hX) rfl rfl ?_
        refine g_get (hd := dX7_write_48) (C := hX) 0 0 rfl rfl in_X7_write_7 (by decide) (by decide +kernel) rfl ?_
        exact (hret ((nI (len + 1)), len + 1, nup T len z) _ _ (wr_ok h1 h2 c_21).symm).2.1 _ rfl rfl dX7_write_51
      · refine g_bipush (v := (-3)) hX dX7_write_24 (by decide) ?_
        exact (hret ((-3), len, T) _ _ (wr_full h1 h2 c_21).symm).2.1 _ rfl rfl dX7_write_26
    · refine g_iconst (v := (-1)) hX dX7_write_12 (by decide) ?_
      exact (hret ((-1), len, T) _ _ (wr_hi c_9).symm).2.1 _ rfl rfl dX7_write_13

theorem in_X7_wipe_7 : ∀ w ∈ wsX70, w ∈ wsX7_wipe := fun _ h => List.mem_cons_of_mem _ (List.mem_append_right _ h)
theorem ok_X7_wipe : gOK yX7_wipe wsX7_wipe ({ frames := 0, cells := 0, slots := 0, locals := 0 }) 2 0 := ⟨⟨_, _, _, rfl⟩, rfl, rfl, by decide, by decide, by decide +kernel⟩
set_option maxRecDepth 100000 in
set_option maxHeartbeats 4000000 in
theorem c_X7_wipe (l : Launch) (D : va_G) (cC cI cJ cO : ClassId) (o : Nat) (ot : Nat) (on : Nat) (od : Nat) (ow : Nat) (oi : Nat) (oe : Nat) (op : Nat) (len : Nat) (ch : Nat) (va : Nat) (en : Nat) (aE : Int64) (aP : Int64) (lt : Int64) (T : Nat → Nat) (c : Nat → Nat) (rd : Nat → Nat) (ww : Nat → Nat) (wi : Nat → Nat) (EX : Nat → Int64) (PA : Nat → Int64) : CM (S := Int32) l D (tyL cC cI cJ cO) yX7_wipe wsX7_wipe ({ frames := 0, cells := 0, slots := 0, locals := 0 }) [.ref o] [(o, .inr (7, [.int (nI len), .ref ot, .ref on, .ref od, .ref ow, .int (nI ch), .int (nI va), .int (nI en), .ref oi, .ref oe, .ref op, .long aE, .long aP, .long lt])), (ot, .inl (cI, 200, .inl (fun j_ => nI (T j_)))), (on, .inl (cI, 78, .inl (fun j_ => nI (c j_)))), (od, .inl (cI, 78, .inl (fun j_ => nI (rd j_)))), (ow, .inl (cI, 468, .inl (fun j_ => nI (ww j_)))), (oi, .inl (cI, 32, .inl (fun j_ => nI (wi j_)))), (oe, .inl (cJ, 256, .inr (.inl EX))), (op, .inl (cJ, 256, .inr (.inl PA)))] (fun r => some (.int r)) (fun r => r = nI len) (fun u_ => [(o, .inr (7, [.int (nI 0), .ref ot, .ref on, .ref od, .ref ow, .int (nI ch), .int (nI va), .int (nI en), .ref oi, .ref oe, .ref op, .long aE, .long aP, .long lt])), (ot, .inl (cI, 200, .inl (fun j_ => nI (T j_)))), (on, .inl (cI, 78, .inl (fun j_ => nI (c j_)))), (od, .inl (cI, 78, .inl (fun j_ => nI (rd j_)))), (ow, .inl (cI, 468, .inl (fun j_ => nI (ww j_)))), (oi, .inl (cI, 32, .inl (fun j_ => nI (wi j_)))), (oe, .inl (cJ, 256, .inr (.inl EX))), (op, .inl (cJ, 256, .inr (.inl PA)))]) := by
  refine CM_in (cc := cX7_wipe) (maxL := 2) (ret := (some .int)) (by decide) rfl (Nat.le_of_ble_eq_true rfl) ?_
  intro X hX hret
  show GW X [(o, .inr (7, [.int (nI len), .ref ot, .ref on, .ref od, .ref ow, .int (nI ch), .int (nI va), .int (nI en), .ref oi, .ref oe, .ref op, .long aE, .long aP, .long lt])), (ot, .inl (cI, 200, .inl (fun j_ => nI (T j_)))), (on, .inl (cI, 78, .inl (fun j_ => nI (c j_)))), (od, .inl (cI, 78, .inl (fun j_ => nI (rd j_)))), (ow, .inl (cI, 468, .inl (fun j_ => nI (ww j_)))), (oi, .inl (cI, 32, .inl (fun j_ => nI (wi j_)))), (oe, .inl (cJ, 256, .inr (.inl EX))), (op, .inl (cJ, 256, .inr (.inl PA)))] [(0, .ref o)] [] 0 0 0
  refine g_aload_n 0 (hd := dX7_wipe_0) (C := hX) rfl rfl ?_
  refine g_get (hd := dX7_wipe_1) (C := hX) 0 0 rfl rfl in_X7_wipe_7 (by decide) (by decide +kernel) rfl ?_
  refine g_istore_n [(0, .ref o), (1, .int (nI len))] [1, 0] (hd := dX7_wipe_4) (C := hX) rfl (by decide) rfl ?_
  refine g_aload_n 0 (hd := dX7_wipe_5) (C := hX) rfl rfl ?_
  refine g_iconst (v := nI 0) hX dX7_wipe_6 (by decide) ?_
  refine g_put (hd := dX7_wipe_7) (C := hX) 0 0 [(o, .inr (7, [.int (nI 0), .ref ot, .ref on, .ref od, .ref ow, .int (nI ch), .int (nI va), .int (nI en), .ref oi, .ref oe, .ref op, .long aE, .long aP, .long lt])), (ot, .inl (cI, 200, .inl (fun j_ => nI (T j_)))), (on, .inl (cI, 78, .inl (fun j_ => nI (c j_)))), (od, .inl (cI, 78, .inl (fun j_ => nI (rd j_)))), (ow, .inl (cI, 468, .inl (fun j_ => nI (ww j_)))), (oi, .inl (cI, 32, .inl (fun j_ => nI (wi j_)))), (oe, .inl (cJ, 256, .inr (.inl EX))), (op, .inl (cJ, 256, .inr (.inl PA)))] rfl rfl in_X7_wipe_7 tyX7_ok nmX7 (by decide) (by decide +kernel) rfl rfl rfl (Nat.le_of_ble_eq_true rfl) rfl ?_
  refine g_iload_n 1 (hd := dX7_wipe_10) (C := hX) rfl rfl ?_
  exact (hret (nI len) _ _ rfl).2.1 _ rfl rfl dX7_wipe_11
