/-! the reference's stucks -/
theorem uLL (F : Nat → Int64) (w : Nat) (x y : Int64) : vp_updL (vp_updL F w x) w y = vp_updL F w y := by
  funext j
  by_cases h : j = w
  · subst h; rw [pk_uLs, pk_uLs]
  · rw [pk_uLn h, pk_uLn h, pk_uLn h]
def yC (c : Nat → Nat) (w : Nat) : Int64 := if inB c w = true then paC c w else 0
def rX (f : Nat → Int64) (EX : Nat → Int64) : Nat → Nat → Int64
  | 0 => EX
  | w + 1 => vp_updL (rX f EX w) w (f w)
theorem rX_at (f EX : Nat → Int64) : ∀ n w, w < n → rX f EX n w = f w
  | 0, w, h => absurd h (Nat.not_lt_zero w)
  | n + 1, w, h => by
    simp only [rX]
    rcases Nat.lt_or_ge w n with q | q
    · rw [pk_uLn (by omega)]; exact rX_at f EX n w q
    · have e : w = n := by omega
      subst e
      exact pk_uLs
theorem re_y {c : Nat → Nat} {w t : Nat} (h : ouC c w (some t) none = 1 ∨ ouC c w (some t) none = 2) : reB c w t = false := by unfold reB; rw [vaB_y h]; rfl
theorem re_n {c : Nat → Nat} {w t : Nat} (h : ¬ (ouC c w (some t) none = 1 ∨ ouC c w (some t) none = 2)) : reB c w t = true := by unfold reB; rw [vaB_n h]; rfl
theorem rp_0 {c : Nat → Nat} {w t : Nat} (h : ¬ (ouC c w (some t) none = 1 ∨ ouC c w (some t) none = 2)) : rpB c w t = false := by unfold rpB; rw [vaB_n h]; rfl
theorem rp_e {c : Nat → Nat} {w t : Nat} (h : ouC c w (some t) none = ouC c w none none) : rpB c w t = false := by unfold rpB; rw [h]; simp
theorem rp_1 {c : Nat → Nat} {w t : Nat} (h : ouC c w (some t) none = 1 ∨ ouC c w (some t) none = 2) (h2 : ¬ ouC c w (some t) none = ouC c w none none) : rpB c w t = true := by unfold rpB; rw [vaB_y h]; simp [h2]
theorem rl_e {c : Nat → Nat} {w t : Nat} (h : ouC c w (some t) none = ouC c w none none) : rlB c w t = false := by unfold rlB; rw [h]; simp
theorem rl_1 {c : Nat → Nat} {w t : Nat} (h2 : ¬ ouC c w (some t) none = ouC c w none none) : rlB c w t = true := by unfold rlB; simp [h2]
theorem xC_y {c : Nat → Nat} {w : Nat} (h : inB c w = true) : xC c w = exC c w := if_pos h
theorem yC_y {c : Nat → Nat} {w : Nat} (h : inB c w = true) : yC c w = paC c w := if_pos h
theorem xC_0 {c : Nat → Nat} {w : Nat} (h : ¬ inB c w = true) : xC c w = 0 := if_neg h
theorem yC_0 {c : Nat → Nat} {w : Nat} (h : ¬ inB c w = true) : yC c w = 0 := if_neg h
theorem bi_x {c : Nat → Nat} {w t : Nat} : tb (xC c w) t = 1 ↔ biF c (exC c) t w = true := by
  unfold xC biF
  split
  · rename_i h; simp [h]
  · rename_i h; simp [h, tb_0]
theorem bi_y {c : Nat → Nat} {w t : Nat} : tb (yC c w) t = 1 ↔ biF c (paC c) t w = true := by
  unfold yC biF
  split
  · rename_i h; simp [h]
  · rename_i h; simp [h, tb_0]
def lk2 (c : Nat → Nat) (kw : Nat) : Nat → Int64 := if kw % 2 = 0 then exC c else paC c
theorem sm1 (n : Nat) : nI n + (-1) = nI n - nI 1 := by rw [Int32.sub_eq_add_neg]; rfl
theorem sp1 (n : Nat) : nI (n + 1) - nI 1 = nI n := pk_sub (Nat.succ_le_succ (Nat.zero_le n))
theorem slt0 {i : Nat} (hi : i < 1000) (h : nI i - nI 1 < 0) : i = 0 := by
  rcases Nat.eq_zero_or_pos i with e | e
  · exact e
  · obtain ⟨n, rfl⟩ : ∃ n, i = n + 1 := ⟨i - 1, by omega⟩
    rw [sp1] at h
    exact absurd h (nI_pos (by omega))
theorem sge0 {i : Nat} (h : ¬ nI i - nI 1 < 0) : ∃ n, i = n + 1 := by
  rcases Nat.eq_zero_or_pos i with e | e
  · subst e; exact absurd (by decide) h
  · exact ⟨i - 1, by omega⟩
def lwI (p : Nat → Bool) (i n : Nat) (r : Int32) : Prop := (∃ w, i ≤ w ∧ w < n ∧ p w = true ∧ (∀ j, i ≤ j → j < w → p j = false) ∧ r = nI w) ∨ ((∀ w, i ≤ w → w < n → p w = false) ∧ r = -4)
theorem lwI_y {p : Nat → Bool} {i n : Nat} (h : p i = true) (hi : i < n) : lwI p i n (nI i) := Or.inl ⟨i, Nat.le_refl _, hi, h, fun j h1 h2 => absurd h1 (by omega), rfl⟩
theorem lwI_n {p : Nat → Bool} {i n : Nat} {r : Int32} (h : ¬ p i = true) (k : lwI p (i + 1) n r) : lwI p i n r := by
  have h0 : p i = false := Bool.eq_false_iff.mpr h
  rcases k with ⟨w, h1, h2, h3, h4, e⟩ | ⟨h1, e⟩
  · refine Or.inl ⟨w, by omega, h2, h3, fun j a1 a2 => ?_, e⟩
    rcases Nat.eq_or_lt_of_le a1 with q | q
    · rw [← q]; exact h0
    · exact h4 j q a2
  · refine Or.inr ⟨fun w a1 a2 => ?_, e⟩
    rcases Nat.eq_or_lt_of_le a1 with q | q
    · rw [← q]; exact h0
    · exact h1 w q a2
theorem lwI_0 {p : Nat → Bool} {n : Nat} {r : Int32} (k : lwI p 0 n r) : lwR p n r := by
  rcases k with ⟨w, h1, h2, h3, h4, e⟩ | ⟨h1, e⟩
  · exact Or.inl ⟨w, h2, h3, fun j hj => h4 j (Nat.zero_le _) hj, e⟩
  · exact Or.inr ⟨fun w hw => h1 w (Nat.zero_le _) hw, e⟩
theorem st_lo {c : Nat → Nat} {t kw m : Nat} (h : kw < 2) (e : m = fb_ct (biF c (lk2 c kw) t) (2 ^ c 0)) : stV c t kw (nI m) := by
  rcases (show kw = 0 ∨ kw = 1 by omega) with rfl | rfl
  · exact Or.inl ⟨rfl, by rw [e]; rfl⟩
  · exact Or.inr (Or.inl ⟨rfl, by rw [e]; rfl⟩)
theorem st_hi {c : Nat → Nat} {t kw : Nat} {r : Int32} (h : 2 ≤ kw) (h2 : kw ≤ 4) (h3 : ¬ kw = 4) (e : lwR (biF c (lk2 c kw) t) (2 ^ c 0) r) : stV c t kw r := by
  rcases (show kw = 2 ∨ kw = 3 by omega) with rfl | rfl
  · exact Or.inr (Or.inr (Or.inl ⟨rfl, e⟩))
  · exact Or.inr (Or.inr (Or.inr (Or.inl ⟨rfl, e⟩)))
theorem st_4y {c : Nat → Nat} (hok : okC c) {t kw : Nat} (ht : t < 2 * (c 0 + c 1)) (h4 : kw = 4) (h : tb (ltL c (2 ^ c 0)) t = 1) : stV c t kw (nI 1) := by
  have b0 := hok.2.1
  have b1 := hok.2.2.1
  refine Or.inr (Or.inr (Or.inr (Or.inr ⟨h4, ?_⟩)))
  rw [← lt_al hok, tb_is (v := 1) (by decide) ?_]
  rw [tb_and, tb_al hok (by omega)]
  exact ⟨fun _ => rfl, fun _ => ⟨h, ht⟩⟩
theorem st_4n {c : Nat → Nat} (hok : okC c) {t kw : Nat} (h4 : kw = 4) (h : ¬ tb (ltL c (2 ^ c 0)) t = 1) : stV c t kw (nI 0) := by
  refine Or.inr (Or.inr (Or.inr (Or.inr ⟨h4, ?_⟩)))
  rw [← lt_al hok, tb_is (v := 0) (by decide) ?_]
  rw [tb_and]
  exact ⟨fun z => absurd z.1 h, fun z => by cases z⟩
theorem is1 {c : Nat → Nat} (hok : okC c) {x : Int64} : pcL (x &&& alS c) = 2 * (c 0 + c 1) ↔ alS c &&& (x ^^^ (-1)) = 0 := by
  have b0 := hok.2.1
  have b1 := hok.2.2.1
  rw [← mn_pc hok]
  constructor
  · intro h
    have h2 : ∀ t, t < 2 * (c 0 + c 1) → tb x t = 1 := fun t ht => Classical.byContradiction fun z => by
      have q := (fb_lt (p := fun t => tb x t == 1) (q := fun _ => true) (2 * (c 0 + c 1)) (fun _ _ _ => rfl)).2 ⟨t, ht, rfl, by simp [z]⟩
      have := fb_ct_le (fun _ => true) (2 * (c 0 + c 1))
      omega
    refine tb_ext fun t ht => ?_
    rw [tb_and, tb_al hok ht, tb_not _ ht, tb_0]
    exact ⟨fun z => absurd (h2 t z.1) z.2, fun z => by cases z⟩
  · intro h
    have h2 : ∀ t, t < 2 * (c 0 + c 1) → tb x t = 1 := fun t ht => Classical.byContradiction fun z => by
      have q := (tb_and (alS c) (x ^^^ (-1)) t).mpr ⟨(tb_al hok (by omega)).mpr ht, (tb_not _ (by omega)).mpr z⟩
      rw [h, tb_0] at q
      cases q
    have al : ∀ n, n ≤ 2 * (c 0 + c 1) → fb_ct (fun t => tb x t == 1) n = n := fun n => by
      induction n with
      | zero => exact fun _ => rfl
      | succ n ih => intro hn; rw [fb_ct_succ, ih (by omega)]; simp [h2 n (by omega)]
    exact al _ (Nat.le_refl _)
theorem le0 {m : Nat} (hm : m < 1000) (h : nI m ≤ 0) : m = 0 := by
  rw [Int32.le_iff_toInt_le, nI_toInt (by omega)] at h
  have : (0 : Int32).toInt = 0 := rfl
  omega
theorem nle0 {m : Nat} (h : ¬ nI m ≤ 0) : ¬ m = 0 := fun z => h (by subst z; decide)
theorem wmF_le (c : Nat → Nat) (op : Int64) : ∀ n, (wmF c op n).2 ≤ 64 ∧ ((wmF c op n).1 ≤ n)
  | 0 => ⟨Nat.zero_le _, Nat.zero_le _⟩
  | n + 1 => by
    have ih := wmF_le c op n
    simp only [wmF]
    split
    · exact ⟨pcL_le _, Nat.le_succ n⟩
    · exact ⟨ih.1, by omega⟩
theorem op_al {c : Nat → Nat} (hok : okC c) (n : Nat) : opC c n &&& alS c = opC c n := tb_ext fun t ht => by
  rw [tb_and]
  refine ⟨fun z => z.1, fun z => ⟨z, ?_⟩⟩
  have h := op_sub c t n z
  rw [← or_al (ex_al hok)] at h
  exact ((tb_and _ _ _).mp h).2
theorem ts_at {c : Nat → Nat} {n : Nat} {r : Int32} (h : ∀ j, j < n → ¬ opC c j = 0) (hz : ¬ opC c n = 0) (hn : n < 2147483648) (e : r = nI (wmF c (opC c n) (2 ^ c 0)).1) : tsR c (nI n) r := by
  obtain ⟨m, hm, h0⟩ := ts_ex c
  refine Or.inr ⟨m, _, hm, Or.inr ⟨n, hn, rfl, Or.inl ⟨?_, e⟩⟩⟩
  rcases Nat.lt_trichotomy n m with q | q | q
  · exact q
  · subst q; exact absurd h0 hz
  · exact absurd h0 (h m q)
theorem ts_z {c : Nat → Nat} {n : Nat} (h : ∀ j, j < n → ¬ opC c j = 0) (hz : opC c n = 0) : tsK c n (fun j => (wmF c (opC c j) (2 ^ c 0)).1) := ⟨by have := op_pc n h; omega, fun j hj => ⟨h j hj, rfl⟩, Or.inr hz⟩
def btP (c : Nat → Nat) (s t kw w : Nat) : Bool := inB c w && (if kw = 0 then nvC c s t w else pbC c s t w)

theorem in_X7_many_7 : ∀ w ∈ wsX70, w ∈ wsX7_many := fun _ h => List.mem_cons_of_mem _ (List.mem_append_right _ h)
theorem ok_X7_many : gOK yX7_many wsX7_many ({ frames := 1, cells := 0, slots := 0, locals := 22 }) 5 1 := ⟨⟨_, _, _, rfl⟩, rfl, rfl, by decide, by decide, by decide +kernel⟩
set_option maxRecDepth 100000 in
set_option maxHeartbeats 4000000 in
theorem c_X7_many (l : Launch) (D : va_G) (cC cI cJ cO : ClassId) (o : Nat) (ot : Nat) (on : Nat) (od : Nat) (ow : Nat) (oi : Nat) (oe : Nat) (op : Nat) (len : Nat) (ch : Nat) (va : Nat) (en : Nat) (aE : Int64) (aP : Int64) (lt : Int64) (T : Nat → Nat) (c : Nat → Nat) (rd : Nat → Nat) (ww : Nat → Nat) (wi : Nat → Nat) (EX : Nat → Int64) (PA : Nat → Int64) (x : Int64) (hok : okC c) : CM (S := Int32) l D (tyL cC cI cJ cO) yX7_many wsX7_many ({ frames := 1, cells := 0, slots := 0, locals := 22 }) [.ref o, .long x] [(o, .inr (7, [.int (nI len), .ref ot, .ref on, .ref od, .ref ow, .int (nI ch), .int (nI va), .int (nI en), .ref oi, .ref oe, .ref op, .long aE, .long aP, .long lt])), (ot, .inl (cI, 200, .inl (fun j_ => nI (T j_)))), (on, .inl (cI, 78, .inl (fun j_ => nI (c j_)))), (od, .inl (cI, 78, .inl (fun j_ => nI (rd j_)))), (ow, .inl (cI, 468, .inl (fun j_ => nI (ww j_)))), (oi, .inl (cI, 32, .inl (fun j_ => nI (wi j_)))), (oe, .inl (cJ, 256, .inr (.inl EX))), (op, .inl (cJ, 256, .inr (.inl PA)))] (fun r => some (.int r)) (fun r => r = nI (pcL (x &&& alS c))) (fun u_ => [(o, .inr (7, [.int (nI len), .ref ot, .ref on, .ref od, .ref ow, .int (nI ch), .int (nI va), .int (nI en), .ref oi, .ref oe, .ref op, .long aE, .long aP, .long lt])), (ot, .inl (cI, 200, .inl (fun j_ => nI (T j_)))), (on, .inl (cI, 78, .inl (fun j_ => nI (c j_)))), (od, .inl (cI, 78, .inl (fun j_ => nI (rd j_)))), (ow, .inl (cI, 468, .inl (fun j_ => nI (ww j_)))), (oi, .inl (cI, 32, .inl (fun j_ => nI (wi j_)))), (oe, .inl (cJ, 256, .inr (.inl EX))), (op, .inl (cJ, 256, .inr (.inl PA)))]) := by
  refine CM_in (cc := cX7_many) (maxL := 5) (ret := (some .int)) (by decide) rfl (Nat.le_of_ble_eq_true rfl) ?_
  intro X hX hret
  show GW X [(o, .inr (7, [.int (nI len), .ref ot, .ref on, .ref od, .ref ow, .int (nI ch), .int (nI va), .int (nI en), .ref oi, .ref oe, .ref op, .long aE, .long aP, .long lt])), (ot, .inl (cI, 200, .inl (fun j_ => nI (T j_)))), (on, .inl (cI, 78, .inl (fun j_ => nI (c j_)))), (od, .inl (cI, 78, .inl (fun j_ => nI (rd j_)))), (ow, .inl (cI, 468, .inl (fun j_ => nI (ww j_)))), (oi, .inl (cI, 32, .inl (fun j_ => nI (wi j_)))), (oe, .inl (cJ, 256, .inr (.inl EX))), (op, .inl (cJ, 256, .inr (.inl PA)))] [(0, .ref o), (1, .long x)] [] 0 0 0
  have b0 := hok.2.1
  have b1 := hok.2.2.1
  have hp2 := p2_8 b0
  have hcd := hok.2.2.2.2.2.1
  refine g_iconst (v := nI 0) hX dX7_many_0 (by decide) ?_
  refine g_istore_n [(0, .ref o), (1, .long x), (3, .int (nI 0))] [1, 2, 0] (hd := dX7_many_1) (C := hX) rfl (by decide) rfl ?_
  refine g_iconst (v := nI 0) hX dX7_many_2 (by decide) ?_
  refine g_istore [(0, .ref o), (1, .long x), (3, .int (nI 0)), (4, .int (nI 0))] [1, 2, 3, 0] (hd := dX7_many_3) (C := hX) (by decide) rfl ?_
  have L_5 : ∀ (n_5 : Nat) (t : Nat), 2 * (c 0 + c 1) - t < n_5 → (t ≤ 2 * (c 0 + c 1)) → GW X [(o, .inr (7, [.int (nI len), .ref ot, .ref on, .ref od, .ref ow, .int (nI ch), .int (nI va), .int (nI en), .ref oi, .ref oe, .ref op, .long aE, .long aP, .long lt])), (ot, .inl (cI, 200, .inl (fun j_ => nI (T j_)))), (on, .inl (cI, 78, .inl (fun j_ => nI (c j_)))), (od, .inl (cI, 78, .inl (fun j_ => nI (rd j_)))), (ow, .inl (cI, 468, .inl (fun j_ => nI (ww j_)))), (oi, .inl (cI, 32, .inl (fun j_ => nI (wi j_)))), (oe, .inl (cJ, 256, .inr (.inl EX))), (op, .inl (cJ, 256, .inr (.inl PA)))] [(0, .ref o), (1, .long x), (3, .int (nI (fb_ct (fun t_ => tb x t_ == 1) t))), (4, .int (nI t))] [] 5 0 0 := by
    intro n_5
    induction n_5 with
    | zero => intro t hm_5; exact absurd hm_5 (Nat.not_lt_zero _)
    | succ n_5 ih_5 =>
      intro t hm_5 htL
      refine g_iload 3 (hd := dX7_many_5) (C := hX) rfl ?_
      refine g_iconst (v := nI 2) hX dX7_many_7 (by decide) ?_
      refine g_aload_n 0 (hd := dX7_many_8) (C := hX) rfl rfl ?_
      refine g_callVs (rest := [.int (nI 2), .int (nI t)]) hX (c_X7_wires l D cC cI cJ cO o ot on od ow oi oe op len ch va en aE aP lt T c rd ww wi EX PA) ok_X7_wires rfl 0 rfl rfl (hd := dX7_many_9) gX7_many_X7_wires ⟨by decide, by decide⟩ rfl (Nat.le_of_ble_eq_true rfl) ⟨Nat.zero_le _, Nat.zero_le _⟩ [0, 1, 2, 3, 4, 5, 6, 7] (by decide) rfl rfl ?_
      intro r_9 e_9
      subst e_9
      show GW X [(o, .inr (7, [.int (nI len), .ref ot, .ref on, .ref od, .ref ow, .int (nI ch), .int (nI va), .int (nI en), .ref oi, .ref oe, .ref op, .long aE, .long aP, .long lt])), (ot, .inl (cI, 200, .inl (fun j_ => nI (T j_)))), (on, .inl (cI, 78, .inl (fun j_ => nI (c j_)))), (od, .inl (cI, 78, .inl (fun j_ => nI (rd j_)))), (ow, .inl (cI, 468, .inl (fun j_ => nI (ww j_)))), (oi, .inl (cI, 32, .inl (fun j_ => nI (wi j_)))), (oe, .inl (cJ, 256, .inr (.inl EX))), (op, .inl (cJ, 256, .inr (.inl PA)))] [(0, .ref o), (1, .long x), (3, .int (nI (fb_ct (fun t_ => tb x t_ == 1) t))), (4, .int (nI t))] [.int (nI (c 0 + c 1)), .int (nI 2), .int (nI t)] 12 0 0
      refine g_imul hX dX7_many_12 ?_
      refine g_top (y := (nI (2 * (c 0 + c 1)))) (pk_mul _ _) ?_
      refine g_icmp_geN 39 (hd := dX7_many_13) (C := hX) (by decide) (by omega) (by omega) (fun c_13 => ?_) (fun c_13 => ?_)
      · refine g_iload_n 2 (hd := dX7_many_39) (C := hX) rfl rfl ?_
        exact (hret (nI (fb_ct (fun t_ => tb x t_ == 1) t)) _ _ (by rw [← mn_pc hok, show t = 2 * (c 0 + c 1) from by omega])).2.1 _ rfl rfl dX7_many_40
      · refine g_iload_n 2 (hd := dX7_many_16) (C := hX) rfl rfl ?_
        refine g_lload_n 1 (hd := dX7_many_17) (C := hX) rfl rfl ?_
        refine g_iload 3 (hd := dX7_many_18) (C := hX) rfl ?_
        refine g_callS (rest := [.int (nI (fb_ct (fun t_ => tb x t_ == 1) t))]) hX (c_X7_has l D cC cI cJ cO x t (by omega)) ok_X7_has (fun _ => rfl) (hd := dX7_many_20) gX7_many_X7_has ⟨by decide, by decide⟩ rfl (Nat.le_of_ble_eq_true rfl) ⟨Nat.zero_le _, Nat.zero_le _⟩ [] (by decide) rfl rfl ?_
        intro r_20 e_20
        rcases e_20 with ⟨rfl, p_20⟩ | ⟨rfl, p_20⟩
        · show GW X [(o, .inr (7, [.int (nI len), .ref ot, .ref on, .ref od, .ref ow, .int (nI ch), .int (nI va), .int (nI en), .ref oi, .ref oe, .ref op, .long aE, .long aP, .long lt])), (ot, .inl (cI, 200, .inl (fun j_ => nI (T j_)))), (on, .inl (cI, 78, .inl (fun j_ => nI (c j_)))), (od, .inl (cI, 78, .inl (fun j_ => nI (rd j_)))), (ow, .inl (cI, 468, .inl (fun j_ => nI (ww j_)))), (oi, .inl (cI, 32, .inl (fun j_ => nI (wi j_)))), (oe, .inl (cJ, 256, .inr (.inl EX))), (op, .inl (cJ, 256, .inr (.inl PA)))] [(0, .ref o), (1, .long x), (3, .int (nI (fb_ct (fun t_ => tb x t_ == 1) t))), (4, .int (nI t))] [.int (nI 1), .int (nI (fb_ct (fun t_ => tb x t_ == 1) t))] 23 0 0
          refine g_if_eqN 30 (hd := dX7_many_23) (C := hX) (by decide) (by decide) (fun c_23 => absurd c_23 (by decide)) (fun c_23 => ?_)
          refine g_iconst (v := nI 1) hX dX7_many_26 (by decide) ?_
          refine g_goto 31 (hd := dX7_many_27) (C := hX) (by decide) ?_
          refine g_iadd hX dX7_many_31 ?_
          refine g_top (y := (nI ((fb_ct (fun t_ => tb x t_ == 1) t) + 1))) (nI_add _ _) ?_
          refine g_istore_n [(0, .ref o), (1, .long x), (3, .int (nI ((fb_ct (fun t_ => tb x t_ == 1) t) + 1))), (4, .int (nI t))] [1, 2, 0, 3] (hd := dX7_many_32) (C := hX) rfl (by decide) rfl ?_
          refine g_iinc (v := (nI (t + 1))) 3 [(0, .ref o), (1, .long x), (3, .int (nI ((fb_ct (fun t_ => tb x t_ == 1) t) + 1))), (4, .int (nI (t + 1)))] [1, 2, 3, 0] (hd := dX7_many_33) (C := hX) rfl (nI_1 _) (by decide) rfl ?_
          refine g_goto 5 (hd := dX7_many_36) (C := hX) (by decide) ?_
          refine g_lve [(0, .ref o), (1, .long x), (3, .int (nI (fb_ct (fun t_ => tb x t_ == 1) (t + 1)))), (4, .int (nI (t + 1)))] (by simp [fb_ct_succ, p_20]) ?_
          exact ih_5 (t + 1) (by omega) (by omega)
        · show GW X [(o, .inr (7, [.int (nI len), .ref ot, .ref on, .ref od, .ref ow, .int (nI ch), .int (nI va), .int (nI en), .ref oi, .ref oe, .ref op, .long aE, .long aP, .long lt])), (ot, .inl (cI, 200, .inl (fun j_ => nI (T j_)))), (on, .inl (cI, 78, .inl (fun j_ => nI (c j_)))), (od, .inl (cI, 78, .inl (fun j_ => nI (rd j_)))), (ow, .inl (cI, 468, .inl (fun j_ => nI (ww j_)))), (oi, .inl (cI, 32, .inl (fun j_ => nI (wi j_)))), (oe, .inl (cJ, 256, .inr (.inl EX))), (op, .inl (cJ, 256, .inr (.inl PA)))] [(0, .ref o), (1, .long x), (3, .int (nI (fb_ct (fun t_ => tb x t_ == 1) t))), (4, .int (nI t))] [.int (nI 0), .int (nI (fb_ct (fun t_ => tb x t_ == 1) t))] 23 0 0
          refine g_if_eqN 30 (hd := dX7_many_23) (C := hX) (by decide) (by decide) (fun c_23 => ?_) (fun c_23 => absurd c_23 (by decide))
          refine g_iconst (v := nI 0) hX dX7_many_30 (by decide) ?_
          refine g_iadd hX dX7_many_31 ?_
          refine g_top (y := (nI ((fb_ct (fun t_ => tb x t_ == 1) t) + 0))) (nI_add _ _) ?_
          refine g_istore_n [(0, .ref o), (1, .long x), (3, .int (nI ((fb_ct (fun t_ => tb x t_ == 1) t) + 0))), (4, .int (nI t))] [1, 2, 0, 3] (hd := dX7_many_32) (C := hX) rfl (by decide) rfl ?_
          refine g_iinc (v := (nI (t + 1))) 3 [(0, .ref o), (1, .long x), (3, .int (nI ((fb_ct (fun t_ => tb x t_ == 1) t) + 0))), (4, .int (nI (t + 1)))] [1, 2, 3, 0] (hd := dX7_many_33) (C := hX) rfl (nI_1 _) (by decide) rfl ?_
          refine g_goto 5 (hd := dX7_many_36) (C := hX) (by decide) ?_
          refine g_lve [(0, .ref o), (1, .long x), (3, .int (nI (fb_ct (fun t_ => tb x t_ == 1) (t + 1)))), (4, .int (nI (t + 1)))] (by simp [fb_ct_succ, p_20]) ?_
          exact ih_5 (t + 1) (by omega) (by omega)
  refine g_lve [(0, .ref o), (1, .long x), (3, .int (nI (fb_ct (fun t_ => tb x t_ == 1) 0))), (4, .int (nI 0))] rfl ?_
  exact L_5 _ 0 (Nat.lt_succ_self _) (Nat.zero_le _)

theorem in_X7_isDisjoint_7 : ∀ w ∈ wsX70, w ∈ wsX7_isDisjoint := fun _ h => List.mem_cons_of_mem _ (List.mem_append_right _ h)
theorem ok_X7_isDisjoint : gOK yX7_isDisjoint wsX7_isDisjoint ({ frames := 2, cells := 0, slots := 0, locals := 53 }) 3 0 := ⟨⟨_, _, _, rfl⟩, rfl, rfl, by decide, by decide, by decide +kernel⟩
set_option maxRecDepth 100000 in
set_option maxHeartbeats 4000000 in
theorem c_X7_isDisjoint (l : Launch) (D : va_G) (cC cI cJ cO : ClassId) (o : Nat) (ot : Nat) (on : Nat) (od : Nat) (ow : Nat) (oi : Nat) (oe : Nat) (op : Nat) (len : Nat) (ch : Nat) (va : Nat) (en : Nat) (aE : Int64) (aP : Int64) (lt : Int64) (T : Nat → Nat) (c : Nat → Nat) (rd : Nat → Nat) (ww : Nat → Nat) (wi : Nat → Nat) (EX : Nat → Int64) (PA : Nat → Int64) (hok : okC c) : CM (S := Int32 × (Nat → Nat)) l D (tyL cC cI cJ cO) yX7_isDisjoint wsX7_isDisjoint ({ frames := 2, cells := 0, slots := 0, locals := 53 }) [.ref o] [(o, .inr (7, [.int (nI len), .ref ot, .ref on, .ref od, .ref ow, .int (nI ch), .int (nI va), .int (nI en), .ref oi, .ref oe, .ref op, .long aE, .long aP, .long lt])), (ot, .inl (cI, 200, .inl (fun j_ => nI (T j_)))), (on, .inl (cI, 78, .inl (fun j_ => nI (c j_)))), (od, .inl (cI, 78, .inl (fun j_ => nI (rd j_)))), (ow, .inl (cI, 468, .inl (fun j_ => nI (ww j_)))), (oi, .inl (cI, 32, .inl (fun j_ => nI (wi j_)))), (oe, .inl (cJ, 256, .inr (.inl EX))), (op, .inl (cJ, 256, .inr (.inl PA)))] (fun u => some (.int u.1)) (fun u => u.1 = nI (dCC c (2 ^ c 0))) (fun u_ => [(o, .inr (7, [.int (nI len), .ref ot, .ref on, .ref od, .ref ow, .int (nI ch), .int (nI va), .int (nI en), .ref oi, .ref oe, .ref op, .long aE, .long aP, .long lt])), (ot, .inl (cI, 200, .inl (fun j_ => nI (T j_)))), (on, .inl (cI, 78, .inl (fun j_ => nI (c j_)))), (od, .inl (cI, 78, .inl (fun j_ => nI (rd j_)))), (ow, .inl (cI, 468, .inl (fun j_ => nI (ww j_)))), (oi, .inl (cI, 32, .inl (fun j_ => nI (u_.2 j_)))), (oe, .inl (cJ, 256, .inr (.inl EX))), (op, .inl (cJ, 256, .inr (.inl PA)))]) := by
  refine CM_in (cc := cX7_isDisjoint) (maxL := 3) (ret := (some .boolean)) (by decide) rfl (Nat.le_of_ble_eq_true rfl) ?_
  intro X hX hret
  show GW X [(o, .inr (7, [.int (nI len), .ref ot, .ref on, .ref od, .ref ow, .int (nI ch), .int (nI va), .int (nI en), .ref oi, .ref oe, .ref op, .long aE, .long aP, .long lt])), (ot, .inl (cI, 200, .inl (fun j_ => nI (T j_)))), (on, .inl (cI, 78, .inl (fun j_ => nI (c j_)))), (od, .inl (cI, 78, .inl (fun j_ => nI (rd j_)))), (ow, .inl (cI, 468, .inl (fun j_ => nI (ww j_)))), (oi, .inl (cI, 32, .inl (fun j_ => nI (wi j_)))), (oe, .inl (cJ, 256, .inr (.inl EX))), (op, .inl (cJ, 256, .inr (.inl PA)))] [(0, .ref o)] [] 0 0 0
  have b0 := hok.2.1
  have b1 := hok.2.2.1
  have hp2 := p2_8 b0
  have hcd := hok.2.2.2.2.2.1
  refine g_iconst (v := nI 1) hX dX7_isDisjoint_0 (by decide) ?_
  refine g_istore_n [(0, .ref o), (1, .int (nI 1))] [1, 0] (hd := dX7_isDisjoint_1) (C := hX) rfl (by decide) rfl ?_
  refine g_iconst (v := nI 0) hX dX7_isDisjoint_2 (by decide) ?_
  refine g_istore_n [(0, .ref o), (1, .int (nI 1)), (2, .int (nI 0))] [1, 2, 0] (hd := dX7_isDisjoint_3) (C := hX) rfl (by decide) rfl ?_
  have L_4 : ∀ (n_4 : Nat) (w : Nat) (wj : Nat → Nat), 2 ^ c 0 - w < n_4 → (w ≤ 2 ^ c 0) → GW X [(o, .inr (7, [.int (nI len), .ref ot, .ref on, .ref od, .ref ow, .int (nI ch), .int (nI va), .int (nI en), .ref oi, .ref oe, .ref op, .long aE, .long aP, .long lt])), (ot, .inl (cI, 200, .inl (fun j_ => nI (T j_)))), (on, .inl (cI, 78, .inl (fun j_ => nI (c j_)))), (od, .inl (cI, 78, .inl (fun j_ => nI (rd j_)))), (ow, .inl (cI, 468, .inl (fun j_ => nI (ww j_)))), (oi, .inl (cI, 32, .inl (fun j_ => nI (wj j_)))), (oe, .inl (cJ, 256, .inr (.inl EX))), (op, .inl (cJ, 256, .inr (.inl PA)))] [(0, .ref o), (1, .int (nI (dCC c w))), (2, .int (nI w))] [] 4 0 0 := by
    intro n_4
    induction n_4 with
    | zero => intro w wj hm_4; exact absurd hm_4 (Nat.not_lt_zero _)
    | succ n_4 ih_4 =>
      intro w wj hm_4 hwL
      refine g_iload_n 2 (hd := dX7_isDisjoint_4) (C := hX) rfl rfl ?_
      refine g_aload_n 0 (hd := dX7_isDisjoint_5) (C := hX) rfl rfl ?_
      refine g_callVs (rest := [.int (nI w)]) hX (c_X7_all l D cC cI cJ cO o ot on od ow oi oe op len ch va en aE aP lt T c rd ww wj EX PA b0) ok_X7_all rfl 0 rfl rfl (hd := dX7_isDisjoint_6) gX7_isDisjoint_X7_all ⟨by decide, by decide⟩ rfl (Nat.le_of_ble_eq_true rfl) ⟨Nat.zero_le _, Nat.zero_le _⟩ [0, 1, 2, 3, 4, 5, 6, 7] (by decide) rfl rfl ?_
      intro r_6 e_6
      subst e_6
      show GW X [(o, .inr (7, [.int (nI len), .ref ot, .ref on, .ref od, .ref ow, .int (nI ch), .int (nI va), .int (nI en), .ref oi, .ref oe, .ref op, .long aE, .long aP, .long lt])), (ot, .inl (cI, 200, .inl (fun j_ => nI (T j_)))), (on, .inl (cI, 78, .inl (fun j_ => nI (c j_)))), (od, .inl (cI, 78, .inl (fun j_ => nI (rd j_)))), (ow, .inl (cI, 468, .inl (fun j_ => nI (ww j_)))), (oi, .inl (cI, 32, .inl (fun j_ => nI (wj j_)))), (oe, .inl (cJ, 256, .inr (.inl EX))), (op, .inl (cJ, 256, .inr (.inl PA)))] [(0, .ref o), (1, .int (nI (dCC c w))), (2, .int (nI w))] [.int (nI (2 ^ c 0)), .int (nI w)] 9 0 0
      refine g_icmp_geN 48 (hd := dX7_isDisjoint_9) (C := hX) (by decide) (by omega) (by omega) (fun c_9 => ?_) (fun c_9 => ?_)
      · refine g_iload_n 1 (hd := dX7_isDisjoint_48) (C := hX) rfl rfl ?_
        exact (hret ((nI (dCC c w)), wj) _ _ (by rw [show w = 2 ^ c 0 from by omega])).2.2.1 _ rfl rfl (by have q8 := dCC_le c w; rcases (show dCC c w = 0 ∨ dCC c w = 1 by omega) with q | q; rw [q]; exact Or.inl rfl; rw [q]; exact Or.inr rfl) dX7_isDisjoint_49
      · have q8 := dCC_le c w
        refine g_iload_n 1 (hd := dX7_isDisjoint_12) (C := hX) rfl rfl ?_
        refine g_if_eqN 40 (hd := dX7_isDisjoint_13) (C := hX) (by decide) (by omega) (fun c_13 => ?_) (fun c_13 => ?_)
        · refine g_iconst (v := nI 0) hX dX7_isDisjoint_40 (by decide) ?_
          refine g_istore_n [(0, .ref o), (1, .int (nI 0)), (2, .int (nI w))] [1, 0, 2] (hd := dX7_isDisjoint_41) (C := hX) rfl (by decide) rfl ?_
          refine g_iinc (v := (nI (w + 1))) 2 [(0, .ref o), (1, .int (nI 0)), (2, .int (nI (w + 1)))] [1, 2, 0] (hd := dX7_isDisjoint_42) (C := hX) rfl (nI_1 _) (by decide) rfl ?_
          refine g_goto 4 (hd := dX7_isDisjoint_45) (C := hX) (by decide) ?_
          refine g_lve [(0, .ref o), (1, .int (nI (dCC c (w + 1)))), (2, .int (nI (w + 1)))] (by simp [dCC, c_13]) ?_
          exact ih_4 (w + 1) wj (by omega) (by omega)
        · refine g_aload_n 0 (hd := dX7_isDisjoint_16) (C := hX) rfl rfl ?_
          refine g_iload_n 2 (hd := dX7_isDisjoint_17) (C := hX) rfl rfl ?_
          refine g_bipush (v := (-4)) hX dX7_isDisjoint_18 (by decide) ?_
          refine g_bipush (v := (-4)) hX dX7_isDisjoint_20 (by decide) ?_
          refine g_callVp (rest := []) hX (c_X7_lets l D cC cI cJ cO o ot on od ow oi oe op len ch va en aE aP lt T c rd ww wj EX PA w (-4) (-4) none none (by first | exact so_n (by decide) | exact so_s (by omega)) (by first | exact so_n (by decide) | exact so_s (by omega)) (by omega) hok) ok_X7_lets rfl 0 rfl rfl (fun _ => rfl) (hd := dX7_isDisjoint_22) gX7_isDisjoint_X7_lets ⟨by decide, by decide⟩ rfl (Nat.le_of_ble_eq_true rfl) ⟨Nat.zero_le _, Nat.zero_le _⟩ [] rfl rfl ?_
          intro r_22 e_22
          rw [ou_can hok] at e_22
          subst e_22
          show GW X [(o, .inr (7, [.int (nI len), .ref ot, .ref on, .ref od, .ref ow, .int (nI ch), .int (nI va), .int (nI en), .ref oi, .ref oe, .ref op, .long aE, .long aP, .long lt])), (ot, .inl (cI, 200, .inl (fun j_ => nI (T j_)))), (on, .inl (cI, 78, .inl (fun j_ => nI (c j_)))), (od, .inl (cI, 78, .inl (fun j_ => nI (rd j_)))), (ow, .inl (cI, 468, .inl (fun j_ => nI (ww j_)))), (oi, .inl (cI, 32, .inl (fun j_ => nI ((rvA c w none none wj (c 0 + c 1)) j_)))), (oe, .inl (cJ, 256, .inr (.inl EX))), (op, .inl (cJ, 256, .inr (.inl PA)))] [(0, .ref o), (1, .int (nI (dCC c w))), (2, .int (nI w))] [.int (nI (ouC c w none none))] 25 0 0
          have q7 := ou_lt hok w none none
          refine g_callS (rest := []) hX (c_X7_isValid l D cC cI cJ cO (ouC c w none none) (by omega)) ok_X7_isValid (fun _ => rfl) (hd := dX7_isDisjoint_25) gX7_isDisjoint_X7_isValid ⟨by decide, by decide⟩ rfl (Nat.le_of_ble_eq_true rfl) ⟨Nat.zero_le _, Nat.zero_le _⟩ [] (by decide) rfl rfl ?_
          intro r_25 e_25
          rcases e_25 with ⟨rfl, p_25⟩ | ⟨rfl, p_25⟩
          · show GW X [(o, .inr (7, [.int (nI len), .ref ot, .ref on, .ref od, .ref ow, .int (nI ch), .int (nI va), .int (nI en), .ref oi, .ref oe, .ref op, .long aE, .long aP, .long lt])), (ot, .inl (cI, 200, .inl (fun j_ => nI (T j_)))), (on, .inl (cI, 78, .inl (fun j_ => nI (c j_)))), (od, .inl (cI, 78, .inl (fun j_ => nI (rd j_)))), (ow, .inl (cI, 468, .inl (fun j_ => nI (ww j_)))), (oi, .inl (cI, 32, .inl (fun j_ => nI ((rvA c w none none wj (c 0 + c 1)) j_)))), (oe, .inl (cJ, 256, .inr (.inl EX))), (op, .inl (cJ, 256, .inr (.inl PA)))] [(0, .ref o), (1, .int (nI (dCC c w))), (2, .int (nI w))] [.int (nI 1)] 28 0 0
            refine g_aload_n 0 (hd := dX7_isDisjoint_28) (C := hX) rfl rfl ?_
            refine g_iload_n 2 (hd := dX7_isDisjoint_29) (C := hX) rfl rfl ?_
            refine g_callVs (rest := [.int (nI 1)]) hX (c_X7_isCode l D cC cI cJ cO o ot on od ow oi oe op len ch va en aE aP lt T c rd ww (rvA c w none none wj (c 0 + c 1)) EX PA w (by omega) b0 hcd) ok_X7_isCode rfl 0 rfl rfl (hd := dX7_isDisjoint_30) gX7_isDisjoint_X7_isCode ⟨by decide, by decide⟩ rfl (Nat.le_of_ble_eq_true rfl) ⟨Nat.zero_le _, Nat.zero_le _⟩ [0, 1, 2, 3, 4, 5, 6, 7] (by decide) rfl rfl ?_
            intro r_30 e_30
            rcases e_30 with ⟨rfl, p_30⟩ | ⟨rfl, p_30⟩
            · show GW X [(o, .inr (7, [.int (nI len), .ref ot, .ref on, .ref od, .ref ow, .int (nI ch), .int (nI va), .int (nI en), .ref oi, .ref oe, .ref op, .long aE, .long aP, .long lt])), (ot, .inl (cI, 200, .inl (fun j_ => nI (T j_)))), (on, .inl (cI, 78, .inl (fun j_ => nI (c j_)))), (od, .inl (cI, 78, .inl (fun j_ => nI (rd j_)))), (ow, .inl (cI, 468, .inl (fun j_ => nI (ww j_)))), (oi, .inl (cI, 32, .inl (fun j_ => nI ((rvA c w none none wj (c 0 + c 1)) j_)))), (oe, .inl (cJ, 256, .inr (.inl EX))), (op, .inl (cJ, 256, .inr (.inl PA)))] [(0, .ref o), (1, .int (nI (dCC c w))), (2, .int (nI w))] [.int (nI 1), .int (nI 1)] 33 0 0
              refine g_icmp_neN 40 (hd := dX7_isDisjoint_33) (C := hX) (by decide) (by decide) (by decide) (fun c_33 => absurd c_33 (by decide)) (fun c_33 => ?_)
              refine g_iconst (v := nI 1) hX dX7_isDisjoint_36 (by decide) ?_
              refine g_goto 41 (hd := dX7_isDisjoint_37) (C := hX) (by decide) ?_
              refine g_istore_n [(0, .ref o), (1, .int (nI 1)), (2, .int (nI w))] [1, 0, 2] (hd := dX7_isDisjoint_41) (C := hX) rfl (by decide) rfl ?_
              refine g_iinc (v := (nI (w + 1))) 2 [(0, .ref o), (1, .int (nI 1)), (2, .int (nI (w + 1)))] [1, 2, 0] (hd := dX7_isDisjoint_42) (C := hX) rfl (nI_1 _) (by decide) rfl ?_
              refine g_goto 4 (hd := dX7_isDisjoint_45) (C := hX) (by decide) ?_
              refine g_lve [(0, .ref o), (1, .int (nI (dCC c (w + 1)))), (2, .int (nI (w + 1)))] (by rw [show dCC c (w + 1) = 1 from by simp only [dCC]; rw [oC_ou hok, vaB_y p_25, p_30]; have q9 := dCC_le c w; simp; try omega]) ?_
              exact ih_4 (w + 1) (rvA c w none none wj (c 0 + c 1)) (by omega) (by omega)
            · show GW X [(o, .inr (7, [.int (nI len), .ref ot, .ref on, .ref od, .ref ow, .int (nI ch), .int (nI va), .int (nI en), .ref oi, .ref oe, .ref op, .long aE, .long aP, .long lt])), (ot, .inl (cI, 200, .inl (fun j_ => nI (T j_)))), (on, .inl (cI, 78, .inl (fun j_ => nI (c j_)))), (od, .inl (cI, 78, .inl (fun j_ => nI (rd j_)))), (ow, .inl (cI, 468, .inl (fun j_ => nI (ww j_)))), (oi, .inl (cI, 32, .inl (fun j_ => nI ((rvA c w none none wj (c 0 + c 1)) j_)))), (oe, .inl (cJ, 256, .inr (.inl EX))), (op, .inl (cJ, 256, .inr (.inl PA)))] [(0, .ref o), (1, .int (nI (dCC c w))), (2, .int (nI w))] [.int (nI 0), .int (nI 1)] 33 0 0
              refine g_icmp_neN 40 (hd := dX7_isDisjoint_33) (C := hX) (by decide) (by decide) (by decide) (fun c_33 => ?_) (fun c_33 => absurd c_33 (by decide))
              refine g_iconst (v := nI 0) hX dX7_isDisjoint_40 (by decide) ?_
              refine g_istore_n [(0, .ref o), (1, .int (nI 0)), (2, .int (nI w))] [1, 0, 2] (hd := dX7_isDisjoint_41) (C := hX) rfl (by decide) rfl ?_
              refine g_iinc (v := (nI (w + 1))) 2 [(0, .ref o), (1, .int (nI 0)), (2, .int (nI (w + 1)))] [1, 2, 0] (hd := dX7_isDisjoint_42) (C := hX) rfl (nI_1 _) (by decide) rfl ?_
              refine g_goto 4 (hd := dX7_isDisjoint_45) (C := hX) (by decide) ?_
              refine g_lve [(0, .ref o), (1, .int (nI (dCC c (w + 1)))), (2, .int (nI (w + 1)))] (by rw [show dCC c (w + 1) = 0 from by simp only [dCC]; rw [oC_ou hok, vaB_y p_25, Bool.eq_false_iff.mpr p_30]; have q9 := dCC_le c w; simp; try omega]) ?_
              exact ih_4 (w + 1) (rvA c w none none wj (c 0 + c 1)) (by omega) (by omega)
          · show GW X [(o, .inr (7, [.int (nI len), .ref ot, .ref on, .ref od, .ref ow, .int (nI ch), .int (nI va), .int (nI en), .ref oi, .ref oe, .ref op, .long aE, .long aP, .long lt])), (ot, .inl (cI, 200, .inl (fun j_ => nI (T j_)))), (on, .inl (cI, 78, .inl (fun j_ => nI (c j_)))), (od, .inl (cI, 78, .inl (fun j_ => nI (rd j_)))), (ow, .inl (cI, 468, .inl (fun j_ => nI (ww j_)))), (oi, .inl (cI, 32, .inl (fun j_ => nI ((rvA c w none none wj (c 0 + c 1)) j_)))), (oe, .inl (cJ, 256, .inr (.inl EX))), (op, .inl (cJ, 256, .inr (.inl PA)))] [(0, .ref o), (1, .int (nI (dCC c w))), (2, .int (nI w))] [.int (nI 0)] 28 0 0
            refine g_aload_n 0 (hd := dX7_isDisjoint_28) (C := hX) rfl rfl ?_
            refine g_iload_n 2 (hd := dX7_isDisjoint_29) (C := hX) rfl rfl ?_
            refine g_callVs (rest := [.int (nI 0)]) hX (c_X7_isCode l D cC cI cJ cO o ot on od ow oi oe op len ch va en aE aP lt T c rd ww (rvA c w none none wj (c 0 + c 1)) EX PA w (by omega) b0 hcd) ok_X7_isCode rfl 0 rfl rfl (hd := dX7_isDisjoint_30) gX7_isDisjoint_X7_isCode ⟨by decide, by decide⟩ rfl (Nat.le_of_ble_eq_true rfl) ⟨Nat.zero_le _, Nat.zero_le _⟩ [0, 1, 2, 3, 4, 5, 6, 7] (by decide) rfl rfl ?_
            intro r_30 e_30
            rcases e_30 with ⟨rfl, p_30⟩ | ⟨rfl, p_30⟩
            · show GW X [(o, .inr (7, [.int (nI len), .ref ot, .ref on, .ref od, .ref ow, .int (nI ch), .int (nI va), .int (nI en), .ref oi, .ref oe, .ref op, .long aE, .long aP, .long lt])), (ot, .inl (cI, 200, .inl (fun j_ => nI (T j_)))), (on, .inl (cI, 78, .inl (fun j_ => nI (c j_)))), (od, .inl (cI, 78, .inl (fun j_ => nI (rd j_)))), (ow, .inl (cI, 468, .inl (fun j_ => nI (ww j_)))), (oi, .inl (cI, 32, .inl (fun j_ => nI ((rvA c w none none wj (c 0 + c 1)) j_)))), (oe, .inl (cJ, 256, .inr (.inl EX))), (op, .inl (cJ, 256, .inr (.inl PA)))] [(0, .ref o), (1, .int (nI (dCC c w))), (2, .int (nI w))] [.int (nI 1), .int (nI 0)] 33 0 0
              refine g_icmp_neN 40 (hd := dX7_isDisjoint_33) (C := hX) (by decide) (by decide) (by decide) (fun c_33 => ?_) (fun c_33 => absurd c_33 (by decide))
              refine g_iconst (v := nI 0) hX dX7_isDisjoint_40 (by decide) ?_
              refine g_istore_n [(0, .ref o), (1, .int (nI 0)), (2, .int (nI w))] [1, 0, 2] (hd := dX7_isDisjoint_41) (C := hX) rfl (by decide) rfl ?_
              refine g_iinc (v := (nI (w + 1))) 2 [(0, .ref o), (1, .int (nI 0)), (2, .int (nI (w + 1)))] [1, 2, 0] (hd := dX7_isDisjoint_42) (C := hX) rfl (nI_1 _) (by decide) rfl ?_
              refine g_goto 4 (hd := dX7_isDisjoint_45) (C := hX) (by decide) ?_
              refine g_lve [(0, .ref o), (1, .int (nI (dCC c (w + 1)))), (2, .int (nI (w + 1)))] (by rw [show dCC c (w + 1) = 0 from by simp only [dCC]; rw [oC_ou hok, vaB_n p_25, p_30]; have q9 := dCC_le c w; simp; try omega]) ?_
              exact ih_4 (w + 1) (rvA c w none none wj (c 0 + c 1)) (by omega) (by omega)
            · show GW X [(o, .inr (7, [.int (nI len), .ref ot, .ref on, .ref od, .ref ow, .int (nI ch), .int (nI va), .int (nI en), .ref oi, .ref oe, .ref op, .long aE, .long aP, .long lt])), (ot, .inl (cI, 200, .inl (fun j_ => nI (T j_)))), (on, .inl (cI, 78, .inl (fun j_ => nI (c j_)))), (od, .inl (cI, 78, .inl (fun j_ => nI (rd j_)))), (ow, .inl (cI, 468, .inl (fun j_ => nI (ww j_)))), (oi, .inl (cI, 32, .inl (fun j_ => nI ((rvA c w none none wj (c 0 + c 1)) j_)))), (oe, .inl (cJ, 256, .inr (.inl EX))), (op, .inl (cJ, 256, .inr (.inl PA)))] [(0, .ref o), (1, .int (nI (dCC c w))), (2, .int (nI w))] [.int (nI 0), .int (nI 0)] 33 0 0
              refine g_icmp_neN 40 (hd := dX7_isDisjoint_33) (C := hX) (by decide) (by decide) (by decide) (fun c_33 => absurd c_33 (by decide)) (fun c_33 => ?_)
              refine g_iconst (v := nI 1) hX dX7_isDisjoint_36 (by decide) ?_
              refine g_goto 41 (hd := dX7_isDisjoint_37) (C := hX) (by decide) ?_
              refine g_istore_n [(0, .ref o), (1, .int (nI 1)), (2, .int (nI w))] [1, 0, 2] (hd := dX7_isDisjoint_41) (C := hX) rfl (by decide) rfl ?_
              refine g_iinc (v := (nI (w + 1))) 2 [(0, .ref o), (1, .int (nI 1)), (2, .int (nI (w + 1)))] [1, 2, 0] (hd := dX7_isDisjoint_42) (C := hX) rfl (nI_1 _) (by decide) rfl ?_
              refine g_goto 4 (hd := dX7_isDisjoint_45) (C := hX) (by decide) ?_
              refine g_lve [(0, .ref o), (1, .int (nI (dCC c (w + 1)))), (2, .int (nI (w + 1)))] (by rw [show dCC c (w + 1) = 1 from by simp only [dCC]; rw [oC_ou hok, vaB_n p_25, Bool.eq_false_iff.mpr p_30]; have q9 := dCC_le c w; simp; try omega]) ?_
              exact ih_4 (w + 1) (rvA c w none none wj (c 0 + c 1)) (by omega) (by omega)
  refine g_lve [(0, .ref o), (1, .int (nI (dCC c 0))), (2, .int (nI 0))] rfl ?_
  exact L_4 _ 0 wi (Nat.lt_succ_self _) (Nat.zero_le _)

theorem in_X7_looks_7 : ∀ w ∈ wsX70, w ∈ wsX7_looks := fun _ h => List.mem_cons_of_mem _ (List.mem_append_right _ h)
theorem ok_X7_looks : gOK yX7_looks wsX7_looks ({ frames := 2, cells := 0, slots := 0, locals := 53 }) 5 0 := ⟨⟨_, _, _, rfl⟩, rfl, rfl, by decide, by decide, by decide +kernel⟩
set_option maxRecDepth 100000 in
set_option maxHeartbeats 4000000 in
theorem c_X7_looks (l : Launch) (D : va_G) (cC cI cJ cO : ClassId) (o : Nat) (ot : Nat) (on : Nat) (od : Nat) (ow : Nat) (oi : Nat) (oe : Nat) (op : Nat) (len : Nat) (ch : Nat) (va : Nat) (en : Nat) (aE : Int64) (aP : Int64) (lt : Int64) (T : Nat → Nat) (c : Nat → Nat) (rd : Nat → Nat) (ww : Nat → Nat) (wi : Nat → Nat) (EX : Nat → Int64) (PA : Nat → Int64) (hok : okC c) : CM (S := (Nat → Nat) × (Nat → Int64) × (Nat → Int64)) l D (tyL cC cI cJ cO) yX7_looks wsX7_looks ({ frames := 2, cells := 0, slots := 0, locals := 53 }) [.ref o] [(o, .inr (7, [.int (nI len), .ref ot, .ref on, .ref od, .ref ow, .int (nI ch), .int (nI va), .int (nI en), .ref oi, .ref oe, .ref op, .long aE, .long aP, .long lt])), (ot, .inl (cI, 200, .inl (fun j_ => nI (T j_)))), (on, .inl (cI, 78, .inl (fun j_ => nI (c j_)))), (od, .inl (cI, 78, .inl (fun j_ => nI (rd j_)))), (ow, .inl (cI, 468, .inl (fun j_ => nI (ww j_)))), (oi, .inl (cI, 32, .inl (fun j_ => nI (wi j_)))), (oe, .inl (cJ, 256, .inr (.inl EX))), (op, .inl (cJ, 256, .inr (.inl PA)))] (fun _ => none) (fun u => ∀ w, w < 2 ^ c 0 → u.2.1 w = xC c w ∧ u.2.2 w = yC c w) (fun u_ => [(o, .inr (7, [.int (nI len), .ref ot, .ref on, .ref od, .ref ow, .int (nI ch), .int (nI va), .int (nI en), .ref oi, .ref oe, .ref op, .long (orC c (exC c) (2 ^ c 0)), .long (orC c (paC c) (2 ^ c 0)), .long (ltL c (2 ^ c 0))])), (ot, .inl (cI, 200, .inl (fun j_ => nI (T j_)))), (on, .inl (cI, 78, .inl (fun j_ => nI (c j_)))), (od, .inl (cI, 78, .inl (fun j_ => nI (rd j_)))), (ow, .inl (cI, 468, .inl (fun j_ => nI (ww j_)))), (oi, .inl (cI, 32, .inl (fun j_ => nI (u_.1 j_)))), (oe, .inl (cJ, 256, .inr (.inl u_.2.1))), (op, .inl (cJ, 256, .inr (.inl u_.2.2)))]) := by
  refine CM_in (cc := cX7_looks) (maxL := 5) (ret := none) (by decide) rfl (Nat.le_of_ble_eq_true rfl) ?_
  intro X hX hret
  show GW X [(o, .inr (7, [.int (nI len), .ref ot, .ref on, .ref od, .ref ow, .int (nI ch), .int (nI va), .int (nI en), .ref oi, .ref oe, .ref op, .long aE, .long aP, .long lt])), (ot, .inl (cI, 200, .inl (fun j_ => nI (T j_)))), (on, .inl (cI, 78, .inl (fun j_ => nI (c j_)))), (od, .inl (cI, 78, .inl (fun j_ => nI (rd j_)))), (ow, .inl (cI, 468, .inl (fun j_ => nI (ww j_)))), (oi, .inl (cI, 32, .inl (fun j_ => nI (wi j_)))), (oe, .inl (cJ, 256, .inr (.inl EX))), (op, .inl (cJ, 256, .inr (.inl PA)))] [(0, .ref o)] [] 0 0 0
  have b0 := hok.2.1
  have b1 := hok.2.2.1
  have hp2 := p2_8 b0
  have hcd := hok.2.2.2.2.2.1
  refine g_aload_n 0 (hd := dX7_looks_0) (C := hX) rfl rfl ?_
  refine g_lconst (v := 0) hX dX7_looks_1 rfl ?_
  refine g_put (hd := dX7_looks_2) (C := hX) 0 11 [(o, .inr (7, [.int (nI len), .ref ot, .ref on, .ref od, .ref ow, .int (nI ch), .int (nI va), .int (nI en), .ref oi, .ref oe, .ref op, .long (0 : Int64), .long aP, .long lt])), (ot, .inl (cI, 200, .inl (fun j_ => nI (T j_)))), (on, .inl (cI, 78, .inl (fun j_ => nI (c j_)))), (od, .inl (cI, 78, .inl (fun j_ => nI (rd j_)))), (ow, .inl (cI, 468, .inl (fun j_ => nI (ww j_)))), (oi, .inl (cI, 32, .inl (fun j_ => nI (wi j_)))), (oe, .inl (cJ, 256, .inr (.inl EX))), (op, .inl (cJ, 256, .inr (.inl PA)))] rfl rfl in_X7_looks_7 tyX7_ok nmX7 (by decide) (by decide +kernel) rfl rfl rfl (Nat.le_of_ble_eq_true rfl) rfl ?_
  refine g_aload_n 0 (hd := dX7_looks_5) (C := hX) rfl rfl ?_
  refine g_lconst (v := 0) hX dX7_looks_6 rfl ?_
  refine g_put (hd := dX7_looks_7) (C := hX) 0 12 [(o, .inr (7, [.int (nI len), .ref ot, .ref on, .ref od, .ref ow, .int (nI ch), .int (nI va), .int (nI en), .ref oi, .ref oe, .ref op, .long (0 : Int64), .long (0 : Int64), .long lt])), (ot, .inl (cI, 200, .inl (fun j_ => nI (T j_)))), (on, .inl (cI, 78, .inl (fun j_ => nI (c j_)))), (od, .inl (cI, 78, .inl (fun j_ => nI (rd j_)))), (ow, .inl (cI, 468, .inl (fun j_ => nI (ww j_)))), (oi, .inl (cI, 32, .inl (fun j_ => nI (wi j_)))), (oe, .inl (cJ, 256, .inr (.inl EX))), (op, .inl (cJ, 256, .inr (.inl PA)))] rfl rfl in_X7_looks_7 tyX7_ok nmX7 (by decide) (by decide +kernel) rfl rfl rfl (Nat.le_of_ble_eq_true rfl) rfl ?_
  refine g_aload_n 0 (hd := dX7_looks_10) (C := hX) rfl rfl ?_
  refine g_ldc2 (v := (-1)) hX dX7_looks_11 (by decide +kernel) ?_
  refine g_put (hd := dX7_looks_14) (C := hX) 0 13 [(o, .inr (7, [.int (nI len), .ref ot, .ref on, .ref od, .ref ow, .int (nI ch), .int (nI va), .int (nI en), .ref oi, .ref oe, .ref op, .long (0 : Int64), .long (0 : Int64), .long ((-1) : Int64)])), (ot, .inl (cI, 200, .inl (fun j_ => nI (T j_)))), (on, .inl (cI, 78, .inl (fun j_ => nI (c j_)))), (od, .inl (cI, 78, .inl (fun j_ => nI (rd j_)))), (ow, .inl (cI, 468, .inl (fun j_ => nI (ww j_)))), (oi, .inl (cI, 32, .inl (fun j_ => nI (wi j_)))), (oe, .inl (cJ, 256, .inr (.inl EX))), (op, .inl (cJ, 256, .inr (.inl PA)))] rfl rfl in_X7_looks_7 tyX7_ok nmX7 (by decide) (by decide +kernel) rfl rfl rfl (Nat.le_of_ble_eq_true rfl) rfl ?_
  refine g_iconst (v := nI 0) hX dX7_looks_17 (by decide) ?_
  refine g_istore_n [(0, .ref o), (1, .int (nI 0))] [1, 0] (hd := dX7_looks_18) (C := hX) rfl (by decide) rfl ?_
  have L_19 : ∀ (n_19 : Nat) (w : Nat) (wj : Nat → Nat), 2 ^ c 0 - w < n_19 → (w ≤ 2 ^ c 0) → GW X [(o, .inr (7, [.int (nI len), .ref ot, .ref on, .ref od, .ref ow, .int (nI ch), .int (nI va), .int (nI en), .ref oi, .ref oe, .ref op, .long (orC c (exC c) w), .long (orC c (paC c) w), .long (ltL c w)])), (ot, .inl (cI, 200, .inl (fun j_ => nI (T j_)))), (on, .inl (cI, 78, .inl (fun j_ => nI (c j_)))), (od, .inl (cI, 78, .inl (fun j_ => nI (rd j_)))), (ow, .inl (cI, 468, .inl (fun j_ => nI (ww j_)))), (oi, .inl (cI, 32, .inl (fun j_ => nI (wj j_)))), (oe, .inl (cJ, 256, .inr (.inl (rX (xC c) EX w)))), (op, .inl (cJ, 256, .inr (.inl (rX (yC c) PA w))))] [(0, .ref o), (1, .int (nI w))] [] 19 0 0 := by
    intro n_19
    induction n_19 with
    | zero => intro w wj hm_19; exact absurd hm_19 (Nat.not_lt_zero _)
    | succ n_19 ih_19 =>
      intro w wj hm_19 hwL
      refine g_iload_n 1 (hd := dX7_looks_19) (C := hX) rfl rfl ?_
      refine g_aload_n 0 (hd := dX7_looks_20) (C := hX) rfl rfl ?_
      refine g_callVs (rest := [.int (nI w)]) hX (c_X7_all l D cC cI cJ cO o ot on od ow oi oe op len ch va en (orC c (exC c) w) (orC c (paC c) w) (ltL c w) T c rd ww wj (rX (xC c) EX w) (rX (yC c) PA w) b0) ok_X7_all rfl 0 rfl rfl (hd := dX7_looks_21) gX7_looks_X7_all ⟨by decide, by decide⟩ rfl (Nat.le_of_ble_eq_true rfl) ⟨Nat.zero_le _, Nat.zero_le _⟩ [0, 1, 2, 3, 4, 5, 6, 7] (by decide) rfl rfl ?_
      intro r_21 e_21
      subst e_21
      show GW X [(o, .inr (7, [.int (nI len), .ref ot, .ref on, .ref od, .ref ow, .int (nI ch), .int (nI va), .int (nI en), .ref oi, .ref oe, .ref op, .long (orC c (exC c) w), .long (orC c (paC c) w), .long (ltL c w)])), (ot, .inl (cI, 200, .inl (fun j_ => nI (T j_)))), (on, .inl (cI, 78, .inl (fun j_ => nI (c j_)))), (od, .inl (cI, 78, .inl (fun j_ => nI (rd j_)))), (ow, .inl (cI, 468, .inl (fun j_ => nI (ww j_)))), (oi, .inl (cI, 32, .inl (fun j_ => nI (wj j_)))), (oe, .inl (cJ, 256, .inr (.inl (rX (xC c) EX w)))), (op, .inl (cJ, 256, .inr (.inl (rX (yC c) PA w))))] [(0, .ref o), (1, .int (nI w))] [.int (nI (2 ^ c 0)), .int (nI w)] 24 0 0
      refine g_icmp_geN 205 (hd := dX7_looks_24) (C := hX) (by decide) (by omega) (by omega) (fun c_24 => ?_) (fun c_24 => ?_)
      · refine g_w [(o, .inr (7, [.int (nI len), .ref ot, .ref on, .ref od, .ref ow, .int (nI ch), .int (nI va), .int (nI en), .ref oi, .ref oe, .ref op, .long (orC c (exC c) (2 ^ c 0)), .long (orC c (paC c) (2 ^ c 0)), .long (ltL c (2 ^ c 0))])), (ot, .inl (cI, 200, .inl (fun j_ => nI (T j_)))), (on, .inl (cI, 78, .inl (fun j_ => nI (c j_)))), (od, .inl (cI, 78, .inl (fun j_ => nI (rd j_)))), (ow, .inl (cI, 468, .inl (fun j_ => nI (ww j_)))), (oi, .inl (cI, 32, .inl (fun j_ => nI ((((wj, rX (xC c) EX (2 ^ c 0), rX (yC c) PA (2 ^ c 0)) : (Nat → Nat) × (Nat → Int64) × (Nat → Int64)).1) j_)))), (oe, .inl (cJ, 256, .inr (.inl (((wj, rX (xC c) EX (2 ^ c 0), rX (yC c) PA (2 ^ c 0)) : (Nat → Nat) × (Nat → Int64) × (Nat → Int64)).2.1)))), (op, .inl (cJ, 256, .inr (.inl (((wj, rX (xC c) EX (2 ^ c 0), rX (yC c) PA (2 ^ c 0)) : (Nat → Nat) × (Nat → Int64) × (Nat → Int64)).2.2))))] (by rw [show w = 2 ^ c 0 from by omega]) ?_
        exact (hret (wj, rX (xC c) EX (2 ^ c 0), rX (yC c) PA (2 ^ c 0)) _ _ (fun z hz => ⟨rX_at _ _ _ z hz, rX_at _ _ _ z hz⟩)).1 rfl rfl dX7_looks_205
      · refine g_aload_n 0 (hd := dX7_looks_27) (C := hX) rfl rfl ?_
        refine g_get (hd := dX7_looks_28) (C := hX) 0 9 rfl rfl in_X7_looks_7 (by decide) (by decide +kernel) rfl ?_
        refine g_iload_n 1 (hd := dX7_looks_31) (C := hX) rfl rfl ?_
        refine g_lconst (v := 0) hX dX7_looks_32 rfl ?_
        refine g_last (hd := dX7_looks_33) (C := hX) 6 2 [(o, .inr (7, [.int (nI len), .ref ot, .ref on, .ref od, .ref ow, .int (nI ch), .int (nI va), .int (nI en), .ref oi, .ref oe, .ref op, .long (orC c (exC c) w), .long (orC c (paC c) w), .long (ltL c w)])), (ot, .inl (cI, 200, .inl (fun j_ => nI (T j_)))), (on, .inl (cI, 78, .inl (fun j_ => nI (c j_)))), (od, .inl (cI, 78, .inl (fun j_ => nI (rd j_)))), (ow, .inl (cI, 468, .inl (fun j_ => nI (ww j_)))), (oi, .inl (cI, 32, .inl (fun j_ => nI (wj j_)))), (oe, .inl (cJ, 256, .inr (.inl (vp_updL (rX (xC c) EX w) w (0 : Int64))))), (op, .inl (cJ, 256, .inr (.inl (rX (yC c) PA w))))] rfl rfl (by omega) (by decide) rfl ?_
        refine g_aload_n 0 (hd := dX7_looks_34) (C := hX) rfl rfl ?_
        refine g_get (hd := dX7_looks_35) (C := hX) 0 10 rfl rfl in_X7_looks_7 (by decide) (by decide +kernel) rfl ?_
        refine g_iload_n 1 (hd := dX7_looks_38) (C := hX) rfl rfl ?_
        refine g_lconst (v := 0) hX dX7_looks_39 rfl ?_
        refine g_last (hd := dX7_looks_40) (C := hX) 7 2 [(o, .inr (7, [.int (nI len), .ref ot, .ref on, .ref od, .ref ow, .int (nI ch), .int (nI va), .int (nI en), .ref oi, .ref oe, .ref op, .long (orC c (exC c) w), .long (orC c (paC c) w), .long (ltL c w)])), (ot, .inl (cI, 200, .inl (fun j_ => nI (T j_)))), (on, .inl (cI, 78, .inl (fun j_ => nI (c j_)))), (od, .inl (cI, 78, .inl (fun j_ => nI (rd j_)))), (ow, .inl (cI, 468, .inl (fun j_ => nI (ww j_)))), (oi, .inl (cI, 32, .inl (fun j_ => nI (wj j_)))), (oe, .inl (cJ, 256, .inr (.inl (vp_updL (rX (xC c) EX w) w (0 : Int64))))), (op, .inl (cJ, 256, .inr (.inl (vp_updL (rX (yC c) PA w) w (0 : Int64)))))] rfl rfl (by omega) (by decide) rfl ?_
        refine g_aload_n 0 (hd := dX7_looks_41) (C := hX) rfl rfl ?_
        refine g_iload_n 1 (hd := dX7_looks_42) (C := hX) rfl rfl ?_
        refine g_callVs (rest := []) hX (c_X7_isCode l D cC cI cJ cO o ot on od ow oi oe op len ch va en (orC c (exC c) w) (orC c (paC c) w) (ltL c w) T c rd ww wj (vp_updL (rX (xC c) EX w) w (0 : Int64)) (vp_updL (rX (yC c) PA w) w (0 : Int64)) w (by omega) b0 hcd) ok_X7_isCode rfl 0 rfl rfl (hd := dX7_looks_43) gX7_looks_X7_isCode ⟨by decide, by decide⟩ rfl (Nat.le_of_ble_eq_true rfl) ⟨Nat.zero_le _, Nat.zero_le _⟩ [0, 1, 2, 3, 4, 5, 6, 7] (by decide) rfl rfl ?_
        intro r_43 e_43
        rcases e_43 with ⟨rfl, p_43⟩ | ⟨rfl, p_43⟩
        · show GW X [(o, .inr (7, [.int (nI len), .ref ot, .ref on, .ref od, .ref ow, .int (nI ch), .int (nI va), .int (nI en), .ref oi, .ref oe, .ref op, .long (orC c (exC c) w), .long (orC c (paC c) w), .long (ltL c w)])), (ot, .inl (cI, 200, .inl (fun j_ => nI (T j_)))), (on, .inl (cI, 78, .inl (fun j_ => nI (c j_)))), (od, .inl (cI, 78, .inl (fun j_ => nI (rd j_)))), (ow, .inl (cI, 468, .inl (fun j_ => nI (ww j_)))), (oi, .inl (cI, 32, .inl (fun j_ => nI (wj j_)))), (oe, .inl (cJ, 256, .inr (.inl (vp_updL (rX (xC c) EX w) w (0 : Int64))))), (op, .inl (cJ, 256, .inr (.inl (vp_updL (rX (yC c) PA w) w (0 : Int64)))))] [(0, .ref o), (1, .int (nI w))] [.int (nI 1)] 46 0 0
          refine g_if_eqN 199 (hd := dX7_looks_46) (C := hX) (by decide) (by decide) (fun c_46 => absurd c_46 (by decide)) (fun c_46 => ?_)
          refine g_aload_n 0 (hd := dX7_looks_49) (C := hX) rfl rfl ?_
          refine g_iload_n 1 (hd := dX7_looks_50) (C := hX) rfl rfl ?_
          refine g_bipush (v := (-4)) hX dX7_looks_51 (by decide) ?_
          refine g_bipush (v := (-4)) hX dX7_looks_53 (by decide) ?_
          refine g_callVp (rest := []) hX (c_X7_lets l D cC cI cJ cO o ot on od ow oi oe op len ch va en (orC c (exC c) w) (orC c (paC c) w) (ltL c w) T c rd ww wj (vp_updL (rX (xC c) EX w) w (0 : Int64)) (vp_updL (rX (yC c) PA w) w (0 : Int64)) w (-4) (-4) none none (by first | exact so_n (by decide) | exact so_s (by omega)) (by first | exact so_n (by decide) | exact so_s (by omega)) (by omega) hok) ok_X7_lets rfl 0 rfl rfl (fun _ => rfl) (hd := dX7_looks_55) gX7_looks_X7_lets ⟨by decide, by decide⟩ rfl (Nat.le_of_ble_eq_true rfl) ⟨Nat.zero_le _, Nat.zero_le _⟩ [] rfl rfl ?_
          intro r_55 e_55
          rw [ou_can hok] at e_55
          subst e_55
          show GW X [(o, .inr (7, [.int (nI len), .ref ot, .ref on, .ref od, .ref ow, .int (nI ch), .int (nI va), .int (nI en), .ref oi, .ref oe, .ref op, .long (orC c (exC c) w), .long (orC c (paC c) w), .long (ltL c w)])), (ot, .inl (cI, 200, .inl (fun j_ => nI (T j_)))), (on, .inl (cI, 78, .inl (fun j_ => nI (c j_)))), (od, .inl (cI, 78, .inl (fun j_ => nI (rd j_)))), (ow, .inl (cI, 468, .inl (fun j_ => nI (ww j_)))), (oi, .inl (cI, 32, .inl (fun j_ => nI ((rvA c w none none wj (c 0 + c 1)) j_)))), (oe, .inl (cJ, 256, .inr (.inl (vp_updL (rX (xC c) EX w) w (0 : Int64))))), (op, .inl (cJ, 256, .inr (.inl (vp_updL (rX (yC c) PA w) w (0 : Int64)))))] [(0, .ref o), (1, .int (nI w))] [.int (nI (ouC c w none none))] 58 0 0
          have q0 := ou_lt hok w none none
          refine g_istore_n [(0, .ref o), (1, .int (nI w)), (2, .int (nI (ouC c w none none)))] [1, 2, 0] (hd := dX7_looks_58) (C := hX) rfl (by decide) rfl ?_
          refine g_iconst (v := nI 0) hX dX7_looks_59 (by decide) ?_
          refine g_istore_n [(0, .ref o), (1, .int (nI w)), (2, .int (nI (ouC c w none none))), (3, .int (nI 0))] [1, 2, 3, 0] (hd := dX7_looks_60) (C := hX) rfl (by decide) rfl ?_
          have L_61 : ∀ (n_61 : Nat) (t : Nat) (wk : Nat → Nat), 2 * (c 0 + c 1) - t < n_61 → (t ≤ 2 * (c 0 + c 1)) → GW X [(o, .inr (7, [.int (nI len), .ref ot, .ref on, .ref od, .ref ow, .int (nI ch), .int (nI va), .int (nI en), .ref oi, .ref oe, .ref op, .long (orC c (exC c) w), .long (orC c (paC c) w), .long (lB (rlB c w) (ltL c w) t)])), (ot, .inl (cI, 200, .inl (fun j_ => nI (T j_)))), (on, .inl (cI, 78, .inl (fun j_ => nI (c j_)))), (od, .inl (cI, 78, .inl (fun j_ => nI (rd j_)))), (ow, .inl (cI, 468, .inl (fun j_ => nI (ww j_)))), (oi, .inl (cI, 32, .inl (fun j_ => nI (wk j_)))), (oe, .inl (cJ, 256, .inr (.inl (vp_updL (rX (xC c) EX w) w (bB (reB c w) t))))), (op, .inl (cJ, 256, .inr (.inl (vp_updL (rX (yC c) PA w) w (bB (rpB c w) t)))))] [(0, .ref o), (1, .int (nI w)), (2, .int (nI (ouC c w none none))), (3, .int (nI t))] [] 61 0 0 := by
            intro n_61
            induction n_61 with
            | zero => intro t wk hm_61; exact absurd hm_61 (Nat.not_lt_zero _)
            | succ n_61 ih_61 =>
              intro t wk hm_61 htL
              refine g_iload_n 3 (hd := dX7_looks_61) (C := hX) rfl rfl ?_
              refine g_iconst (v := nI 2) hX dX7_looks_62 (by decide) ?_
              refine g_aload_n 0 (hd := dX7_looks_63) (C := hX) rfl rfl ?_
              refine g_callVs (rest := [.int (nI 2), .int (nI t)]) hX (c_X7_wires l D cC cI cJ cO o ot on od ow oi oe op len ch va en (orC c (exC c) w) (orC c (paC c) w) (lB (rlB c w) (ltL c w) t) T c rd ww wk (vp_updL (rX (xC c) EX w) w (bB (reB c w) t)) (vp_updL (rX (yC c) PA w) w (bB (rpB c w) t))) ok_X7_wires rfl 0 rfl rfl (hd := dX7_looks_64) gX7_looks_X7_wires ⟨by decide, by decide⟩ rfl (Nat.le_of_ble_eq_true rfl) ⟨Nat.zero_le _, Nat.zero_le _⟩ [0, 1, 2, 3, 4, 5, 6, 7] (by decide) rfl rfl ?_
              intro r_64 e_64
              subst e_64
              show GW X [(o, .inr (7, [.int (nI len), .ref ot, .ref on, .ref od, .ref ow, .int (nI ch), .int (nI va), .int (nI en), .ref oi, .ref oe, .ref op, .long (orC c (exC c) w), .long (orC c (paC c) w), .long (lB (rlB c w) (ltL c w) t)])), (ot, .inl (cI, 200, .inl (fun j_ => nI (T j_)))), (on, .inl (cI, 78, .inl (fun j_ => nI (c j_)))), (od, .inl (cI, 78, .inl (fun j_ => nI (rd j_)))), (ow, .inl (cI, 468, .inl (fun j_ => nI (ww j_)))), (oi, .inl (cI, 32, .inl (fun j_ => nI (wk j_)))), (oe, .inl (cJ, 256, .inr (.inl (vp_updL (rX (xC c) EX w) w (bB (reB c w) t))))), (op, .inl (cJ, 256, .inr (.inl (vp_updL (rX (yC c) PA w) w (bB (rpB c w) t)))))] [(0, .ref o), (1, .int (nI w)), (2, .int (nI (ouC c w none none))), (3, .int (nI t))] [.int (nI (c 0 + c 1)), .int (nI 2), .int (nI t)] 67 0 0
              refine g_imul hX dX7_looks_67 ?_
              refine g_top (y := (nI (2 * (c 0 + c 1)))) (pk_mul _ _) ?_
              refine g_icmp_geN 169 (hd := dX7_looks_68) (C := hX) (by decide) (by omega) (by omega) (fun c_68 => ?_) (fun c_68 => ?_)
              · refine g_aload_n 0 (hd := dX7_looks_169) (C := hX) rfl rfl ?_
                refine g_dup hX dX7_looks_170 rfl ?_
                refine g_get (hd := dX7_looks_171) (C := hX) 0 11 rfl rfl in_X7_looks_7 (by decide) (by decide +kernel) rfl ?_
                refine g_aload_n 0 (hd := dX7_looks_174) (C := hX) rfl rfl ?_
                refine g_get (hd := dX7_looks_175) (C := hX) 0 9 rfl rfl in_X7_looks_7 (by decide) (by decide +kernel) rfl ?_
                refine g_iload_n 1 (hd := dX7_looks_178) (C := hX) rfl rfl ?_
                refine g_lald (hd := dX7_looks_179) (C := hX) 6 2 rfl rfl (by omega) (by decide) ?_
                refine g_topl (y := (exC c w)) (by rw [pk_uLs, show t = 2 * (c 0 + c 1) from by omega, re_eq hok]) ?_
                refine g_lor hX dX7_looks_180 ?_
                refine g_put (hd := dX7_looks_181) (C := hX) 0 11 [(o, .inr (7, [.int (nI len), .ref ot, .ref on, .ref od, .ref ow, .int (nI ch), .int (nI va), .int (nI en), .ref oi, .ref oe, .ref op, .long ((orC c (exC c) w) ||| (exC c w)), .long (orC c (paC c) w), .long (lB (rlB c w) (ltL c w) t)])), (ot, .inl (cI, 200, .inl (fun j_ => nI (T j_)))), (on, .inl (cI, 78, .inl (fun j_ => nI (c j_)))), (od, .inl (cI, 78, .inl (fun j_ => nI (rd j_)))), (ow, .inl (cI, 468, .inl (fun j_ => nI (ww j_)))), (oi, .inl (cI, 32, .inl (fun j_ => nI (wk j_)))), (oe, .inl (cJ, 256, .inr (.inl (vp_updL (rX (xC c) EX w) w (bB (reB c w) t))))), (op, .inl (cJ, 256, .inr (.inl (vp_updL (rX (yC c) PA w) w (bB (rpB c w) t)))))] rfl rfl in_X7_looks_7 tyX7_ok nmX7 (by decide) (by decide +kernel) rfl rfl rfl (Nat.le_of_ble_eq_true rfl) rfl ?_
                refine g_aload_n 0 (hd := dX7_looks_184) (C := hX) rfl rfl ?_
                refine g_dup hX dX7_looks_185 rfl ?_
                refine g_get (hd := dX7_looks_186) (C := hX) 0 12 rfl rfl in_X7_looks_7 (by decide) (by decide +kernel) rfl ?_
                refine g_aload_n 0 (hd := dX7_looks_189) (C := hX) rfl rfl ?_
                refine g_get (hd := dX7_looks_190) (C := hX) 0 10 rfl rfl in_X7_looks_7 (by decide) (by decide +kernel) rfl ?_
                refine g_iload_n 1 (hd := dX7_looks_193) (C := hX) rfl rfl ?_
                refine g_lald (hd := dX7_looks_194) (C := hX) 7 2 rfl rfl (by omega) (by decide) ?_
                refine g_topl (y := (paC c w)) (by rw [pk_uLs, show t = 2 * (c 0 + c 1) from by omega, rp_eq hok]) ?_
                refine g_lor hX dX7_looks_195 ?_
                refine g_put (hd := dX7_looks_196) (C := hX) 0 12 [(o, .inr (7, [.int (nI len), .ref ot, .ref on, .ref od, .ref ow, .int (nI ch), .int (nI va), .int (nI en), .ref oi, .ref oe, .ref op, .long ((orC c (exC c) w) ||| (exC c w)), .long ((orC c (paC c) w) ||| (paC c w)), .long (lB (rlB c w) (ltL c w) t)])), (ot, .inl (cI, 200, .inl (fun j_ => nI (T j_)))), (on, .inl (cI, 78, .inl (fun j_ => nI (c j_)))), (od, .inl (cI, 78, .inl (fun j_ => nI (rd j_)))), (ow, .inl (cI, 468, .inl (fun j_ => nI (ww j_)))), (oi, .inl (cI, 32, .inl (fun j_ => nI (wk j_)))), (oe, .inl (cJ, 256, .inr (.inl (vp_updL (rX (xC c) EX w) w (bB (reB c w) t))))), (op, .inl (cJ, 256, .inr (.inl (vp_updL (rX (yC c) PA w) w (bB (rpB c w) t)))))] rfl rfl in_X7_looks_7 tyX7_ok nmX7 (by decide) (by decide +kernel) rfl rfl rfl (Nat.le_of_ble_eq_true rfl) rfl ?_
                refine g_iinc (v := (nI (w + 1))) 1 [(0, .ref o), (1, .int (nI (w + 1))), (2, .int (nI (ouC c w none none))), (3, .int (nI t))] [1, 0, 2, 3] (hd := dX7_looks_199) (C := hX) rfl (nI_1 _) (by decide) rfl ?_
                refine g_goto 19 (hd := dX7_looks_202) (C := hX) (by decide) ?_
                refine g_w [(o, .inr (7, [.int (nI len), .ref ot, .ref on, .ref od, .ref ow, .int (nI ch), .int (nI va), .int (nI en), .ref oi, .ref oe, .ref op, .long (orC c (exC c) (w + 1)), .long (orC c (paC c) (w + 1)), .long (ltL c (w + 1))])), (ot, .inl (cI, 200, .inl (fun j_ => nI (T j_)))), (on, .inl (cI, 78, .inl (fun j_ => nI (c j_)))), (od, .inl (cI, 78, .inl (fun j_ => nI (rd j_)))), (ow, .inl (cI, 468, .inl (fun j_ => nI (ww j_)))), (oi, .inl (cI, 32, .inl (fun j_ => nI (wk j_)))), (oe, .inl (cJ, 256, .inr (.inl (rX (xC c) EX (w + 1))))), (op, .inl (cJ, 256, .inr (.inl (rX (yC c) PA (w + 1)))))] (by simp only [rX, orC, ltL, if_pos p_43, xC_y p_43, yC_y p_43]; rw [show t = 2 * (c 0 + c 1) from by omega, re_eq hok, rp_eq hok]) ?_
                refine g_lv [(0, .ref o), (1, .int (nI (w + 1)))] [0, 1] rfl ?_
                exact ih_19 (w + 1) wk (by omega) (by omega)
              · refine g_aload_n 0 (hd := dX7_looks_71) (C := hX) rfl rfl ?_
                refine g_iload_n 1 (hd := dX7_looks_72) (C := hX) rfl rfl ?_
                refine g_iload_n 3 (hd := dX7_looks_73) (C := hX) rfl rfl ?_
                refine g_bipush (v := (-4)) hX dX7_looks_74 (by decide) ?_
                refine g_callVp (rest := []) hX (c_X7_lets l D cC cI cJ cO o ot on od ow oi oe op len ch va en (orC c (exC c) w) (orC c (paC c) w) (lB (rlB c w) (ltL c w) t) T c rd ww wk (vp_updL (rX (xC c) EX w) w (bB (reB c w) t)) (vp_updL (rX (yC c) PA w) w (bB (rpB c w) t)) w (nI t) (-4) (some t) none (by first | exact so_n (by decide) | exact so_s (by omega)) (by first | exact so_n (by decide) | exact so_s (by omega)) (by omega) hok) ok_X7_lets rfl 0 rfl rfl (fun _ => rfl) (hd := dX7_looks_76) gX7_looks_X7_lets ⟨by decide, by decide⟩ rfl (Nat.le_of_ble_eq_true rfl) ⟨Nat.zero_le _, Nat.zero_le _⟩ [] rfl rfl ?_
                intro r_76 e_76
                rw [ou_can hok] at e_76
                subst e_76
                show GW X [(o, .inr (7, [.int (nI len), .ref ot, .ref on, .ref od, .ref ow, .int (nI ch), .int (nI va), .int (nI en), .ref oi, .ref oe, .ref op, .long (orC c (exC c) w), .long (orC c (paC c) w), .long (lB (rlB c w) (ltL c w) t)])), (ot, .inl (cI, 200, .inl (fun j_ => nI (T j_)))), (on, .inl (cI, 78, .inl (fun j_ => nI (c j_)))), (od, .inl (cI, 78, .inl (fun j_ => nI (rd j_)))), (ow, .inl (cI, 468, .inl (fun j_ => nI (ww j_)))), (oi, .inl (cI, 32, .inl (fun j_ => nI ((rvA c w (some t) none wk (c 0 + c 1)) j_)))), (oe, .inl (cJ, 256, .inr (.inl (vp_updL (rX (xC c) EX w) w (bB (reB c w) t))))), (op, .inl (cJ, 256, .inr (.inl (vp_updL (rX (yC c) PA w) w (bB (rpB c w) t)))))] [(0, .ref o), (1, .int (nI w)), (2, .int (nI (ouC c w none none))), (3, .int (nI t))] [.int (nI (ouC c w (some t) none))] 79 0 0
                have q1 := ou_lt hok w (some t) none
                refine g_istore [(0, .ref o), (1, .int (nI w)), (2, .int (nI (ouC c w none none))), (3, .int (nI t)), (4, .int (nI (ouC c w (some t) none)))] [1, 2, 3, 4, 0] (hd := dX7_looks_79) (C := hX) (by decide) rfl ?_
                refine g_aload_n 0 (hd := dX7_looks_81) (C := hX) rfl rfl ?_
                refine g_get (hd := dX7_looks_82) (C := hX) 0 9 rfl rfl in_X7_looks_7 (by decide) (by decide +kernel) rfl ?_
                refine g_iload_n 1 (hd := dX7_looks_85) (C := hX) rfl rfl ?_
                refine g_dup2_11 hX dX7_looks_86 rfl rfl ?_
                refine g_lald (hd := dX7_looks_87) (C := hX) 6 2 rfl rfl (by omega) (by decide) ?_
                refine g_topl (y := (bB (reB c w) t)) pk_uLs ?_
                refine g_iload 4 (hd := dX7_looks_88) (C := hX) rfl ?_
                refine g_callS (rest := [.long (bB (reB c w) t), .int (nI w), .ref oe]) hX (c_X7_isValid l D cC cI cJ cO (ouC c w (some t) none) (by omega)) ok_X7_isValid (fun _ => rfl) (hd := dX7_looks_90) gX7_looks_X7_isValid ⟨by decide, by decide⟩ rfl (Nat.le_of_ble_eq_true rfl) ⟨Nat.zero_le _, Nat.zero_le _⟩ [] (by decide) rfl rfl ?_
                intro r_90 e_90
                rcases e_90 with ⟨rfl, p_90⟩ | ⟨rfl, p_90⟩
                · show GW X [(o, .inr (7, [.int (nI len), .ref ot, .ref on, .ref od, .ref ow, .int (nI ch), .int (nI va), .int (nI en), .ref oi, .ref oe, .ref op, .long (orC c (exC c) w), .long (orC c (paC c) w), .long (lB (rlB c w) (ltL c w) t)])), (ot, .inl (cI, 200, .inl (fun j_ => nI (T j_)))), (on, .inl (cI, 78, .inl (fun j_ => nI (c j_)))), (od, .inl (cI, 78, .inl (fun j_ => nI (rd j_)))), (ow, .inl (cI, 468, .inl (fun j_ => nI (ww j_)))), (oi, .inl (cI, 32, .inl (fun j_ => nI ((rvA c w (some t) none wk (c 0 + c 1)) j_)))), (oe, .inl (cJ, 256, .inr (.inl (vp_updL (rX (xC c) EX w) w (bB (reB c w) t))))), (op, .inl (cJ, 256, .inr (.inl (vp_updL (rX (yC c) PA w) w (bB (rpB c w) t)))))] [(0, .ref o), (1, .int (nI w)), (2, .int (nI (ouC c w none none))), (3, .int (nI t)), (4, .int (nI (ouC c w (some t) none)))] [.int (nI 1), .long (bB (reB c w) t), .int (nI w), .ref oe] 93 0 0
                  refine g_if_eqN 100 (hd := dX7_looks_93) (C := hX) (by decide) (by decide) (fun c_93 => absurd c_93 (by decide)) (fun c_93 => ?_)
                  refine g_lconst (v := 0) hX dX7_looks_96 rfl ?_
                  refine g_goto 103 (hd := dX7_looks_97) (C := hX) (by decide) ?_
                  refine g_lor hX dX7_looks_103 ?_
                  refine g_last (hd := dX7_looks_104) (C := hX) 6 2 [(o, .inr (7, [.int (nI len), .ref ot, .ref on, .ref od, .ref ow, .int (nI ch), .int (nI va), .int (nI en), .ref oi, .ref oe, .ref op, .long (orC c (exC c) w), .long (orC c (paC c) w), .long (lB (rlB c w) (ltL c w) t)])), (ot, .inl (cI, 200, .inl (fun j_ => nI (T j_)))), (on, .inl (cI, 78, .inl (fun j_ => nI (c j_)))), (od, .inl (cI, 78, .inl (fun j_ => nI (rd j_)))), (ow, .inl (cI, 468, .inl (fun j_ => nI (ww j_)))), (oi, .inl (cI, 32, .inl (fun j_ => nI ((rvA c w (some t) none wk (c 0 + c 1)) j_)))), (oe, .inl (cJ, 256, .inr (.inl (vp_updL (vp_updL (rX (xC c) EX w) w (bB (reB c w) t)) w ((bB (reB c w) t) ||| (0 : Int64)))))), (op, .inl (cJ, 256, .inr (.inl (vp_updL (rX (yC c) PA w) w (bB (rpB c w) t)))))] rfl rfl (by omega) (by decide) rfl ?_
                  refine g_aload_n 0 (hd := dX7_looks_105) (C := hX) rfl rfl ?_
                  refine g_get (hd := dX7_looks_106) (C := hX) 0 10 rfl rfl in_X7_looks_7 (by decide) (by decide +kernel) rfl ?_
                  refine g_iload_n 1 (hd := dX7_looks_109) (C := hX) rfl rfl ?_
                  refine g_dup2_11 hX dX7_looks_110 rfl rfl ?_
                  refine g_lald (hd := dX7_looks_111) (C := hX) 7 2 rfl rfl (by omega) (by decide) ?_
                  refine g_topl (y := (bB (rpB c w) t)) pk_uLs ?_
                  refine g_iload 4 (hd := dX7_looks_112) (C := hX) rfl ?_
                  refine g_callS (rest := [.long (bB (rpB c w) t), .int (nI w), .ref op]) hX (c_X7_isValid l D cC cI cJ cO (ouC c w (some t) none) (by omega)) ok_X7_isValid (fun _ => rfl) (hd := dX7_looks_114) gX7_looks_X7_isValid ⟨by decide, by decide⟩ rfl (Nat.le_of_ble_eq_true rfl) ⟨Nat.zero_le _, Nat.zero_le _⟩ [] (by decide) rfl rfl ?_
                  intro r_114 e_114
                  rcases e_114 with ⟨rfl, p_114⟩ | ⟨rfl, p_114⟩
                  · show GW X [(o, .inr (7, [.int (nI len), .ref ot, .ref on, .ref od, .ref ow, .int (nI ch), .int (nI va), .int (nI en), .ref oi, .ref oe, .ref op, .long (orC c (exC c) w), .long (orC c (paC c) w), .long (lB (rlB c w) (ltL c w) t)])), (ot, .inl (cI, 200, .inl (fun j_ => nI (T j_)))), (on, .inl (cI, 78, .inl (fun j_ => nI (c j_)))), (od, .inl (cI, 78, .inl (fun j_ => nI (rd j_)))), (ow, .inl (cI, 468, .inl (fun j_ => nI (ww j_)))), (oi, .inl (cI, 32, .inl (fun j_ => nI ((rvA c w (some t) none wk (c 0 + c 1)) j_)))), (oe, .inl (cJ, 256, .inr (.inl (vp_updL (vp_updL (rX (xC c) EX w) w (bB (reB c w) t)) w ((bB (reB c w) t) ||| (0 : Int64)))))), (op, .inl (cJ, 256, .inr (.inl (vp_updL (rX (yC c) PA w) w (bB (rpB c w) t)))))] [(0, .ref o), (1, .int (nI w)), (2, .int (nI (ouC c w none none))), (3, .int (nI t)), (4, .int (nI (ouC c w (some t) none)))] [.int (nI 1), .long (bB (rpB c w) t), .int (nI w), .ref op] 117 0 0
                    refine g_if_eqN 132 (hd := dX7_looks_117) (C := hX) (by decide) (by decide) (fun c_117 => absurd c_117 (by decide)) (fun c_117 => ?_)
                    refine g_iload 4 (hd := dX7_looks_120) (C := hX) rfl ?_
                    refine g_iload_n 2 (hd := dX7_looks_122) (C := hX) rfl rfl ?_
                    refine g_icmp_eqN 132 (hd := dX7_looks_123) (C := hX) (by decide) (by omega) (by omega) (fun c_123 => ?_) (fun c_123 => ?_)
                    · refine g_lconst (v := 0) hX dX7_looks_132 rfl ?_
                      refine g_lor hX dX7_looks_133 ?_
                      refine g_last (hd := dX7_looks_134) (C := hX) 7 2 [(o, .inr (7, [.int (nI len), .ref ot, .ref on, .ref od, .ref ow, .int (nI ch), .int (nI va), .int (nI en), .ref oi, .ref oe, .ref op, .long (orC c (exC c) w), .long (orC c (paC c) w), .long (lB (rlB c w) (ltL c w) t)])), (ot, .inl (cI, 200, .inl (fun j_ => nI (T j_)))), (on, .inl (cI, 78, .inl (fun j_ => nI (c j_)))), (od, .inl (cI, 78, .inl (fun j_ => nI (rd j_)))), (ow, .inl (cI, 468, .inl (fun j_ => nI (ww j_)))), (oi, .inl (cI, 32, .inl (fun j_ => nI ((rvA c w (some t) none wk (c 0 + c 1)) j_)))), (oe, .inl (cJ, 256, .inr (.inl (vp_updL (vp_updL (rX (xC c) EX w) w (bB (reB c w) t)) w ((bB (reB c w) t) ||| (0 : Int64)))))), (op, .inl (cJ, 256, .inr (.inl (vp_updL (vp_updL (rX (yC c) PA w) w (bB (rpB c w) t)) w ((bB (rpB c w) t) ||| (0 : Int64))))))] rfl rfl (by omega) (by decide) rfl ?_
                      refine g_aload_n 0 (hd := dX7_looks_135) (C := hX) rfl rfl ?_
                      refine g_dup hX dX7_looks_136 rfl ?_
                      refine g_get (hd := dX7_looks_137) (C := hX) 0 13 rfl rfl in_X7_looks_7 (by decide) (by decide +kernel) rfl ?_
                      refine g_iload 4 (hd := dX7_looks_140) (C := hX) rfl ?_
                      refine g_iload_n 2 (hd := dX7_looks_142) (C := hX) rfl rfl ?_
                      refine g_icmp_neN 152 (hd := dX7_looks_143) (C := hX) (by decide) (by omega) (by omega) (fun c_143 => absurd c_123 c_143) (fun c_143 => ?_)
                      refine g_ldc2 (v := (-1)) hX dX7_looks_146 (by decide +kernel) ?_
                      refine g_goto 159 (hd := dX7_looks_149) (C := hX) (by decide) ?_
                      refine g_land hX dX7_looks_159 ?_
                      refine g_put (hd := dX7_looks_160) (C := hX) 0 13 [(o, .inr (7, [.int (nI len), .ref ot, .ref on, .ref od, .ref ow, .int (nI ch), .int (nI va), .int (nI en), .ref oi, .ref oe, .ref op, .long (orC c (exC c) w), .long (orC c (paC c) w), .long ((lB (rlB c w) (ltL c w) t) &&& ((-1) : Int64))])), (ot, .inl (cI, 200, .inl (fun j_ => nI (T j_)))), (on, .inl (cI, 78, .inl (fun j_ => nI (c j_)))), (od, .inl (cI, 78, .inl (fun j_ => nI (rd j_)))), (ow, .inl (cI, 468, .inl (fun j_ => nI (ww j_)))), (oi, .inl (cI, 32, .inl (fun j_ => nI ((rvA c w (some t) none wk (c 0 + c 1)) j_)))), (oe, .inl (cJ, 256, .inr (.inl (vp_updL (vp_updL (rX (xC c) EX w) w (bB (reB c w) t)) w ((bB (reB c w) t) ||| (0 : Int64)))))), (op, .inl (cJ, 256, .inr (.inl (vp_updL (vp_updL (rX (yC c) PA w) w (bB (rpB c w) t)) w ((bB (rpB c w) t) ||| (0 : Int64))))))] rfl rfl in_X7_looks_7 tyX7_ok nmX7 (by decide) (by decide +kernel) rfl rfl rfl (Nat.le_of_ble_eq_true rfl) rfl ?_
                      refine g_iinc (v := (nI (t + 1))) 3 [(0, .ref o), (1, .int (nI w)), (2, .int (nI (ouC c w none none))), (3, .int (nI (t + 1))), (4, .int (nI (ouC c w (some t) none)))] [1, 2, 3, 0, 4] (hd := dX7_looks_163) (C := hX) rfl (nI_1 _) (by decide) rfl ?_
                      refine g_goto 61 (hd := dX7_looks_166) (C := hX) (by decide) ?_
                      refine g_w [(o, .inr (7, [.int (nI len), .ref ot, .ref on, .ref od, .ref ow, .int (nI ch), .int (nI va), .int (nI en), .ref oi, .ref oe, .ref op, .long (orC c (exC c) w), .long (orC c (paC c) w), .long (lB (rlB c w) (ltL c w) (t + 1))])), (ot, .inl (cI, 200, .inl (fun j_ => nI (T j_)))), (on, .inl (cI, 78, .inl (fun j_ => nI (c j_)))), (od, .inl (cI, 78, .inl (fun j_ => nI (rd j_)))), (ow, .inl (cI, 468, .inl (fun j_ => nI (ww j_)))), (oi, .inl (cI, 32, .inl (fun j_ => nI ((rvA c w (some t) none wk (c 0 + c 1)) j_)))), (oe, .inl (cJ, 256, .inr (.inl (vp_updL (rX (xC c) EX w) w (bB (reB c w) (t + 1)))))), (op, .inl (cJ, 256, .inr (.inl (vp_updL (rX (yC c) PA w) w (bB (rpB c w) (t + 1))))))] (by simp only [bB, lB, uLL, re_y p_90, rp_e c_123, rl_e c_123, Bool.false_eq_true, if_false, if_true]) ?_
                      refine g_lv [(0, .ref o), (1, .int (nI w)), (2, .int (nI (ouC c w none none))), (3, .int (nI (t + 1)))] [0, 1, 2, 3] rfl ?_
                      exact ih_61 (t + 1) (rvA c w (some t) none wk (c 0 + c 1)) (by omega) (by omega)
                    · refine g_lconst (v := 1) hX dX7_looks_126 rfl ?_
                      refine g_iload_n 3 (hd := dX7_looks_127) (C := hX) rfl rfl ?_
                      refine g_lshl (v := ((1 : Int64) <<< ((nI t).toInt64 &&& 63))) hX dX7_looks_128 rfl ?_
                      refine g_goto 133 (hd := dX7_looks_129) (C := hX) (by decide) ?_
                      refine g_lor hX dX7_looks_133 ?_
                      refine g_last (hd := dX7_looks_134) (C := hX) 7 2 [(o, .inr (7, [.int (nI len), .ref ot, .ref on, .ref od, .ref ow, .int (nI ch), .int (nI va), .int (nI en), .ref oi, .ref oe, .ref op, .long (orC c (exC c) w), .long (orC c (paC c) w), .long (lB (rlB c w) (ltL c w) t)])), (ot, .inl (cI, 200, .inl (fun j_ => nI (T j_)))), (on, .inl (cI, 78, .inl (fun j_ => nI (c j_)))), (od, .inl (cI, 78, .inl (fun j_ => nI (rd j_)))), (ow, .inl (cI, 468, .inl (fun j_ => nI (ww j_)))), (oi, .inl (cI, 32, .inl (fun j_ => nI ((rvA c w (some t) none wk (c 0 + c 1)) j_)))), (oe, .inl (cJ, 256, .inr (.inl (vp_updL (vp_updL (rX (xC c) EX w) w (bB (reB c w) t)) w ((bB (reB c w) t) ||| (0 : Int64)))))), (op, .inl (cJ, 256, .inr (.inl (vp_updL (vp_updL (rX (yC c) PA w) w (bB (rpB c w) t)) w ((bB (rpB c w) t) ||| ((1 : Int64) <<< ((nI t).toInt64 &&& 63)))))))] rfl rfl (by omega) (by decide) rfl ?_
                      refine g_aload_n 0 (hd := dX7_looks_135) (C := hX) rfl rfl ?_
                      refine g_dup hX dX7_looks_136 rfl ?_
                      refine g_get (hd := dX7_looks_137) (C := hX) 0 13 rfl rfl in_X7_looks_7 (by decide) (by decide +kernel) rfl ?_
                      refine g_iload 4 (hd := dX7_looks_140) (C := hX) rfl ?_
                      refine g_iload_n 2 (hd := dX7_looks_142) (C := hX) rfl rfl ?_
                      refine g_icmp_neN 152 (hd := dX7_looks_143) (C := hX) (by decide) (by omega) (by omega) (fun c_143 => ?_) (fun c_143 => absurd c_143 c_123)
                      refine g_lconst (v := 1) hX dX7_looks_152 rfl ?_
                      refine g_iload_n 3 (hd := dX7_looks_153) (C := hX) rfl rfl ?_
                      refine g_lshl (v := ((1 : Int64) <<< ((nI t).toInt64 &&& 63))) hX dX7_looks_154 rfl ?_
                      refine g_ldc2 (v := (-1)) hX dX7_looks_155 (by decide +kernel) ?_
                      refine g_lxor hX dX7_looks_158 ?_
                      refine g_land hX dX7_looks_159 ?_
                      refine g_put (hd := dX7_looks_160) (C := hX) 0 13 [(o, .inr (7, [.int (nI len), .ref ot, .ref on, .ref od, .ref ow, .int (nI ch), .int (nI va), .int (nI en), .ref oi, .ref oe, .ref op, .long (orC c (exC c) w), .long (orC c (paC c) w), .long ((lB (rlB c w) (ltL c w) t) &&& (((1 : Int64) <<< ((nI t).toInt64 &&& 63)) ^^^ ((-1) : Int64)))])), (ot, .inl (cI, 200, .inl (fun j_ => nI (T j_)))), (on, .inl (cI, 78, .inl (fun j_ => nI (c j_)))), (od, .inl (cI, 78, .inl (fun j_ => nI (rd j_)))), (ow, .inl (cI, 468, .inl (fun j_ => nI (ww j_)))), (oi, .inl (cI, 32, .inl (fun j_ => nI ((rvA c w (some t) none wk (c 0 + c 1)) j_)))), (oe, .inl (cJ, 256, .inr (.inl (vp_updL (vp_updL (rX (xC c) EX w) w (bB (reB c w) t)) w ((bB (reB c w) t) ||| (0 : Int64)))))), (op, .inl (cJ, 256, .inr (.inl (vp_updL (vp_updL (rX (yC c) PA w) w (bB (rpB c w) t)) w ((bB (rpB c w) t) ||| ((1 : Int64) <<< ((nI t).toInt64 &&& 63)))))))] rfl rfl in_X7_looks_7 tyX7_ok nmX7 (by decide) (by decide +kernel) rfl rfl rfl (Nat.le_of_ble_eq_true rfl) rfl ?_
                      refine g_iinc (v := (nI (t + 1))) 3 [(0, .ref o), (1, .int (nI w)), (2, .int (nI (ouC c w none none))), (3, .int (nI (t + 1))), (4, .int (nI (ouC c w (some t) none)))] [1, 2, 3, 0, 4] (hd := dX7_looks_163) (C := hX) rfl (nI_1 _) (by decide) rfl ?_
                      refine g_goto 61 (hd := dX7_looks_166) (C := hX) (by decide) ?_
                      refine g_w [(o, .inr (7, [.int (nI len), .ref ot, .ref on, .ref od, .ref ow, .int (nI ch), .int (nI va), .int (nI en), .ref oi, .ref oe, .ref op, .long (orC c (exC c) w), .long (orC c (paC c) w), .long (lB (rlB c w) (ltL c w) (t + 1))])), (ot, .inl (cI, 200, .inl (fun j_ => nI (T j_)))), (on, .inl (cI, 78, .inl (fun j_ => nI (c j_)))), (od, .inl (cI, 78, .inl (fun j_ => nI (rd j_)))), (ow, .inl (cI, 468, .inl (fun j_ => nI (ww j_)))), (oi, .inl (cI, 32, .inl (fun j_ => nI ((rvA c w (some t) none wk (c 0 + c 1)) j_)))), (oe, .inl (cJ, 256, .inr (.inl (vp_updL (rX (xC c) EX w) w (bB (reB c w) (t + 1)))))), (op, .inl (cJ, 256, .inr (.inl (vp_updL (rX (yC c) PA w) w (bB (rpB c w) (t + 1))))))] (by simp only [bB, lB, uLL, re_y p_90, rp_1 p_90 c_123, rl_1 c_123, Bool.false_eq_true, if_false, if_true]) ?_
                      refine g_lv [(0, .ref o), (1, .int (nI w)), (2, .int (nI (ouC c w none none))), (3, .int (nI (t + 1)))] [0, 1, 2, 3] rfl ?_
                      exact ih_61 (t + 1) (rvA c w (some t) none wk (c 0 + c 1)) (by omega) (by omega)
                  · show GW X [(o, .inr (7, [.int (nI len), .ref ot, .ref on, .ref od, .ref ow, .int (nI ch), .int (nI va), .int (nI en), .ref oi, .ref oe, .ref op, .long (orC c (exC c) w), .long (orC c (paC c) w), .long (lB (rlB c w) (ltL c w) t)])), (ot, .inl (cI, 200, .inl (fun j_ => nI (T j_)))), (on, .inl (cI, 78, .inl (fun j_ => nI (c j_)))), (od, .inl (cI, 78, .inl (fun j_ => nI (rd j_)))), (ow, .inl (cI, 468, .inl (fun j_ => nI (ww j_)))), (oi, .inl (cI, 32, .inl (fun j_ => nI ((rvA c w (some t) none wk (c 0 + c 1)) j_)))), (oe, .inl (cJ, 256, .inr (.inl (vp_updL (vp_updL (rX (xC c) EX w) w (bB (reB c w) t)) w ((bB (reB c w) t) ||| (0 : Int64)))))), (op, .inl (cJ, 256, .inr (.inl (vp_updL (rX (yC c) PA w) w (bB (rpB c w) t)))))] [(0, .ref o), (1, .int (nI w)), (2, .int (nI (ouC c w none none))), (3, .int (nI t)), (4, .int (nI (ouC c w (some t) none)))] [.int (nI 0), .long (bB (rpB c w) t), .int (nI w), .ref op] 117 0 0
                    exact absurd p_90 p_114
                · show GW X [(o, .inr (7, [.int (nI len), .ref ot, .ref on, .ref od, .ref ow, .int (nI ch), .int (nI va), .int (nI en), .ref oi, .ref oe, .ref op, .long (orC c (exC c) w), .long (orC c (paC c) w), .long (lB (rlB c w) (ltL c w) t)])), (ot, .inl (cI, 200, .inl (fun j_ => nI (T j_)))), (on, .inl (cI, 78, .inl (fun j_ => nI (c j_)))), (od, .inl (cI, 78, .inl (fun j_ => nI (rd j_)))), (ow, .inl (cI, 468, .inl (fun j_ => nI (ww j_)))), (oi, .inl (cI, 32, .inl (fun j_ => nI ((rvA c w (some t) none wk (c 0 + c 1)) j_)))), (oe, .inl (cJ, 256, .inr (.inl (vp_updL (rX (xC c) EX w) w (bB (reB c w) t))))), (op, .inl (cJ, 256, .inr (.inl (vp_updL (rX (yC c) PA w) w (bB (rpB c w) t)))))] [(0, .ref o), (1, .int (nI w)), (2, .int (nI (ouC c w none none))), (3, .int (nI t)), (4, .int (nI (ouC c w (some t) none)))] [.int (nI 0), .long (bB (reB c w) t), .int (nI w), .ref oe] 93 0 0
                  refine g_if_eqN 100 (hd := dX7_looks_93) (C := hX) (by decide) (by decide) (fun c_93 => ?_) (fun c_93 => absurd c_93 (by decide))
                  refine g_lconst (v := 1) hX dX7_looks_100 rfl ?_
                  refine g_iload_n 3 (hd := dX7_looks_101) (C := hX) rfl rfl ?_
                  refine g_lshl (v := ((1 : Int64) <<< ((nI t).toInt64 &&& 63))) hX dX7_looks_102 rfl ?_
                  refine g_lor hX dX7_looks_103 ?_
                  refine g_last (hd := dX7_looks_104) (C := hX) 6 2 [(o, .inr (7, [.int (nI len), .ref ot, .ref on, .ref od, .ref ow, .int (nI ch), .int (nI va), .int (nI en), .ref oi, .ref oe, .ref op, .long (orC c (exC c) w), .long (orC c (paC c) w), .long (lB (rlB c w) (ltL c w) t)])), (ot, .inl (cI, 200, .inl (fun j_ => nI (T j_)))), (on, .inl (cI, 78, .inl (fun j_ => nI (c j_)))), (od, .inl (cI, 78, .inl (fun j_ => nI (rd j_)))), (ow, .inl (cI, 468, .inl (fun j_ => nI (ww j_)))), (oi, .inl (cI, 32, .inl (fun j_ => nI ((rvA c w (some t) none wk (c 0 + c 1)) j_)))), (oe, .inl (cJ, 256, .inr (.inl (vp_updL (vp_updL (rX (xC c) EX w) w (bB (reB c w) t)) w ((bB (reB c w) t) ||| ((1 : Int64) <<< ((nI t).toInt64 &&& 63))))))), (op, .inl (cJ, 256, .inr (.inl (vp_updL (rX (yC c) PA w) w (bB (rpB c w) t)))))] rfl rfl (by omega) (by decide) rfl ?_
                  refine g_aload_n 0 (hd := dX7_looks_105) (C := hX) rfl rfl ?_
                  refine g_get (hd := dX7_looks_106) (C := hX) 0 10 rfl rfl in_X7_looks_7 (by decide) (by decide +kernel) rfl ?_
                  refine g_iload_n 1 (hd := dX7_looks_109) (C := hX) rfl rfl ?_
                  refine g_dup2_11 hX dX7_looks_110 rfl rfl ?_
                  refine g_lald (hd := dX7_looks_111) (C := hX) 7 2 rfl rfl (by omega) (by decide) ?_
                  refine g_topl (y := (bB (rpB c w) t)) pk_uLs ?_
                  refine g_iload 4 (hd := dX7_looks_112) (C := hX) rfl ?_
                  refine g_callS (rest := [.long (bB (rpB c w) t), .int (nI w), .ref op]) hX (c_X7_isValid l D cC cI cJ cO (ouC c w (some t) none) (by omega)) ok_X7_isValid (fun _ => rfl) (hd := dX7_looks_114) gX7_looks_X7_isValid ⟨by decide, by decide⟩ rfl (Nat.le_of_ble_eq_true rfl) ⟨Nat.zero_le _, Nat.zero_le _⟩ [] (by decide) rfl rfl ?_
                  intro r_114 e_114
                  rcases e_114 with ⟨rfl, p_114⟩ | ⟨rfl, p_114⟩
                  · show GW X [(o, .inr (7, [.int (nI len), .ref ot, .ref on, .ref od, .ref ow, .int (nI ch), .int (nI va), .int (nI en), .ref oi, .ref oe, .ref op, .long (orC c (exC c) w), .long (orC c (paC c) w), .long (lB (rlB c w) (ltL c w) t)])), (ot, .inl (cI, 200, .inl (fun j_ => nI (T j_)))), (on, .inl (cI, 78, .inl (fun j_ => nI (c j_)))), (od, .inl (cI, 78, .inl (fun j_ => nI (rd j_)))), (ow, .inl (cI, 468, .inl (fun j_ => nI (ww j_)))), (oi, .inl (cI, 32, .inl (fun j_ => nI ((rvA c w (some t) none wk (c 0 + c 1)) j_)))), (oe, .inl (cJ, 256, .inr (.inl (vp_updL (vp_updL (rX (xC c) EX w) w (bB (reB c w) t)) w ((bB (reB c w) t) ||| ((1 : Int64) <<< ((nI t).toInt64 &&& 63))))))), (op, .inl (cJ, 256, .inr (.inl (vp_updL (rX (yC c) PA w) w (bB (rpB c w) t)))))] [(0, .ref o), (1, .int (nI w)), (2, .int (nI (ouC c w none none))), (3, .int (nI t)), (4, .int (nI (ouC c w (some t) none)))] [.int (nI 1), .long (bB (rpB c w) t), .int (nI w), .ref op] 117 0 0
                    exact absurd p_114 p_90
                  · show GW X [(o, .inr (7, [.int (nI len), .ref ot, .ref on, .ref od, .ref ow, .int (nI ch), .int (nI va), .int (nI en), .ref oi, .ref oe, .ref op, .long (orC c (exC c) w), .long (orC c (paC c) w), .long (lB (rlB c w) (ltL c w) t)])), (ot, .inl (cI, 200, .inl (fun j_ => nI (T j_)))), (on, .inl (cI, 78, .inl (fun j_ => nI (c j_)))), (od, .inl (cI, 78, .inl (fun j_ => nI (rd j_)))), (ow, .inl (cI, 468, .inl (fun j_ => nI (ww j_)))), (oi, .inl (cI, 32, .inl (fun j_ => nI ((rvA c w (some t) none wk (c 0 + c 1)) j_)))), (oe, .inl (cJ, 256, .inr (.inl (vp_updL (vp_updL (rX (xC c) EX w) w (bB (reB c w) t)) w ((bB (reB c w) t) ||| ((1 : Int64) <<< ((nI t).toInt64 &&& 63))))))), (op, .inl (cJ, 256, .inr (.inl (vp_updL (rX (yC c) PA w) w (bB (rpB c w) t)))))] [(0, .ref o), (1, .int (nI w)), (2, .int (nI (ouC c w none none))), (3, .int (nI t)), (4, .int (nI (ouC c w (some t) none)))] [.int (nI 0), .long (bB (rpB c w) t), .int (nI w), .ref op] 117 0 0
                    refine g_if_eqN 132 (hd := dX7_looks_117) (C := hX) (by decide) (by decide) (fun c_117 => ?_) (fun c_117 => absurd c_117 (by decide))
                    refine g_lconst (v := 0) hX dX7_looks_132 rfl ?_
                    refine g_lor hX dX7_looks_133 ?_
                    refine g_last (hd := dX7_looks_134) (C := hX) 7 2 [(o, .inr (7, [.int (nI len), .ref ot, .ref on, .ref od, .ref ow, .int (nI ch), .int (nI va), .int (nI en), .ref oi, .ref oe, .ref op, .long (orC c (exC c) w), .long (orC c (paC c) w), .long (lB (rlB c w) (ltL c w) t)])), (ot, .inl (cI, 200, .inl (fun j_ => nI (T j_)))), (on, .inl (cI, 78, .inl (fun j_ => nI (c j_)))), (od, .inl (cI, 78, .inl (fun j_ => nI (rd j_)))), (ow, .inl (cI, 468, .inl (fun j_ => nI (ww j_)))), (oi, .inl (cI, 32, .inl (fun j_ => nI ((rvA c w (some t) none wk (c 0 + c 1)) j_)))), (oe, .inl (cJ, 256, .inr (.inl (vp_updL (vp_updL (rX (xC c) EX w) w (bB (reB c w) t)) w ((bB (reB c w) t) ||| ((1 : Int64) <<< ((nI t).toInt64 &&& 63))))))), (op, .inl (cJ, 256, .inr (.inl (vp_updL (vp_updL (rX (yC c) PA w) w (bB (rpB c w) t)) w ((bB (rpB c w) t) ||| (0 : Int64))))))] rfl rfl (by omega) (by decide) rfl ?_
                    refine g_aload_n 0 (hd := dX7_looks_135) (C := hX) rfl rfl ?_
                    refine g_dup hX dX7_looks_136 rfl ?_
                    refine g_get (hd := dX7_looks_137) (C := hX) 0 13 rfl rfl in_X7_looks_7 (by decide) (by decide +kernel) rfl ?_
                    refine g_iload 4 (hd := dX7_looks_140) (C := hX) rfl ?_
                    refine g_iload_n 2 (hd := dX7_looks_142) (C := hX) rfl rfl ?_
                    refine g_icmp_neN 152 (hd := dX7_looks_143) (C := hX) (by decide) (by omega) (by omega) (fun c_143 => ?_) (fun c_143 => ?_)
                    · refine g_lconst (v := 1) hX dX7_looks_152 rfl ?_
                      refine g_iload_n 3 (hd := dX7_looks_153) (C := hX) rfl rfl ?_
                      refine g_lshl (v := ((1 : Int64) <<< ((nI t).toInt64 &&& 63))) hX dX7_looks_154 rfl ?_
                      refine g_ldc2 (v := (-1)) hX dX7_looks_155 (by decide +kernel) ?_
                      refine g_lxor hX dX7_looks_158 ?_
                      refine g_land hX dX7_looks_159 ?_
                      refine g_put (hd := dX7_looks_160) (C := hX) 0 13 [(o, .inr (7, [.int (nI len), .ref ot, .ref on, .ref od, .ref ow, .int (nI ch), .int (nI va), .int (nI en), .ref oi, .ref oe, .ref op, .long (orC c (exC c) w), .long (orC c (paC c) w), .long ((lB (rlB c w) (ltL c w) t) &&& (((1 : Int64) <<< ((nI t).toInt64 &&& 63)) ^^^ ((-1) : Int64)))])), (ot, .inl (cI, 200, .inl (fun j_ => nI (T j_)))), (on, .inl (cI, 78, .inl (fun j_ => nI (c j_)))), (od, .inl (cI, 78, .inl (fun j_ => nI (rd j_)))), (ow, .inl (cI, 468, .inl (fun j_ => nI (ww j_)))), (oi, .inl (cI, 32, .inl (fun j_ => nI ((rvA c w (some t) none wk (c 0 + c 1)) j_)))), (oe, .inl (cJ, 256, .inr (.inl (vp_updL (vp_updL (rX (xC c) EX w) w (bB (reB c w) t)) w ((bB (reB c w) t) ||| ((1 : Int64) <<< ((nI t).toInt64 &&& 63))))))), (op, .inl (cJ, 256, .inr (.inl (vp_updL (vp_updL (rX (yC c) PA w) w (bB (rpB c w) t)) w ((bB (rpB c w) t) ||| (0 : Int64))))))] rfl rfl in_X7_looks_7 tyX7_ok nmX7 (by decide) (by decide +kernel) rfl rfl rfl (Nat.le_of_ble_eq_true rfl) rfl ?_
                      refine g_iinc (v := (nI (t + 1))) 3 [(0, .ref o), (1, .int (nI w)), (2, .int (nI (ouC c w none none))), (3, .int (nI (t + 1))), (4, .int (nI (ouC c w (some t) none)))] [1, 2, 3, 0, 4] (hd := dX7_looks_163) (C := hX) rfl (nI_1 _) (by decide) rfl ?_
                      refine g_goto 61 (hd := dX7_looks_166) (C := hX) (by decide) ?_
                      refine g_w [(o, .inr (7, [.int (nI len), .ref ot, .ref on, .ref od, .ref ow, .int (nI ch), .int (nI va), .int (nI en), .ref oi, .ref oe, .ref op, .long (orC c (exC c) w), .long (orC c (paC c) w), .long (lB (rlB c w) (ltL c w) (t + 1))])), (ot, .inl (cI, 200, .inl (fun j_ => nI (T j_)))), (on, .inl (cI, 78, .inl (fun j_ => nI (c j_)))), (od, .inl (cI, 78, .inl (fun j_ => nI (rd j_)))), (ow, .inl (cI, 468, .inl (fun j_ => nI (ww j_)))), (oi, .inl (cI, 32, .inl (fun j_ => nI ((rvA c w (some t) none wk (c 0 + c 1)) j_)))), (oe, .inl (cJ, 256, .inr (.inl (vp_updL (rX (xC c) EX w) w (bB (reB c w) (t + 1)))))), (op, .inl (cJ, 256, .inr (.inl (vp_updL (rX (yC c) PA w) w (bB (rpB c w) (t + 1))))))] (by simp only [bB, lB, uLL, re_n p_90, rp_0 p_90, rl_1 c_143, Bool.false_eq_true, if_false, if_true]) ?_
                      refine g_lv [(0, .ref o), (1, .int (nI w)), (2, .int (nI (ouC c w none none))), (3, .int (nI (t + 1)))] [0, 1, 2, 3] rfl ?_
                      exact ih_61 (t + 1) (rvA c w (some t) none wk (c 0 + c 1)) (by omega) (by omega)
                    · refine g_ldc2 (v := (-1)) hX dX7_looks_146 (by decide +kernel) ?_
                      refine g_goto 159 (hd := dX7_looks_149) (C := hX) (by decide) ?_
                      refine g_land hX dX7_looks_159 ?_
                      refine g_put (hd := dX7_looks_160) (C := hX) 0 13 [(o, .inr (7, [.int (nI len), .ref ot, .ref on, .ref od, .ref ow, .int (nI ch), .int (nI va), .int (nI en), .ref oi, .ref oe, .ref op, .long (orC c (exC c) w), .long (orC c (paC c) w), .long ((lB (rlB c w) (ltL c w) t) &&& ((-1) : Int64))])), (ot, .inl (cI, 200, .inl (fun j_ => nI (T j_)))), (on, .inl (cI, 78, .inl (fun j_ => nI (c j_)))), (od, .inl (cI, 78, .inl (fun j_ => nI (rd j_)))), (ow, .inl (cI, 468, .inl (fun j_ => nI (ww j_)))), (oi, .inl (cI, 32, .inl (fun j_ => nI ((rvA c w (some t) none wk (c 0 + c 1)) j_)))), (oe, .inl (cJ, 256, .inr (.inl (vp_updL (vp_updL (rX (xC c) EX w) w (bB (reB c w) t)) w ((bB (reB c w) t) ||| ((1 : Int64) <<< ((nI t).toInt64 &&& 63))))))), (op, .inl (cJ, 256, .inr (.inl (vp_updL (vp_updL (rX (yC c) PA w) w (bB (rpB c w) t)) w ((bB (rpB c w) t) ||| (0 : Int64))))))] rfl rfl in_X7_looks_7 tyX7_ok nmX7 (by decide) (by decide +kernel) rfl rfl rfl (Nat.le_of_ble_eq_true rfl) rfl ?_
                      refine g_iinc (v := (nI (t + 1))) 3 [(0, .ref o), (1, .int (nI w)), (2, .int (nI (ouC c w none none))), (3, .int (nI (t + 1))), (4, .int (nI (ouC c w (some t) none)))] [1, 2, 3, 0, 4] (hd := dX7_looks_163) (C := hX) rfl (nI_1 _) (by decide) rfl ?_
                      refine g_goto 61 (hd := dX7_looks_166) (C := hX) (by decide) ?_
                      refine g_w [(o, .inr (7, [.int (nI len), .ref ot, .ref on, .ref od, .ref ow, .int (nI ch), .int (nI va), .int (nI en), .ref oi, .ref oe, .ref op, .long (orC c (exC c) w), .long (orC c (paC c) w), .long (lB (rlB c w) (ltL c w) (t + 1))])), (ot, .inl (cI, 200, .inl (fun j_ => nI (T j_)))), (on, .inl (cI, 78, .inl (fun j_ => nI (c j_)))), (od, .inl (cI, 78, .inl (fun j_ => nI (rd j_)))), (ow, .inl (cI, 468, .inl (fun j_ => nI (ww j_)))), (oi, .inl (cI, 32, .inl (fun j_ => nI ((rvA c w (some t) none wk (c 0 + c 1)) j_)))), (oe, .inl (cJ, 256, .inr (.inl (vp_updL (rX (xC c) EX w) w (bB (reB c w) (t + 1)))))), (op, .inl (cJ, 256, .inr (.inl (vp_updL (rX (yC c) PA w) w (bB (rpB c w) (t + 1))))))] (by simp only [bB, lB, uLL, re_n p_90, rp_0 p_90, rl_e c_143, Bool.false_eq_true, if_false, if_true]) ?_
                      refine g_lv [(0, .ref o), (1, .int (nI w)), (2, .int (nI (ouC c w none none))), (3, .int (nI (t + 1)))] [0, 1, 2, 3] rfl ?_
                      exact ih_61 (t + 1) (rvA c w (some t) none wk (c 0 + c 1)) (by omega) (by omega)
          refine g_w [(o, .inr (7, [.int (nI len), .ref ot, .ref on, .ref od, .ref ow, .int (nI ch), .int (nI va), .int (nI en), .ref oi, .ref oe, .ref op, .long (orC c (exC c) w), .long (orC c (paC c) w), .long (lB (rlB c w) (ltL c w) 0)])), (ot, .inl (cI, 200, .inl (fun j_ => nI (T j_)))), (on, .inl (cI, 78, .inl (fun j_ => nI (c j_)))), (od, .inl (cI, 78, .inl (fun j_ => nI (rd j_)))), (ow, .inl (cI, 468, .inl (fun j_ => nI (ww j_)))), (oi, .inl (cI, 32, .inl (fun j_ => nI ((rvA c w none none wj (c 0 + c 1)) j_)))), (oe, .inl (cJ, 256, .inr (.inl (vp_updL (rX (xC c) EX w) w (bB (reB c w) 0))))), (op, .inl (cJ, 256, .inr (.inl (vp_updL (rX (yC c) PA w) w (bB (rpB c w) 0)))))] rfl ?_
          exact L_61 _ 0 (rvA c w none none wj (c 0 + c 1)) (Nat.lt_succ_self _) (Nat.zero_le _)
        · show GW X [(o, .inr (7, [.int (nI len), .ref ot, .ref on, .ref od, .ref ow, .int (nI ch), .int (nI va), .int (nI en), .ref oi, .ref oe, .ref op, .long (orC c (exC c) w), .long (orC c (paC c) w), .long (ltL c w)])), (ot, .inl (cI, 200, .inl (fun j_ => nI (T j_)))), (on, .inl (cI, 78, .inl (fun j_ => nI (c j_)))), (od, .inl (cI, 78, .inl (fun j_ => nI (rd j_)))), (ow, .inl (cI, 468, .inl (fun j_ => nI (ww j_)))), (oi, .inl (cI, 32, .inl (fun j_ => nI (wj j_)))), (oe, .inl (cJ, 256, .inr (.inl (vp_updL (rX (xC c) EX w) w (0 : Int64))))), (op, .inl (cJ, 256, .inr (.inl (vp_updL (rX (yC c) PA w) w (0 : Int64)))))] [(0, .ref o), (1, .int (nI w))] [.int (nI 0)] 46 0 0
          refine g_if_eqN 199 (hd := dX7_looks_46) (C := hX) (by decide) (by decide) (fun c_46 => ?_) (fun c_46 => absurd c_46 (by decide))
          refine g_iinc (v := (nI (w + 1))) 1 [(0, .ref o), (1, .int (nI (w + 1)))] [1, 0] (hd := dX7_looks_199) (C := hX) rfl (nI_1 _) (by decide) rfl ?_
          refine g_goto 19 (hd := dX7_looks_202) (C := hX) (by decide) ?_
          refine g_w [(o, .inr (7, [.int (nI len), .ref ot, .ref on, .ref od, .ref ow, .int (nI ch), .int (nI va), .int (nI en), .ref oi, .ref oe, .ref op, .long (orC c (exC c) (w + 1)), .long (orC c (paC c) (w + 1)), .long (ltL c (w + 1))])), (ot, .inl (cI, 200, .inl (fun j_ => nI (T j_)))), (on, .inl (cI, 78, .inl (fun j_ => nI (c j_)))), (od, .inl (cI, 78, .inl (fun j_ => nI (rd j_)))), (ow, .inl (cI, 468, .inl (fun j_ => nI (ww j_)))), (oi, .inl (cI, 32, .inl (fun j_ => nI (wj j_)))), (oe, .inl (cJ, 256, .inr (.inl (rX (xC c) EX (w + 1))))), (op, .inl (cJ, 256, .inr (.inl (rX (yC c) PA (w + 1)))))] (by simp only [rX, orC, ltL, if_neg p_43, xC_0 p_43, yC_0 p_43]) ?_
          exact ih_19 (w + 1) wj (by omega) (by omega)
  refine g_w [(o, .inr (7, [.int (nI len), .ref ot, .ref on, .ref od, .ref ow, .int (nI ch), .int (nI va), .int (nI en), .ref oi, .ref oe, .ref op, .long (orC c (exC c) 0), .long (orC c (paC c) 0), .long (ltL c 0)])), (ot, .inl (cI, 200, .inl (fun j_ => nI (T j_)))), (on, .inl (cI, 78, .inl (fun j_ => nI (c j_)))), (od, .inl (cI, 78, .inl (fun j_ => nI (rd j_)))), (ow, .inl (cI, 468, .inl (fun j_ => nI (ww j_)))), (oi, .inl (cI, 32, .inl (fun j_ => nI (wi j_)))), (oe, .inl (cJ, 256, .inr (.inl (rX (xC c) EX 0)))), (op, .inl (cJ, 256, .inr (.inl (rX (yC c) PA 0))))] rfl ?_
  exact L_19 _ 0 wi (Nat.lt_succ_self _) (Nat.zero_le _)
