/-! bits -/
theorem tb_eq (x : Int64) (t : Nat) : tb x t = 1 ↔ x.toBitVec.getLsbD t = true := by
  show x.toBitVec.toNat / 2 ^ t % 2 = 1 ↔ x.toBitVec.toNat.testBit t = true
  rw [Nat.testBit_eq_decide_div_mod_eq, decide_eq_true_eq]
theorem tb_and (x y : Int64) (t : Nat) : tb (x &&& y) t = 1 ↔ tb x t = 1 ∧ tb y t = 1 := by
  rw [tb_eq, tb_eq, tb_eq]; simp
theorem tb_or (x y : Int64) (t : Nat) : tb (x ||| y) t = 1 ↔ tb x t = 1 ∨ tb y t = 1 := by
  rw [tb_eq, tb_eq, tb_eq]; simp
theorem tb_xor (x y : Int64) (t : Nat) : tb (x ^^^ y) t = 1 ↔ ¬ (tb x t = 1 ↔ tb y t = 1) := by
  rw [tb_eq, tb_eq, tb_eq]
  cases h1 : x.toBitVec.getLsbD t <;> cases h2 : y.toBitVec.getLsbD t <;> simp [h1, h2]
theorem tb_m1 : ∀ t, t < 64 → tb (-1) t = 1 := by decide +kernel
theorem tb_0 (t : Nat) : tb 0 t = 0 := by unfold tb; simp
theorem tb_not (x : Int64) {t : Nat} (ht : t < 64) : tb (x ^^^ (-1)) t = 1 ↔ ¬ tb x t = 1 := by
  rw [tb_xor, tb_m1 t ht]; simp
theorem tb_ext {x y : Int64} (h : ∀ t, t < 64 → (tb x t = 1 ↔ tb y t = 1)) : x = y := by
  apply Int64.toBitVec_inj.mp
  apply BitVec.eq_of_getLsbD_eq
  intro i hi
  have := h i hi
  rw [tb_eq, tb_eq] at this
  cases h1 : x.toBitVec.getLsbD i <;> cases h2 : y.toBitVec.getLsbD i <;> simp_all
theorem tb_ne {x : Int64} (h : ¬ x = 0) : ∃ t, t < 64 ∧ tb x t = 1 := by
  refine Classical.byContradiction fun hx => h (tb_ext fun t ht => ?_)
  rw [tb_0]
  exact ⟨fun z => absurd ⟨t, ht, z⟩ hx, fun z => by cases z⟩
theorem pcL_pos {x : Int64} : 0 < pcL x ↔ ∃ t, t < 64 ∧ tb x t = 1 := by
  unfold pcL
  rw [fb_ct_pos]
  simp
/-! the words listed -/
def lstd (b : Nat → Nat) (sz : Nat) (Wd : Nat → Nat) (Rk : Nat → Int32) : Prop := sz = fb_ct (inB b) (2 ^ b 0) ∧ (∀ w, w < 2 ^ b 0 → inB b w = true → Wd (fb_ct (inB b) w) = w) ∧ ∀ w, w < 2 ^ b 0 → Rk w = if inB b w = true then nI (fb_ct (inB b) w) else (-4)
theorem ct_lt {p : Nat → Bool} {w i : Nat} (h : p w = true) (hw : w < i) : fb_ct p w < fb_ct p i := by
  have h1 := fb_ct_mono p (show w + 1 ≤ i from hw)
  rw [fb_ct_succ, h] at h1
  simp at h1
  omega
theorem lst_in (b Wd : Nat → Nat) (Rk : Nat → Int32) : ∀ i, (∀ w, w < i → inB b w = true → lsW b Wd i (fb_ct (inB b) w) = w) ∧ ∀ w, w < i → lsR b Rk i w = if inB b w = true then nI (fb_ct (inB b) w) else (-4)
  | 0 => ⟨fun w h => absurd h (Nat.not_lt_zero w), fun w h => absurd h (Nat.not_lt_zero w)⟩
  | i + 1 => by
    obtain ⟨h1, h2⟩ := lst_in b Wd Rk i
    by_cases hi : inB b i = true
    · refine ⟨fun w hw hb => ?_, fun w hw => ?_⟩
      · simp only [lsW, if_pos hi]
        rcases Nat.lt_or_ge w i with q | q
        · have := ct_lt hb q
          rw [nup_ne (by omega)]
          exact h1 w q hb
        · have e : w = i := by omega
          subst e
          exact nup_same _ _ _
      · simp only [lsR, if_pos hi]
        rcases Nat.lt_or_ge w i with q | q
        · rw [pk_un (by omega), pk_un (by omega)]
          exact h2 w q
        · have e : w = i := by omega
          subst e
          rw [pk_us, if_pos hi]
    · refine ⟨fun w hw hb => ?_, fun w hw => ?_⟩
      · simp only [lsW, if_neg hi]
        rcases Nat.lt_or_ge w i with q | q
        · exact h1 w q hb
        · have e : w = i := by omega
          subst e
          exact absurd hb hi
      · simp only [lsR, if_neg hi]
        rcases Nat.lt_or_ge w i with q | q
        · rw [pk_un (by omega)]
          exact h2 w q
        · have e : w = i := by omega
          subst e
          rw [pk_us, if_neg hi]
theorem lst_ok (b Wd : Nat → Nat) (Rk : Nat → Int32) : lstd b (fb_ct (inB b) (2 ^ b 0)) (lsW b Wd (2 ^ b 0)) (lsR b Rk (2 ^ b 0)) := ⟨rfl, (lst_in b Wd Rk _).1, (lst_in b Wd Rk _).2⟩
theorem lst_at {b Wd : Nat → Nat} {sz : Nat} {Rk : Nat → Int32} (h : lstd b sz Wd Rk) {j : Nat} (hj : j < sz) : Wd j < 2 ^ b 0 ∧ inB b (Wd j) = true ∧ fb_ct (inB b) (Wd j) = j := by
  obtain ⟨h1, h2, -⟩ := h
  rw [h1] at hj
  obtain ⟨i, a1, a2, a3⟩ := fb_ct_kth hj
  have e := h2 i a1 a2
  rw [a3] at e
  rw [e]
  exact ⟨a1, a2, a3⟩
/-! lanes, whatever they held before -/
theorem ln_can {b : Nat → Nat} (hok : okC b) (wd : Nat) (fz : Nat → Option Nat) (V V' : Nat → Int64) : ∀ i, i ≤ b 0 + b 1 → ∀ j, j < i → lnA b wd fz V i j = lnA b wd fz V' i j
  | 0, _, j, h => absurd h (Nat.not_lt_zero j)
  | i + 1, hi, j, hj => by
    have ih := ln_can hok wd fz V V' i (by omega)
    simp only [lnA]
    rcases Nat.lt_or_ge j i with q | q
    · rw [pk_uLn (by omega), pk_uLn (by omega)]
      exact ih j q
    · have e : j = i := by omega
      subst e
      rw [pk_uLs, pk_uLs]
      unfold lnX
      cases fz j with
      | some v => rfl
      | none =>
        simp only
        by_cases hb : j < b 0
        · rw [if_pos hb, if_pos hb]
        · rw [if_neg hb, if_neg hb]
          have g := hok.2.2.2.2.2.2 (j - b 0) (by omega)
          rw [ih _ (by omega), ih _ (by omega)]
def LV (b : Nat → Nat) (w : Nat) : Nat → Int64 := lnA b w fzN (fun _ => 0) (b 0 + b 1)
theorem svV_can {b : Nat → Nat} (hok : okC b) (V : Nat → Int64) (i : Nat) {j : Nat} (hj : j < b 0 + b 1) : svV b V (i + 1) j = LV b i j := ln_can hok i fzN _ _ _ (Nat.le_refl _) j hj
def oC (b : Nat → Nat) (w : Nat) : Nat := 2 * tb (LV b w (b 2)) (w % 2) + tb (LV b w (b 3)) (w % 2)
theorem oS_can {b : Nat → Nat} (hok : okC b) (V : Nat → Int64) (i : Nat) : oS b V i = oC b i := by
  unfold oS oC
  rw [svV_can hok V i hok.2.2.2.1, svV_can hok V i hok.2.2.2.2.1]
theorem oC_lt (b : Nat → Nat) (w : Nat) : oC b w < 4 := by
  have h1 := tb_lt (LV b w (b 2)) (w % 2)
  have h2 := tb_lt (LV b w (b 3)) (w % 2)
  unfold oC; omega
def exC (b : Nat → Nat) (w : Nat) : Int64 := exS (LV b w (b 2)) (LV b w (b 3)) (alS b)
def paC (b : Nat → Nat) (w : Nat) : Int64 := paS (LV b w (b 2)) (LV b w (b 3)) (oC b w) (alS b)
def chC (b : Nat → Nat) (w : Nat) : Int64 := chS (LV b w (b 2)) (LV b w (b 3)) (oC b w) (alS b)
/-- all of a row of words that are of the code together -/
def orC (b : Nat → Nat) (f : Nat → Int64) : Nat → Int64
  | 0 => 0
  | i + 1 => if inB b i = true then orC b f i ||| f i else orC b f i
def dCC (b : Nat → Nat) : Nat → Nat
  | 0 => 1
  | i + 1 => if vaB (oC b i) = inB b i then dCC b i else 0
theorem sEE_can {b : Nat → Nat} (hok : okC b) (V : Nat → Int64) : ∀ n, svEE b V n = orC b (exC b) n
  | 0 => rfl
  | n + 1 => by simp only [svEE, orC, sEE_can hok V n, exC, svV_can hok V n hok.2.2.2.1, svV_can hok V n hok.2.2.2.2.1]
theorem sEP_can {b : Nat → Nat} (hok : okC b) (V : Nat → Int64) : ∀ n, svEP b V n = orC b (paC b) n
  | 0 => rfl
  | n + 1 => by simp only [svEP, orC, sEP_can hok V n, paC, svV_can hok V n hok.2.2.2.1, svV_can hok V n hok.2.2.2.2.1, oS_can hok V n]
theorem sEC_can {b : Nat → Nat} (hok : okC b) (V : Nat → Int64) : ∀ n, svEC b V n = orC b (chC b) n
  | 0 => rfl
  | n + 1 => by simp only [svEC, orC, sEC_can hok V n, chC, svV_can hok V n hok.2.2.2.1, svV_can hok V n hok.2.2.2.2.1, oS_can hok V n]
theorem sD_can {b : Nat → Nat} (hok : okC b) (V : Nat → Int64) : ∀ n, svD b V n = dCC b n
  | 0 => rfl
  | n + 1 => by simp only [svD, dCC, sD_can hok V n, oS_can hok V n]
theorem sO_can {b : Nat → Nat} (hok : okC b) (V : Nat → Int64) (O : Nat → Nat) : ∀ n w, w < n → svO b V O n w = oC b w
  | 0, w, h => absurd h (Nat.not_lt_zero w)
  | n + 1, w, h => by
    simp only [svO]
    rcases Nat.lt_or_ge w n with q | q
    · rw [nup_ne (by omega)]; exact sO_can hok V O n w q
    · have e : w = n := by omega
      subst e
      rw [nup_same, oS_can hok V w]
theorem sE_can {b : Nat → Nat} (hok : okC b) (V E : Nat → Int64) : ∀ n w, w < n → inB b w = true → svE b V E n w = exC b w
  | 0, w, h, _ => absurd h (Nat.not_lt_zero w)
  | n + 1, w, h, hb => by
    simp only [svE]
    rcases Nat.lt_or_ge w n with q | q
    · split
      · rw [pk_uLn (by omega)]; exact sE_can hok V E n w q hb
      · exact sE_can hok V E n w q hb
    · have e : w = n := by omega
      subst e
      rw [if_pos hb, pk_uLs, svV_can hok V w hok.2.2.2.1, svV_can hok V w hok.2.2.2.2.1]
      rfl
theorem sP_can {b : Nat → Nat} (hok : okC b) (V E : Nat → Int64) : ∀ n w, w < n → inB b w = true → svP b V E n w = paC b w
  | 0, w, h, _ => absurd h (Nat.not_lt_zero w)
  | n + 1, w, h, hb => by
    simp only [svP]
    rcases Nat.lt_or_ge w n with q | q
    · split
      · rw [pk_uLn (by omega)]; exact sP_can hok V E n w q hb
      · exact sP_can hok V E n w q hb
    · have e : w = n := by omega
      subst e
      rw [if_pos hb, pk_uLs, svV_can hok V w hok.2.2.2.1, svV_can hok V w hok.2.2.2.2.1, oS_can hok V w]
      rfl
/-! the tests, by the circuit alone -/
def xC (b : Nat → Nat) (w : Nat) : Int64 := if inB b w = true then exC b w else 0
def wmF (b : Nat → Nat) (op : Int64) : Nat → Nat × Nat
  | 0 => (0, 0)
  | w + 1 => if (wmF b op w).2 < pcL (xC b w &&& op) then (w, pcL (xC b w &&& op)) else wmF b op w
def opC (b : Nat → Nat) : Nat → Int64
  | 0 => orC b (exC b) (2 ^ b 0)
  | i + 1 => opC b i &&& (xC b (wmF b (opC b i) (2 ^ b 0)).1 ^^^ (-1))
theorem pcL_0 : pcL 0 = 0 := by decide +kernel
theorem xC_n {b : Nat → Nat} {w : Nat} (h : ¬ inB b w = true) (op : Int64) : pcL (xC b w &&& op) = 0 := by
  unfold xC
  rw [if_neg h, show (0 : Int64) &&& op = 0 from by simp]
  exact pcL_0
theorem wm_can {b Wd : Nat → Nat} {sz : Nat} {Rk : Nat → Int32} {E : Nat → Int64} (hl : lstd b sz Wd Rk) (hE : ∀ w, w < 2 ^ b 0 → inB b w = true → E w = exC b w) (op : Int64) : ∀ n, n ≤ 2 ^ b 0 → wmS E Wd op (fb_ct (inB b) n) = wmF b op n
  | 0, _ => rfl
  | n + 1, hn => by
    have ih := wm_can hl hE op n (by omega)
    by_cases hb : inB b n = true
    · rw [fb_ct_succ, if_pos hb]
      simp only [wmS, wmF, ih]
      rw [hl.2.1 n (by omega) hb, hE n (by omega) hb]
      unfold xC
      rw [if_pos hb]
    · rw [fb_ct_succ, if_neg hb, Nat.add_zero, ih]
      simp only [wmF]
      rw [xC_n hb, if_neg (Nat.not_lt_zero _)]
theorem or_bit {b : Nat → Nat} {f : Nat → Int64} {t : Nat} : ∀ n, tb (orC b f n) t = 1 ↔ ∃ w, w < n ∧ inB b w = true ∧ tb (f w) t = 1
  | 0 => ⟨fun h => (by rw [show orC b f 0 = 0 from rfl, tb_0] at h; cases h), fun ⟨w, h, _⟩ => absurd h (Nat.not_lt_zero w)⟩
  | n + 1 => by
    have ih := or_bit (b := b) (f := f) (t := t) n
    simp only [orC]
    by_cases hb : inB b n = true
    · rw [if_pos hb, tb_or, ih]
      constructor
      · rintro (⟨w, h1, h2, h3⟩ | h)
        · exact ⟨w, by omega, h2, h3⟩
        · exact ⟨n, by omega, hb, h⟩
      · rintro ⟨w, h1, h2, h3⟩
        rcases Nat.lt_or_ge w n with q | q
        · exact Or.inl ⟨w, q, h2, h3⟩
        · have e : w = n := by omega
          subst e
          exact Or.inr h3
    · rw [if_neg hb, ih]
      constructor
      · rintro ⟨w, h1, h2, h3⟩
        exact ⟨w, by omega, h2, h3⟩
      · rintro ⟨w, h1, h2, h3⟩
        rcases Nat.lt_or_ge w n with q | q
        · exact ⟨w, q, h2, h3⟩
        · have e : w = n := by omega
          subst e
          exact absurd h2 hb
theorem op_sub (b : Nat → Nat) (t : Nat) : ∀ j, tb (opC b j) t = 1 → tb (orC b (exC b) (2 ^ b 0)) t = 1
  | 0, h => h
  | j + 1, h => op_sub b t j ((tb_and _ _ _).mp h).1
theorem wmF_mx (b : Nat → Nat) (op : Int64) : ∀ n w, w < n → pcL (xC b w &&& op) ≤ (wmF b op n).2
  | 0, w, h => absurd h (Nat.not_lt_zero w)
  | n + 1, w, h => by
    simp only [wmF]
    split
    · rename_i q
      rcases Nat.lt_or_ge w n with z | z
      · have := wmF_mx b op n w z; simp only; omega
      · have e : w = n := by omega
        subst e
        exact Nat.le_refl _
    · rename_i q
      rcases Nat.lt_or_ge w n with z | z
      · exact wmF_mx b op n w z
      · have e : w = n := by omega
        subst e
        omega
theorem wmF_in (b : Nat → Nat) (op : Int64) : ∀ n, 0 < (wmF b op n).2 → (wmF b op n).1 < n ∧ inB b (wmF b op n).1 = true ∧ (wmF b op n).2 = pcL (xC b (wmF b op n).1 &&& op)
  | 0, h => absurd h (by simp [wmF])
  | n + 1, h => by
    simp only [wmF] at h ⊢
    by_cases q : (wmF b op n).2 < pcL (xC b n &&& op)
    · rw [if_pos q]
      refine ⟨Nat.lt_succ_self n, Classical.byContradiction fun z => ?_, rfl⟩
      rw [xC_n z] at q
      exact Nat.not_lt_zero _ q
    · rw [if_neg q] at h ⊢
      have := wmF_in b op n h
      exact ⟨by omega, this.2⟩
theorem op_best {b : Nat → Nat} {j : Nat} (h : ¬ opC b j = 0) : 0 < (wmF b (opC b j) (2 ^ b 0)).2 := by
  obtain ⟨t, ht, h1⟩ := tb_ne h
  obtain ⟨w, a1, a2, a3⟩ := (or_bit (2 ^ b 0)).mp (op_sub b t j h1)
  have h2 : 0 < pcL (xC b w &&& opC b j) := pcL_pos.mpr ⟨t, ht, (tb_and _ _ _).mpr ⟨by unfold xC; rw [if_pos a2]; exact a3, h1⟩⟩
  exact Nat.lt_of_lt_of_le h2 (wmF_mx b _ _ w a1)
theorem op_can {b Wd : Nat → Nat} {sz : Nat} {Rk : Nat → Int32} {E : Nat → Int64} (hl : lstd b sz Wd Rk) (hE : ∀ w, w < 2 ^ b 0 → inB b w = true → E w = exC b w) {e : Int64} (he : e = orC b (exC b) (2 ^ b 0)) : ∀ n, (∀ j, j < n → ¬ opS E Wd sz e j = 0) → opS E Wd sz e n = opC b n
  | 0, _ => he
  | n + 1, h => by
    have ih := op_can hl hE he n (fun j hj => h j (by omega))
    have h1 : ¬ opC b n = 0 := by rw [← ih]; exact h n (Nat.lt_succ_self n)
    simp only [opS, opC, ih]
    rw [hl.1, wm_can hl hE _ _ (Nat.le_refl _)]
    have h2 := wmF_in b _ _ (op_best h1)
    rw [hE _ h2.1 h2.2.1]
    unfold xC
    rw [if_pos h2.2.1]
def tsK (b : Nat → Nat) (tc : Nat) (TE : Nat → Nat) : Prop := tc ≤ 64 ∧ (∀ j, j < tc → ¬ opC b j = 0 ∧ TE j = (wmF b (opC b j) (2 ^ b 0)).1) ∧ (tc = 64 ∨ opC b tc = 0)
theorem te_can (E : Nat → Int64) (Wd : Nat → Nat) (sz : Nat) (e : Int64) (T : Nat → Nat) : ∀ n j, j < n → teS E Wd sz e T n j = (wmS E Wd (opS E Wd sz e j) sz).1
  | 0, j, h => absurd h (Nat.not_lt_zero j)
  | n + 1, j, h => by
    simp only [teS]
    rcases Nat.lt_or_ge j n with q | q
    · rw [nup_ne (by omega)]; exact te_can E Wd sz e T n j q
    · have e1 : j = n := by omega
      subst e1
      exact nup_same _ _ _
theorem ts_ok {b Wd : Nat → Nat} {sz : Nat} {Rk : Nat → Int32} {E : Nat → Int64} {TE : Nat → Nat} (hl : lstd b sz Wd Rk) (hE : ∀ w, w < 2 ^ b 0 → inB b w = true → E w = exC b w) {e : Int64} (he : e = orC b (exC b) (2 ^ b 0)) {n : Nat} (h1 : n ≤ 64) (h2 : ∀ j, j < n → ¬ opS E Wd sz e j = 0) (h3 : n = 64 ∨ opS E Wd sz e n = 0) : tsK b n (teS E Wd sz e TE n) := by
  refine ⟨h1, fun j hj => ?_, ?_⟩
  · have e1 := op_can hl hE he j (fun i hi => h2 i (by omega))
    refine ⟨by rw [← e1]; exact h2 j hj, ?_⟩
    rw [te_can _ _ _ _ _ _ _ hj, e1, hl.1, wm_can hl hE _ _ (Nat.le_refl _)]
  · rcases h3 with h3 | h3
    · exact Or.inl h3
    · exact Or.inr (by rw [← op_can hl hE he n h2]; exact h3)
/-- what a survey says of a circuit -/
def svK (b : Nat → Nat) (tc vw : Nat) (al eE eP eC : Int64) (dj tch : Nat) (O : Nat → Nat) (EX PA : Nat → Int64) (TE : Nat → Nat) : Prop := vw = fb_ct (fun w => vaB (oC b w)) (2 ^ b 0) ∧ al = alS b ∧ eE = orC b (exC b) (2 ^ b 0) ∧ eP = orC b (paC b) (2 ^ b 0) ∧ eC = orC b (chC b) (2 ^ b 0) ∧ dj = dCC b (2 ^ b 0) ∧ (∀ w, w < 2 ^ b 0 → O w = oC b w) ∧ (∀ w, w < 2 ^ b 0 → inB b w = true → EX w = exC b w ∧ PA w = paC b w) ∧ (tch = 0 ∨ tch = 1 ∧ tsK b tc TE)
theorem mk_ok {b : Nat → Nat} (hok : okC b) (V : Nat → Int64) (tc : Nat) (O : Nat → Nat) (EX PA : Nat → Int64) (TE : Nat → Nat) : svK b tc (fb_ct (fun i_ => vaB (oS b V i_)) (2 ^ b 0)) (alS b) (svEE b V (2 ^ b 0)) (svEP b V (2 ^ b 0)) (svEC b V (2 ^ b 0)) (svD b V (2 ^ b 0)) 0 (svO b V O (2 ^ b 0)) (svE b V EX (2 ^ b 0)) (svP b V PA (2 ^ b 0)) TE :=
  ⟨fb_ct_cong (fun k _ => by rw [oS_can hok V k]), rfl, sEE_can hok V _, sEP_can hok V _, sEC_can hok V _, sD_can hok V _, sO_can hok V O _, fun w h1 h2 => ⟨sE_can hok V EX _ w h1 h2, sP_can hok V PA _ w h1 h2⟩, Or.inl rfl⟩
/-- the words' cell, fresh or not -/
def cwK (b : Nat → Nat) (sz : Nat) (mi ne : Int32) (fr cm : Nat) (Wd : Nat → Nat) (Rk : Nat → Int32) : Prop := fr = 0 ∨ fr = 1 ∧ lstd b sz Wd Rk ∧ (cm = 0 ∨ cm = 1 ∧ mi = nI (cmO Wd (sz - 1)).1 ∧ ne = neI (cmO Wd (sz - 1)).2)
