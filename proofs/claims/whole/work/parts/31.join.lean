/-! the lanes of the class against the wires of the reference -/
theorem tb_is {x : Int64} {s v : Nat} (hv : v < 2) (h : tb x s = 1 ↔ v = 1) : tb x s = v := by
  have := tb_lt x s
  omega
theorem tb_ia {v s : Nat} (hv : v < 2) (hs : s < 64) : tb (iaL v) s = v := by
  rcases (show v = 0 ∨ v = 1 by omega) with rfl | rfl
  · rw [show iaL 0 = 0 from by decide +kernel, tb_0]
  · rw [show iaL 1 = -1 from by decide +kernel, tb_m1 s hs]
theorem tb_1sh : ∀ t, t < 64 → ∀ s, s < 64 → tb ((1 : Int64) <<< ((nI t).toInt64 &&& 63)) s = if s = t then 1 else 0 := by decide +kernel
theorem tb_2sh : ∀ w, w < 32 → ∀ s, s < 64 → tb ((2 : Int64) <<< ((nI (2 * w)).toInt64 &&& 63)) s = if s = 2 * w + 1 then 1 else 0 := by decide +kernel
theorem tb_ow (x : Int64) {w s : Nat} (hw : w < 32) (hs : s < 64) : tb (owS x w) s = if s / 2 = w then s % 2 else tb x s := by
  have h1 := tb_1sh (2 * w) (by omega) s hs
  have h2 := tb_2sh w hw s hs
  have hl := tb_lt x s
  by_cases q : s / 2 = w
  · rw [if_pos q]
    apply tb_is (by omega)
    unfold owS
    rw [tb_or, tb_and, tb_not _ hs, h1, h2]
    rcases (show s = 2 * w ∨ s = 2 * w + 1 by omega) with e | e
    · rw [if_pos e, if_neg (by omega)]; simp; omega
    · rw [if_neg (by omega), if_pos e]; simp; omega
  · rw [if_neg q]
    apply tb_is hl
    unfold owS
    rw [tb_or, tb_and, tb_not _ hs, h1, h2, if_neg (by omega), if_neg (by omega)]
    simp
theorem tb_gv (x y : Int64) {k s : Nat} (hk : k ≤ 5) (hs : s < 64) : tb (gvS k x y) s = gvN k (tb x s) (tb y s) := by
  have h1 := tb_lt x s
  have h2 := tb_lt y s
  have hx : tb x s = 0 ∨ tb x s = 1 := by omega
  have hy : tb y s = 0 ∨ tb y s = 1 := by omega
  refine tb_is (Nat.lt_succ_of_le (gvN_le (by omega) (by omega))) ?_
  rcases (show k = 0 ∨ k = 1 ∨ k = 2 ∨ k = 3 ∨ k = 4 ∨ k = 5 by omega) with rfl | rfl | rfl | rfl | rfl | rfl
  · show tb (x &&& y) s = 1 ↔ _
    rw [tb_and]; rcases hx with q | q <;> rcases hy with z | z <;> rw [q, z] <;> decide
  · show tb (x ||| y) s = 1 ↔ _
    rw [tb_or]; rcases hx with q | q <;> rcases hy with z | z <;> rw [q, z] <;> decide
  · show tb (x ^^^ y) s = 1 ↔ _
    rw [tb_xor]; rcases hx with q | q <;> rcases hy with z | z <;> rw [q, z] <;> decide
  · show tb ((x &&& y) ^^^ (-1)) s = 1 ↔ _
    rw [tb_not _ hs, tb_and]; rcases hx with q | q <;> rcases hy with z | z <;> rw [q, z] <;> decide
  · show tb ((x ||| y) ^^^ (-1)) s = 1 ↔ _
    rw [tb_not _ hs, tb_or]; rcases hx with q | q <;> rcases hy with z | z <;> rw [q, z] <;> decide
  · show tb ((x ^^^ y) ^^^ (-1)) s = 1 ↔ _
    rw [tb_not _ hs, tb_xor]; rcases hx with q | q <;> rcases hy with z | z <;> rw [q, z] <;> decide
/-- a lane is a circuit with its own stuck -/
theorem lane1 {b : Nat → Nat} (hok : okC b) (wd : Nat) {s : Nat} (hs : s < 64) (V : Nat → Int64) (R : Nat → Nat) : ∀ n, n ≤ b 0 + b 1 → ∀ j, j < n → tb (lnA b wd fzN V n j) s = rvA b wd (some s) none R n j
  | 0, _, j, h => absurd h (Nat.not_lt_zero j)
  | n + 1, hn, j, hj => by
    have ih := lane1 hok wd hs V R n (by omega)
    have b0 := hok.2.1
    have b1 := hok.2.2.1
    simp only [lnA, rvA]
    rcases Nat.lt_or_ge j n with q | q
    · rw [pk_uLn (by omega), nup_ne (by omega)]; exact ih j q
    · have e : j = n := by omega
      subst e
      rw [pk_uLs, nup_same]
      by_cases hb : j < b 0
      · rw [lx_in rfl hb, tb_ow _ (by omega) hs, tb_ia (by omega) hs]
        unfold rvX saS
        simp only [if_pos hb]
      · have g := hok.2.2.2.2.2.2 (j - b 0) (by omega)
        rw [lx_gt rfl (by omega), tb_ow _ (by omega) hs, tb_gv _ _ g.1 hs, ih _ (by omega), ih _ (by omega)]
        unfold rvX saS
        simp only [if_neg hb, show 6 + 3 * (j - b 0) + 1 = 7 + 3 * (j - b 0) by omega, show 6 + 3 * (j - b 0) + 2 = 8 + 3 * (j - b 0) by omega]
theorem lane2 {b : Nat → Nat} (hok : okC b) (wd : Nat) {s t : Nat} (hs : s < 64) (hst : ¬ s / 2 = t / 2) (V : Nat → Int64) (R : Nat → Nat) : ∀ n, n ≤ b 0 + b 1 → ∀ j, j < n → tb (lnA b wd (fzT t) V n j) s = rvA b wd (some s) (some t) R n j
  | 0, _, j, h => absurd h (Nat.not_lt_zero j)
  | n + 1, hn, j, hj => by
    have ih := lane2 hok wd hs hst V R n (by omega)
    have b0 := hok.2.1
    have b1 := hok.2.2.1
    simp only [lnA, rvA]
    rcases Nat.lt_or_ge j n with q | q
    · rw [pk_uLn (by omega), nup_ne (by omega)]; exact ih j q
    · have e : j = n := by omega
      subst e
      rw [pk_uLs, nup_same]
      by_cases ht : t / 2 = j
      · rw [lx_fz (fzT_y (by omega)), tb_ia (by omega) hs]
        unfold rvX saS
        simp only [if_neg (show ¬ s / 2 = j by omega), if_pos ht]
      · by_cases hb : j < b 0
        · rw [lx_in (fzT_n (by omega)) hb, tb_ow _ (by omega) hs, tb_ia (by omega) hs]
          unfold rvX saS
          simp only [if_pos hb, if_neg ht]
        · have g := hok.2.2.2.2.2.2 (j - b 0) (by omega)
          rw [lx_gt (fzT_n (by omega)) (by omega), tb_ow _ (by omega) hs, tb_gv _ _ g.1 hs, ih _ (by omega), ih _ (by omega)]
          unfold rvX saS
          simp only [if_neg hb, if_neg ht, show 6 + 3 * (j - b 0) + 1 = 7 + 3 * (j - b 0) by omega, show 6 + 3 * (j - b 0) + 2 = 8 + 3 * (j - b 0) by omega]
/-- the lane in which the first input is stuck at what it is anyway -/
theorem lane0 {b : Nat → Nat} (hok : okC b) (wd : Nat) (R : Nat → Nat) : ∀ n, n ≤ b 0 + b 1 → ∀ j, j < n → rvA b wd (some (wd % 2)) none R n j = rvA b wd none none R n j
  | 0, _, j, h => absurd h (Nat.not_lt_zero j)
  | n + 1, hn, j, hj => by
    have ih := lane0 hok wd R n (by omega)
    have b0 := hok.1
    simp only [rvA]
    rcases Nat.lt_or_ge j n with q | q
    · rw [nup_ne (by omega), nup_ne (by omega)]; exact ih j q
    · have e : j = n := by omega
      subst e
      rw [nup_same, nup_same]
      by_cases hb : j < b 0
      · unfold rvX saS
        simp only [if_pos hb]
        split
        · rename_i h
          have : j = 0 := by omega
          subst this
          simp
        · rfl
      · have g := hok.2.2.2.2.2.2 (j - b 0) (by omega)
        unfold rvX saS
        simp only [if_neg hb, if_neg (show ¬ wd % 2 / 2 = j by omega)]
        rw [ih _ (by rw [show 6 + 3 * (j - b 0) + 1 = 7 + 3 * (j - b 0) by omega]; omega), ih _ (by rw [show 6 + 3 * (j - b 0) + 2 = 8 + 3 * (j - b 0) by omega]; omega)]
theorem LV_s {b : Nat → Nat} (hok : okC b) (w : Nat) {s j : Nat} (hs : s < 64) (hj : j < b 0 + b 1) : tb (LV b w j) s = rvA b w (some s) none (fun _ => 0) (b 0 + b 1) j := lane1 hok w hs _ _ _ (Nat.le_refl _) j hj
theorem LV_0 {b : Nat → Nat} (hok : okC b) (w : Nat) {j : Nat} (hj : j < b 0 + b 1) : tb (LV b w j) (w % 2) = rvA b w none none (fun _ => 0) (b 0 + b 1) j := by
  rw [LV_s hok w (by omega) hj]; exact lane0 hok w _ _ (Nat.le_refl _) j hj
theorem oC_ou {b : Nat → Nat} (hok : okC b) (w : Nat) : oC b w = ouC b w none none := by
  unfold oC ouC; rw [LV_0 hok w hok.2.2.2.1, LV_0 hok w hok.2.2.2.2.1]
theorem os_ou {b : Nat → Nat} (hok : okC b) (w : Nat) {s : Nat} (hs : s < 64) : 2 * tb (LV b w (b 2)) s + tb (LV b w (b 3)) s = ouC b w (some s) none := by
  unfold ouC; rw [LV_s hok w hs hok.2.2.2.1, LV_s hok w hs hok.2.2.2.2.1]
theorem ob_ou {b : Nat → Nat} (hok : okC b) (w : Nat) {s t : Nat} (hs : s < 64) (hst : ¬ s / 2 = t / 2) : obC b w s t = ouC b w (some s) (some t) := by
  unfold obC ouC; rw [lane2 hok w hs hst _ (fun _ => 0) _ (Nat.le_refl _) _ hok.2.2.2.1, lane2 hok w hs hst _ (fun _ => 0) _ (Nat.le_refl _) _ hok.2.2.2.2.1]
theorem wi_eq {b : Nat → Nat} (hok : okC b) (wd w : Int32) : wiS b wd w = wiR b wd w := by
  unfold wiS wiR
  by_cases h : vp_in wd (2 ^ b 0) ∧ vp_in w (b 0 + b 1)
  · rw [iP_y h, iP_y h]
    obtain ⟨j, hj, rfl⟩ := vp_in_of h.2 (by have := hok.2.1; have := hok.2.2.1; omega)
    rw [cl_nI (by have := hok.2.1; have := hok.2.2.1; omega), LV_0 hok _ hj]
  · rw [iP_n h, iP_n h]
theorem ot_eq {b : Nat → Nat} (hok : okC b) (wd s : Int32) : otS b wd s = otR b wd s := by
  have b0 := hok.2.1
  have b1 := hok.2.2.1
  unfold otS otR
  by_cases h : vp_in wd (2 ^ b 0) ∧ (s = -1 ∨ vp_in s (2 * (b 0 + b 1)))
  · rw [iP_y h, iP_y h]
    by_cases h1 : s = -1
    · rw [iP_y h1, iP_y h1, oC_ou hok]
    · rw [iP_n h1, iP_n h1]
      obtain ⟨j, hj, rfl⟩ := vp_in_of (h.2.resolve_left h1) (by omega)
      rw [cl_nI (by omega), os_ou hok _ (by omega)]
  · rw [iP_n h, iP_n h]
/-! sets of stucks, bit by bit -/
theorem tb_al0 : ∀ n, n < 33 → 0 < n → ∀ t, t < 64 → (tb ((-1 : Int64).toUInt64 >>> ((nI (64 - 2 * n)).toInt64.toUInt64 &&& Int64.toUInt64 63)).toInt64 t = 1 ↔ t < 2 * n) := by decide +kernel
theorem tb_al {b : Nat → Nat} (hok : okC b) {t : Nat} (ht : t < 64) : tb (alS b) t = 1 ↔ t < 2 * (b 0 + b 1) := by
  have b0 := hok.1
  have b0' := hok.2.1
  have b1 := hok.2.2.1
  exact tb_al0 (b 0 + b 1) (by omega) (by omega) t ht
theorem va_pq {p q : Nat} (hp : p < 2) (hq : q < 2) : vaB (2 * p + q) = true ↔ ¬ (p = 1 ↔ q = 1) := by
  rcases (show p = 0 ∨ p = 1 by omega) with rfl | rfl <;> rcases (show q = 0 ∨ q = 1 by omega) with rfl | rfl <;> decide
theorem tb_ex {b : Nat → Nat} (hok : okC b) (w : Nat) {t : Nat} (ht : t < 64) : tb (exC b w) t = 1 ↔ t < 2 * (b 0 + b 1) ∧ vaB (ouC b w (some t) none) = false := by
  unfold exC exS
  rw [tb_and, tb_not _ ht, tb_xor, tb_al hok ht, ← os_ou hok w ht, ← Bool.not_eq_true, va_pq (tb_lt _ _) (tb_lt _ _)]
  exact And.comm
theorem tb_ch {b : Nat → Nat} (hok : okC b) (w : Nat) {t : Nat} (ht : t < 64) : tb (chC b w) t = 1 ↔ t < 2 * (b 0 + b 1) ∧ ¬ ouC b w (some t) none = ouC b w none none := by
  have h1 := tb_lt (LV b w (b 2)) (w % 2)
  have h2 := tb_lt (LV b w (b 3)) (w % 2)
  have h3 := tb_lt (LV b w (b 2)) t
  have h4 := tb_lt (LV b w (b 3)) t
  rw [← oC_ou hok w, ← os_ou hok w ht]
  unfold chC chS
  rw [tb_and, tb_or, tb_xor, tb_xor, tb_al hok ht, tb_ia (show oC b w / 2 ^ 1 < 2 by have := oC_lt b w; omega) ht, tb_ia (by omega) ht]
  unfold oC
  omega
theorem tb_pa {b : Nat → Nat} (hok : okC b) (w : Nat) {t : Nat} (ht : t < 64) : tb (paC b w) t = 1 ↔ t < 2 * (b 0 + b 1) ∧ vaB (ouC b w (some t) none) = true ∧ ¬ ouC b w (some t) none = ouC b w none none := by
  have e : paC b w = (LV b w (b 2) ^^^ LV b w (b 3)) &&& chC b w := rfl
  rw [e, tb_and, tb_ch hok w ht, tb_xor, ← va_pq (tb_lt _ _) (tb_lt _ _), os_ou hok w ht]
  constructor
  · rintro ⟨h1, h2, h3⟩; exact ⟨h2, h1, h3⟩
  · rintro ⟨h1, h2, h3⟩; exact ⟨h2, h1, h3⟩
def bB (p : Nat → Bool) : Nat → Int64
  | 0 => 0
  | t + 1 => bB p t ||| (if p t = true then (1 : Int64) <<< ((nI t).toInt64 &&& 63) else 0)
def lB (p : Nat → Bool) (x : Int64) : Nat → Int64
  | 0 => x
  | t + 1 => lB p x t &&& (if p t = true then ((1 : Int64) <<< ((nI t).toInt64 &&& 63)) ^^^ (-1) else (-1))
theorem tb_bB (p : Nat → Bool) {t : Nat} (ht : t < 64) : ∀ n, n ≤ 64 → (tb (bB p n) t = 1 ↔ t < n ∧ p t = true)
  | 0, _ => ⟨fun h => (by rw [show bB p 0 = 0 from rfl, tb_0] at h; cases h), fun h => absurd h.1 (Nat.not_lt_zero t)⟩
  | n + 1, hn => by
    have ih := tb_bB p ht n (by omega)
    simp only [bB]
    rw [tb_or, ih]
    by_cases hp : p n = true
    · rw [if_pos hp, tb_1sh n (by omega) t ht]
      constructor
      · rintro (h | h)
        · exact ⟨by omega, h.2⟩
        · split at h
          · rename_i e; subst e; exact ⟨by omega, hp⟩
          · cases h
      · rintro ⟨h1, h2⟩
        rcases Nat.lt_or_ge t n with q | q
        · exact Or.inl ⟨q, h2⟩
        · exact Or.inr (by rw [if_pos (by omega)])
    · rw [if_neg hp, tb_0]
      constructor
      · rintro (h | h)
        · exact ⟨by omega, h.2⟩
        · cases h
      · rintro ⟨h1, h2⟩
        rcases Nat.lt_or_ge t n with q | q
        · exact Or.inl ⟨q, h2⟩
        · have e : t = n := by omega
          subst e
          exact absurd h2 hp
theorem tb_lB (p : Nat → Bool) (x : Int64) {t : Nat} (ht : t < 64) : ∀ n, n ≤ 64 → (tb (lB p x n) t = 1 ↔ tb x t = 1 ∧ ¬ (t < n ∧ p t = true))
  | 0, _ => ⟨fun h => ⟨h, fun z => absurd z.1 (Nat.not_lt_zero t)⟩, fun h => h.1⟩
  | n + 1, hn => by
    have ih := tb_lB p x ht n (by omega)
    simp only [lB]
    rw [tb_and, ih]
    by_cases hp : p n = true
    · rw [if_pos hp, tb_not _ ht, tb_1sh n (by omega) t ht]
      constructor
      · rintro ⟨⟨h1, h2⟩, h3⟩
        refine ⟨h1, fun z => ?_⟩
        rcases Nat.lt_or_ge t n with q | q
        · exact h2 ⟨q, z.2⟩
        · exact h3 (by rw [if_pos (by omega)])
      · rintro ⟨h1, h2⟩
        refine ⟨⟨h1, fun z => h2 ⟨by omega, z.2⟩⟩, fun z => ?_⟩
        split at z
        · rename_i e; subst e; exact h2 ⟨by omega, hp⟩
        · cases z
    · rw [if_neg hp, tb_m1 t ht]
      constructor
      · rintro ⟨⟨h1, h2⟩, -⟩
        refine ⟨h1, fun z => ?_⟩
        rcases Nat.lt_or_ge t n with q | q
        · exact h2 ⟨q, z.2⟩
        · have e : t = n := by omega
          subst e
          exact hp z.2
      · rintro ⟨h1, h2⟩
        exact ⟨⟨h1, fun z => h2 ⟨by omega, z.2⟩⟩, rfl⟩
def reB (c : Nat → Nat) (w t : Nat) : Bool := !vaB (ouC c w (some t) none)
def rpB (c : Nat → Nat) (w t : Nat) : Bool := vaB (ouC c w (some t) none) && !(ouC c w (some t) none == ouC c w none none)
def rlB (c : Nat → Nat) (w t : Nat) : Bool := !(ouC c w (some t) none == ouC c w none none)
theorem re_eq {c : Nat → Nat} (hok : okC c) (w : Nat) : bB (reB c w) (2 * (c 0 + c 1)) = exC c w := tb_ext fun t ht => by
  have b0 := hok.2.1
  have b1 := hok.2.2.1
  rw [tb_bB _ ht _ (by omega), tb_ex hok w ht]; unfold reB; simp
theorem rp_eq {c : Nat → Nat} (hok : okC c) (w : Nat) : bB (rpB c w) (2 * (c 0 + c 1)) = paC c w := tb_ext fun t ht => by
  have b0 := hok.2.1
  have b1 := hok.2.2.1
  rw [tb_bB _ ht _ (by omega), tb_pa hok w ht]; unfold rpB; simp
def ltL (c : Nat → Nat) : Nat → Int64
  | 0 => -1
  | w + 1 => if inB c w = true then lB (rlB c w) (ltL c w) (2 * (c 0 + c 1)) else ltL c w
theorem tb_lt2 {c : Nat → Nat} (hok : okC c) {t : Nat} (ht : t < 64) : ∀ n, tb (ltL c n) t = 1 ↔ ¬ tb (orC c (chC c) n) t = 1
  | 0 => by simp only [ltL, orC]; rw [tb_m1 t ht, tb_0]; simp
  | n + 1 => by
    have b0 := hok.2.1
    have b1 := hok.2.2.1
    have ih := tb_lt2 hok ht n
    simp only [ltL, orC]
    by_cases hb : inB c n = true
    · rw [if_pos hb, if_pos hb, tb_lB _ _ ht _ (by omega), ih, tb_or, tb_ch hok n ht]; unfold rlB; simp
    · rw [if_neg hb, if_neg hb]; exact ih
theorem lt_al {c : Nat → Nat} (hok : okC c) (n : Nat) : ltL c n &&& alS c = alS c &&& (orC c (chC c) n ^^^ (-1)) := tb_ext fun t ht => by
  rw [tb_and, tb_and, tb_not _ ht, tb_lt2 hok ht]; exact And.comm
theorem ex_al {c : Nat → Nat} (hok : okC c) (w : Nat) : exC c w &&& alS c = exC c w := tb_ext fun t ht => by
  rw [tb_and, tb_al hok ht, tb_ex hok w ht]
  exact ⟨fun h => h.1, fun h => ⟨h, h.1⟩⟩
theorem or_al {c : Nat → Nat} {f : Nat → Int64} (h : ∀ w, f w &&& alS c = f w) (n : Nat) : orC c f n &&& alS c = orC c f n := tb_ext fun t ht => by
  rw [tb_and, or_bit]
  refine ⟨fun z => z.1, fun z => ⟨z, ?_⟩⟩
  obtain ⟨w, -, -, h3⟩ := z
  rw [← h w] at h3
  exact ((tb_and _ _ _).mp h3).2
theorem pa_al {c : Nat → Nat} (hok : okC c) (w : Nat) : paC c w &&& alS c = paC c w := tb_ext fun t ht => by
  rw [tb_and, tb_al hok ht, tb_pa hok w ht]
  exact ⟨fun h => h.1, fun h => ⟨h, h.1⟩⟩
theorem x_al {c : Nat → Nat} (hok : okC c) (w : Nat) (op : Int64) : (xC c w &&& op) &&& alS c = xC c w &&& op := tb_ext fun t ht => by
  rw [tb_and]
  refine ⟨fun z => z.1, fun z => ⟨z, ?_⟩⟩
  have h1 := ((tb_and _ _ _).mp z).1
  unfold xC at h1
  split at h1
  · rw [← ex_al hok w] at h1; exact ((tb_and _ _ _).mp h1).2
  · rw [tb_0] at h1; cases h1
theorem fb_cut {p q : Nat → Bool} : ∀ m n, n ≤ m → (∀ t, t < n → p t = q t) → (∀ t, n ≤ t → t < m → p t = false) → fb_ct p m = fb_ct q n
  | 0, n, h, _, _ => by rw [show n = 0 by omega]; rfl
  | m + 1, n, h, h1, h2 => by
    rcases Nat.lt_or_ge m n with z | z
    · rw [show n = m + 1 by omega]; exact fb_ct_cong (fun t ht => h1 t (by omega))
    · rw [fb_ct_succ, h2 m z (Nat.lt_succ_self m)]
      simp
      exact fb_cut m n z h1 (fun t a b => h2 t a (by omega))
theorem mn_pc {c : Nat → Nat} (hok : okC c) (x : Int64) : fb_ct (fun t => tb x t == 1) (2 * (c 0 + c 1)) = pcL (x &&& alS c) := by
  have b0 := hok.2.1
  have b1 := hok.2.2.1
  unfold pcL
  refine (fb_cut 64 _ (by omega) (fun t ht => ?_) (fun t h1 h2 => ?_)).symm
  · have := tb_and x (alS c) t
    rw [tb_al hok (by omega)] at this
    have h1 := tb_lt x t
    have h2 := tb_lt (x &&& alS c) t
    rcases (show tb x t = 0 ∨ tb x t = 1 by omega) with q | q <;> rcases (show tb (x &&& alS c) t = 0 ∨ tb (x &&& alS c) t = 1 by omega) with z | z <;> simp [q, z] <;> omega
  · have := tb_and x (alS c) t
    rw [tb_al hok h2] at this
    simp
    omega
theorem fb_lt {p q : Nat → Bool} : ∀ n, (∀ t, t < n → p t = true → q t = true) → fb_ct p n ≤ fb_ct q n ∧ ((∃ t, t < n ∧ q t = true ∧ p t = false) → fb_ct p n < fb_ct q n)
  | 0, _ => ⟨Nat.le_refl _, fun ⟨t, h, _⟩ => absurd h (Nat.not_lt_zero t)⟩
  | n + 1, h => by
    have ih := fb_lt n (fun t ht => h t (by omega))
    have hn := h n (Nat.lt_succ_self n)
    rw [fb_ct_succ, fb_ct_succ]
    refine ⟨?_, ?_⟩
    · cases hp : p n <;> cases hq : q n <;> simp_all <;> omega
    · rintro ⟨t, h1, h2, h3⟩
      rcases Nat.lt_or_ge t n with z | z
      · have := ih.2 ⟨t, z, h2, h3⟩
        cases hp : p n <;> cases hq : q n <;> simp_all <;> omega
      · have e : t = n := by omega
        subst e
        rw [h2, h3]
        simp
        omega
theorem op_dec {c : Nat → Nat} {j : Nat} (h : ¬ opC c j = 0) : pcL (opC c (j + 1)) < pcL (opC c j) := by
  have hb := op_best h
  have hw := wmF_in c (opC c j) _ hb
  rw [hw.2.2] at hb
  obtain ⟨t, ht, h1⟩ := pcL_pos.mp hb
  have h2 := (tb_and _ _ _).mp h1
  unfold pcL
  refine (fb_lt 64 (fun t ht z => ?_)).2 ⟨t, ht, by simp [h2.2], ?_⟩
  · simp only [beq_iff_eq] at z ⊢
    exact ((tb_and _ _ _).mp z).1
  · have : ¬ tb (opC c (j + 1)) t = 1 := fun z => by
      simp only [opC] at z
      rw [tb_and, tb_not _ ht] at z
      exact z.2 h2.1
    simp [this]
theorem op_pc {c : Nat → Nat} : ∀ n, (∀ j, j < n → ¬ opC c j = 0) → n + pcL (opC c n) ≤ 64
  | 0, _ => by have := pcL_le (opC c 0); omega
  | n + 1, h => by
    have h1 := op_pc n (fun j hj => h j (by omega))
    have h2 := op_dec (h n (Nat.lt_succ_self n))
    omega
theorem pcL_z {x : Int64} (h : pcL x = 0) : x = 0 := Classical.byContradiction fun z => by
  have := pcL_pos.mpr (tb_ne z)
  omega
theorem op_end (c : Nat → Nat) : ∃ n, (∀ j, j < n → ¬ opC c j = 0) ∧ opC c n = 0 := by
  refine Classical.byContradiction fun hx => ?_
  have h : ∀ n, ∀ j, j < n → ¬ opC c j = 0 := fun n => by
    induction n with
    | zero => exact fun j hj => absurd hj (Nat.not_lt_zero j)
    | succ n ih =>
      intro j hj
      rcases Nat.lt_or_ge j n with q | q
      · exact ih j q
      · have e : j = n := by omega
        subst e
        exact fun z => hx ⟨j, ih, z⟩
  have := op_pc 65 (h 65)
  omega
theorem ts_ex (c : Nat → Nat) : ∃ n, tsK c n (fun j => (wmF c (opC c j) (2 ^ c 0)).1) ∧ opC c n = 0 := by
  obtain ⟨n, h1, h2⟩ := op_end c
  exact ⟨n, ⟨by have := op_pc n h1; omega, fun j hj => ⟨h1 j hj, rfl⟩, Or.inr h2⟩, h2⟩
theorem ts_un {c : Nat → Nat} {n m : Nat} {T U : Nat → Nat} (h : tsK c n T) (k : tsK c m U) : n = m ∧ ∀ j, j < n → T j = U j := by
  have z : ∀ {n : Nat} {T : Nat → Nat}, tsK c n T → opC c n = 0 := fun {n T} h => by
    rcases h.2.2 with e | e
    · have := op_pc n (fun j hj => (h.2.1 j hj).1)
      exact pcL_z (by omega)
    · exact e
  have e : n = m := by
    rcases Nat.lt_trichotomy n m with q | q | q
    · exact absurd (z h) (k.2.1 n q).1
    · exact q
    · exact absurd (z k) (h.2.1 m q).1
  subst e
  exact ⟨rfl, fun j hj => by rw [(h.2.1 j hj).2, (k.2.1 j hj).2]⟩
