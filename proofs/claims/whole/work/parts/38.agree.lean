/-! two circuits that agree as far as their gates go -/
def agr (b c : Nat → Nat) : Prop := ∀ j, j < 6 + 3 * b 1 → b j = c j
theorem agr_1 {b c : Nat → Nat} (h : agr b c) : b 1 = c 1 := h 1 (by omega)
theorem agr_lo {b c : Nat → Nat} (h : agr b c) {j : Nat} (hj : j < 6) : b j = c j := h j (by omega)
theorem agr_sy {b c : Nat → Nat} (h : agr b c) : agr c b := fun j hj => (h j (by rw [agr_1 h]; exact hj)).symm
theorem agr_rf (b : Nat → Nat) : agr b b := fun _ _ => rfl
theorem agr_tr {a b c : Nat → Nat} (h : agr a b) (k : agr b c) : agr a c := fun j hj => (h j hj).trans (k j (by rw [← agr_1 h]; exact hj))
theorem agr_k {b c : Nat → Nat} (h : agr b c) {g : Nat} (hg : g < b 1) : b (6 + 3 * g) = c (6 + 3 * g) ∧ b (7 + 3 * g) = c (7 + 3 * g) ∧ b (8 + 3 * g) = c (8 + 3 * g) := ⟨h _ (by omega), h _ (by omega), h _ (by omega)⟩
theorem agr_ok {b c : Nat → Nat} (h : agr b c) (hb : okC b) : okC c := by
  obtain ⟨a1, a2, a3, a4, a5, a6, a7⟩ := hb
  have e0 := agr_lo h (j := 0) (by decide)
  have e1 := agr_1 h
  have e2 := agr_lo h (j := 2) (by decide)
  have e3 := agr_lo h (j := 3) (by decide)
  have e4 := agr_lo h (j := 4) (by decide)
  have e5 := agr_lo h (j := 5) (by decide)
  refine ⟨by omega, by omega, by omega, by omega, by omega, by rw [← e0, ← e4, ← e5]; exact a6, fun g hg => ?_⟩
  have q := agr_k h (g := g) (by omega)
  rw [← q.1, ← q.2.1, ← q.2.2, ← e0]
  exact a7 g (by omega)
theorem agr_in {b c : Nat → Nat} (h : agr b c) : inB b = inB c := by
  funext w
  unfold inB
  rw [agr_lo h (j := 0) (by decide), agr_lo h (j := 4) (by decide), agr_lo h (j := 5) (by decide)]
theorem agr_ln {b c : Nat → Nat} (h : agr b c) (wd : Nat) (fz : Nat → Option Nat) (V : Nat → Int64) : ∀ n, n ≤ b 0 + b 1 → lnA b wd fz V n = lnA c wd fz V n
  | 0, _ => rfl
  | n + 1, hn => by
    have ih := agr_ln h wd fz V n (by omega)
    simp only [lnA]
    rw [ih]
    congr 1
    unfold lnX
    have e0 := agr_lo h (j := 0) (by decide)
    cases fz n with
    | some v => rfl
    | none =>
      simp only
      rw [← e0]
      by_cases q : n < b 0
      · rw [if_pos q, if_pos q]
      · have k := agr_k h (g := n - b 0) (by omega)
        rw [if_neg q, if_neg q, k.1, k.2.1, k.2.2]
theorem agr_w {b c : Nat → Nat} (h : agr b c) : b 0 + b 1 = c 0 + c 1 := by rw [agr_lo h (j := 0) (by decide), agr_1 h]
theorem agr_LV {b c : Nat → Nat} (h : agr b c) : LV b = LV c := by
  funext w
  unfold LV
  rw [← agr_w h]
  exact agr_ln h w _ _ _ (Nat.le_refl _)
theorem agr_oC {b c : Nat → Nat} (h : agr b c) : oC b = oC c := by
  funext w
  unfold oC
  rw [agr_LV h, agr_lo h (j := 2) (by decide), agr_lo h (j := 3) (by decide)]
theorem agr_al {b c : Nat → Nat} (h : agr b c) : alS b = alS c := by
  unfold alS
  rw [agr_w h]
theorem agr_ex {b c : Nat → Nat} (h : agr b c) : exC b = exC c := by
  funext w
  unfold exC
  rw [agr_LV h, agr_al h, agr_lo h (j := 2) (by decide), agr_lo h (j := 3) (by decide)]
theorem agr_pa {b c : Nat → Nat} (h : agr b c) : paC b = paC c := by
  funext w
  unfold paC
  rw [agr_LV h, agr_al h, agr_oC h, agr_lo h (j := 2) (by decide), agr_lo h (j := 3) (by decide)]
theorem agr_ch {b c : Nat → Nat} (h : agr b c) : chC b = chC c := by
  funext w
  unfold chC
  rw [agr_LV h, agr_al h, agr_oC h, agr_lo h (j := 2) (by decide), agr_lo h (j := 3) (by decide)]
theorem agr_or {b c : Nat → Nat} (h : agr b c) (f : Nat → Int64) : ∀ n, orC b f n = orC c f n
  | 0 => rfl
  | n + 1 => by simp only [orC]; rw [agr_or h f n, agr_in h]
theorem agr_d {b c : Nat → Nat} (h : agr b c) : ∀ n, dCC b n = dCC c n
  | 0 => rfl
  | n + 1 => by simp only [dCC]; rw [agr_d h n, agr_in h, agr_oC h]
theorem agr_x {b c : Nat → Nat} (h : agr b c) : xC b = xC c := by
  funext w
  unfold xC
  rw [agr_in h, agr_ex h]
theorem agr_wm {b c : Nat → Nat} (h : agr b c) (op : Int64) : ∀ n, wmF b op n = wmF c op n
  | 0 => rfl
  | n + 1 => by simp only [wmF]; rw [agr_wm h op n, agr_x h]
theorem agr_op {b c : Nat → Nat} (h : agr b c) : ∀ n, opC b n = opC c n
  | 0 => by simp only [opC]; rw [agr_ex h, agr_or h, agr_lo h (j := 0) (by decide)]
  | n + 1 => by simp only [opC]; rw [agr_op h n, agr_x h, agr_wm h, agr_lo h (j := 0) (by decide)]
theorem agr_ob {b c : Nat → Nat} (h : agr b c) (w s t : Nat) : obC b w s t = obC c w s t := by
  unfold obC
  rw [agr_ln h _ _ _ _ (Nat.le_refl _), agr_w h, agr_lo h (j := 2) (by decide), agr_lo h (j := 3) (by decide)]
/-! the answers of both sides are the same -/
theorem nI_u {x y : Nat} {r q : Int32} (e : x = y) (h1 : r = nI x) (h2 : q = nI y) : r = q := by rw [h1, h2, e]
theorem lwR_u {p : Nat → Bool} {n : Nat} {r q : Int32} (h : lwR p n r) (k : lwR p n q) : r = q := by
  rcases h with ⟨w, h1, h2, h3, e⟩ | ⟨h1, e⟩ <;> rcases k with ⟨v, k1, k2, k3, f⟩ | ⟨k1, f⟩
  · rcases Nat.lt_trichotomy w v with z | z | z
    · rw [k3 w z] at h2; cases h2
    · rw [e, f, z]
    · rw [h3 v z] at k2; cases k2
  · rw [k1 w h1] at h2; cases h2
  · rw [h1 v k1] at k2; cases k2
  · rw [e, f]
theorem lwB_u {x : Int64} {r q : Int32} (h : lwB x r) (k : lwB x q) : r = q := by
  rcases h with ⟨w, h1, h2, h3, e⟩ | ⟨h1, e⟩ <;> rcases k with ⟨v, k1, k2, k3, f⟩ | ⟨k1, f⟩
  · rcases Nat.lt_trichotomy w v with z | z | z
    · rw [k3 w z] at h2; cases h2
    · rw [e, f, z]
    · rw [h3 v z] at k2; cases k2
  · rw [k1 w h1] at h2; cases h2
  · rw [h1 v k1] at k2; cases k2
  · rw [e, f]
theorem st_u {b c : Nat → Nat} (hok : okC b) (h : agr b c) {s wh r q : Int32} (h1 : stR b s wh r) (h2 : stR c s wh q) : r = q := by
  have b0 := hok.2.1
  have b1 := hok.2.2.1
  have bi : ∀ f t, biF b f t = biF c f t := fun f t => by funext w; unfold biF; rw [agr_in h]
  unfold stR stV at h2
  rw [← agr_w h, ← agr_ex h, ← agr_pa h, ← agr_ch h, ← agr_al h] at h2
  simp only [← bi, ← agr_or h, ← agr_lo h (j := 0) (by decide)] at h2
  unfold stR stV at h1
  rcases h1 with ⟨h1, e⟩ | ⟨t, k, a1, a2, rfl, rfl, a3⟩
  · rcases h2 with ⟨-, f⟩ | ⟨t', k', a1', a2', rfl, rfl, -⟩
    · rw [e, f]
    · exact absurd ⟨vp_in_nI a1' (by omega), vp_in_nI a2' (by omega)⟩ h1
  · rcases h2 with ⟨h2, f⟩ | ⟨t', k', a1', a2', e1, e2, a3'⟩
    · exact absurd ⟨vp_in_nI a1 (by omega), vp_in_nI a2 (by omega)⟩ h2
    · have z1 := nI_inj (by omega) (by omega) e1
      have z2 := nI_inj (by omega) (by omega) e2
      subst z1
      subst z2
      rcases a3 with ⟨z, e⟩ | ⟨z, e⟩ | ⟨z, e⟩ | ⟨z, e⟩ | ⟨z, e⟩ <;> rcases a3' with ⟨y, f⟩ | ⟨y, f⟩ | ⟨y, f⟩ | ⟨y, f⟩ | ⟨y, f⟩ <;> first | omega | (rw [e, f]; done) | exact lwR_u e f
theorem is_u {b c : Nat → Nat} (h : agr b c) {wh r q : Int32} (h1 : isR b wh r) (h2 : isR c wh q) : r = q := by
  unfold isR at h1 h2
  rw [← agr_ex h, ← agr_pa h, ← agr_al h] at h2
  simp only [← agr_or h, ← agr_d h, ← agr_lo h (j := 0) (by decide)] at h2
  rcases h1 with ⟨z, e⟩ | ⟨z, e⟩ | ⟨z, e⟩ | ⟨z, e⟩ <;> rcases h2 with ⟨y, f⟩ | ⟨y, f⟩ | ⟨y, f⟩ | ⟨y, f⟩ <;> first | (rw [e, f]; done) | (rw [z] at y; exact absurd (nI_inj (by decide) (by decide) y) (by decide)) | (rw [y] at z; exact absurd (vp_in_nI (by decide) (by decide)) z) | (rw [z] at y; exact absurd (vp_in_nI (by decide) (by decide)) y)
theorem sk_u {b c : Nat → Nat} (h : agr b c) {wh r q : Int32} (h1 : skR b wh r) (h2 : skR c wh q) : r = q := by
  unfold skR at h1 h2
  rw [← agr_ex h, ← agr_pa h, ← agr_al h, ← agr_ch h] at h2
  simp only [← agr_or h, ← agr_lo h (j := 0) (by decide)] at h2
  rcases h1 with ⟨z, e⟩ | ⟨z, e⟩ | ⟨z, e⟩ | ⟨z, e⟩ | ⟨z, e⟩ | ⟨z, e⟩ | ⟨z, e⟩ <;> rcases h2 with ⟨y, f⟩ | ⟨y, f⟩ | ⟨y, f⟩ | ⟨y, f⟩ | ⟨y, f⟩ | ⟨y, f⟩ | ⟨y, f⟩ <;> first | (rw [e, f]; done) | exact lwB_u e f | (rw [z] at y; exact absurd (nI_inj (by decide) (by decide) y) (by decide)) | (rw [y] at z; exact absurd (vp_in_nI (by decide) (by decide)) z) | (rw [z] at y; exact absurd (vp_in_nI (by decide) (by decide)) y)
theorem ts_ag {b c : Nat → Nat} (h : agr b c) {n : Nat} {T : Nat → Nat} (k : tsK c n T) : tsK b n T := by
  unfold tsK at k ⊢
  simp only [agr_op h, agr_wm h, agr_lo h (j := 0) (by decide)]
  exact k
theorem tr_u {b c : Nat → Nat} (h : agr b c) {i r q : Int32} (h1 : tsR b i r) (h2 : tsR c i q) : r = q := by
  rcases h1 with ⟨z, e⟩ | ⟨n, T, t1, h1⟩ <;> rcases h2 with ⟨y, f⟩ | ⟨m, U, t2, h2⟩
  · rw [e, f]
  · rcases h2 with ⟨y, f⟩ | ⟨j, hj, y, f⟩
    · rw [y] at z; exact absurd z (by decide)
    · rw [y] at z; exact absurd (Int32.lt_trans z (by decide)) (nI_pos hj)
  · rcases h1 with ⟨z, e⟩ | ⟨j, hj, z, e⟩
    · rw [z] at y; exact absurd y (by decide)
    · rw [z] at y; exact absurd (Int32.lt_trans y (by decide)) (nI_pos hj)
  · have u := ts_un t1 (ts_ag h t2)
    obtain ⟨e0, hT⟩ := u
    subst e0
    rcases h1 with ⟨z, e⟩ | ⟨j, hj, z, e⟩ <;> rcases h2 with ⟨y, f⟩ | ⟨k, hk, y, f⟩
    · rw [e, f]
    · rw [z] at y; exact absurd y.symm (nI_neg (by decide) hk)
    · rw [y] at z; exact absurd z.symm (nI_neg (by decide) hj)
    · rw [z] at y
      have e1 := nI_inj hj hk y
      subst e1
      rcases e with ⟨e, g⟩ | ⟨e, g⟩ <;> rcases f with ⟨f, l⟩ | ⟨f, l⟩
      · rw [g, l, hT j e]
      · omega
      · omega
      · rw [g, l]
theorem ep_u {b c : Nat → Nat} (h : agr b c) (wd : Int32) : epS b wd = epS c wd := by
  unfold epS
  rw [agr_in h, agr_ex h, agr_lo h (j := 0) (by decide)]
theorem bt_u {b c : Nat → Nat} (hok : okC b) (h : agr b c) {s t wh r q : Int32} (h1 : btR b s t wh r) (h2 : btR c s t wh q) : r = q := by
  have b0 := hok.2.1
  have b1 := hok.2.2.1
  have e1 : nvC c = nvC b := by funext s t w; unfold nvC; rw [agr_ob h]
  have e2 : pbC c = pbC b := by funext s t w; unfold pbC; rw [agr_ob h, agr_oC h]
  unfold btR at h1 h2
  rw [← agr_w h, ← agr_in h, e1, e2, ← agr_lo h (j := 0) (by decide)] at h2
  rcases h1 with ⟨n1, e⟩ | ⟨j, k, a1, a2, a3, rfl, rfl, a4⟩ <;> rcases h2 with ⟨n2, f⟩ | ⟨j', k', c1, c2, c3, y1, y2, c4⟩
  · rw [e, f]
  · refine absurd ?_ n1
    rw [y1, y2]
    refine ⟨vp_in_nI c1 (by omega), vp_in_nI c2 (by omega), by rw [cl_nI (by omega), cl_nI (by omega)]; exact c3, ?_⟩
    rcases c4 with ⟨z, -⟩ | ⟨z, -⟩ <;> rw [z] <;> exact vp_in_nI (by decide) (by decide)
  · refine absurd ?_ n2
    refine ⟨vp_in_nI a1 (by omega), vp_in_nI a2 (by omega), by rw [cl_nI (by omega), cl_nI (by omega)]; exact a3, ?_⟩
    rcases a4 with ⟨z, -⟩ | ⟨z, -⟩ <;> rw [z] <;> exact vp_in_nI (by decide) (by decide)
  · have z1 := nI_inj (by omega) (by omega) y1
    have z2 := nI_inj (by omega) (by omega) y2
    subst z1
    subst z2
    rcases a4 with ⟨z, e⟩ | ⟨z, e⟩ <;> rcases c4 with ⟨y, f⟩ | ⟨y, f⟩ <;> first | (rw [e, f]; done) | (rw [z] at y; exact absurd (nI_inj (by decide) (by decide) y) (by decide))
theorem cn_u {b c : Nat → Nat} (h : agr b c) {kp len : Nat} {wh r q : Int32} (h1 : cnR b kp len wh r) (h2 : cnR c kp len wh q) : r = q := by
  unfold cnR at h1 h2
  rw [← agr_oC h, ← agr_lo h (j := 0) (by decide)] at h2
  rcases h1 with ⟨k, hk, z, e⟩ | ⟨z, e⟩ | ⟨z, e⟩ | ⟨z, e⟩ | ⟨z, e⟩ <;> rcases h2 with ⟨l, hl, y, f⟩ | ⟨y, f⟩ | ⟨y, f⟩ | ⟨y, f⟩ | ⟨y, f⟩ <;> first
    | (rw [e, f]; done)
    | (rw [z] at y; exact absurd (nI_inj (by omega) (by omega) y) (by omega))
    | (rw [y] at z; exact absurd (vp_in_nI (by omega) (by decide)) z)
    | (rw [z] at y; exact absurd (vp_in_nI (by omega) (by decide)) y)
    | (rw [z] at y; have q9 := nI_inj (by omega) (by omega) y; subst q9; rw [e, f, agr_lo h hk])
theorem neg_n {j : Nat} {i : Int32} (hj : j < 2147483648) (e : i = nI j) : ¬ i < -1 ∧ ¬ i = -1 := by
  rw [e]
  exact ⟨fun z => nI_pos hj (Int32.lt_trans z (by decide)), nI_neg (by decide) hj⟩
theorem wd_u {b c : Nat → Nat} (hok : okC b) (h : agr b c) {i r q : Int32} (h1 : wdR b i r) (h2 : wdR c i q) : r = q := by
  unfold wdR at h1 h2
  rw [← agr_in h, ← agr_lo h (j := 0) (by decide)] at h2
  have le := fb_ct_le (inB b) (2 ^ b 0)
  have p2 := p2_8 hok.2.1
  rcases h1 with ⟨z, e⟩ | ⟨z, e⟩ | ⟨j, w, z, k1, k2, k3, k4, e⟩ | ⟨j, z, k1, k2, e⟩ <;> rcases h2 with ⟨y, f⟩ | ⟨y, f⟩ | ⟨j', w', y, l1, l2, l3, l4, f⟩ | ⟨j', y, l1, l2, f⟩ <;> first
    | (rw [e, f]; done)
    | (rw [y] at z; exact absurd z (by decide))
    | (rw [z] at y; exact absurd y (by decide))
    | exact absurd z (neg_n (by omega) y).1
    | exact absurd z (neg_n (by omega) y).2
    | exact absurd y (neg_n (by omega) z).1
    | exact absurd y (neg_n (by omega) z).2
    | (rw [z] at y; have q9 := nI_inj (by omega) (by omega) y; omega)
    | (rw [z] at y
       have q9 := nI_inj (by omega) (by omega) y
       rcases Nat.lt_trichotomy w w' with s | s | s
       · have := ct_lt k3 s; omega
       · rw [e, f, s]
       · have := ct_lt l3 s; omega)
theorem rk_u {b c : Nat → Nat} (h : agr b c) (wd : Int32) : rkS b wd = rkS c wd := by
  unfold rkS
  rw [agr_in h, agr_lo h (j := 0) (by decide)]
theorem gf_u {b c : Nat → Nat} (hok : okC b) (h : agr b c) (g wh : Int32) : gfS b g wh = gfS c g wh := by
  have b1 := hok.2.2.1
  unfold gfS
  rw [← agr_1 h]
  by_cases z : vp_in g (b 1) ∧ vp_in wh 4
  · rw [iP_y z, iP_y z]
    obtain ⟨j, hj, rfl⟩ := vp_in_of z.1 (by omega)
    rw [cl_nI (by omega), ← agr_lo h (j := 0) (by decide)]
    by_cases q : cl wh < 3
    · rw [if_pos q, if_pos q, h (6 + 3 * j + cl wh) (by omega)]
    · rw [if_neg q, if_neg q]
      congr 1
      refine fb_ct_cong fun k hk => ?_
      have a := agr_k h hk
      unfold rdC
      first
        | rw [a.2.1, a.2.2]
        | (rw [show 6 + 3 * k + 1 = 7 + 3 * k by omega, show 6 + 3 * k + 2 = 8 + 3 * k by omega, a.2.1, a.2.2])
  · rw [iP_n z, iP_n z]
theorem wi_u {b c : Nat → Nat} (hok : okC b) (h : agr b c) (wd w : Int32) : wiS b wd w = wiR c wd w := by
  rw [← wi_eq (agr_ok h hok)]
  unfold wiS
  rw [agr_LV h, agr_w h, agr_lo h (j := 0) (by decide)]
theorem ot_u {b c : Nat → Nat} (hok : okC b) (h : agr b c) (wd s : Int32) : otS b wd s = otR c wd s := by
  rw [← ot_eq (agr_ok h hok)]
  unfold otS
  rw [agr_LV h, agr_oC h, agr_w h, agr_lo h (j := 0) (by decide), agr_lo h (j := 2) (by decide), agr_lo h (j := 3) (by decide)]
/-! edits keep agreement -/
theorem ag_sg {b c : Nat → Nat} (h : agr b c) (g k x y : Nat) : agr (sgC b g k x y) (sgC c g k x y) := fun j hj => by
  rw [sgC_1] at hj
  unfold sgC
  repeat' split
  all_goals first | rfl | exact h j hj
theorem ag_ag {b c : Nat → Nat} (h : agr b c) (k x y : Nat) : agr (agC b k x y) (agC c k x y) := fun j hj => by
  rw [agC_1] at hj
  have e1 := agr_1 h
  unfold agC sgC
  rw [e1]
  repeat' split
  all_goals first | rfl | exact h j (by omega)
theorem ag_sr2 {b c : Nat → Nat} (h : agr b c) (p q : Nat) : agr (srC b p q) (srC c p q) := fun j hj => by
  rw [srC_1] at hj
  unfold srC
  repeat' split
  all_goals first | rfl | exact h j hj
theorem ag_sc {b c : Nat → Nat} (h : agr b c) (p q : Nat) : agr (scC b p q) (scC c p q) := fun j hj => by
  rw [scC_1] at hj
  unfold scC
  repeat' split
  all_goals first | rfl | exact h j hj
theorem ag_st (b c : Nat → Nat) (n : Nat) : agr (stC b n) (stC c n) := fun j hj => by
  rw [stC_1] at hj
  unfold stC
  repeat' split
  all_goals first | rfl | omega
theorem ag_cp {b o c : Nat → Nat} (h : agr o c) (ho : o 1 ≤ 24) : agr (cpC b o) c := fun j hj => by
  have e : cpC b o 1 = o 1 := rfl
  rw [e] at hj
  unfold cpC
  rw [if_pos (by omega)]
  exact h j hj
theorem ag_tr {b c : Nat → Nat} (h : agr b c) : ∀ i, agr (trS b i).1 (trS c i).1 ∧ (trS b i).2 = (trS c i).2
  | 0 => ⟨h, rfl⟩
  | i + 1 => by
    obtain ⟨a, e⟩ := ag_tr h i
    have e0 := agr_lo a (j := 0) (by decide)
    have e1 := agr_1 a
    simp only [trS, crC]
    rw [e]
    simp only [agC_0, agC_1]
    rw [e0, e1]
    exact ⟨ag_ag (ag_ag (ag_ag (ag_ag (ag_ag (ag_ag a _ _ _) _ _ _) _ _ _) _ _ _) _ _ _) _ _ _, rfl⟩
theorem ag_trC (b c : Nat → Nat) (m : Nat) : agr (trC b m) (trC c m) := by
  have q := ag_tr (ag_sc (ag_st b c (2 * m)) 3 0) (m - 1)
  unfold trC
  rw [q.2]
  exact ag_sr2 q.1 _ _
/-- an edit's answer on both sides -/
def edA (E F : Int32 × Nat × (Nat → Nat)) : Prop := E.1 = F.1 ∧ E.2.1 = F.2.1 ∧ agr E.2.2 F.2.2
theorem gt_u {b c : Nat → Nat} (hok : okC b) (h : agr b c) (g kd x y : Int32) : edA (gtS b g kd x y) (gtS c g kd x y) := by
  have b1 := hok.2.2.1
  unfold gtS
  rw [← agr_1 h, ← agr_lo h (j := 0) (by decide)]
  by_cases z : vp_in g (b 1) ∧ vp_in kd 6 ∧ vp_in x (b 0 + cl g) ∧ vp_in y (b 0 + cl g)
  · rw [iP_y z, iP_y z]
    obtain ⟨j, hj, rfl⟩ := vp_in_of z.1 (by omega)
    rw [cl_nI (by omega)]
    have a := agr_k h hj
    rw [← a.1, ← a.2.1, ← a.2.2]
    split
    · exact ⟨rfl, rfl, h⟩
    · exact ⟨rfl, rfl, ag_sg h _ _ _ _⟩
  · rw [iP_n z, iP_n z]; exact ⟨rfl, rfl, h⟩
theorem ad_u {b c : Nat → Nat} (h : agr b c) (kd x y : Int32) : edA (adS b kd x y) (adS c kd x y) := by
  unfold adS
  rw [← agr_1 h, ← agr_lo h (j := 0) (by decide)]
  by_cases z : vp_in kd 6 ∧ vp_in x (b 0 + b 1) ∧ vp_in y (b 0 + b 1)
  · rw [iP_y z, iP_y z]
    split
    · exact ⟨rfl, rfl, ag_ag h _ _ _⟩
    · exact ⟨rfl, rfl, h⟩
  · rw [iP_n z, iP_n z]; exact ⟨rfl, rfl, h⟩
theorem rl_u {b c : Nat → Nat} (h : agr b c) (p q : Int32) : edA (rlS b p q) (rlS c p q) := by
  unfold rlS
  rw [← agr_1 h, ← agr_lo h (j := 0) (by decide), ← agr_lo h (j := 2) (by decide), ← agr_lo h (j := 3) (by decide)]
  by_cases z : vp_in p (b 0 + b 1) ∧ vp_in q (b 0 + b 1)
  · rw [iP_y z, iP_y z]
    split
    · exact ⟨rfl, rfl, h⟩
    · exact ⟨rfl, rfl, ag_sr2 h _ _⟩
  · rw [iP_n z, iP_n z]; exact ⟨rfl, rfl, h⟩
theorem co_u {b c : Nat → Nat} (h : agr b c) (kd nm : Int32) : edA (coS b kd nm) (coS c kd nm) := by
  unfold coS
  rw [← agr_in (ag_sc h (cl kd) (cl nm)), ← agr_lo h (j := 0) (by decide), ← agr_lo h (j := 4) (by decide), ← agr_lo h (j := 5) (by decide)]
  by_cases z : cdI (b 0) kd nm
  · rw [iP_y z, iP_y z]
    split
    · exact ⟨rfl, rfl, h⟩
    · exact ⟨rfl, rfl, ag_sc h _ _⟩
  · rw [iP_n z, iP_n z]; exact ⟨rfl, rfl, h⟩
theorem bu_u {b c : Nat → Nat} (h : agr b c) (m : Int32) : edA (buS b m) (buR c m) := by
  unfold buS buR
  by_cases z : ∃ k, 1 ≤ k ∧ k ≤ 4 ∧ m = nI k
  · rw [iP_y z, iP_y z]
    have a := ag_trC b (clR c 78) (cl m)
    exact ⟨by simp only; rw [agr_1 a], rfl, a⟩
  · rw [iP_n z, iP_n z]; exact ⟨rfl, rfl, h⟩
/-! texts read on both sides -/
theorem ag_tl {b c : Nat → Nat} (h : agr b c) (hd x y z : Nat) : (tlS b hd x y z = none ∧ tlS c hd x y z = none) ∨ ∃ b' c', tlS b hd x y z = some b' ∧ tlS c hd x y z = some c' ∧ agr b' c' := by
  unfold tlS
  rw [← agr_1 h, ← agr_lo h (j := 0) (by decide)]
  repeat' split
  all_goals first
    | exact Or.inl ⟨rfl, rfl⟩
    | exact Or.inr ⟨_, _, rfl, rfl, ag_st b c _⟩
    | exact Or.inr ⟨_, _, rfl, rfl, ag_ag h _ _ _⟩
    | exact Or.inr ⟨_, _, rfl, rfl, ag_sr2 h _ _⟩
    | exact Or.inr ⟨_, _, rfl, rfl, ag_sc h _ _⟩
theorem ag_it {b c : Nat → Nat} (h : agr b c) (T : Nat → Nat) (len p : Nat) : (itS T len b p = none ∧ itS T len c p = none) ∨ ∃ b' c' e, itS T len b p = some (b', e) ∧ itS T len c p = some (c', e) ∧ agr b' c' := by
  unfold itS
  split
  · exact Or.inl ⟨rfl, rfl⟩
  · split
    · exact Or.inl ⟨rfl, rfl⟩
    · rename_i ve _
      rcases ag_tl h (T p) (ve.1.getD 0 0) (ve.1.getD 1 0) (ve.1.getD 2 0) with ⟨e1, e2⟩ | ⟨b', c', e1, e2, a⟩
      · rw [e1, e2]; exact Or.inl ⟨rfl, rfl⟩
      · rw [e1, e2]; exact Or.inr ⟨b', c', _, rfl, rfl, a⟩
theorem ag_ps (T : Nat → Nat) (len : Nat) : ∀ (n : Nat) (b c : Nat → Nat) (p : Nat), agr b c → (psS T len n b p).1 = (psS T len n c p).1 ∧ agr (psS T len n b p).2 (psS T len n c p).2
  | 0, b, c, p, h => ⟨rfl, h⟩
  | n + 1, b, c, p, h => by
    by_cases hp : p < len
    · rcases ag_it h T len p with ⟨e1, e2⟩ | ⟨b', c', e, e1, e2, a⟩
      · rw [psS_bad hp e1, psS_bad hp e2]; exact ⟨rfl, h⟩
      · rw [psS_go hp e1, psS_go hp e2]; exact ag_ps T len n b' c' e a
    · rw [psS_end (Nat.not_lt.mp hp), psS_end (Nat.not_lt.mp hp)]; exact ⟨rfl, h⟩
theorem ag_cl (bd rd : Nat → Nat) : agr (stC bd 0) (clR rd 78) := fun j hj => by
  rw [stC_1] at hj
  rw [clR_at rd 78 j (by omega)]
  unfold stC
  rw [show (if j < 6 then 0 else bd j) = 0 from if_pos (by omega)]
  split <;> rfl
theorem ps_u (T : Nat → Nat) (len : Nat) (bd rd : Nat → Nat) : (psS T len 200 (stC bd 0) 0).1 = (PS T len rd).1 ∧ agr (psS T len 200 (stC bd 0) 0).2 (PS T len rd).2 := ag_ps T len 200 _ _ 0 (ag_cl bd rd)
theorem la_u {T bd b rd c : Nat → Nat} {len kp fr sf : Nat} (h : agr b c) : (laS T len bd b kp fr sf).1 = (loS T len rd c kp).1 ∧ agr (laS T len bd b kp fr sf).2.1 (loS T len rd c kp).2.1 ∧ (laS T len bd b kp fr sf).2.2.1 = (loS T len rd c kp).2.2 := by
  have q := ps_u T len bd rd
  have p1 := psS_in (T := T) (len := len) 200 (stC bd 0) 0 (by rw [stC_0]; decide) (by rw [stC_1]; decide)
  have p2 := psS_in (T := T) (len := len) 200 (clR rd 78) 0 (by rw [clR_at rd 78 0 (by decide)]; decide) (by rw [clR_at rd 78 1 (by decide)]; decide)
  have e0 := agr_lo q.2 (j := 0) (by decide)
  have e1 := agr_1 q.2
  unfold laS loS
  rw [q.1, e0, e1]
  by_cases z : (PS T len rd).1 = none ∧ ¬ (PS T len rd).2 0 = 0
  · rw [if_pos z, if_pos z]
    exact ⟨rfl, ag_cp (agr_sy (ag_cp (agr_sy q.2) p2.2.2)) p1.2.2, rfl⟩
  · rw [if_neg z, if_neg z]; exact ⟨rfl, h, rfl⟩
theorem fa_u (T : Nat → Nat) (len : Nat) (bd rd : Nat → Nat) : psI (psS T len 200 (stC bd 0) 0) = psI (PS T len rd) := by
  unfold psI
  rw [(ps_u T len bd rd).1]
