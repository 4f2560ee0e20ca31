/-! what an edit leaves is a circuit -/
def gG (b : Nat → Nat) : Prop := ∀ g, g < b 1 → b (6 + 3 * g) ≤ 5 ∧ b (7 + 3 * g) < b 0 + g ∧ b (8 + 3 * g) < b 0 + g
theorem gG_ag {b : Nat → Nat} (h : gG b) {k x y : Nat} (hk : k ≤ 5) (hx : x < b 0 + b 1) (hy : y < b 0 + b 1) : gG (agC b k x y) := fun g hg => by
  rw [agC_1] at hg
  rw [agC_0]
  unfold agC sgC
  by_cases e : g = b 1
  · subst e
    rw [if_neg (by omega), if_pos rfl, if_neg (by omega), if_neg (by omega), if_pos rfl, if_neg (by omega), if_neg (by omega), if_neg (by omega), if_pos rfl]
    exact ⟨hk, hx, hy⟩
  · have q := h g (by omega)
    rw [if_neg (by omega), if_neg (by omega), if_neg (by omega), if_neg (by omega), if_neg (by omega), if_neg (by omega), if_neg (by omega), if_neg (by omega), if_neg (by omega), if_neg (by omega), if_neg (by omega), if_neg (by omega)]
    exact q
theorem okC_ag {b : Nat → Nat} (h : okC b) {k x y : Nat} (h1 : b 1 < 24) (hk : k ≤ 5) (hx : x < b 0 + b 1) (hy : y < b 0 + b 1) : okC (agC b k x y) := by
  obtain ⟨a1, a2, a3, a4, a5, a6, a7⟩ := h
  have e2 : agC b k x y 2 = b 2 := by unfold agC; rw [if_neg (by decide), sgC_2]
  have e3 : agC b k x y 3 = b 3 := by unfold agC; rw [if_neg (by decide), sgC_3]
  have e4 : agC b k x y 4 = b 4 := by unfold agC; rw [if_neg (by decide), sgC_4]
  have e5 : agC b k x y 5 = b 5 := by unfold agC; rw [if_neg (by decide), sgC_5]
  refine ⟨by rw [agC_0]; exact a1, by rw [agC_0]; exact a2, by rw [agC_1]; omega, by rw [agC_0, agC_1, e2]; omega, by rw [agC_0, agC_1, e3]; omega, by rw [agC_0, e4, e5]; exact a6, gG_ag a7 hk hx hy⟩
theorem okC_sg {b : Nat → Nat} (h : okC b) {g k x y : Nat} (hg : g < b 1) (hk : k ≤ 5) (hx : x < b 0 + g) (hy : y < b 0 + g) : okC (sgC b g k x y) := by
  obtain ⟨a1, a2, a3, a4, a5, a6, a7⟩ := h
  refine ⟨by rw [sgC_0]; exact a1, by rw [sgC_0]; exact a2, by rw [sgC_1]; exact a3, by rw [sgC_0, sgC_1, sgC_2]; exact a4, by rw [sgC_0, sgC_1, sgC_3]; exact a5, by rw [sgC_0, sgC_4, sgC_5]; exact a6, fun j hj => ?_⟩
  rw [sgC_1] at hj
  rw [sgC_0]
  unfold sgC
  by_cases e : j = g
  · subst e
    rw [if_pos rfl, if_neg (by omega), if_pos rfl, if_neg (by omega), if_neg (by omega), if_pos rfl]
    exact ⟨hk, hx, hy⟩
  · rw [if_neg (by omega), if_neg (by omega), if_neg (by omega), if_neg (by omega), if_neg (by omega), if_neg (by omega), if_neg (by omega), if_neg (by omega), if_neg (by omega)]
    exact a7 j hj
theorem okC_sr {b : Nat → Nat} (h : okC b) {p q : Nat} (hp : p < b 0 + b 1) (hq : q < b 0 + b 1) : okC (srC b p q) := by
  obtain ⟨a1, a2, a3, a4, a5, a6, a7⟩ := h
  refine ⟨a1, a2, a3, hp, hq, a6, fun g hg => ?_⟩
  rw [srC_k, srC_f, srC_s]
  exact a7 g hg
theorem okC_st {b : Nat → Nat} {x : Nat} (h1 : 1 ≤ x) (h2 : x ≤ 8) : okC (stC b x) := ⟨h1, h2, Nat.zero_le _, by show 0 < x + 0; omega, by show 0 < x + 0; omega, Or.inl ⟨rfl, rfl⟩, fun g hg => absurd hg (Nat.not_lt_zero g)⟩
theorem tr_gG {B : Nat → Nat} (hB : gG B) (h1 : B 1 = 0) (h0 : 2 ≤ B 0) : ∀ i, 2 * i + 1 < B 0 → gG (trS B i).1 ∧ (trS B i).2.1 < B 0 + 6 * i ∧ (trS B i).2.2 < B 0 + 6 * i
  | 0, _ => ⟨hB, by show 0 < _; omega, by show 1 < _; omega⟩
  | i + 1, hi => by
    obtain ⟨g, p, q⟩ := tr_gG hB h1 h0 i (by omega)
    have e0 := trS_0 B i
    have e1 := trS_1 B i
    simp only [trS, crC]
    refine ⟨?_, by rw [e0, e1]; omega, by rw [e0, e1]; omega⟩
    refine gG_ag (gG_ag (gG_ag (gG_ag (gG_ag (gG_ag g (by decide) ?_ ?_) (by decide) ?_ ?_) (by decide) ?_ ?_) (by decide) ?_ ?_) (by decide) ?_ ?_) (by decide) ?_ ?_
    all_goals (try simp only [agC_0, agC_1]); rw [e0, e1]; omega
theorem okC_tr (b : Nat → Nat) {m : Nat} (h1 : 1 ≤ m) (h4 : m ≤ 4) : okC (trC b m) := by
  have hB : gG (scC (stC b (2 * m)) 3 0) := fun g hg => absurd hg (Nat.not_lt_zero g)
  obtain ⟨g, p, q⟩ := tr_gG hB rfl (by show 2 ≤ 2 * m; omega) (m - 1) (by show 2 * (m - 1) + 1 < 2 * m; omega)
  have e0 := trS_0 (scC (stC b (2 * m)) 3 0) (m - 1)
  have e1 := trS_1 (scC (stC b (2 * m)) 3 0) (m - 1)
  have f0 : scC (stC b (2 * m)) 3 0 0 = 2 * m := rfl
  have f1 : scC (stC b (2 * m)) 3 0 1 = 0 := rfl
  have e4 : ∀ i, (trS (scC (stC b (2 * m)) 3 0) i).1 4 = 3 ∧ (trS (scC (stC b (2 * m)) 3 0) i).1 5 = 0 := fun i => by
    induction i with
    | zero => exact ⟨rfl, rfl⟩
    | succ i ih =>
      have a4 : ∀ (b : Nat → Nat) (k x y : Nat), agC b k x y 4 = b 4 := fun b k x y => by unfold agC; rw [if_neg (by decide), sgC_4]
      have a5 : ∀ (b : Nat → Nat) (k x y : Nat), agC b k x y 5 = b 5 := fun b k x y => by unfold agC; rw [if_neg (by decide), sgC_5]
      simp only [trS, crC, a4, a5]
      exact ih
  rw [f0] at e0 p q
  rw [f1] at e1
  unfold trC
  refine ⟨?_, ?_, ?_, ?_, ?_, ?_, fun g' hg => ?_⟩
  · rw [srC_0, e0]; omega
  · rw [srC_0, e0]; omega
  · rw [srC_1, e1]; omega
  · rw [srC_0, srC_1, srC_2, e0, e1]; omega
  · rw [srC_0, srC_1, srC_3, e0, e1]; omega
  · rw [srC_0, srC_4, srC_5, e0, (e4 _).1, (e4 _).2]; exact Or.inr (Or.inr (Or.inr ⟨rfl, rfl, by omega⟩))
  · rw [srC_k, srC_f, srC_s, srC_0]; exact g g' hg
theorem ok_gt {b : Nat → Nat} (h : okC b) (g kd x y : Int32) : okC (gtS b g kd x y).2.2 := by
  have b0 := h.2.1
  have b1 := h.2.2.1
  unfold gtS
  by_cases z : vp_in g (b 1) ∧ vp_in kd 6 ∧ vp_in x (b 0 + cl g) ∧ vp_in y (b 0 + cl g)
  · rw [iP_y z]
    split
    · exact h
    · obtain ⟨z1, z2, z3, z4⟩ := z
      obtain ⟨j, hj, rfl⟩ := vp_in_of z1 (by omega)
      rw [cl_nI (by omega)] at z3 z4 ⊢
      obtain ⟨k, hk, rfl⟩ := vp_in_of z2 (by omega)
      obtain ⟨u, hu, rfl⟩ := vp_in_of z3 (by omega)
      obtain ⟨v, hv, rfl⟩ := vp_in_of z4 (by omega)
      rw [cl_nI (by omega), cl_nI (by omega), cl_nI (by omega)]
      exact okC_sg h hj (by omega) hu hv
  · rw [iP_n z]; exact h
theorem ok_ad {b : Nat → Nat} (h : okC b) (kd x y : Int32) : okC (adS b kd x y).2.2 := by
  have b0 := h.2.1
  have b1 := h.2.2.1
  unfold adS
  by_cases z : vp_in kd 6 ∧ vp_in x (b 0 + b 1) ∧ vp_in y (b 0 + b 1)
  · rw [iP_y z]
    split
    · rename_i h24
      obtain ⟨z2, z3, z4⟩ := z
      obtain ⟨k, hk, rfl⟩ := vp_in_of z2 (by omega)
      obtain ⟨u, hu, rfl⟩ := vp_in_of z3 (by omega)
      obtain ⟨v, hv, rfl⟩ := vp_in_of z4 (by omega)
      rw [cl_nI (by omega), cl_nI (by omega), cl_nI (by omega)]
      exact okC_ag h h24 (by omega) hu hv
    · exact h
  · rw [iP_n z]; exact h
theorem ok_rl {b : Nat → Nat} (h : okC b) (p q : Int32) : okC (rlS b p q).2.2 := by
  have b0 := h.2.1
  have b1 := h.2.2.1
  unfold rlS
  by_cases z : vp_in p (b 0 + b 1) ∧ vp_in q (b 0 + b 1)
  · rw [iP_y z]
    split
    · exact h
    · obtain ⟨z3, z4⟩ := z
      obtain ⟨u, hu, rfl⟩ := vp_in_of z3 (by omega)
      obtain ⟨v, hv, rfl⟩ := vp_in_of z4 (by omega)
      rw [cl_nI (by omega), cl_nI (by omega)]
      exact okC_sr h hu hv
  · rw [iP_n z]; exact h
theorem ok_co {b : Nat → Nat} (h : okC b) (kd nm : Int32) : okC (coS b kd nm).2.2 := by
  unfold coS
  by_cases z : cdI (b 0) kd nm
  · rw [iP_y z]
    split
    · exact h
    · obtain ⟨x, y, hx, hy, rfl, rfl, hc⟩ := cd_nat z h.2.1
      rw [cl_nI (by omega), cl_nI (by omega)]
      exact okC_sc h hc
  · rw [iP_n z]; exact h
theorem ok_bu {b : Nat → Nat} (h : okC b) (m : Int32) : okC (buS b m).2.2 := by
  unfold buS
  by_cases z : ∃ k, 1 ≤ k ∧ k ≤ 4 ∧ m = nI k
  · rw [iP_y z]
    obtain ⟨k, h1, h4, rfl⟩ := z
    rw [cl_nI (by omega)]
    exact okC_tr b h1 h4
  · rw [iP_n z]; exact h
def ok0 (b : Nat → Nat) : Prop := b 0 = 0 ∨ okC b
theorem ok_tl {b c : Nat → Nat} {hd x y z : Nat} (h : ok0 b) (e : tlS b hd x y z = some c) : okC c := by
  unfold tlS at e
  split at e
  · split at e
    · rename_i g; cases e; exact okC_st g.2.1 g.2.2
    · cases e
  · split at e
    · cases e
    · rename_i h0
      have hb := h.resolve_left h0
      split at e
      · split at e
        · rename_i g; cases e; exact okC_ag hb g.1 (by omega) g.2.2.1 g.2.2.2
        · cases e
      · split at e
        · split at e
          · rename_i g; cases e; exact okC_sr hb g.1 g.2
          · cases e
        · split at e
          · rename_i g; cases e; exact okC_sc hb ((cdB_iff _ _ _).mp g)
          · cases e
theorem ok_ps (T : Nat → Nat) (len : Nat) : ∀ (n : Nat) (b : Nat → Nat) (p : Nat), ok0 b → ok0 (psS T len n b p).2
  | 0, b, p, h => h
  | n + 1, b, p, h => by
    by_cases hp : p < len
    · cases hi : itS T len b p with
      | none => rw [psS_bad hp hi]; exact h
      | some ce =>
        obtain ⟨c, e⟩ := ce
        rw [psS_go hp hi]
        obtain ⟨l, -, -, h2⟩ := it_i hi
        exact ok_ps T len n c e (Or.inr (ok_tl h h2))
    · rw [psS_end (Nat.not_lt.mp hp)]; exact h
theorem okC_cp {b o : Nat → Nat} (h : okC o) : okC (cpC b o) := agr_ok (agr_sy (ag_cp (agr_rf o) h.2.2.1)) h
theorem ok_la {T bd b : Nat → Nat} {len kp fr sf : Nat} (h : okC b) : okC (laS T len bd b kp fr sf).2.1 := by
  unfold laS
  split
  · rename_i z
    exact okC_cp ((ok_ps T len 200 (stC bd 0) 0 (Or.inl rfl)).resolve_left z.2)
  · exact h
/-! what is kept, on both sides: hs i the class's i-th, ww the reference's rows -/
def hiA (n : Nat) (hs : Nat → Nat → Nat) (ww : Nat → Nat) : Prop := ∀ i, i < n → okC (hs i) ∧ agr (hs i) (fun j => ww (78 * i + j))
theorem hi_up {n : Nat} {hs : Nat → Nat → Nat} {ww b c x : Nat → Nat} (h : hiA n hs ww) (hn : n < 6) (hok : okC b) (ha : agr b c) : hiA (kpK n) (fun i => if i = n then cpC x b else hs i) (kwS ww c n) := fun i hi => by
  unfold kpK at hi
  rw [if_neg (by omega)] at hi
  unfold kwS
  rw [if_neg (by omega)]
  show okC (if i = n then cpC x b else hs i) ∧ agr (if i = n then cpC x b else hs i) _
  by_cases e : i = n
  · subst e
    rw [if_pos rfl]
    refine ⟨okC_cp hok, agr_tr (ag_cp (agr_rf b) hok.2.2.1) (fun j hj => ?_)⟩
    have b1 := hok.2.2.1
    show b j = kpG ww c (78 * i) 78 (78 * i + j)
    unfold kpG
    rw [if_pos (by omega), show 78 * i + j - 78 * i = j by omega]
    exact ha j hj
  · rw [if_neg e]
    obtain ⟨h1, h2⟩ := h i (by omega)
    refine ⟨h1, fun j hj => ?_⟩
    have b1 := h1.2.2.1
    have q := h2 j hj
    show hs i j = kpG ww c (78 * n) 78 (78 * i + j)
    unfold kpG
    rw [if_neg (by omega)]
    exact q
theorem hi_six {hs : Nat → Nat → Nat} {ww b c x : Nat → Nat} (h : hiA 6 hs ww) (hok : okC b) (ha : agr b c) : hiA 6 (fun i => if i = 5 then cpC x b else hs (i + 1)) (kwS ww c 6) := fun i hi => by
  unfold kwS
  rw [if_pos rfl]
  show okC (if i = 5 then cpC x b else hs (i + 1)) ∧ agr (if i = 5 then cpC x b else hs (i + 1)) _
  by_cases e : i = 5
  · subst e
    rw [if_pos rfl]
    refine ⟨okC_cp hok, agr_tr (ag_cp (agr_rf b) hok.2.2.1) (fun j hj => ?_)⟩
    have b1 := hok.2.2.1
    show b j = kpG (shF ww 390) c 390 78 (78 * 5 + j)
    unfold kpG
    rw [if_pos (by omega), show 78 * 5 + j - 390 = j by omega]
    exact ha j hj
  · rw [if_neg e]
    obtain ⟨h1, h2⟩ := h (i + 1) (by omega)
    refine ⟨h1, fun j hj => ?_⟩
    have b1 := h1.2.2.1
    have q := h2 j hj
    show hs (i + 1) j = kpG (shF ww 390) c 390 78 (78 * i + j)
    unfold kpG shF
    rw [if_neg (by omega), if_pos (by omega), show 78 * i + j + 78 = 78 * (i + 1) + j by omega]
    exact q
theorem hi_dn {n m : Nat} {hs : Nat → Nat → Nat} {ww : Nat → Nat} (h : hiA n hs ww) (hm : m ≤ n) : hiA m hs ww := fun i hi => h i (by omega)
theorem hi_un {n : Nat} {hs : Nat → Nat → Nat} {ww b c : Nat → Nat} (h : hiA (n + 1) hs ww) : okC (cpC b (hs n)) ∧ agr (cpC b (hs n)) (cuF c ww (78 * n) 78) := by
  obtain ⟨h1, h2⟩ := h n (Nat.lt_succ_self n)
  refine ⟨okC_cp h1, agr_tr (ag_cp (agr_rf (hs n)) h1.2.2.1) (fun j hj => ?_)⟩
  have b1 := h1.2.2.1
  unfold cuF
  rw [if_pos (by omega)]
  exact h2 j hj
