/-! what the law needs of both sides between two calls -/
theorem sv_fr {b : Nat → Nat} {fr fr' tc vw : Nat} {al eE eP eC : Int64} {dj tch sf : Nat} {O : Nat → Nat} {EX PA : Nat → Int64} {TE : Nat → Nat} (h : svI b fr tc vw al eE eP eC dj tch sf O EX PA TE) (hf : fr = 1 → fr' = 1) : svI b fr' tc vw al eE eP eC dj tch sf O EX PA TE := by
  rcases h with z | ⟨z1, z2, z3⟩
  · exact Or.inl z
  · exact Or.inr ⟨z1, hf z2, z3⟩
theorem ed_gt (b : Nat → Nat) (g kd x y : Int32) : ((gtS b g kd x y).2.1 = 0 ∧ (gtS b g kd x y).2.2 = b) ∨ (gtS b g kd x y).2.1 = 1 := by
  unfold gtS
  by_cases z : vp_in g (b 1) ∧ vp_in kd 6 ∧ vp_in x (b 0 + cl g) ∧ vp_in y (b 0 + cl g)
  · rw [iP_y z]
    split
    · exact Or.inl ⟨rfl, rfl⟩
    · exact Or.inr rfl
  · rw [iP_n z]; exact Or.inl ⟨rfl, rfl⟩
theorem ed_ad (b : Nat → Nat) (kd x y : Int32) : ((adS b kd x y).2.1 = 0 ∧ (adS b kd x y).2.2 = b) ∨ (adS b kd x y).2.1 = 1 := by
  unfold adS
  by_cases z : vp_in kd 6 ∧ vp_in x (b 0 + b 1) ∧ vp_in y (b 0 + b 1)
  · rw [iP_y z]
    split
    · exact Or.inr rfl
    · exact Or.inl ⟨rfl, rfl⟩
  · rw [iP_n z]; exact Or.inl ⟨rfl, rfl⟩
theorem ed_rl (b : Nat → Nat) (p q : Int32) : ((rlS b p q).2.1 = 0 ∧ (rlS b p q).2.2 = b) ∨ (rlS b p q).2.1 = 1 := by
  unfold rlS
  by_cases z : vp_in p (b 0 + b 1) ∧ vp_in q (b 0 + b 1)
  · rw [iP_y z]
    split
    · exact Or.inl ⟨rfl, rfl⟩
    · exact Or.inr rfl
  · rw [iP_n z]; exact Or.inl ⟨rfl, rfl⟩
theorem ed_co (b : Nat → Nat) (kd nm : Int32) : ((coS b kd nm).2.1 = 0 ∧ (coS b kd nm).2.2 = b) ∨ (coS b kd nm).2.1 = 1 := by
  unfold coS
  by_cases z : cdI (b 0) kd nm
  · rw [iP_y z]
    split
    · exact Or.inl ⟨rfl, rfl⟩
    · exact Or.inr rfl
  · rw [iP_n z]; exact Or.inl ⟨rfl, rfl⟩
theorem ed_bu (b : Nat → Nat) (m : Int32) : ((buS b m).2.1 = 0 ∧ (buS b m).2.2 = b) ∨ (buS b m).2.1 = 1 := by
  unfold buS
  by_cases z : ∃ c, 1 ≤ c ∧ c ≤ 4 ∧ m = nI c
  · rw [iP_y z]; exact Or.inr rfl
  · rw [iP_n z]; exact Or.inl ⟨rfl, rfl⟩
/-- an edit, told to both -/
theorem ch_u {r6 r7 : Int32} {f6 : Nat} {b6 b c c7 ww ww7 : Nat → Nat} {kp ch7 : Nat} {E F : Int32 × Nat × (Nat → Nat)} (e6 : (r6, f6, b6) = E) (e7 : (r7, c7, ch7, ww7) = edS F c kp ww) (hu : edA E F) (hd : (E.2.1 = 0 ∧ E.2.2 = b) ∨ E.2.1 = 1) (hok : okC E.2.2) : r6 = r7 ∧ agr b6 c7 ∧ kp2 f6 kp = ch7 ∧ kw2 f6 ww c kp = ww7 ∧ okC b6 ∧ ((f6 = 0 ∧ b6 = b) ∨ f6 = 1) := by
  subst e6
  obtain ⟨h1, h2, h3⟩ := hu
  unfold edS at e7
  have q1 : r7 = F.1 := congrArg (fun z => z.1) e7
  have q2 : c7 = F.2.2 := congrArg (fun z => z.2.1) e7
  have q3 : ch7 = kp2 F.2.1 kp := congrArg (fun z => z.2.2.1) e7
  have q4 : ww7 = kw2 F.2.1 ww c kp := congrArg (fun z => z.2.2.2) e7
  refine ⟨Eq.trans h1 q1.symm, ?_, ?_, ?_, hok, hd⟩
  · rw [q2]; exact h3
  · rw [q3]; exact congrArg (fun z => kp2 z kp) h2
  · rw [q4]; exact congrArg (fun z => kw2 z ww c kp) h2
theorem cw_ch {b b6 : Nat → Nat} {sz : Nat} {mi ne : Int32} {fr cm f6 : Nat} {Wd : Nat → Nat} {Rk : Nat → Int32} (h : cwK b sz mi ne fr cm Wd Rk) (hd : (f6 = 0 ∧ b6 = b) ∨ f6 = 1) : cwK b6 sz mi ne (fr2 f6 fr) cm Wd Rk := by
  rcases hd with ⟨rfl, rfl⟩ | rfl
  · exact h
  · exact Or.inl rfl
theorem sv_ch {b b6 : Nat → Nat} {fr fr' f6 tc vw : Nat} {al eE eP eC : Int64} {dj tch sf : Nat} {O : Nat → Nat} {EX PA : Nat → Int64} {TE : Nat → Nat} (h : svI b fr tc vw al eE eP eC dj tch sf O EX PA TE) (hd : (f6 = 0 ∧ b6 = b) ∨ f6 = 1) (hf : f6 = 0 → fr = 1 → fr' = 1) : svI b6 fr' tc vw al eE eP eC dj tch (fr2 f6 sf) O EX PA TE := by
  rcases hd with ⟨rfl, rfl⟩ | rfl
  · exact sv_fr h (hf rfl)
  · exact Or.inl rfl
theorem kp2_6 {f6 kp : Nat} (h : kp ≤ 6) : kp2 f6 kp ≤ 6 := by
  unfold kp2 kpK
  repeat' split
  all_goals omega
theorem hi_cg {n : Nat} {hs hs' : Nat → Nat → Nat} {ww : Nat → Nat} (h : hiA n hs ww) (e : ∀ i, i < n → hs' i = hs i) : hiA n hs' ww := fun i hi => by
  rw [e i hi]; exact h i hi
theorem hi_upE {n i : Nat} (b0 b1 b2 b3 b4 b5 b : Nat → Nat) (hn : n < 6) (hi : i < 6) : sel6 (hbK n 0 b0 b) (hbK n 1 b1 b) (hbK n 2 b2 b) (hbK n 3 b3 b) (hbK n 4 b4 b) (hbK n 5 b5 b) i = (if i = n then cpC (sel6 b0 b1 b2 b3 b4 b5 n) b else sel6 b0 b1 b2 b3 b4 b5 i) := by
  rcases (show n = 0 ∨ n = 1 ∨ n = 2 ∨ n = 3 ∨ n = 4 ∨ n = 5 by omega) with rfl | rfl | rfl | rfl | rfl | rfl <;> rcases (show i = 0 ∨ i = 1 ∨ i = 2 ∨ i = 3 ∨ i = 4 ∨ i = 5 by omega) with rfl | rfl | rfl | rfl | rfl | rfl <;> rfl
theorem hi_sixE {i : Nat} (b0 b1 b2 b3 b4 b5 b : Nat → Nat) (hi : i < 6) : sel6 (hbK 6 1 b1 b) (hbK 6 2 b2 b) (hbK 6 3 b3 b) (hbK 6 4 b4 b) (hbK 6 5 b5 b) (hbK 6 0 b0 b) i = (if i = 5 then cpC b0 b else sel6 b0 b1 b2 b3 b4 b5 (i + 1)) := by
  rcases (show i = 0 ∨ i = 1 ∨ i = 2 ∨ i = 3 ∨ i = 4 ∨ i = 5 by omega) with rfl | rfl | rfl | rfl | rfl | rfl <;> rfl
/-- what is kept, behind an edit: the same cells, or the oldest at the end -/
theorem hi_ch {kp f6 : Nat} {b0 b1 b2 b3 b4 b5 b c ww : Nat → Nat} (a0 a1 a2 a3 a4 a5 : Nat) (h : hiA kp (sel6 b0 b1 b2 b3 b4 b5) ww) (hkp : kp ≤ 6) (hok : okC b) (ha : agr b c) (hf : f6 = 0 ∨ f6 = 1) :
    (pf2 f6 kp a0 a1 a2 a3 a4 a5 = pf6 a0 a1 a2 a3 a4 a5 ∧ hiA (kp2 f6 kp) (sel6 (hb2 f6 kp 0 b0 b) (hb2 f6 kp 1 b1 b) (hb2 f6 kp 2 b2 b) (hb2 f6 kp 3 b3 b) (hb2 f6 kp 4 b4 b) (hb2 f6 kp 5 b5 b)) (kw2 f6 ww c kp)) ∨
    (pf2 f6 kp a0 a1 a2 a3 a4 a5 = pf6 a1 a2 a3 a4 a5 a0 ∧ hiA (kp2 f6 kp) (sel6 (hb2 f6 kp 1 b1 b) (hb2 f6 kp 2 b2 b) (hb2 f6 kp 3 b3 b) (hb2 f6 kp 4 b4 b) (hb2 f6 kp 5 b5 b) (hb2 f6 kp 0 b0 b)) (kw2 f6 ww c kp)) := by
  rcases hf with rfl | rfl
  · exact Or.inl ⟨rfl, h⟩
  · rcases Nat.lt_or_ge kp 6 with q | q
    · refine Or.inl ⟨?_, ?_⟩
      · show pfK kp a0 a1 a2 a3 a4 a5 = _
        unfold pfK
        rw [if_neg (by omega)]
      · have u := hi_up (x := sel6 b0 b1 b2 b3 b4 b5 kp) h q hok ha
        have k6 : kpK kp ≤ 6 := by
          unfold kpK
          split <;> omega
        exact hi_cg u (fun i hi => hi_upE b0 b1 b2 b3 b4 b5 b q (Nat.lt_of_lt_of_le hi k6))
    · have e : kp = 6 := by omega
      subst e
      refine Or.inr ⟨rfl, ?_⟩
      have u := hi_six (x := b0) h hok ha
      exact hi_cg u (fun i hi => hi_sixE b0 b1 b2 b3 b4 b5 b hi)
theorem f01 {f6 : Nat} {b b6 : Nat → Nat} (h : (f6 = 0 ∧ b6 = b) ∨ f6 = 1) : f6 = 0 ∨ f6 = 1 := h.elim (fun z => Or.inl z.1) Or.inr
/-- write, told to both -/
theorem wr_T {lt : Int32} {len : Nat} {T : Nat → Nat} (hl : len ≤ 200) (hT : ∀ p, p < len → T p < 128) : (wrS lt len T).2.1 ≤ 200 ∧ ∀ p, p < (wrS lt len T).2.1 → (wrS lt len T).2.2 p < 128 := by
  unfold wrS
  by_cases z : ∃ c, 32 ≤ c ∧ c ≤ 126 ∧ lt = nI c
  · rw [iP_y z]
    split
    · exact ⟨hl, hT⟩
    · obtain ⟨c, h1, h2, rfl⟩ := z
      refine ⟨by show len + 1 ≤ 200; omega, fun p hp => ?_⟩
      have hp : p < len + 1 := hp
      show nup T len (cl (nI c)) p < 128
      rw [cl_nI (by omega)]
      by_cases q : p = len
      · rw [q, nup_same]; omega
      · rw [nup_ne q]; exact hT p (by omega)
  · rw [iP_n z]; exact ⟨hl, hT⟩
theorem wr_b {lt r6 r7 : Int32} {len q6 q7 : Nat} {T T6 T7 : Nat → Nat} (e6 : (r6, q6, T6) = wrS lt len T) (e7 : (r7, q7, T7) = wrS lt len T) (hl : len ≤ 200) (hT : ∀ p, p < len → T p < 128) : r6 = r7 ∧ q6 = q7 ∧ T6 = T7 ∧ q6 ≤ 200 ∧ ∀ p, p < q6 → T6 p < 128 := by
  have t := wr_T (lt := lt) hl hT
  have e := e6.trans e7.symm
  rw [← e6] at t
  exact ⟨congrArg (fun z => z.1) e, congrArg (fun z => z.2.1) e, congrArg (fun z => z.2.2) e, t.1, t.2⟩
/-- lay, told to both -/
theorem la_b {r6 r7 : Int32} {T bd rd b c b6 c7 : Nat → Nat} {len kp fr sf kp6 fr6 sf6 ch7 : Nat} (e6 : (r6, b6, kp6, fr6, sf6) = laS T len bd b kp fr sf) (e7 : (r7, c7, ch7) = loS T len rd c kp) (hok : okC b) (ha : agr b c) : r6 = r7 ∧ agr b6 c7 ∧ kp6 = ch7 ∧ okC b6 ∧ kp6 ≤ kp ∧ ((kp6 = kp ∧ b6 = b ∧ fr6 = fr ∧ sf6 = sf) ∨ (fr6 = 0 ∧ sf6 = 0)) := by
  have u := la_u (T := T) (bd := bd) (rd := rd) (len := len) (kp := kp) (fr := fr) (sf := sf) ha
  have o := ok_la (T := T) (bd := bd) (len := len) (kp := kp) (fr := fr) (sf := sf) hok
  have w : (laS T len bd b kp fr sf).2.2.1 ≤ kp ∧ (((laS T len bd b kp fr sf).2.2.1 = kp ∧ (laS T len bd b kp fr sf).2.1 = b ∧ (laS T len bd b kp fr sf).2.2.2.1 = fr ∧ (laS T len bd b kp fr sf).2.2.2.2 = sf) ∨ ((laS T len bd b kp fr sf).2.2.2.1 = 0 ∧ (laS T len bd b kp fr sf).2.2.2.2 = 0)) := by
    unfold laS
    split
    · exact ⟨Nat.zero_le _, Or.inr ⟨rfl, rfl⟩⟩
    · exact ⟨Nat.le_refl _, Or.inl ⟨rfl, rfl, rfl, rfl⟩⟩
  rw [← e6, ← e7] at u
  rw [← e6] at o w
  exact ⟨u.1, u.2.1, u.2.2, o, w.1, w.2⟩
theorem cw_la {b b6 : Nat → Nat} {sz : Nat} {mi ne : Int32} {fr cm kp kp6 fr6 sf sf6 : Nat} {Wd : Nat → Nat} {Rk : Nat → Int32} (h : cwK b sz mi ne fr cm Wd Rk) (hd : (kp6 = kp ∧ b6 = b ∧ fr6 = fr ∧ sf6 = sf) ∨ (fr6 = 0 ∧ sf6 = 0)) : cwK b6 sz mi ne fr6 cm Wd Rk := by
  rcases hd with ⟨-, rfl, rfl, -⟩ | ⟨rfl, -⟩
  · exact h
  · exact Or.inl rfl
theorem sv_la {b b6 : Nat → Nat} {fr fr6 kp kp6 tc vw : Nat} {al eE eP eC : Int64} {dj tch sf sf6 : Nat} {O : Nat → Nat} {EX PA : Nat → Int64} {TE : Nat → Nat} (h : svI b fr tc vw al eE eP eC dj tch sf O EX PA TE) (hd : (kp6 = kp ∧ b6 = b ∧ fr6 = fr ∧ sf6 = sf) ∨ (fr6 = 0 ∧ sf6 = 0)) : svI b6 fr6 tc vw al eE eP eC dj tch sf6 O EX PA TE := by
  rcases hd with ⟨-, rfl, rfl, rfl⟩ | ⟨-, rfl⟩
  · exact h
  · exact Or.inl rfl
/-- undo, told to both -/
theorem un_b {r6 r7 : Int32} {f6 kp ch7 : Nat} {b c c7 ww : Nat → Nat} {hs : Nat → Nat → Nat} (e6 : (kp = 0 ∧ (r6, f6) = ((-2), 0)) ∨ (1 ≤ kp ∧ (r6, f6) = (nI (kp - 1), 1))) (e7 : (r7, ch7, c7) = unS c ww kp) (h : hiA kp hs ww) (hok : okC b) (ha : agr b c) : r6 = r7 ∧ kpU f6 kp = ch7 ∧ agr (bU f6 b (hs (kp - 1))) c7 ∧ okC (bU f6 b (hs (kp - 1))) ∧ ((f6 = 0 ∧ bU f6 b (hs (kp - 1)) = b) ∨ f6 = 1) ∧ hiA (kpU f6 kp) hs ww ∧ kpU f6 kp ≤ kp := by
  unfold unS at e7
  rcases e6 with ⟨z, e6⟩ | ⟨z, e6⟩
  · rw [if_pos z] at e7
    obtain ⟨rfl, rfl⟩ := Prod.mk.inj e6
    have q1 : r7 = -2 := congrArg (fun z => z.1) e7
    have q2 : ch7 = kp := congrArg (fun z => z.2.1) e7
    have q3 : c7 = c := congrArg (fun z => z.2.2) e7
    refine ⟨q1.symm, q2.symm, ?_, hok, Or.inl ⟨rfl, rfl⟩, h, Nat.le_refl _⟩
    rw [q3]; exact ha
  · rw [if_neg (by omega)] at e7
    obtain ⟨rfl, rfl⟩ := Prod.mk.inj e6
    have q1 : r7 = nI (kp - 1) := congrArg (fun z => z.1) e7
    have q2 : ch7 = kp - 1 := congrArg (fun z => z.2.1) e7
    have q3 : c7 = cuF c ww (78 * (kp - 1)) 78 := congrArg (fun z => z.2.2) e7
    obtain ⟨n, rfl⟩ : ∃ n, kp = n + 1 := ⟨kp - 1, by omega⟩
    have u := hi_un (b := b) (c := c) h
    refine ⟨q1.symm, q2.symm, ?_, u.1, Or.inr rfl, ?_, ?_⟩
    · rw [q3]; exact u.2
    · exact hi_dn h (Nat.le_succ n)
    · exact Nat.le_succ n
