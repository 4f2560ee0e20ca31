/-! errors that no one sees, and the nearest words: both sides -/
def wI (b : Nat → Nat) (w : Nat) (st : Nat × Option Nat) : Nat → Nat × Option Nat
  | 0 => st
  | v + 1 => if inB b v = true then (cmM (wI b w st v).1 v w, cmN (wI b w st v).2 v w) else wI b w st v
def wO (b : Nat → Nat) : Nat → Nat × Option Nat
  | 0 => (0, none)
  | w + 1 => if inB b w = true then wI b w (wO b w) w else wO b w
theorem wI_c {b Wd : Nat → Nat} {sz : Nat} {Rk : Nat → Int32} (hl : lstd b sz Wd Rk) {hi w : Nat} (hw : Wd hi = w) (st : Nat × Option Nat) : ∀ v, v ≤ 2 ^ b 0 → cmI Wd hi st (fb_ct (inB b) v) = wI b w st v
  | 0, _ => rfl
  | v + 1, hv => by
    have ih := wI_c hl hw st v (by omega)
    by_cases q : inB b v = true
    · rw [fb_ct_succ, if_pos q]
      simp only [cmI, wI]
      rw [ih, hl.2.1 v (by omega) q, hw, if_pos q]
    · rw [fb_ct_succ, if_neg q, Nat.add_zero, ih]
      simp only [wI]
      rw [if_neg q]
theorem wO_c {b Wd : Nat → Nat} {sz : Nat} {Rk : Nat → Int32} (hl : lstd b sz Wd Rk) : ∀ n, n ≤ 2 ^ b 0 → cmO Wd (fb_ct (inB b) n - 1) = wO b n
  | 0, _ => rfl
  | n + 1, hn => by
    have ih := wO_c hl n (by omega)
    by_cases q : inB b n = true
    · rw [fb_ct_succ, if_pos q]
      simp only [wO]
      rw [if_pos q, ← ih, ← wI_c hl (hl.2.1 n (by omega) q) _ n (by omega)]
      cases hm : fb_ct (inB b) n with
      | zero => rfl
      | succ k => rfl
    · rw [fb_ct_succ, if_neg q, Nat.add_zero, ih]
      simp only [wO]
      rw [if_neg q]
theorem wI_2 {b : Nat → Nat} {w : Nat} (hw : inB b w = true) (st : Nat × Option Nat) : ∀ v, (wI b w st v).2 = nrI b w st.2 v
  | 0 => rfl
  | v + 1 => by
    simp only [wI, nrI]
    by_cases q : inB b v = true
    · rw [if_pos q, if_pos ⟨hw, q⟩, ← wI_2 hw st v]
    · rw [if_neg q, if_neg (fun z => q z.2), wI_2 hw st v]
theorem wO_2 (b : Nat → Nat) : ∀ n, (wO b n).2 = nrO b n
  | 0 => rfl
  | n + 1 => by
    simp only [wO, nrO]
    by_cases q : inB b n = true
    · rw [if_pos q, wI_2 q, wO_2 b n]
    · rw [if_neg q, nrI_n q, wO_2 b n]
def sbB (b : Nat → Nat) (w v : Nat) : Bool := inB b v && (v &&& w == v)
def wD (b : Nat → Nat) : Nat → Nat
  | 0 => 0
  | w + 1 => wD b w + (if inB b w = true then fb_ct (sbB b w) w else 0)
theorem wI_1 {b : Nat → Nat} {w : Nat} (st : Nat × Option Nat) : ∀ v, (wI b w st v).1 = st.1 + 2 * fb_ct (sbB b w) v
  | 0 => rfl
  | v + 1 => by
    have ih := wI_1 (b := b) (w := w) st v
    simp only [wI]
    rw [fb_ct_succ]
    by_cases q : inB b v = true
    · rw [if_pos q]
      unfold cmM sbB
      rw [ih]
      by_cases z : v &&& w = v
      · rw [if_pos z]; simp [q, z]; unfold sbB; omega
      · rw [if_neg z]; simp [q, z]; unfold sbB; omega
    · rw [if_neg q, ih]
      have : sbB b w v = false := by unfold sbB; simp [q]
      rw [this]; simp
theorem wO_1 (b : Nat → Nat) : ∀ n, (wO b n).1 = 2 * wD b n
  | 0 => rfl
  | n + 1 => by
    have ih := wO_1 b n
    simp only [wO, wD]
    by_cases q : inB b n = true
    · rw [if_pos q, if_pos q, wI_1, ih]; omega
    · rw [if_neg q, if_neg q, ih]; omega
def msG (b : Nat → Nat) (N : Nat) : Nat → Nat
  | 0 => 0
  | w + 1 => msG b N w + fb_ct (mB b w) N
theorem ms_G (b : Nat → Nat) : ∀ n, msO b n = msG b (2 ^ b 0) n
  | 0 => rfl
  | n + 1 => by simp only [msO, msG]; rw [ms_G b n]
theorem msG_s (b : Nat → Nat) (N : Nat) : ∀ n, msG b (N + 1) n = msG b N n + fb_ct (fun w => mB b w N) n
  | 0 => rfl
  | n + 1 => by
    simp only [msG]
    rw [msG_s b N n, fb_ct_succ, fb_ct_succ]
    omega
theorem mB_sy (b : Nat → Nat) (w v : Nat) : mB b w v = mB b v w := by
  unfold mB
  rw [Nat.and_comm w v]
  by_cases e : v = w
  · subst e; rfl
  · have e1 : (v == w) = false := beq_false_of_ne e
    have e2 : (w == v) = false := beq_false_of_ne (fun z => e z.symm)
    rw [e1, e2]
    cases inB b w <;> cases inB b v <;> simp [Bool.or_comm]
theorem mB_lo (b : Nat → Nat) (w : Nat) (hw : inB b w = true) {v : Nat} (hv : v < w) : mB b w v = sbB b w v := by
  unfold mB sbB
  have h1 : ¬ v = w := by omega
  have h2 : ¬ v &&& w = w := fun z => by
    have := Nat.and_le_left (n := v) (m := w)
    omega
  rw [hw, beq_false_of_ne h1, beq_false_of_ne h2]
  simp [Bool.and_comm]
theorem ms_D (b : Nat → Nat) : ∀ n, msG b n n = 2 * wD b n
  | 0 => rfl
  | n + 1 => by
    have ih := ms_D b n
    have e0 : mB b n n = false := by unfold mB; simp
    have e1 : fb_ct (fun w => mB b w n) n = fb_ct (mB b n) n := fb_ct_cong fun w _ => mB_sy b w n
    simp only [msG, wD]
    rw [msG_s, e1, ih, fb_ct_succ, e0]
    by_cases q : inB b n = true
    · have e2 : fb_ct (mB b n) n = fb_ct (sbB b n) n := fb_ct_cong (fun v hv => mB_lo b n q hv)
      rw [if_pos q, e2]; simp; omega
    · rw [if_neg q, mB_0 q]; simp
theorem mi_eq {b Wd : Nat → Nat} {sz : Nat} {Rk : Nat → Int32} (hl : lstd b sz Wd Rk) : (cmO Wd (sz - 1)).1 = msO b (2 ^ b 0) := by
  rw [hl.1, wO_c hl _ (Nat.le_refl _), wO_1, ms_G, ms_D]
theorem ne_eq {b Wd : Nat → Nat} {sz : Nat} {Rk : Nat → Int32} (hl : lstd b sz Wd Rk) : (cmO Wd (sz - 1)).2 = nrO b (2 ^ b 0) := by
  rw [hl.1, wO_c hl _ (Nat.le_refl _), wO_2]
theorem ag_ms {b c : Nat → Nat} (h : agr b c) : ∀ n, msO b n = msO c n
  | 0 => rfl
  | n + 1 => by
    have e : mB b n = mB c n := by funext v; unfold mB; rw [agr_in h]
    simp only [msO]
    rw [ag_ms h n, e, agr_lo h (j := 0) (by decide)]
theorem ag_nI {b c : Nat → Nat} (h : agr b c) (w : Nat) (o : Option Nat) : ∀ n, nrI b w o n = nrI c w o n
  | 0 => rfl
  | n + 1 => by simp only [nrI]; rw [ag_nI h w o n, agr_in h]
theorem ag_nr {b c : Nat → Nat} (h : agr b c) : ∀ n, nrO b n = nrO c n
  | 0 => rfl
  | n + 1 => by simp only [nrO]; rw [ag_nr h n, ag_nI h]
theorem mi_u {b c Wd : Nat → Nat} {sz : Nat} {Rk : Nat → Int32} (h : agr b c) (hl : lstd b sz Wd Rk) : nI (cmO Wd (sz - 1)).1 = nI (msO c (2 ^ c 0)) := by
  rw [mi_eq hl, ag_ms h, agr_lo h (j := 0) (by decide)]
theorem ne_u {b c Wd : Nat → Nat} {sz : Nat} {Rk : Nat → Int32} (h : agr b c) (hl : lstd b sz Wd Rk) : neI (cmO Wd (sz - 1)).2 = neI (nrO c (2 ^ c 0)) := by
  rw [ne_eq hl, ag_nr h, agr_lo h (j := 0) (by decide)]
