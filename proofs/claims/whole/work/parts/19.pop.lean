/-! how many bits of a long are set, as Long.bitCount counts them -/
def ds (B : Nat) : Nat → Nat → Nat
  | 0, _ => 0
  | j + 1, n => n % B + ds B j (n / B)
def mkD (B c : Nat) : Nat → Nat
  | 0 => 0
  | j + 1 => B * mkD B c j + c
theorem andB (k x M m : Nat) (hm : m < 2 ^ k) : x &&& (2 ^ k * M + m) = 2 ^ k * ((x / 2 ^ k) &&& M) + (x % 2 ^ k &&& m) := by
  have h1 : (x &&& (2 ^ k * M + m)) / 2 ^ k = (x / 2 ^ k) &&& M := by
    rw [Nat.and_div_two_pow, Nat.mul_add_div (Nat.two_pow_pos k), Nat.div_eq_of_lt hm, Nat.add_zero]
  have h2 : (x &&& (2 ^ k * M + m)) % 2 ^ k = x % 2 ^ k &&& m := by
    rw [Nat.and_mod_two_pow, Nat.mul_add_mod, Nat.mod_eq_of_lt hm]
  rw [← h1, ← h2, Nat.div_add_mod]
theorem and_3 (x : Nat) : x &&& 3 = x % 4 := Nat.and_two_pow_sub_one_eq_mod x 2
theorem and_15 (x : Nat) : x &&& 15 = x % 16 := Nat.and_two_pow_sub_one_eq_mod x 4
theorem and_127 (x : Nat) : x &&& 127 = x % 128 := Nat.and_two_pow_sub_one_eq_mod x 7
def q1 (j n : Nat) : Nat := n - ((n / 2) &&& mkD 4 1 j)
def q2 (j a : Nat) : Nat := (a &&& mkD 16 3 j) + ((a / 4) &&& mkD 16 3 j)
def q3 (j a : Nat) : Nat := (a + a / 16) &&& mkD 256 15 j
theorem q1_le (j n : Nat) : (n / 2) &&& mkD 4 1 j ≤ n := Nat.le_trans Nat.and_le_left (Nat.div_le_self _ _)
theorem q1_s (j n : Nat) : q1 (j + 1) n = 4 * q1 j (n / 4) + (n % 2 + n / 2 % 2) := by
  have h := andB 2 (n / 2) (mkD 4 1 j) 1 (by decide)
  have e : mkD 4 1 (j + 1) = 2 ^ 2 * mkD 4 1 j + 1 := rfl
  have l := q1_le j (n / 4)
  unfold q1
  rw [e, h, Nat.and_one_is_mod, show n / 2 / 2 ^ 2 = n / 4 / 2 by omega]
  generalize (n / 4 / 2) &&& mkD 4 1 j = X at l ⊢
  omega
theorem q2_s (j a : Nat) : q2 (j + 1) a = 16 * q2 j (a / 16) + (a % 4 + a / 4 % 4) := by
  have h1 := andB 4 a (mkD 16 3 j) 3 (by decide)
  have h2 := andB 4 (a / 4) (mkD 16 3 j) 3 (by decide)
  have e : mkD 16 3 (j + 1) = 2 ^ 4 * mkD 16 3 j + 3 := rfl
  unfold q2
  rw [e, h1, h2, and_3, and_3, show a / 4 / 2 ^ 4 = a / 16 / 4 by omega, show a / 2 ^ 4 = a / 16 from rfl]
  generalize (a / 16) &&& mkD 16 3 j = X
  generalize (a / 16 / 4) &&& mkD 16 3 j = Y
  omega
theorem q3_s (j a : Nat) (h0 : a % 16 ≤ 6) (h1 : a / 16 % 16 ≤ 6) (h2 : a / 256 % 16 ≤ 6) : q3 (j + 1) a = 256 * q3 j (a / 256) + (a % 16 + a / 16 % 16) := by
  have h := andB 8 (a + a / 16) (mkD 256 15 j) 15 (by decide)
  have e : mkD 256 15 (j + 1) = 2 ^ 8 * mkD 256 15 j + 15 := rfl
  unfold q3
  have e1 : a / 16 / 16 = a / 256 := by omega
  rw [e, h, and_15, show (a + a / 16) / 2 ^ 8 = a / 256 + a / 256 / 16 by omega]
  generalize (a / 256 + a / 256 / 16) &&& mkD 256 15 j = X
  omega
/-- all digits small -/
def dl (B c : Nat) : Nat → Nat → Prop
  | 0, n => n = 0
  | j + 1, n => n % B ≤ c ∧ dl B c j (n / B)
theorem q1_ds : ∀ j n, ds 4 j (q1 j n) = ds 2 (2 * j) n
  | 0, _ => rfl
  | j + 1, n => by
    have ih := q1_ds j (n / 4)
    show q1 (j + 1) n % 4 + ds 4 j (q1 (j + 1) n / 4) = n % 2 + (n / 2 % 2 + ds 2 (2 * j) (n / 2 / 2))
    rw [q1_s, show (4 * q1 j (n / 4) + (n % 2 + n / 2 % 2)) / 4 = q1 j (n / 4) by omega, ih, show n / 2 / 2 = n / 4 by omega]
    omega
theorem q2_ds : ∀ j a, ds 16 j (q2 j a) = ds 4 (2 * j) a ∧ dl 16 6 j (q2 j a)
  | 0, a => ⟨rfl, by show q2 0 a = 0; simp [q2, mkD]⟩
  | j + 1, a => by
    have ih := q2_ds j (a / 16)
    have e1 : q2 (j + 1) a / 16 = q2 j (a / 16) := by rw [q2_s]; omega
    have e2 : q2 (j + 1) a % 16 = a % 4 + a / 4 % 4 := by rw [q2_s]; omega
    constructor
    · show q2 (j + 1) a % 16 + ds 16 j (q2 (j + 1) a / 16) = a % 4 + (a / 4 % 4 + ds 4 (2 * j) (a / 4 / 4))
      rw [e1, e2, ih.1, show a / 4 / 4 = a / 16 by omega]
      omega
    · exact ⟨by rw [e2]; omega, by rw [e1]; exact ih.2⟩
theorem dl_next {B c : Nat} (hB : 0 < B) : ∀ j n, dl B c j n → n % B ≤ c
  | 0, n, h => by rw [show n = 0 from h]; simp
  | j + 1, n, h => h.1
theorem q3_ds : ∀ j a, dl 16 6 (2 * j) a → ds 256 j (q3 j a) = ds 16 (2 * j) a ∧ dl 256 12 j (q3 j a)
  | 0, a, h => ⟨rfl, by show q3 0 a = 0; simp [q3, mkD]⟩
  | j + 1, a, h => by
    have h0 : a % 16 ≤ 6 := h.1
    have h1 : a / 16 % 16 ≤ 6 := h.2.1
    have h2 : dl 16 6 (2 * j) (a / 16 / 16) := h.2.2
    rw [show a / 16 / 16 = a / 256 by omega] at h2
    have h3 := dl_next (by decide) _ _ h2
    have ih := q3_ds j (a / 256) h2
    have e1 : q3 (j + 1) a / 256 = q3 j (a / 256) := by rw [q3_s j a h0 h1 h3]; omega
    have e2 : q3 (j + 1) a % 256 = a % 16 + a / 16 % 16 := by rw [q3_s j a h0 h1 h3]; omega
    constructor
    · show q3 (j + 1) a % 256 + ds 256 j (q3 (j + 1) a / 256) = a % 16 + (a / 16 % 16 + ds 16 (2 * j) (a / 16 / 16))
      rw [e1, e2, ih.1, show a / 16 / 16 = a / 256 by omega]
      omega
    · exact ⟨by rw [e2]; omega, by rw [e1]; exact ih.2⟩
theorem ds_ct : ∀ j n, ds 2 j n = fb_ct (fun t => n / 2 ^ t % 2 == 1) j
  | 0, _ => rfl
  | j + 1, n => by
    have ih := ds_ct j (n / 2)
    have h := fb_ct_split (fun t => n / 2 ^ t % 2 == 1) 1 j
    show n % 2 + ds 2 j (n / 2) = fb_ct (fun t => n / 2 ^ t % 2 == 1) (j + 1)
    rw [Nat.add_comm j 1, h, ih]
    have e : (fun k => n / 2 ^ (1 + k) % 2 == 1) = (fun t => n / 2 / 2 ^ t % 2 == 1) := by
      funext k
      rw [Nat.div_div_eq_div_mul, Nat.pow_add]
    rw [e]
    have e2 : fb_ct (fun t => n / 2 ^ t % 2 == 1) 1 = n % 2 := by
      simp only [fb_ct, Nat.pow_zero, Nat.div_one]
      rcases Nat.mod_two_eq_zero_or_one n with z | z <;> simp [z]
    rw [e2]
theorem fold8 {y : Nat} (h : dl 256 12 8 y) : ((y + y / 256) + (y + y / 256) / 65536 + ((y + y / 256) + (y + y / 256) / 65536) / 4294967296) % 128 = ds 256 8 y ∧ y < 1085102592571150096 := by
  obtain ⟨a0, a1, a2, a3, a4, a5, a6, a7, a8⟩ := h
  simp only [ds]
  generalize hy1 : y / 256 = y1 at *
  generalize hy2 : y1 / 256 = y2 at *
  generalize hy3 : y2 / 256 = y3 at *
  generalize hy4 : y3 / 256 = y4 at *
  generalize hy5 : y4 / 256 = y5 at *
  generalize hy6 : y5 / 256 = y6 at *
  generalize hy7 : y6 / 256 = y7 at *
  have z : y7 / 256 = 0 := a8
  obtain ⟨d0, e0⟩ : ∃ d, d = y % 256 := ⟨_, rfl⟩
  obtain ⟨d1, e1⟩ : ∃ d, d = y1 % 256 := ⟨_, rfl⟩
  obtain ⟨d2, e2⟩ : ∃ d, d = y2 % 256 := ⟨_, rfl⟩
  obtain ⟨d3, e3⟩ : ∃ d, d = y3 % 256 := ⟨_, rfl⟩
  obtain ⟨d4, e4⟩ : ∃ d, d = y4 % 256 := ⟨_, rfl⟩
  obtain ⟨d5, e5⟩ : ∃ d, d = y5 % 256 := ⟨_, rfl⟩
  obtain ⟨d6, e6⟩ : ∃ d, d = y6 % 256 := ⟨_, rfl⟩
  obtain ⟨d7, e7⟩ : ∃ d, d = y7 % 256 := ⟨_, rfl⟩
  rw [← e0] at a0 ⊢
  rw [← e1] at a1 ⊢
  rw [← e2] at a2 ⊢
  rw [← e3] at a3 ⊢
  rw [← e4] at a4 ⊢
  rw [← e5] at a5 ⊢
  rw [← e6] at a6 ⊢
  rw [← e7] at a7 ⊢
  have f7 : y7 = d7 := by omega
  have f6 : y6 = d6 + 256 * d7 := by omega
  have f5 : y5 = d5 + 256 * d6 + 65536 * d7 := by omega
  have f4 : y4 = d4 + 256 * d5 + 65536 * d6 + 16777216 * d7 := by omega
  have f3 : y3 = d3 + 256 * y4 := by omega
  have f2 : y2 = d2 + 256 * y3 := by omega
  have f1 : y1 = d1 + 256 * y2 := by omega
  have f0 : y = d0 + 256 * y1 := by omega
  have g1 : (y + y1) / 65536 = y2 + y3 := by omega
  have g2 : (y + y1 + (y2 + y3)) / 4294967296 = y4 + y5 + (y6 + y7) := by omega
  rw [g1, g2]
  constructor <;> omega
def pcL (x : Int64) : Nat := fb_ct (fun t => tb x t == 1) 64
def sw64 (i : Int64) : Int32 :=
  let i := i - ((i.toUInt64 >>> ((nI 1).toInt64.toUInt64 &&& Int64.toUInt64 63)).toInt64 &&& (6148914691236517205 : Int64))
  let i := (i &&& (3689348814741910323 : Int64)) + ((i.toUInt64 >>> ((nI 2).toInt64.toUInt64 &&& Int64.toUInt64 63)).toInt64 &&& (3689348814741910323 : Int64))
  let i := (i + (i.toUInt64 >>> ((nI 4).toInt64.toUInt64 &&& Int64.toUInt64 63)).toInt64) &&& (1085102592571150095 : Int64)
  let i := i + (i.toUInt64 >>> ((nI 8).toInt64.toUInt64 &&& Int64.toUInt64 63)).toInt64
  let i := i + (i.toUInt64 >>> ((nI 16).toInt64.toUInt64 &&& Int64.toUInt64 63)).toInt64
  let i := i + (i.toUInt64 >>> ((nI 32).toInt64.toUInt64 &&& Int64.toUInt64 63)).toInt64
  i.toInt32 &&& nI 127
theorem dl_lt {B c : Nat} (h1 : c < B) : ∀ j n, dl B c j n → n < B ^ j
  | 0, n, h => by rw [show n = 0 from h]; simp
  | j + 1, n, h => by
    have ih := dl_lt h1 j (n / B) h.2
    rw [Nat.pow_succ]
    exact (Nat.div_lt_iff_lt_mul (by omega)).mp ih
theorem sw64_ok (x : Int64) : sw64 x = nI (pcL x) := by
  obtain ⟨n, hn, rfl⟩ := wb_of x
  have c1 : (6148914691236517205 : Int64) = lN (mkD 4 1 32) := by decide +kernel
  have c2 : (3689348814741910323 : Int64) = lN (mkD 16 3 16) := by decide +kernel
  have c3 : (1085102592571150095 : Int64) = lN (mkD 256 15 8) := by decide +kernel
  have s1 : lN n - (lN (n / 2 ^ 1) &&& lN (mkD 4 1 32)) = lN (q1 32 n) := by
    rw [fb_andL, lN_sub (q1_le 32 n)]; rfl
  have b1 : q1 32 n < 2 ^ 64 := Nat.lt_of_le_of_lt (Nat.sub_le _ _) hn
  have s2 : (lN (q1 32 n) &&& lN (mkD 16 3 16)) + (lN (q1 32 n / 2 ^ 2) &&& lN (mkD 16 3 16)) = lN (q2 16 (q1 32 n)) := by
    rw [fb_andL, fb_andL, lN_add]; rfl
  have d2 := q2_ds 16 (q1 32 n)
  have b2 : q2 16 (q1 32 n) < 2 ^ 64 := by
    have := dl_lt (by decide) _ _ d2.2
    exact Nat.lt_of_lt_of_eq this (by decide)
  have s3 : (lN (q2 16 (q1 32 n)) + lN (q2 16 (q1 32 n) / 2 ^ 4)) &&& lN (mkD 256 15 8) = lN (q3 8 (q2 16 (q1 32 n))) := by
    rw [lN_add, fb_andL]; rfl
  have d3 := q3_ds 8 (q2 16 (q1 32 n)) d2.2
  have f := fold8 d3.2
  have e : ds 256 8 (q3 8 (q2 16 (q1 32 n))) = pcL (lN n) := by
    rw [d3.1, d2.1, q1_ds 32 n, ds_ct]
    unfold pcL tb
    rw [wb_tn hn]
  unfold sw64
  simp only []
  rw [c1, c2, c3, wb_shr hn (by decide), s1, wb_shr b1 (by decide), s2, wb_shr b2 (by decide), s3]
  generalize q3 8 (q2 16 (q1 32 n)) = y at *
  have y1 : y < 2 ^ 64 := by omega
  rw [wb_shr y1 (by decide), lN_add]
  have y2 : y + y / 2 ^ 8 < 2 ^ 64 := by omega
  rw [wb_shr y2 (by decide), lN_add]
  have y3 : y + y / 2 ^ 8 + (y + y / 2 ^ 8) / 2 ^ 16 < 2 ^ 64 := by omega
  rw [wb_shr y3 (by decide), lN_add, lN_i, nx_and, and_127, ← e, ← f.1]
