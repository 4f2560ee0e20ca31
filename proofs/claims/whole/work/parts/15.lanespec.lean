theorem wb_tb (n : Nat) : (lN n).toBitVec = BitVec.ofNat 64 n := rfl
theorem wb_inj {a b : Int64} (h : a.toBitVec = b.toBitVec) : a = b := Int64.toBitVec_inj.mp h
theorem wb_tn {n : Nat} (h : n < 2 ^ 64) : (lN n).toBitVec.toNat = n := by rw [wb_tb, BitVec.toNat_ofNat, Nat.mod_eq_of_lt h]
theorem wb_of (x : Int64) : ∃ n, n < 2 ^ 64 ∧ x = lN n := ⟨x.toBitVec.toNat, x.toBitVec.isLt, wb_inj (by rw [wb_tb]; simp)⟩
theorem wb_of32 (x : Int32) : ∃ n, n < 2 ^ 32 ∧ x = nI n := ⟨x.toBitVec.toNat, x.toBitVec.isLt, Int32.toBitVec_inj.mp (by show _ = BitVec.ofNat 32 _; simp)⟩
theorem wb_c : ∀ k, k < 64 → ((nI k).toInt64 &&& 63) = lN k := by decide +kernel
theorem wb_cu : ∀ k, k < 64 → ((nI k).toInt64.toUInt64 &&& Int64.toUInt64 63) = UInt64.ofNat k := by decide +kernel
theorem wb_sm : ∀ k, k < 64 → (BitVec.ofNat 64 k).smod 64 = BitVec.ofNat 64 k := by decide +kernel
theorem wb_pw {a b : Nat} (h : a ≤ b) : 2 ^ b = 2 ^ a * 2 ^ (b - a) := by rw [← Nat.pow_add]; congr 1; omega
theorem wb_lt2 {a b : Nat} (h : a < b) : 2 ^ a < 2 ^ b := Nat.pow_lt_pow_right (by decide) h
theorem wb_mod (n : Nat) : lN n = lN (n % 2 ^ 64) := wb_inj (by rw [wb_tb, wb_tb]; apply BitVec.eq_of_toNat_eq; rw [BitVec.toNat_ofNat, BitVec.toNat_ofNat, Nat.mod_mod])
theorem wb_shr {n k : Nat} (hn : n < 2 ^ 64) (hk : k < 64) : ((lN n).toUInt64 >>> ((nI k).toInt64.toUInt64 &&& Int64.toUInt64 63)).toInt64 = lN (n / 2 ^ k) := by
  rw [wb_cu k hk]
  apply wb_inj
  apply BitVec.eq_of_toNat_eq
  show ((lN n).toUInt64 >>> UInt64.ofNat k).toNat = (BitVec.ofNat 64 _).toNat
  have h1 : (UInt64.ofNat k).toNat = k := by
    show (BitVec.ofNat 64 k).toNat = k
    rw [BitVec.toNat_ofNat, Nat.mod_eq_of_lt (by omega)]
  have h2 : (lN n).toUInt64.toNat = n := wb_tn hn
  rw [UInt64.toNat_shiftRight, h1, h2, Nat.mod_eq_of_lt hk, Nat.shiftRight_eq_div_pow, BitVec.toNat_ofNat, Nat.mod_eq_of_lt (Nat.lt_of_le_of_lt (Nat.div_le_self _ _) hn)]
theorem wb_shl (n : Nat) {k : Nat} (hk : k < 64) : lN n <<< ((nI k).toInt64 &&& 63) = lN (n * 2 ^ k) := by
  rw [wb_c k hk]
  apply wb_inj
  rw [Int64.toBitVec_shiftLeft, wb_tb, wb_tb, wb_tb, wb_sm k hk]
  apply BitVec.eq_of_toNat_eq
  rw [BitVec.shiftLeft_eq', BitVec.toNat_shiftLeft, BitVec.toNat_ofNat, BitVec.toNat_ofNat, BitVec.toNat_ofNat, Nat.mod_eq_of_lt (show k < 2 ^ 64 by omega), Nat.shiftLeft_eq, Nat.mul_mod, Nat.mod_mod, ← Nat.mul_mod]
theorem wb_and {a b : Nat} (ha : a < 2 ^ 64) (hb : b < 2 ^ 64) : lN a &&& lN b = lN (a &&& b) := by
  apply wb_inj
  rw [Int64.toBitVec_and, wb_tb, wb_tb, wb_tb]
  apply BitVec.eq_of_toNat_eq
  rw [BitVec.toNat_and, BitVec.toNat_ofNat, BitVec.toNat_ofNat, BitVec.toNat_ofNat, Nat.mod_eq_of_lt ha, Nat.mod_eq_of_lt hb, Nat.mod_eq_of_lt (Nat.and_lt_two_pow _ hb)]
theorem wb_or {a b : Nat} (ha : a < 2 ^ 64) (hb : b < 2 ^ 64) : lN a ||| lN b = lN (a ||| b) := by
  apply wb_inj
  rw [Int64.toBitVec_or, wb_tb, wb_tb, wb_tb]
  apply BitVec.eq_of_toNat_eq
  rw [BitVec.toNat_or, BitVec.toNat_ofNat, BitVec.toNat_ofNat, BitVec.toNat_ofNat, Nat.mod_eq_of_lt ha, Nat.mod_eq_of_lt hb, Nat.mod_eq_of_lt (Nat.or_lt_two_pow ha hb)]
theorem wb_mask {n k : Nat} (hn : n < 2 ^ 64) (hk : k < 64) : lN n &&& lN (2 ^ k - 1) = lN (n % 2 ^ k) := by
  rw [wb_and hn (by have := wb_lt2 hk; omega), Nat.and_two_pow_sub_one_eq_mod]
theorem wb_a1 {n : Nat} (hn : n < 2 ^ 64) : lN n &&& 1 = lN (n % 2) := wb_mask (k := 1) hn (by decide)
theorem wb_bit {n k : Nat} (hn : n < 2 ^ 64) (hk : k < 64) : ((lN n).toUInt64 >>> ((nI k).toInt64.toUInt64 &&& Int64.toUInt64 63)).toInt64 &&& 1 = lN (n / 2 ^ k % 2) := by
  rw [wb_shr hn hk, wb_a1 (Nat.lt_of_le_of_lt (Nat.div_le_self _ _) hn)]
/-! one bit of a long, as a number; all lanes alike; a wire's own two lanes; a gate in all lanes -/
def tb (x : Int64) (s : Nat) : Nat := x.toBitVec.toNat / 2 ^ s % 2
theorem tb_lt (x : Int64) (s : Nat) : tb x s < 2 := Nat.mod_lt _ (by decide)
theorem tb_bit (x : Int64) {s : Nat} (hs : s < 64) : (((x.toUInt64 >>> ((nI s).toInt64.toUInt64 &&& Int64.toUInt64 63)).toInt64) &&& 1).toInt32 = nI (tb x s) := by
  obtain ⟨n, hn, rfl⟩ := wb_of x
  rw [wb_bit hn hs, lN_i]
  unfold tb
  rw [wb_tn hn]
def iaL (v : Nat) : Int64 := -((nI v).toInt64)
def owS (x : Int64) (w : Nat) : Int64 := (x &&& (((1 : Int64) <<< ((nI (2 * w)).toInt64 &&& 63)) ^^^ (-1))) ||| ((2 : Int64) <<< ((nI (2 * w)).toInt64 &&& 63))
def gvS (k : Nat) (a c : Int64) : Int64 := if k = 0 then a &&& c else if k = 1 then a ||| c else if k = 2 then a ^^^ c else if k = 3 then (a &&& c) ^^^ (-1) else if k = 4 then (a ||| c) ^^^ (-1) else (a ^^^ c) ^^^ (-1)
def lnX (b : Nat → Nat) (wd : Nat) (fz : Nat → Option Nat) (V : Nat → Int64) (w : Nat) : Int64 := match fz w with
  | some v => iaL v
  | none => owS (if w < b 0 then iaL (wd / 2 ^ w % 2) else gvS (b (6 + 3 * (w - b 0))) (V (b (7 + 3 * (w - b 0)))) (V (b (8 + 3 * (w - b 0))))) w
def lnA (b : Nat → Nat) (wd : Nat) (fz : Nat → Option Nat) (V : Nat → Int64) : Nat → Nat → Int64
  | 0 => V
  | w + 1 => vp_updL (lnA b wd fz V w) w (lnX b wd fz (lnA b wd fz V w) w)
def fzN : Nat → Option Nat := fun _ => none
def fzT (t : Nat) : Nat → Option Nat := fun w => if t / 2 ^ 1 = w then some (t % 2) else none
/-- what a circuit must be -/
def okC (b : Nat → Nat) : Prop := 1 ≤ b 0 ∧ b 0 ≤ 8 ∧ b 1 ≤ 24 ∧ b 2 < b 0 + b 1 ∧ b 3 < b 0 + b 1 ∧ cdOK (b 0) (b 4) (b 5) ∧ ∀ g, g < b 1 → b (6 + 3 * g) ≤ 5 ∧ b (7 + 3 * g) < b 0 + g ∧ b (8 + 3 * g) < b 0 + g
theorem lx_in {b : Nat → Nat} {wd w : Nat} {V : Nat → Int64} {fz : Nat → Option Nat} (h : fz w = none) (hw : w < b 0) : lnX b wd fz V w = owS (iaL (wd / 2 ^ w % 2)) w := by simp only [lnX, h, if_pos hw]
theorem lx_gt {b : Nat → Nat} {wd w : Nat} {V : Nat → Int64} {fz : Nat → Option Nat} (h : fz w = none) (hw : b 0 ≤ w) : lnX b wd fz V w = owS (gvS (b (6 + 3 * (w - b 0))) (V (b (7 + 3 * (w - b 0)))) (V (b (8 + 3 * (w - b 0))))) w := by simp only [lnX, h, if_neg (Nat.not_lt.mpr hw)]
theorem lx_fz {b : Nat → Nat} {wd w v : Nat} {V : Nat → Int64} {fz : Nat → Option Nat} (h : fz w = some v) : lnX b wd fz V w = iaL v := by simp only [lnX, h]
theorem fzT_y {t w : Nat} (h : t / 2 ^ 1 = w) : fzT t w = some (t % 2) := if_pos h
theorem fzT_n {t w : Nat} (h : ¬ t / 2 ^ 1 = w) : fzT t w = none := if_neg h
