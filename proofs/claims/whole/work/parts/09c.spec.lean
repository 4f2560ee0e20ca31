/-! circuits as rows of numbers: 0 inputs, 1 gates, 2 and 3 the rails, 4 and 5 the code; from 6 on three a gate -/
def stC (b : Nat → Nat) (n : Nat) : Nat → Nat := fun j => if j = 0 then n else if j < 6 then 0 else b j
def sgC (b : Nat → Nat) (g k x y : Nat) : Nat → Nat := fun j => if j = 6 + 3 * g then k else if j = 7 + 3 * g then x else if j = 8 + 3 * g then y else b j
def agC (b : Nat → Nat) (k x y : Nat) : Nat → Nat := fun j => if j = 1 then b 1 + 1 else sgC b (b 1) k x y j
def srC (b : Nat → Nat) (p q : Nat) : Nat → Nat := fun j => if j = 2 then p else if j = 3 then q else b j
def scC (b : Nat → Nat) (k w : Nat) : Nat → Nat := fun j => if j = 4 then k else if j = 5 then w else b j
def cpC (b o : Nat → Nat) : Nat → Nat := fun j => if j < 78 then o j else b j
theorem stC_0 (b : Nat → Nat) (n : Nat) : stC b n 0 = n := rfl
theorem stC_1 (b : Nat → Nat) (n : Nat) : stC b n 1 = 0 := rfl
theorem stC_2 (b : Nat → Nat) (n : Nat) : stC b n 2 = 0 := rfl
theorem stC_3 (b : Nat → Nat) (n : Nat) : stC b n 3 = 0 := rfl
theorem stC_4 (b : Nat → Nat) (n : Nat) : stC b n 4 = 0 := rfl
theorem stC_5 (b : Nat → Nat) (n : Nat) : stC b n 5 = 0 := rfl
theorem stC_k (b : Nat → Nat) (n j : Nat) : stC b n (6 + 3 * j) = b (6 + 3 * j) := by unfold stC; rw [if_neg (by omega), if_neg (by omega)]
theorem stC_f (b : Nat → Nat) (n j : Nat) : stC b n (7 + 3 * j) = b (7 + 3 * j) := by unfold stC; rw [if_neg (by omega), if_neg (by omega)]
theorem stC_s (b : Nat → Nat) (n j : Nat) : stC b n (8 + 3 * j) = b (8 + 3 * j) := by unfold stC; rw [if_neg (by omega), if_neg (by omega)]
theorem srC_0 (b : Nat → Nat) (p q : Nat) : srC b p q 0 = b 0 := rfl
theorem srC_1 (b : Nat → Nat) (p q : Nat) : srC b p q 1 = b 1 := rfl
theorem srC_2 (b : Nat → Nat) (p q : Nat) : srC b p q 2 = p := rfl
theorem srC_3 (b : Nat → Nat) (p q : Nat) : srC b p q 3 = q := rfl
theorem srC_4 (b : Nat → Nat) (p q : Nat) : srC b p q 4 = b 4 := rfl
theorem srC_5 (b : Nat → Nat) (p q : Nat) : srC b p q 5 = b 5 := rfl
theorem srC_k (b : Nat → Nat) (p q j : Nat) : srC b p q (6 + 3 * j) = b (6 + 3 * j) := by unfold srC; rw [if_neg (by omega), if_neg (by omega)]
theorem srC_f (b : Nat → Nat) (p q j : Nat) : srC b p q (7 + 3 * j) = b (7 + 3 * j) := by unfold srC; rw [if_neg (by omega), if_neg (by omega)]
theorem srC_s (b : Nat → Nat) (p q j : Nat) : srC b p q (8 + 3 * j) = b (8 + 3 * j) := by unfold srC; rw [if_neg (by omega), if_neg (by omega)]
theorem scC_0 (b : Nat → Nat) (p q : Nat) : scC b p q 0 = b 0 := rfl
theorem scC_1 (b : Nat → Nat) (p q : Nat) : scC b p q 1 = b 1 := rfl
theorem scC_2 (b : Nat → Nat) (p q : Nat) : scC b p q 2 = b 2 := rfl
theorem scC_3 (b : Nat → Nat) (p q : Nat) : scC b p q 3 = b 3 := rfl
theorem scC_4 (b : Nat → Nat) (p q : Nat) : scC b p q 4 = p := rfl
theorem scC_5 (b : Nat → Nat) (p q : Nat) : scC b p q 5 = q := rfl
theorem scC_k (b : Nat → Nat) (p q j : Nat) : scC b p q (6 + 3 * j) = b (6 + 3 * j) := by unfold scC; rw [if_neg (by omega), if_neg (by omega)]
theorem scC_f (b : Nat → Nat) (p q j : Nat) : scC b p q (7 + 3 * j) = b (7 + 3 * j) := by unfold scC; rw [if_neg (by omega), if_neg (by omega)]
theorem scC_s (b : Nat → Nat) (p q j : Nat) : scC b p q (8 + 3 * j) = b (8 + 3 * j) := by unfold scC; rw [if_neg (by omega), if_neg (by omega)]
theorem sgC_lo (b : Nat → Nat) (g k x y : Nat) {j : Nat} (h : j < 6) : sgC b g k x y j = b j := by unfold sgC; rw [if_neg (by omega), if_neg (by omega), if_neg (by omega)]
theorem sgC_0 (b : Nat → Nat) (g k x y : Nat) : sgC b g k x y 0 = b 0 := sgC_lo b g k x y (by decide)
theorem sgC_1 (b : Nat → Nat) (g k x y : Nat) : sgC b g k x y 1 = b 1 := sgC_lo b g k x y (by decide)
theorem sgC_2 (b : Nat → Nat) (g k x y : Nat) : sgC b g k x y 2 = b 2 := sgC_lo b g k x y (by decide)
theorem sgC_3 (b : Nat → Nat) (g k x y : Nat) : sgC b g k x y 3 = b 3 := sgC_lo b g k x y (by decide)
theorem sgC_4 (b : Nat → Nat) (g k x y : Nat) : sgC b g k x y 4 = b 4 := sgC_lo b g k x y (by decide)
theorem sgC_5 (b : Nat → Nat) (g k x y : Nat) : sgC b g k x y 5 = b 5 := sgC_lo b g k x y (by decide)
theorem sgC_k (b : Nat → Nat) (g k x y j : Nat) : sgC b g k x y (6 + 3 * j) = nup (fun j_ => b (6 + 3 * j_)) g k j := by
  unfold sgC nup
  by_cases h : j = g
  · rw [if_pos (by omega), if_pos h]
  · rw [if_neg (by omega), if_neg (by omega), if_neg (by omega), if_neg h]
theorem sgC_f (b : Nat → Nat) (g k x y j : Nat) : sgC b g k x y (7 + 3 * j) = nup (fun j_ => b (7 + 3 * j_)) g x j := by
  unfold sgC nup
  by_cases h : j = g
  · rw [if_neg (by omega), if_pos (by omega), if_pos h]
  · rw [if_neg (by omega), if_neg (by omega), if_neg (by omega), if_neg h]
theorem sgC_s (b : Nat → Nat) (g k x y j : Nat) : sgC b g k x y (8 + 3 * j) = nup (fun j_ => b (8 + 3 * j_)) g y j := by
  unfold sgC nup
  by_cases h : j = g
  · rw [if_neg (by omega), if_neg (by omega), if_pos (by omega), if_pos h]
  · rw [if_neg (by omega), if_neg (by omega), if_neg (by omega), if_neg h]
theorem agC_1 (b : Nat → Nat) (k x y : Nat) : agC b k x y 1 = b 1 + 1 := rfl
theorem agC_ne (b : Nat → Nat) (k x y : Nat) {j : Nat} (h : j ≠ 1) : agC b k x y j = sgC b (b 1) k x y j := if_neg h
theorem agC_0 (b : Nat → Nat) (k x y : Nat) : agC b k x y 0 = b 0 := (agC_ne b k x y (by decide)).trans (sgC_0 ..)
theorem agC_2 (b : Nat → Nat) (k x y : Nat) : agC b k x y 2 = b 2 := (agC_ne b k x y (by decide)).trans (sgC_2 ..)
theorem agC_3 (b : Nat → Nat) (k x y : Nat) : agC b k x y 3 = b 3 := (agC_ne b k x y (by decide)).trans (sgC_3 ..)
theorem agC_4 (b : Nat → Nat) (k x y : Nat) : agC b k x y 4 = b 4 := (agC_ne b k x y (by decide)).trans (sgC_4 ..)
theorem agC_5 (b : Nat → Nat) (k x y : Nat) : agC b k x y 5 = b 5 := (agC_ne b k x y (by decide)).trans (sgC_5 ..)
theorem agC_k (b : Nat → Nat) (k x y j : Nat) : agC b k x y (6 + 3 * j) = sgC b (b 1) k x y (6 + 3 * j) := agC_ne b k x y (by omega)
theorem agC_f (b : Nat → Nat) (k x y j : Nat) : agC b k x y (7 + 3 * j) = sgC b (b 1) k x y (7 + 3 * j) := agC_ne b k x y (by omega)
theorem agC_s (b : Nat → Nat) (k x y j : Nat) : agC b k x y (8 + 3 * j) = sgC b (b 1) k x y (8 + 3 * j) := agC_ne b k x y (by omega)
theorem cpC_lo (b o : Nat → Nat) {j : Nat} (h : j < 78) : cpC b o j = o j := if_pos h
theorem cpC_k (b o : Nat → Nat) : (fun j => nI (cpC b o (6 + 3 * j))) = va_cpy (fun j => nI (o (6 + 3 * j))) (fun j => nI (b (6 + 3 * j))) 0 0 24 := by
  funext j
  unfold cpC va_cpy
  by_cases h : j < 24
  · rw [if_pos (by omega), if_pos (by omega)]; simp
  · rw [if_neg (by omega), if_neg (by omega)]
theorem cpC_f (b o : Nat → Nat) : (fun j => nI (cpC b o (7 + 3 * j))) = va_cpy (fun j => nI (o (7 + 3 * j))) (fun j => nI (b (7 + 3 * j))) 0 0 24 := by
  funext j
  unfold cpC va_cpy
  by_cases h : j < 24
  · rw [if_pos (by omega), if_pos (by omega)]; simp
  · rw [if_neg (by omega), if_neg (by omega)]
theorem cpC_s (b o : Nat → Nat) : (fun j => nI (cpC b o (8 + 3 * j))) = va_cpy (fun j => nI (o (8 + 3 * j))) (fun j => nI (b (8 + 3 * j))) 0 0 24 := by
  funext j
  unfold cpC va_cpy
  by_cases h : j < 24
  · rw [if_pos (by omega), if_pos (by omega)]; simp
  · rw [if_neg (by omega), if_neg (by omega)]
/-- (a and c) or (d and e): three gates -/
def crC (b : Nat → Nat) (a c d e : Nat) : Nat → Nat := agC (agC (agC b 0 a c) 0 d e) 1 (b 0 + b 1) (b 0 + b 1 + 1)
theorem crC_0 (b : Nat → Nat) (a c d e : Nat) : crC b a c d e 0 = b 0 := by simp only [crC, agC_0]
theorem crC_1 (b : Nat → Nat) (a c d e : Nat) : crC b a c d e 1 = b 1 + 3 := by simp only [crC, agC_1]
/-- the tree so far behind i more pairs: the circuit, the pair so far -/
def trS (b : Nat → Nat) : Nat → (Nat → Nat) × Nat × Nat
  | 0 => (b, 0, 1)
  | i + 1 => (crC (crC (trS b i).1 (trS b i).2.1 (2 * (i + 1)) (trS b i).2.2 (2 * (i + 1) + 1)) (trS b i).2.1 (2 * (i + 1) + 1) (trS b i).2.2 (2 * (i + 1)), (trS b i).1 0 + (trS b i).1 1 + 2, (trS b i).1 0 + ((trS b i).1 1 + 3) + 2)
theorem trS_0 (b : Nat → Nat) : ∀ i, (trS b i).1 0 = b 0
  | 0 => rfl
  | i + 1 => by
    simp only [trS, crC_0]
    exact trS_0 b i
theorem trS_1 (b : Nat → Nat) : ∀ i, (trS b i).1 1 = b 1 + 6 * i
  | 0 => rfl
  | i + 1 => by
    simp only [trS, crC_1]
    rw [trS_1 b i]; omega
def trC (b : Nat → Nat) (m : Nat) : Nat → Nat := srC (trS (scC (stC b (2 * m)) 3 0) (m - 1)).1 (trS (scC (stC b (2 * m)) 3 0) (m - 1)).2.1 (trS (scC (stC b (2 * m)) 3 0) (m - 1)).2.2
/-- what a code can be -/
def cdOK (n k w : Nat) : Prop := (k = 0 ∧ w = 0) ∨ (k = 1 ∧ w ≤ n) ∨ (k = 2 ∧ w ≤ n) ∨ (k = 3 ∧ w = 0 ∧ n % 2 = 0)
def cdI (n : Nat) (k w : Int32) : Prop := ∃ x y : Nat, k = nI x ∧ w = nI y ∧ cdOK n x y
/-- how many of the eight lowest bits are set -/
def ones8 (w : Nat) : Nat := w % 2 + w / 2 % 2 + w / 4 % 2 + w / 8 % 2 + w / 16 % 2 + w / 32 % 2 + w / 64 % 2 + w / 128 % 2
def prs (w : Nat) : Nat → Bool
  | 0 => true
  | i + 1 => prs w i && (w / 2 ^ (2 * i) % 2 != w / 2 ^ (2 * i + 1) % 2)
def inC (n k u w : Nat) : Bool := if k = 0 then true else if k = 1 then ones8 w == u else if k = 2 then w / 2 ^ u == (u - ones8 (w % 2 ^ u)) % 2 ^ (n - u) else prs w (n / 2)
def inB (b : Nat → Nat) (w : Nat) : Bool := inC (b 0) (b 4) (b 5) w
theorem in_prs : ∀ n, n < 9 → n % 2 = 0 → ∀ w, w < 256 → (((w ^^^ (w / 2 ^ 1)) &&& (85 &&& (2 ^ n - 1)) == (85 &&& (2 ^ n - 1))) = prs w (n / 2)) := by decide +kernel
theorem in_zer : ∀ n, n < 9 → ∀ u, u < 9 → u ≤ n → ∀ w, w < 256 → ((w / 2 ^ u == (u - ones8 (w &&& (2 ^ u - 1))) &&& (2 ^ (n - u) - 1)) = (w / 2 ^ u == (u - ones8 (w % 2 ^ u)) % 2 ^ (n - u))) := by decide +kernel
theorem on_le : ∀ u, u < 9 → ∀ w, w < 256 → ones8 (w &&& (2 ^ u - 1)) ≤ u := by decide +kernel
/-- how many gates read a wire -/
def rdC (b : Nat → Nat) (w g : Nat) : Bool := b (7 + 3 * g) == w || b (8 + 3 * g) == w
def sw32 (i : Int32) : Int32 :=
  let i := i - ((i.toUInt32 >>> ((nI 1).toUInt32 &&& Int32.toUInt32 31)).toInt32 &&& 1431655765)
  let i := (i &&& 858993459) + ((i.toUInt32 >>> ((nI 2).toUInt32 &&& Int32.toUInt32 31)).toInt32 &&& 858993459)
  let i := (i + (i.toUInt32 >>> ((nI 4).toUInt32 &&& Int32.toUInt32 31)).toInt32) &&& 252645135
  let i := i + (i.toUInt32 >>> ((nI 8).toUInt32 &&& Int32.toUInt32 31)).toInt32
  let i := i + (i.toUInt32 >>> ((nI 16).toUInt32 &&& Int32.toUInt32 31)).toInt32
  i &&& nI 63
theorem sw32_ok : ∀ w, w < 256 → sw32 (nI w) = nI (ones8 w) := by decide +kernel
theorem sw_raw (x : Int32) (h : Nat) (hh : h < 2147483648) : (∃ j : Nat, j ≤ h ∧ x = nI j) ∨ (x.toInt < 0 ∨ (h : Int) < x.toInt) := by
  by_cases h0 : x < 0
  · exact Or.inr (Or.inl (Int32.lt_iff_toInt_lt.mp h0))
  · obtain ⟨j, hj, rfl⟩ := nI_of h0
    by_cases h1 : j ≤ h
    · exact Or.inl ⟨j, h1, rfl⟩
    · exact Or.inr (Or.inr (by rw [nI_toInt hj]; omega))
theorem nI_inj {a b : Nat} (ha : a < 2147483648) (hb : b < 2147483648) (h : nI a = nI b) : a = b := (nI_eq ha hb).mp h
theorem cd0 {n : Nat} {w : Int32} (h : w = 0) : cdI n (nI 0) w := ⟨0, 0, rfl, h, Or.inl ⟨rfl, rfl⟩⟩
theorem cd_of {n j : Nat} {w : Int32} (hj : j < 4) (z : cdI n (nI j) w) : ∃ y : Nat, w = nI y ∧ cdOK n j y := by
  obtain ⟨x, y, e1, e2, h⟩ := z
  have : j = x := nI_inj (by omega) (by rcases h with h | h | h | h <;> omega) e1
  subst this
  exact ⟨y, e2, h⟩
theorem cd0n {n : Nat} {w : Int32} (h : ¬ w = 0) : ¬ cdI n (nI 0) w := fun z => by
  obtain ⟨y, rfl, h1⟩ := cd_of (by omega) z
  rcases h1 with h1 | h1 | h1 | h1
  · exact h (by rw [h1.2]; rfl)
  all_goals omega
theorem cd12 {n j : Nat} {w : Int32} (hj : j = 1 ∨ j = 2) (hn : n ≤ 8) (h : ¬ w < 0) (h2 : ¬ nI n < w) : cdI n (nI j) w := by
  obtain ⟨y, hy, rfl⟩ := nI_of h
  have : y ≤ n := Nat.le_of_not_lt (fun z => h2 ((nI_ltI (by omega) hy).mpr z))
  rcases hj with rfl | rfl
  · exact ⟨1, y, rfl, rfl, Or.inr (Or.inl ⟨rfl, this⟩)⟩
  · exact ⟨2, y, rfl, rfl, Or.inr (Or.inr (Or.inl ⟨rfl, this⟩))⟩
theorem cd12lo {n j : Nat} {w : Int32} (hj : j = 1 ∨ j = 2) (hn : n ≤ 8) (h : w < 0) : ¬ cdI n (nI j) w := fun z => by
  obtain ⟨y, rfl, h1⟩ := cd_of (by omega) z
  exact nI_pos (show y < 2 ^ 31 by rcases h1 with h1 | h1 | h1 | h1 <;> omega) h
theorem cd12hi {n j : Nat} {w : Int32} (hj : j = 1 ∨ j = 2) (hn : n ≤ 8) (h : nI n < w) : ¬ cdI n (nI j) w := fun z => by
  obtain ⟨y, rfl, h1⟩ := cd_of (by omega) z
  have hy : y ≤ n := by rcases h1 with h1 | h1 | h1 | h1 <;> omega
  have := (nI_ltI (by omega) (by omega)).mp h
  omega
theorem cd3 {n : Nat} {w : Int32} (h : w = 0) (h2 : n % 2 = 0) : cdI n (nI 3) w := ⟨3, 0, rfl, h, Or.inr (Or.inr (Or.inr ⟨rfl, rfl, h2⟩))⟩
theorem cd3n {n : Nat} {w : Int32} (h : ¬ w = 0) : ¬ cdI n (nI 3) w := fun z => by
  obtain ⟨y, rfl, h1⟩ := cd_of (by omega) z
  rcases h1 with h1 | h1 | h1 | h1
  · omega
  · omega
  · omega
  · exact h (by rw [h1.2.1]; rfl)
theorem cd3m {n : Nat} {w : Int32} (h : ¬ n % 2 = 0) : ¬ cdI n (nI 3) w := fun z => by
  obtain ⟨y, rfl, h1⟩ := cd_of (by omega) z
  rcases h1 with h1 | h1 | h1 | h1 <;> omega
theorem cdo {n : Nat} {k w : Int32} (h : k.toInt < 0 ∨ ((3 : Nat) : Int) < k.toInt) : ¬ cdI n k w := fun z => by
  obtain ⟨x, y, rfl, rfl, h1⟩ := z
  have hx : x ≤ 3 := by rcases h1 with h1 | h1 | h1 | h1 <;> omega
  rw [nI_toInt (by omega)] at h
  omega
theorem st1_0 (b : Nat → Nat) (n m : Nat) : nup (nup b 0 n) 1 m 0 = n := rfl
theorem st1_1 (b : Nat → Nat) (n m : Nat) : nup (nup b 0 n) 1 m 1 = m := rfl
theorem st1_2 (b : Nat → Nat) (n m : Nat) : nup (nup b 0 n) 1 m 2 = b 2 := rfl
theorem st1_3 (b : Nat → Nat) (n m : Nat) : nup (nup b 0 n) 1 m 3 = b 3 := rfl
theorem st1_4 (b : Nat → Nat) (n m : Nat) : nup (nup b 0 n) 1 m 4 = b 4 := rfl
theorem st1_5 (b : Nat → Nat) (n m : Nat) : nup (nup b 0 n) 1 m 5 = b 5 := rfl
theorem st1_k (b : Nat → Nat) (n m j : Nat) : nup (nup b 0 n) 1 m (6 + 3 * j) = b (6 + 3 * j) := by rw [nup_ne (by omega), nup_ne (by omega)]
theorem st1_f (b : Nat → Nat) (n m j : Nat) : nup (nup b 0 n) 1 m (7 + 3 * j) = b (7 + 3 * j) := by rw [nup_ne (by omega), nup_ne (by omega)]
theorem st1_s (b : Nat → Nat) (n m j : Nat) : nup (nup b 0 n) 1 m (8 + 3 * j) = b (8 + 3 * j) := by rw [nup_ne (by omega), nup_ne (by omega)]
/-- a circuit on its way to being another: inputs and gates are told, and the rows -/
def cp1 (b o : Nat → Nat) : Nat → Nat := fun j => if j < 2 then o j else if j < 6 then b j else cpC b o j
theorem cp1_0 (b o : Nat → Nat) : cp1 b o 0 = o 0 := rfl
theorem cp1_1 (b o : Nat → Nat) : cp1 b o 1 = o 1 := rfl
theorem cp1_2 (b o : Nat → Nat) : cp1 b o 2 = b 2 := rfl
theorem cp1_3 (b o : Nat → Nat) : cp1 b o 3 = b 3 := rfl
theorem cp1_4 (b o : Nat → Nat) : cp1 b o 4 = b 4 := rfl
theorem cp1_5 (b o : Nat → Nat) : cp1 b o 5 = b 5 := rfl
theorem cp1_k (b o : Nat → Nat) (j : Nat) : cp1 b o (6 + 3 * j) = cpC b o (6 + 3 * j) := by unfold cp1; rw [if_neg (by omega), if_neg (by omega)]
theorem cp1_f (b o : Nat → Nat) (j : Nat) : cp1 b o (7 + 3 * j) = cpC b o (7 + 3 * j) := by unfold cp1; rw [if_neg (by omega), if_neg (by omega)]
theorem cp1_s (b o : Nat → Nat) (j : Nat) : cp1 b o (8 + 3 * j) = cpC b o (8 + 3 * j) := by unfold cp1; rw [if_neg (by omega), if_neg (by omega)]
theorem cpC_0 (b o : Nat → Nat) : cpC b o 0 = o 0 := rfl
theorem cpC_1 (b o : Nat → Nat) : cpC b o 1 = o 1 := rfl
theorem cpC_2 (b o : Nat → Nat) : cpC b o 2 = o 2 := rfl
theorem cpC_3 (b o : Nat → Nat) : cpC b o 3 = o 3 := rfl
theorem cpC_4 (b o : Nat → Nat) : cpC b o 4 = o 4 := rfl
theorem cpC_5 (b o : Nat → Nat) : cpC b o 5 = o 5 := rfl
theorem cp_four {n k w : Nat} (h : cdOK n k w) : k = 0 ∨ k = 1 ∨ k = 2 ∨ k = 3 := by rcases h with h | h | h | h <;> omega
