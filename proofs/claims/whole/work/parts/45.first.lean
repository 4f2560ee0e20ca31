/-! the first circuit, on both sides -/
def c1R : Nat → Nat := (nup (nup (nup (agC (agC (agC (agC (agC (agC (nup (fun j_ => 0) 0 4) 0 0 2) 0 1 3) 1 4 5) 0 0 3) 0 1 2) 1 7 8) 2 6) 3 9) 4 3)
theorem b1_1 : trC (fun _ => 0) 2 1 = 6 := by decide +kernel
theorem ag1_all : ∀ j, j < 24 → trC (fun _ => 0) 2 j = c1R j := by decide +kernel
theorem ag1 : agr (trC (fun _ => 0) 2) c1R := fun j hj => ag1_all j (by rw [b1_1] at hj; omega)
theorem ok1 : okC (trC (fun _ => 0) 2) := okC_tr _ (by decide) (by decide)
