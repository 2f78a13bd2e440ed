def bS (x : Nat) : Nat → Bool := fun j => x.testBit j
theorem b_test : ∀ x : Nat, x < 2048 → ∀ j : Nat, j < 11 → (ishr (x : Int) ((j : Int) % 32)) % 2 = if x.testBit j then 1 else 0 := by decide +kernel
theorem b_xor : ∀ x : Nat, x < 2048 → ∀ j : Nat, j < 11 → ixor (x : Int) (ishl 1 ((j : Int) % 32)) = ((x ^^^ 2 ^ j : Nat) : Int) := by decide +kernel
theorem b_or : ∀ x : Nat, x < 512 → ∀ j : Nat, j < 9 → ior (x : Int) (ishl 1 ((j : Int) % 32)) = ((x ||| 2 ^ j : Nat) : Int) := by decide +kernel
theorem b_shl : ∀ j : Nat, j < 12 → ishl 1 ((j : Int) % 32) = ((2 ^ j : Nat) : Int) := by decide +kernel
theorem b_cnt : ∀ x : Nat, x < 512 → LM_Int_bitCount 0 (x : Int) = some ((cntP (fun j => x.testBit j) 10 : Nat) : Int) := by decide +kernel
theorem b_gt : ∀ x : Nat, x < 512 → ∀ j : Nat, j < 9 → x.testBit j = false → LM_Int_bitCount 0 (ishr (x : Int) ((j : Int) % 32)) = some ((cntP (fun i => x.testBit i && decide (j < i)) 10 : Nat) : Int) := by decide +kernel
theorem b_less : ∀ x : Nat, x < 2048 → ∀ j : Nat, j < 11 → x.testBit j = true → x ^^^ 2 ^ j < x := by decide +kernel
