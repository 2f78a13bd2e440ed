theorem C_up (fl : Nat) (q : Nat) : LM_Sh_isUpper fl (q : Int) = some (if q % 2 = 1 then 1 else 0) := by
  unfold LM_Sh_isUpper LB_Sh_isUpper_0
  by_cases c : q % 2 = 1
  · rw [if_pos c, if_neg (by omega)]
  · rw [if_neg c, if_pos (by omega)]
theorem M_up (fl : Nat) (q : Nat) : LM_Md_isUpper fl (q : Int) = some (if q % 2 = 1 then 1 else 0) := by
  unfold LM_Md_isUpper LB_Md_isUpper_0
  by_cases c : q % 2 = 1
  · rw [if_pos c, if_neg (by omega)]
  · rw [if_neg c, if_pos (by omega)]
theorem bits3 : ∀ a : Nat, a < 20 → ∀ b : Nat, b < 20 → ∀ c : Nat, c < 20 → LM_Int_bitCount 0 (ior (ior (ior 0 (ishl 1 ((a : Int) % 32))) (ishl 1 ((b : Int) % 32))) (ishl 1 ((c : Int) % 32))) = some (if a = b then (if a = c then 1 else 2) else if a = c ∨ b = c then 2 else 3) := by decide +kernel
theorem bits2 : ∀ a : Nat, a < 20 → ∀ b : Nat, b < 20 → LM_Int_bitCount 0 (ior (ior 0 (ishl 1 ((a : Int) % 32))) (ishl 1 ((b : Int) % 32))) = some (if a = b then 1 else 2) := by decide +kernel
