/-- powers of - A^2 - A^-2 -/
def dpw : Nat → Int → Int
  | 0, e => if e = 0 then 1 else 0
  | m + 1, e => -(dpw m (e - 2)) - dpw m (e + 2)
theorem dpw_s (m : Nat) (e : Int) : dpw (m + 1) e = -(dpw m (e - 2)) - dpw m (e + 2) := rfl
def chs : Nat → Nat → Nat
  | 0, 0 => 1
  | 0, _ + 1 => 0
  | _ + 1, 0 => 1
  | m + 1, j + 1 => chs m (j + 1) + chs m j
theorem chs_0 (m : Nat) : chs m 0 = 1 := by cases m <;> rfl
theorem chs_s (m j : Nat) : chs (m + 1) (j + 1) = chs m (j + 1) + chs m j := rfl
theorem chs_hi : ∀ m j, m < j → chs m j = 0 := by
  intro m
  induction m with
  | zero => intro j hj; cases j with | zero => omega | succ j => rfl
  | succ m ih => intro j hj; cases j with | zero => omega | succ j => rw [chs_s, ih _ (by omega), ih _ (by omega)]
theorem chs_rec : ∀ m j, chs m (j + 1) * (j + 1) = chs m j * (m - j) := by
  intro m
  induction m with
  | zero =>
    intro j
    rw [chs_hi 0 (j + 1) (by omega)]
    rw [Nat.zero_sub, Nat.mul_zero, Nat.zero_mul]
  | succ m ih =>
    intro j
    cases j with
    | zero =>
      rw [chs_s, chs_0, chs_0]
      have := ih 0
      rw [chs_0] at this
      omega
    | succ j =>
      by_cases c : j < m
      · have a := ih (j + 1)
        have b := ih j
        rw [chs_s, chs_s]
        obtain ⟨d, rfl⟩ : ∃ d, m = j + 1 + d := ⟨m - j - 1, by omega⟩
        rw [show j + 1 + d - (j + 1) = d by omega] at a
        rw [show j + 1 + d - j = d + 1 by omega] at b
        rw [show j + 1 + d + 1 - (j + 1) = d + 1 by omega]
        grind
      · rw [chs_hi (m + 1) (j + 1 + 1) (by omega), Nat.zero_mul]
        rw [show m + 1 - (j + 1) = 0 by omega, Nat.mul_zero]
theorem chs_le : ∀ m j, chs m j ≤ 2 ^ m := by
  intro m
  induction m with
  | zero => intro j; cases j with | zero => exact Nat.le_refl _ | succ j => exact Nat.zero_le _
  | succ m ih =>
    intro j
    cases j with
    | zero => rw [chs_0]; exact Nat.pow_pos (by omega)
    | succ j => rw [chs_s, Nat.pow_succ]; have := ih (j + 1); have := ih j; omega
/-- the coefficients of the powers -/
theorem dpw_v : ∀ m : Nat, (∀ j : Nat, j ≤ m → dpw m (2 * (m : Int) - 4 * (j : Int)) = eps m * (chs m j : Int)) ∧ ∀ e : Int, (¬ ∃ j : Nat, j ≤ m ∧ e = 2 * (m : Int) - 4 * (j : Int)) → dpw m e = 0 := by
  intro m
  induction m with
  | zero =>
    refine ⟨fun j hj => ?_, fun e he => ?_⟩
    · have : j = 0 := by omega
      subst this; rfl
    · show (if e = 0 then 1 else 0) = (0 : Int)
      rw [if_neg]
      intro w
      exact he ⟨0, Nat.le_refl _, by omega⟩
  | succ m ih =>
    obtain ⟨h1, h2⟩ := ih
    have hz : ∀ e : Int, (¬ ∃ j : Nat, j ≤ m ∧ e = 2 * (m : Int) - 4 * (j : Int)) → dpw m e = 0 := h2
    refine ⟨fun j hj => ?_, fun e he => ?_⟩
    · rw [dpw_s, eps_s]
      have a : dpw m (2 * ((m + 1 : Nat) : Int) - 4 * (j : Int) - 2) = eps m * (chs m j : Int) := by
        by_cases c : j ≤ m
        · rw [← h1 j c]; congr 1; omega
        · rw [chs_hi m j (by omega), hz _ (fun ⟨i, i1, i2⟩ => by omega)]; simp
      have b : dpw m (2 * ((m + 1 : Nat) : Int) - 4 * (j : Int) + 2) = if j = 0 then 0 else eps m * (chs m (j - 1) : Int) := by
        by_cases c : j = 0
        · rw [if_pos c, hz _ (fun ⟨i, i1, i2⟩ => by omega)]
        · rw [if_neg c, ← h1 (j - 1) (by omega)]; congr 1; omega
      rw [a, b]
      cases j with
      | zero => rw [if_pos rfl, chs_0, chs_0]; grind
      | succ j =>
        rw [if_neg (by omega), chs_s, show j + 1 - 1 = j from rfl, Int.natCast_add]
        grind
    · rw [dpw_s, hz _ (fun ⟨j, j1, j2⟩ => he ⟨j, by omega, by omega⟩), hz _ (fun ⟨j, j1, j2⟩ => he ⟨j + 1, by omega, by omega⟩)]; rfl
theorem dpw_abs (m : Nat) (e : Int) : ((dpw m e).natAbs : Int) ≤ ((2 ^ m : Nat) : Int) := by
  by_cases c : ∃ j : Nat, j ≤ m ∧ e = 2 * (m : Int) - 4 * (j : Int)
  · obtain ⟨j, j1, j2⟩ := c
    rw [j2, (dpw_v m).1 j j1, eps_abs, Int.natAbs_natCast]
    exact Int.ofNat_le.2 (chs_le m j)
  · rw [(dpw_v m).2 e c]; exact Int.natCast_nonneg _
/-- exact steps of the binomials -/
theorem chs_step {b : Int} {t j m : Nat} {s : Int} (hs : s = 1 ∨ s = -1) (hb : b = s * ((t * chs m j : Nat) : Int)) (hj : j ≤ m) : Int.tdiv b ((j : Int) + 1) * ((m : Int) - (j : Int)) + Int.tdiv (Int.tmod b ((j : Int) + 1) * ((m : Int) - (j : Int))) ((j : Int) + 1) = s * ((t * chs m (j + 1) : Nat) : Int) := by
  obtain ⟨d, rfl⟩ : ∃ d, m = j + d := ⟨m - j, by omega⟩
  have hr := chs_rec (j + d) j
  rw [show j + d - j = d by omega] at hr
  have ed : ((j + d : Nat) : Int) - (j : Int) = (d : Int) := by omega
  rw [ed]
  have key : b * (d : Int) = (s * ((t * chs (j + d) (j + 1) : Nat) : Int)) * ((j : Int) + 1) := by
    rw [hb]
    have : ((chs (j + d) (j + 1) : Nat) : Int) * ((j : Int) + 1) = ((chs (j + d) j : Nat) : Int) * (d : Int) := by
      have := congrArg (fun n : Nat => (n : Int)) hr
      simp only [Int.natCast_mul, Int.natCast_add, Int.natCast_one] at this
      exact this
    rw [Int.natCast_mul, Int.natCast_mul]
    grind
  have dm := Int.tmod_add_mul_tdiv b ((j : Int) + 1)
  have e2 : Int.tmod b ((j : Int) + 1) * (d : Int) = (s * ((t * chs (j + d) (j + 1) : Nat) : Int) - Int.tdiv b ((j : Int) + 1) * (d : Int)) * ((j : Int) + 1) := by grind
  rw [e2, Int.mul_tdiv_cancel _ (by omega)]
  omega
