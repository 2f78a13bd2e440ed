/-- the diagram of a line CODE -/
def cdL (nuv : Nat → Int) : Nat → Int := fun q => nuv (5 * (q / 4) + 1 + q % 4)
def cdS (nuv : Nat → Int) : Nat → Int := fun c => nuv (5 * c)
def cdD (n : Nat) (nuv : Nat → Int) : Dg := (n, nuv (5 * n), cdL nuv, cdS nuv)
/-- a line CODE as it is read: signs, labels, circles -/
def lnCode (m n : Nat) (nuv : Nat → Int) : Prop := m = 5 * n + 1 ∧ n ≤ 20 ∧ (∀ c, c < n → nuv (5 * c) = 1 ∨ nuv (5 * c) = -1) ∧ (∀ i, i < m → i % 5 ≠ 0 ∨ i = 5 * n → 0 ≤ nuv i ∧ nuv i ≤ 9999)
def good0z (n : Nat) (nuv : Nat → Int) : Prop := (∀ q, q < 4 * n → cdL nuv q ≠ 0) ∧ nuv (5 * n) ≤ 20
section
variable {count done next : Int} {start value begins numbers nuv : Nat → Int} {m n : Nat}
theorem ln_b (h : lnCode m n nuv) : nmB m nuv := fun i hi => by
  obtain ⟨h1, h2, h3, h4⟩ := h
  by_cases w : i % 5 = 0 ∧ i < 5 * n
  · have := h3 (i / 5) (by omega)
    rw [show 5 * (i / 5) = i by omega] at this; omega
  · have := h4 i hi (by omega); omega
theorem cs47 (fl : Nat) (h : LnC count done start value m nuv) (hL : lnCode m n nuv) {c : Nat} (hc : c < n) (kb : Int → Int → Int → Int → Int → Int → (Nat → Int) → (Nat → Int) → Option (Int × Int × Int × Int × (Nat → Int) × (Nat → Int))) (x2 n0 ci kn : Int) (hn0 : -100 ≤ n0 ∧ n0 ≤ 100) (S : Nat → Int) :
    ∀ (r nn q : Nat) (g : Int) (A : Nat → Int), q + r = 4 → r < nn → (g = 1 ∨ g = 0) → like (4 * c + q) A (cdL nuv) → (g = 1 ↔ ∀ y, y < 4 * c + q → cdL nuv y ≠ 0) →
    ∃ g' A', LB_Di_setCode_47 fl count done start value kb nn x2 g (c : Int) (q : Int) n0 ci kn A S = kb x2 g' ((c : Int) + 1) (n0 + 1) ci kn A' S ∧ (g' = 1 ∨ g' = 0) ∧ like (4 * c + 4) A' (cdL nuv) ∧ (g' = 1 ↔ ∀ y, y < 4 * c + 4 → cdL nuv y ≠ 0) := by
  have hb := ln_b hL
  have hn := hL.2.1
  have hm := hL.1
  intro r
  induction r with
  | zero =>
    intro nn q g A hr hnn hg hA hgg
    obtain ⟨nn, rfl⟩ : ∃ r, nn = r + 1 := ⟨nn - 1, by omega⟩
    have : q = 4 := by omega
    subst this
    rw [LB_Di_setCode_47, if_pos (by omega), if_pos (by omega)]
    exact ⟨g, A, rfl, hg, hA, hgg⟩
  | succ r ih =>
    intro nn q g A hr hnn hg hA hgg
    obtain ⟨nn, rfl⟩ : ∃ r, nn = r + 1 := ⟨nn - 1, by omega⟩
    have ei : 5 * (c : Int) + 1 + (q : Int) = ((5 * c + 1 + q : Nat) : Int) := by omega
    have bi := hb (5 * c + 1 + q) (by omega)
    have el : cdL nuv (4 * c + q) = nuv (5 * c + 1 + q) := by unfold cdL; rw [show (4 * c + q) / 4 = c by omega, show (4 * c + q) % 4 = q by omega]
    rw [LB_Di_setCode_47, if_neg (by omega), if_pos (by omega), ei, C_num fl h (show 5 * c + 1 + q < m by omega) (by omega), Option.bind_some, if_pos (by omega), if_pos (by omega), show Int.toNat (4 * (c : Int) + (q : Int)) = 4 * c + q by omega, up_eq, ← el]
    have hA' : like (4 * c + (q + 1)) (up A (4 * c + q) (cdL nuv (4 * c + q))) (cdL nuv) := fun y hy => by
      by_cases w : y = 4 * c + q
      · rw [w, up_eq]
      · rw [up_ne _ _ w]; exact hA y (by omega)
    unfold LB_Di_setCode_101 LB_Di_setCode_102
    simp only [if_pos (show (-2147483648 ≤ (q : Int) + 1 ∧ (q : Int) + 1 < 2147483648) by omega)]
    rw [show ((q : Int) + 1) = ((q + 1 : Nat) : Int) by omega]
    by_cases c1 : g = 0
    · rw [if_pos c1]
      refine ih nn (q + 1) 0 _ (by omega) (by omega) (Or.inr rfl) hA' ?_
      constructor
      · intro w; omega
      · intro w; have := hgg.2 (fun y hy => w y (by omega)); omega
    · rw [if_neg c1]
      by_cases c2 : cdL nuv (4 * c + q) = 0
      · rw [if_pos c2]
        refine ih nn (q + 1) 0 _ (by omega) (by omega) (Or.inr rfl) hA' ?_
        constructor
        · intro w; omega
        · intro w; exact absurd c2 (w _ (by omega))
      · rw [if_neg c2]
        refine ih nn (q + 1) 1 _ (by omega) (by omega) (Or.inl rfl) hA' ⟨fun _ y hy => ?_, fun _ => rfl⟩
        by_cases w : y = 4 * c + q
        · rw [w]; exact c2
        · exact hgg.1 (by omega) y (by omega)
theorem cs16 (fl : Nat) (hfl : 200 ≤ fl) (h : LnC count done start value m nuv) (hL : lnCode m n nuv) (kn : Int) :
    ∀ (r nn c : Nat) (g : Int) (A S : Nat → Int), c + r = n → r < nn → (g = 1 ∨ g = 0) → like (4 * c) A (cdL nuv) → like c S (cdS nuv) → (g = 1 ↔ ∀ y, y < 4 * c → cdL nuv y ≠ 0) →
    ∃ b A' S', LB_Di_setCode_16 fl count done start value nn (n : Int) g (c : Int) (c : Int) 0 kn A S = some (b, (n : Int), nuv (5 * n), kn, A', S') ∧ DA (cdD n nuv) (n : Int) (nuv (5 * n)) A' S' ∧ (b = 1 ∧ good0z n nuv ∨ b = 0 ∧ ¬ good0z n nuv) := by
  have hb := ln_b hL
  have hn := hL.2.1
  have hm := hL.1
  intro r
  induction r with
  | zero =>
    intro nn c g A S hr hnn hg hA hS hgg
    obtain ⟨nn, rfl⟩ : ∃ r, nn = r + 1 := ⟨nn - 1, by omega⟩
    have : c = n := by omega
    subst this
    have bi := hb (5 * c) (by omega)
    rw [LB_Di_setCode_16, if_pos (by omega)]
    unfold LB_Di_setCode_125
    rw [if_pos (by omega), show 5 * (c : Int) = ((5 * c : Nat) : Int) by omega, C_num fl h (show 5 * c < m by omega) (by omega), Option.bind_some]
    have D : DA (cdD c nuv) (c : Int) (nuv (5 * c)) A S := ⟨rfl, rfl, hA, hS⟩
    by_cases c1 : g = 0
    · rw [if_pos c1]
      exact ⟨0, A, S, rfl, D, Or.inr ⟨rfl, fun w => by have := hgg.2 w.1; omega⟩⟩
    · rw [if_neg c1]
      by_cases c2 : 20 < nuv (5 * c)
      · rw [if_pos c2]
        exact ⟨0, A, S, rfl, D, Or.inr ⟨rfl, fun w => by have := w.2; omega⟩⟩
      · rw [if_neg c2]
        exact ⟨1, A, S, rfl, D, Or.inl ⟨rfl, hgg.1 (by omega), by omega⟩⟩
  | succ r ih =>
    intro nn c g A S hr hnn hg hA hS hgg
    obtain ⟨nn, rfl⟩ : ∃ r, nn = r + 1 := ⟨nn - 1, by omega⟩
    have bi := hb (5 * c) (by omega)
    rw [LB_Di_setCode_16, if_neg (by omega), if_neg (by omega), if_pos (by omega), show 5 * (c : Int) = ((5 * c : Nat) : Int) by omega, C_num fl h (show 5 * c < m by omega) (by omega), Option.bind_some, if_pos (by omega), Int.toNat_natCast]
    obtain ⟨g', A1, e1, e2, e3, e4⟩ := cs47 fl h hL (show c < n by omega) (LB_Di_setCode_16 fl count done start value nn) (n : Int) (c : Int) 0 kn (by omega) (up S c (nuv (5 * c))) 4 fl 0 g A (by omega) (by omega) hg hA hgg
    rw [show ((0 : Nat) : Int) = 0 from rfl] at e1
    rw [e1, show ((c : Int) + 1) = ((c + 1 : Nat) : Int) by omega]
    refine ih nn (c + 1) g' A1 _ (by omega) (by omega) e2 (by rw [show 4 * (c + 1) = 4 * c + 4 by omega]; exact e3) (fun y hy => ?_) (by rw [show 4 * (c + 1) = 4 * c + 4 by omega]; exact e4)
    by_cases w : y = c
    · rw [w, up_eq]; rfl
    · rw [up_ne _ _ w]; exact hS y (by omega)
theorem C_setCode (fl : Nat) (hfl : 200 ≤ fl) (h : LnC count done start value m nuv) (hL : lnCode m n nuv) (n0 c0 k0 : Int) (A S : Nat → Int) :
    ∃ b A' S', LM_Di_setCode fl count done start value n0 c0 k0 A S = some (b, (n : Int), nuv (5 * n), 0, A', S') ∧ DA (cdD n nuv) (n : Int) (nuv (5 * n)) A' S' ∧ (b = 1 ∧ good0z n nuv ∨ b = 0 ∧ ¬ good0z n nuv) := by
  have hn := hL.2.1
  have hm := hL.1
  unfold LM_Di_setCode LB_Di_setCode_0
  rw [show LM_Di_clear fl n0 c0 k0 = some (0, 0, 0) from rfl, Option.bind_some, C_nums fl h, Option.bind_some, if_pos (by decide)]
  have et : Int.tdiv (m : Int) 5 = (n : Int) := by rw [Int.tdiv_eq_ediv_of_nonneg (by omega)]; omega
  rw [et, if_pos (by omega)]
  exact cs16 fl hfl h hL 0 n fl 0 1 A S (by omega) (by omega) (Or.inl rfl) (fun y hy => by omega) (fun y hy => by omega) ⟨fun _ y hy => by omega, fun _ => rfl⟩
/-- what a line CODE says, and what it leaves -/
def noRL (r l : Int) : List Int := lit 68 ++ ((32 :: num r) ++ ((32 :: num l) ++ [10]))
end
