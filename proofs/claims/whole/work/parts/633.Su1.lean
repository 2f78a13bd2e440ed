theorem td9 {v : Int} (h : -1000000000000000000 < v ∧ v < 1000000000000000000) : ∃ q r, Int.tdiv v 1000000000 = q ∧ Int.tmod v 1000000000 = r ∧ v = 1000000000 * q + r ∧ (-1000000000 ≤ q ∧ q ≤ 1000000000) ∧ (-1000000000 < r ∧ r < 1000000000) := by
  by_cases c : 0 ≤ v
  · refine ⟨v / 1000000000, v % 1000000000, Int.tdiv_eq_ediv_of_nonneg c, Int.tmod_eq_emod_of_nonneg c, by omega, by omega, by omega⟩
  · have e : v = -(-v) := by omega
    refine ⟨-((-v) / 1000000000), -((-v) % 1000000000), ?_, ?_, by omega, by omega, by omega⟩
    · conv => lhs; rw [e]
      rw [Int.neg_tdiv, Int.tdiv_eq_ediv_of_nonneg (by omega)]
    · conv => lhs; rw [e]
      rw [Int.neg_tmod, Int.tmod_eq_emod_of_nonneg (by omega)]
/-- the sum of the coefficients given with exponent e, terms i to i + d -/
def smE (nuv : Nat → Int) (e : Int) : Nat → Nat → Int
  | 0, _ => 0
  | d + 1, i => (if nuv (2 * i + 1) = e then nuv (2 * i) else 0) + smE nuv e d (i + 1)
/-- a line's numbers that are terms -/
def trB (p : Nat) (nuv : Nat → Int) : Prop := p ≤ 64 ∧ ∀ i, i < p → (-1000000000000000000 < nuv (2 * i) ∧ nuv (2 * i) < 1000000000000000000) ∧ (-9999 ≤ nuv (2 * i + 1) ∧ nuv (2 * i + 1) ≤ 9999)
theorem su9 (fl : Nat) {count done : Int} {start value nuv : Nat → Int} {p : Nat} (h : LnC count done start value (2 * p) nuv) (hb : trB p nuv) {ra si : Int} {te : Nat → Int} {c : Int → Int} (hc : PolC ra si te c) (x2 e : Int) :
    ∀ (d nn i : Nat) (x5 x7 : Int), i + d = p → d < nn → (-((i : Int) * 1000000000) ≤ x5 ∧ x5 ≤ (i : Int) * 1000000000) → (-((i : Int) * 1000000000) ≤ x7 ∧ x7 ≤ (i : Int) * 1000000000) →
    LB_Po_isSumAt_9 fl ra si te count done start value nn x2 (p : Int) e x5 x7 (i : Int) = some (if c e = 1000000000 * x5 + x7 + smE nuv e d i then 1 else 0) := by
  have hp := hb.1
  have hcb := C_bnd hc e
  intro d
  induction d with
  | zero =>
    intro nn i x5 x7 hi hnn h5 h7
    obtain ⟨nn, rfl⟩ : ∃ r, nn = r + 1 := ⟨nn - 1, by omega⟩
    obtain ⟨q, r, t1, t2, t3, t4, t5⟩ := td9 (v := c e - x7) (by omega)
    rw [LB_Po_isSumAt_9, if_pos (by omega), C_coef fl hc, Option.bind_some, if_pos (by decide), if_pos (by omega), t1, t2]
    show _ = some (if c e = 1000000000 * x5 + x7 + 0 then 1 else 0)
    by_cases c1 : r = 0
    · rw [if_neg (fun g => g c1), if_pos (by omega)]
      by_cases c2 : q = x5
      · rw [if_neg (fun g => g c2), if_pos (by omega)]
      · rw [if_pos c2, if_neg (by omega)]
    · rw [if_pos c1, if_neg (by omega)]
  | succ d ih =>
    intro nn i x5 x7 hi hnn h5 h7
    obtain ⟨nn, rfl⟩ : ∃ r, nn = r + 1 := ⟨nn - 1, by omega⟩
    have hbi := hb.2 i (by omega)
    obtain ⟨q, r, t1, t2, t3, t4, t5⟩ := td9 hbi.1
    have en : LM_Li_number fl count done start value (2 * (i : Int) + 1) = some (nuv (2 * i + 1)) := by
      have := C_num fl h (i := 2 * i + 1) (by omega) (by omega)
      rw [show ((2 * i + 1 : Nat) : Int) = 2 * (i : Int) + 1 by omega] at this
      exact this
    have el : LM_Li_longNumber fl count done start value (2 * (i : Int)) = some (nuv (2 * i)) := by
      have := C_long fl h (i := 2 * i) (by omega)
      rw [show ((2 * i : Nat) : Int) = 2 * (i : Int) by omega] at this
      exact this
    rw [LB_Po_isSumAt_9, if_neg (by omega), if_pos (by omega), en, Option.bind_some]
    unfold LB_Po_isSumAt_62
    show _ = some (if c e = 1000000000 * x5 + x7 + ((if nuv (2 * i + 1) = e then nuv (2 * i) else 0) + smE nuv e d (i + 1)) then 1 else 0)
    by_cases c1 : nuv (2 * i + 1) = e
    · rw [if_neg (fun g => g c1), el, Option.bind_some, if_pos (by decide), t1, t2, if_pos (by omega), if_pos (by omega), show ((i : Int) + 1) = ((i + 1 : Nat) : Int) by omega, ih nn (i + 1) (x5 + q) (x7 + r) (by omega) (by omega) (by omega) (by omega), if_pos c1]
      rw [show 1000000000 * (x5 + q) + (x7 + r) + smE nuv e d (i + 1) = 1000000000 * x5 + x7 + (nuv (2 * i) + smE nuv e d (i + 1)) by omega]
    · rw [if_pos c1, if_pos (by omega), show ((i : Int) + 1) = ((i + 1 : Nat) : Int) by omega, ih nn (i + 1) x5 x7 (by omega) (by omega) (by omega) (by omega), if_neg c1, Int.zero_add]
theorem C_sumAt (fl : Nat) (hfl : 2000 ≤ fl) {count done : Int} {start value nuv : Nat → Int} {p : Nat} (h : LnC count done start value (2 * p) nuv) (hb : trB p nuv) {ra si : Int} {te : Nat → Int} {c : Int → Int} (hc : PolC ra si te c) (e : Int) {i : Nat} (hi : i ≤ p) : LM_Po_isSumAt fl ra si te count done start value (i : Int) (p : Int) e = some (if c e = smE nuv e (p - i) i then 1 else 0) := by
  have hp := hb.1
  have := su9 fl h hb hc (i : Int) e (p - i) fl i 0 0 (by omega) (by omega) (by omega) (by omega)
  unfold LM_Po_isSumAt LB_Po_isSumAt_0
  rw [this, show 1000000000 * (0 : Int) + 0 + smE nuv e (p - i) i = smE nuv e (p - i) i by omega]
theorem su2 (fl : Nat) {count done : Int} {start value nuv : Nat → Int} {p : Nat} (h : LnC count done start value (2 * p) nuv) (hb : trB p nuv) {i : Nat} (hi : i ≤ p) (e : Int) :
    ∀ (d nn j : Nat), j + d = i → d < nn → LB_Po_isFirstOf_2 fl count done start value nn (i : Int) e (j : Int) = some (if ∀ t, t < d → nuv (2 * (j + t) + 1) ≠ e then 1 else 0) := by
  have hp := hb.1
  intro d
  induction d with
  | zero =>
    intro nn j hj hnn
    obtain ⟨nn, rfl⟩ : ∃ r, nn = r + 1 := ⟨nn - 1, by omega⟩
    rw [LB_Po_isFirstOf_2, if_pos (by omega), if_pos (fun t ht => by omega)]
  | succ d ih =>
    intro nn j hj hnn
    obtain ⟨nn, rfl⟩ : ∃ r, nn = r + 1 := ⟨nn - 1, by omega⟩
    have hbi := hb.2 j (by omega)
    have en : LM_Li_number fl count done start value (2 * (j : Int) + 1) = some (nuv (2 * j + 1)) := by
      have := C_num fl h (i := 2 * j + 1) (by omega) (by omega)
      rw [show ((2 * j + 1 : Nat) : Int) = 2 * (j : Int) + 1 by omega] at this
      exact this
    rw [LB_Po_isFirstOf_2, if_neg (by omega), if_pos (by omega), en, Option.bind_some]
    by_cases c1 : nuv (2 * j + 1) = e
    · rw [if_neg (fun g => g c1), if_neg (fun g => g 0 (by omega) c1)]
    · rw [if_pos c1, if_pos (by omega), show ((j : Int) + 1) = ((j + 1 : Nat) : Int) by omega, ih nn (j + 1) (by omega) (by omega)]
      by_cases g : ∀ t, t < d → nuv (2 * (j + 1 + t) + 1) ≠ e
      · rw [if_pos g, if_pos (fun t ht => by
          cases t with
          | zero => exact c1
          | succ t => have := g t (by omega); rw [show j + 1 + t = j + (t + 1) by omega] at this; exact this)]
      · rw [if_neg g, if_neg (fun w => g (fun t ht => by have := w (t + 1) (by omega); rw [show j + (t + 1) = j + 1 + t by omega] at this; exact this))]
theorem C_first (fl : Nat) (hfl : 2000 ≤ fl) {count done : Int} {start value nuv : Nat → Int} {p : Nat} (h : LnC count done start value (2 * p) nuv) (hb : trB p nuv) {i : Nat} (hi : i ≤ p) (e : Int) : LM_Po_isFirstOf fl count done start value (i : Int) e = some (if ∀ t, t < i → nuv (2 * t + 1) ≠ e then 1 else 0) := by
  have hp := hb.1
  have := su2 fl h hb hi e i fl 0 (by omega) (by omega)
  unfold LM_Po_isFirstOf LB_Po_isFirstOf_0
  rw [show ((0 : Nat) : Int) = 0 from rfl] at this
  rw [this]
  by_cases g : ∀ t, t < i → nuv (2 * t + 1) ≠ e
  · rw [if_pos g, if_pos (fun t ht => by rw [Nat.zero_add]; exact g t ht)]
  · rw [if_neg g, if_neg (fun w => g (fun t ht => by have := w t ht; rw [Nat.zero_add] at this; exact this))]
