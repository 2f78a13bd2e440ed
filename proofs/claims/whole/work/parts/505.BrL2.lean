/-- one round over the places i: every crossing that canz go, goes -/
theorem sc61 (fl : Nat) {n m j : Nat} (hn : n ≤ 8) (hj : j + 1 < m) (hm : m ≤ 21) (kb : Int → Int → Int → Int → Int → (Nat → Int) → (Nat → Int) → Option (Int × (Nat → Int) × (Nat → Int))) :
    ∀ (d nn i : Nat) (x3 x4 x5 : Int) (en im : Nat → Int) (X : Rowz), i + 1 + d = n → d < nn → (-100 ≤ x5 ∧ x5 < 100) → (∀ a, okN n (X a)) → (∀ p, p < n → en p = ((X j).2 p : Int)) → Img n m im X →
    ∃ k en' im' Y, LB_Br_shiftCrossings_61 fl (n : Int) kb nn ((8 * j : Nat) : Int) ((8 * j : Nat) + 8 : Int) x3 x4 x5 (i : Int) en im = kb ((8 * j : Nat) : Int) ((8 * j : Nat) + 8 : Int) (if k = 0 then x3 else 1) (if k = 0 then x4 else 1) (x5 + 1) en' im'
      ∧ Atz n j k X Y ∧ (∀ a, okN n (Y a)) ∧ (∀ p, p < n → en' p = ((Y j).2 p : Int)) ∧ Img n m im' Y ∧ (k = 0 → ∀ q, i ≤ q → q + 1 < n → ¬ canz (X j) (X (j + 1)) q) := by
  intro d
  induction d with
  | zero =>
    intro nn i x3 x4 x5 en im X hd hnn h5 o hen him
    obtain ⟨nn, rfl⟩ : ∃ r, nn = r + 1 := ⟨nn - 1, by omega⟩
    rw [LB_Br_shiftCrossings_61, if_pos (by omega), if_pos (by omega), if_pos (by omega)]
    exact ⟨0, en, im, X, rfl, rfl, o, hen, him, fun _ q h1 h2 => by omega⟩
  | succ d ih =>
    intro nn i x3 x4 x5 en im X hd hnn h5 o hen him
    obtain ⟨nn, rfl⟩ : ∃ r, nn = r + 1 := ⟨nn - 1, by omega⟩
    have e1 : Int.toNat ((i : Int) + 1) = i + 1 := by omega
    have e4 : Int.toNat (((8 * j : Nat) : Int) + 8 + (i : Int)) = 8 * (j + 1) + i := by omega
    have e5 : Int.toNat (((8 * j : Nat) : Int) + 8 + (i : Int) + 1) = 8 * (j + 1) + (i + 1) := by omega
    rw [LB_Br_shiftCrossings_61, if_pos (by omega), if_neg (by omega), if_pos (by omega), if_pos (by omega)]
    unfold LB_Br_shiftCrossings_127
    rw [e4, e5, e1, Int.toNat_natCast, him (j + 1) i hj (by omega), him (j + 1) (i + 1) hj (by omega), hen i (by omega), hen (i + 1) (by omega)]
    by_cases c1 : (X (j + 1)).1 (i + 1) < (X (j + 1)).1 i
    · rw [if_neg (by omega), if_pos (by omega), if_pos (by omega)]
      by_cases c2 : (X j).2 i < (X j).2 (i + 1)
      · rw [if_neg (by omega)]
        obtain ⟨en1, im1, h1, h2, h3⟩ := mv_pass fl hn (show i + 1 < n by omega) hj hm o hen him
        rw [h1, Option.bind_some]
        dsimp only
        rw [if_pos (by omega)]
        have o1 := okN_pass (j := j) (show i + 1 < n by omega) o
        obtain ⟨k, en', im', Y, g1, g2, g3, g4, g5, g6⟩ := ih nn (i + 1) 1 1 x5 en1 im1 (passz j i X) (by omega) (by omega) h5 o1 h2 h3
        refine ⟨k + 1, en', im', Y, ?_, ⟨i, by omega, ⟨c2, c1⟩, g2⟩, g3, g4, g5, fun w => by omega⟩
        rw [show ((i : Int) + 1) = ((i + 1 : Nat) : Int) by omega, g1]
        simp only [ite_self, if_neg (Nat.succ_ne_zero k)]
      · rw [if_pos (by omega), if_pos (by omega)]
        obtain ⟨k, en', im', Y, g1, g2, g3, g4, g5, g6⟩ := ih nn (i + 1) x3 x4 x5 en im X (by omega) (by omega) h5 o hen him
        refine ⟨k, en', im', Y, ?_, g2, g3, g4, g5, fun w q q1 q2 => ?_⟩
        · rw [show ((i : Int) + 1) = ((i + 1 : Nat) : Int) by omega, g1]
        · by_cases q3 : q = i
          · subst q3; intro c; exact c2 c.1
          · exact g6 w q (by omega) q2
    · rw [if_pos (by omega), if_pos (by omega)]
      obtain ⟨k, en', im', Y, g1, g2, g3, g4, g5, g6⟩ := ih nn (i + 1) x3 x4 x5 en im X (by omega) (by omega) h5 o hen him
      refine ⟨k, en', im', Y, ?_, g2, g3, g4, g5, fun w q q1 q2 => ?_⟩
      · rw [show ((i : Int) + 1) = ((i + 1 : Nat) : Int) by omega, g1]
      · by_cases q3 : q = i
        · subst q3; intro c; exact c1 c.2
        · exact g6 w q (by omega) q2
theorem At_add {n j : Nat} : ∀ {a b : Nat} {X Y Z : Rowz}, Atz n j a X Y → Atz n j b Y Z → Atz n j (a + b) X Z := by
  intro a
  induction a with
  | zero => intro b X Y Z h k; cases h; rw [Nat.zero_add]; exact k
  | succ a ih =>
    intro b X Y Z h k
    obtain ⟨i, hi, c, h⟩ := h
    rw [Nat.succ_add]
    exact ⟨i, hi, c, ih h k⟩
/-- rounds as long as something moves -/
theorem sc43 (fl : Nat) {n m j : Nat} (hn : n ≤ 8) (hn1 : 1 ≤ n) (hj : j + 1 < m) (hm : m ≤ 21) (hfl : 100 ≤ fl) :
    ∀ (d nn : Nat) (x3 x4 x5 : Int) (en im : Nat → Int) (X : Rowz), inv8 (X (j + 1)).1 ≤ d → d + 1 < nn → (0 ≤ x5 ∧ x5 + d < 60) → (x3 = 0 ∨ x3 = 1) → (x4 = 0 → nrmAt n X j) → (∀ a, okN n (X a)) → (∀ p, p < n → en p = ((X j).2 p : Int)) → Img n m im X →
    ∃ k en' im' Y, LB_Br_shiftCrossings_43 fl (n : Int) nn ((8 * j : Nat) : Int) ((8 * j : Nat) + 8 : Int) x3 x4 x5 en im = some (if k = 0 then x3 else 1, en', im')
      ∧ Atz n j k X Y ∧ nrmAt n Y j ∧ (∀ a, okN n (Y a)) ∧ Img n m im' Y := by
  intro d
  induction d using Nat.strongRecOn with
  | _ d ih =>
    intro nn x3 x4 x5 en im X hd hnn h5 h3 h4 o hen him
    obtain ⟨nn, rfl⟩ : ∃ r, nn = r + 1 := ⟨nn - 1, by omega⟩
    rw [LB_Br_shiftCrossings_43, if_neg (by omega)]
    by_cases q4 : x4 = 0
    · rw [if_pos q4, if_pos h3]
      exact ⟨0, en, im, X, rfl, rfl, h4 q4, o, him⟩
    · rw [if_neg q4]
      obtain ⟨k, en1, im1, Y, g1, g2, g3, g4, g5, g6⟩ := sc61 fl hn hj hm (LB_Br_shiftCrossings_43 fl (n : Int) nn) (n - 1) fl 0 x3 0 x5 en im X (by omega) (by omega) (by omega) o hen him
      rw [show ((0 : Nat) : Int) = 0 from rfl] at g1
      rw [g1]
      by_cases k0 : k = 0
      · subst k0
        cases g2
        obtain ⟨nn, rfl⟩ : ∃ r, nn = r + 1 := ⟨nn - 1, by omega⟩
        rw [LB_Br_shiftCrossings_43, if_neg (by omega), if_pos (by rw [if_pos rfl]), if_pos (by rw [if_pos rfl]; exact h3)]
        exact ⟨0, en1, im1, X, rfl, rfl, fun i hi c => g6 rfl i (Nat.zero_le i) hi c, o, g5⟩
      · have iv := At_inv hn g2
        obtain ⟨k2, en2, im2, Z, f1, f2, f3, f4, f5⟩ := ih (d - 1) (by omega) nn 1 1 (x5 + 1) en1 im1 Y (by omega) (by omega) (by omega) (Or.inr rfl) (fun w => by omega) g3 g4 g5
        rw [if_neg k0, if_neg k0, f1]
        refine ⟨k + k2, en2, im2, Z, ?_, At_add g2 f2, f3, f4, f5⟩
        rw [if_neg (show k + k2 ≠ 0 by omega)]
        simp only [ite_self]
/-- where each strand began -/
theorem sc7 (fl : Nat) {n m j : Nat} (hn : n ≤ 8) (hj : j + 1 < m) (hm : m ≤ 21) :
    ∀ (d nn i : Nat) (en im : Nat → Int) (X : Rowz), i + d = n → d < nn → (∀ a, okN n (X a)) → (∀ p, p < i → en ((X j).1 p) = (p : Int)) → Img n m im X →
    ∃ en', LB_Br_shiftCrossings_7 fl (n : Int) nn ((8 * j : Nat) : Int) ((8 * j : Nat) + 8 : Int) (i : Int) en im = LB_Br_shiftCrossings_43 fl (n : Int) fl ((8 * j : Nat) : Int) ((8 * j : Nat) + 8 : Int) 0 1 0 en' im ∧ (∀ p, p < n → en' p = ((X j).2 p : Int)) := by
  intro d
  induction d with
  | zero =>
    intro nn i en im X hd hnn o hen him
    obtain ⟨nn, rfl⟩ : ∃ r, nn = r + 1 := ⟨nn - 1, by omega⟩
    rw [LB_Br_shiftCrossings_7, if_pos (by omega)]
    refine ⟨en, rfl, fun p hp => ?_⟩
    have := hen ((X j).2 p) (by have := (((o j).2 p).1 hp).2; omega)
    rwa [(o j).1.2] at this
  | succ d ih =>
    intro nn i en im X hd hnn o hen him
    obtain ⟨nn, rfl⟩ : ∃ r, nn = r + 1 := ⟨nn - 1, by omega⟩
    have e1 : Int.toNat (((8 * j : Nat) : Int) + (i : Int)) = 8 * j + i := by omega
    have b1 := (((o j).2 i).1 (by omega)).1
    rw [LB_Br_shiftCrossings_7, if_neg (by omega), if_pos (by omega)]
    simp only [e1, him j i (by omega) (show i < n by omega), Int.toNat_natCast]
    rw [if_pos (by omega), if_pos (by omega), show ((i : Int) + 1) = ((i + 1 : Nat) : Int) by omega]
    refine ih nn (i + 1) _ im X (by omega) (by omega) o ?_ him
    intro p hp
    by_cases p1 : p = i
    · subst p1; exact up_eq _ _ _
    · rw [up_ne _ _ (fun w => p1 (inv1 (o j).1 w))]; exact hen p (by omega)
theorem shiftz (fl : Nat) {n m j : Nat} (hn : n ≤ 8) (hn1 : 1 ≤ n) (hj : j + 1 < m) (hm : m ≤ 21) (hfl : 100 ≤ fl) (en im : Nat → Int) (X : Rowz) (o : ∀ a, okN n (X a)) (him : Img n m im X) :
    ∃ k en' im' Y, LM_Br_shiftCrossings fl (n : Int) ((8 * j : Nat) : Int) en im = some (if k = 0 then 0 else 1, en', im') ∧ Atz n j k X Y ∧ nrmAt n Y j ∧ (∀ a, okN n (Y a)) ∧ Img n m im' Y ∧ k ≤ 28 := by
  unfold LM_Br_shiftCrossings LB_Br_shiftCrossings_0
  rw [if_pos (by omega)]
  obtain ⟨en1, h1, h2⟩ := sc7 fl hn hj hm n fl 0 en im X (by omega) (by omega) o (fun p hp => by omega) him
  rw [show ((0 : Nat) : Int) = 0 from rfl] at h1
  rw [h1]
  have h28 := inv8_le (X (j + 1)).1
  obtain ⟨k, en', im', Y, g1, g2, g3, g4, g5⟩ := sc43 fl hn hn1 hj hm hfl 28 fl 0 1 0 en1 im X h28 (by omega) (by omega) (Or.inl rfl) (fun w => by omega) o h2 him
  exact ⟨k, en', im', Y, g1, g2, g3, g4, g5, by have := At_inv hn g2; omega⟩
