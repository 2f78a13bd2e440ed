theorem at3 (fl : Nat) {to_ fr_ : Nat} (ht : to_ < 2048) (hf : fr_ < 2048) (hne : to_ ≠ fr_) {s : Int} (hs : s = 1 ∨ s = -1) {cell : Nat} (hc : cell < 200) {hi lo : Nat → Int} (bl : -2 ≤ lo cell ∧ lo cell ≤ 2) (bh : -2 ≤ hi cell ∧ hi cell ≤ 2) {p T : Nat → Int} (bp : ∀ k, k < 12 → -10000000 ≤ p k ∧ p k ≤ 10000000) (bT : ∀ k, k < 12 → -10000000000 ≤ T k ∧ T k ≤ 10000000000) :
    ∀ (r nn i : Nat) (M : Nat → Int), i + r = 12 → r < nn → (∀ k, k < 12 → M (12 * fr_ + k) = p k) → (∀ k, k < 12 → M (12 * to_ + k) = T k + s * (lo cell * pA p i k + hi cell * pB p i k)) →
    ∃ M', LB_Md_addTimes_3 fl hi lo nn (to_ : Int) (fr_ : Int) s (cell : Int) (i : Int) M = some M' ∧ (∀ k, k < 12 → M' (12 * to_ + k) = T k + s * (lo cell * pA p 12 k + hi cell * pB p 12 k)) ∧ (∀ q, (q < 12 * to_ ∨ 12 * to_ + 12 ≤ q) → M' q = M q) := by
  obtain ⟨a, ha⟩ : ∃ a, a = lo cell := ⟨_, rfl⟩
  obtain ⟨b, hb⟩ : ∃ b, b = hi cell := ⟨_, rfl⟩
  rw [← ha] at bl
  rw [← hb] at bh
  have mulb : ∀ x y : Int, -2 ≤ x ∧ x ≤ 2 → ∀ B : Int, 0 ≤ B → -B ≤ y ∧ y ≤ B → -(2 * B) ≤ x * y ∧ x * y ≤ 2 * B := fun x y hx B hB hy => by
    have : x = -2 ∨ x = -1 ∨ x = 0 ∨ x = 1 ∨ x = 2 := by omega
    rcases this with e | e | e | e | e <;> rw [e] <;> omega
  intro r
  induction r with
  | zero =>
    intro nn i M hr hnn h1 h2
    obtain ⟨nn, rfl⟩ : ∃ r, nn = r + 1 := ⟨nn - 1, by omega⟩
    rw [LB_Md_addTimes_3, if_pos (by omega)]
    have : i = 12 := by omega
    subst this
    exact ⟨M, rfl, h2, fun q _ => rfl⟩
  | succ r ih =>
    intro nn i M hr hnn h1 h2
    obtain ⟨nn, rfl⟩ : ∃ r, nn = r + 1 := ⟨nn - 1, by omega⟩
    have a0 := h1 i (by omega)
    have a1 := h2 i (by omega)
    rw [← ha, ← hb] at a1
    have b0 := bp i (by omega)
    have bT0 := bT i (by omega)
    have z1 : pA p i i = 0 := if_neg (by omega)
    have z4 : -10000000 ≤ pB p i i ∧ pB p i i ≤ 10000000 := by
      unfold pB; split
      · exact bp _ (by omega)
      · omega
    rw [z1] at a1
    have m1 := mulb a (p i) bl 10000000 (by omega) b0
    have m2 := mulb b (p i) bh 10000000 (by omega) b0
    have m3 := mulb b (pB p i i) bh 10000000 (by omega) z4
    have t1 : Int.toNat (12 * (fr_ : Int) + (i : Int)) = 12 * fr_ + i := by omega
    have t2 : Int.toNat (12 * (to_ : Int) + (i : Int)) = 12 * to_ + i := by omega
    have t3 : Int.toNat (12 * (to_ : Int) + (i : Int) + 1) = 12 * to_ + (i + 1) := by omega
    have sa : s * a * p i = s * (a * p i) := Int.mul_assoc _ _ _
    have sb : s * b * p i = s * (b * p i) := Int.mul_assoc _ _ _
    have key : ∀ (M2 : Nat → Int), (∀ q, q ≠ 12 * to_ + i → q ≠ 12 * to_ + (i + 1) → M2 q = M q) → M2 (12 * to_ + i) = M (12 * to_ + i) + s * (a * p i) → (i + 1 < 12 → M2 (12 * to_ + (i + 1)) = M (12 * to_ + (i + 1)) + s * (b * p i)) → (i + 1 = 12 → M2 (12 * to_ + (i + 1)) = M (12 * to_ + (i + 1))) → (∀ k, k < 12 → M2 (12 * fr_ + k) = p k) ∧ (∀ k, k < 12 → M2 (12 * to_ + k) = T k + s * (lo cell * pA p (i + 1) k + hi cell * pB p (i + 1) k)) ∧ ∀ q, (q < 12 * to_ ∨ 12 * to_ + 12 ≤ q) → M2 q = M q := fun M2 k0 k1 k2 k3 => by
      rw [← ha, ← hb]
      refine ⟨fun k hk => ?_, fun k hk => ?_, fun q hq => ?_⟩
      · by_cases e : 12 * fr_ + k = 12 * to_ + (i + 1)
        · rw [e, k3 (by omega), ← e]; exact h1 k hk
        · rw [k0 _ (by omega) e]; exact h1 k hk
      · by_cases e1 : k = i + 1
        · subst e1
          have y1 : pA p (i + 1) (i + 1) = 0 := if_neg (by omega)
          have y2 : pB p (i + 1) (i + 1) = p i := by unfold pB; rw [if_pos (by omega)]; rfl
          have y3 : pA p i (i + 1) = 0 := if_neg (by omega)
          have y4 : pB p i (i + 1) = 0 := if_neg (by omega)
          have a2 := h2 (i + 1) hk
          rw [k2 hk, a2, y1, y2, y3, y4]; grind
        · by_cases e2 : k = i
          · subst e2
            have y1 : pA p (k + 1) k = p k := if_pos (by omega)
            have y2 : pB p (k + 1) k = pB p k k := by
              unfold pB
              by_cases c : 0 < k
              · rw [if_pos (by omega), if_pos (by omega)]
              · rw [if_neg (by omega), if_neg (by omega)]
            rw [k1, a1, y1, y2]; grind
          · have y1 : pA p (i + 1) k = pA p i k := by
              unfold pA
              by_cases c : k < i
              · rw [if_pos c, if_pos (by omega)]
              · rw [if_neg c, if_neg (by omega)]
            have y2 : pB p (i + 1) k = pB p i k := by
              unfold pB
              by_cases c : 0 < k ∧ k ≤ i
              · rw [if_pos c, if_pos (by omega)]
              · rw [if_neg c, if_neg (by omega)]
            rw [k0 _ (by omega) (by omega), y1, y2, ha, hb]; exact h2 k hk
      · by_cases e : q = 12 * to_ + (i + 1)
        · rw [e]; exact k3 (by omega)
        · exact k0 q (by omega) e
    have sm1 : -(20000000 : Int) ≤ s * (a * p i) ∧ s * (a * p i) ≤ 20000000 := by rcases hs with e | e <;> rw [e] <;> omega
    have sm2 : -(20000000 : Int) ≤ s * (b * p i) ∧ s * (b * p i) ≤ 20000000 := by rcases hs with e | e <;> rw [e] <;> omega
    have ba1 : -(10100000000 : Int) ≤ M (12 * to_ + i) ∧ M (12 * to_ + i) ≤ 10100000000 := by
      rw [a1, Int.mul_zero, Int.zero_add]
      rcases hs with e | e <;> rw [e] <;> omega
    have sab : -(2 : Int) ≤ s * a ∧ s * a ≤ 2 := by rcases hs with e | e <;> rw [e] <;> omega
    have sbb : -(2 : Int) ≤ s * b ∧ s * b ≤ 2 := by rcases hs with e | e <;> rw [e] <;> omega
    have e2 : ((i : Int) + 1) = ((i + 1 : Nat) : Int) := by omega
    rw [LB_Md_addTimes_3, if_neg (by omega), if_pos (by omega), if_pos (by omega), if_pos (by omega), if_pos (by omega), if_pos (by omega), t1, t2, t3, Int.toNat_natCast, a0, ← ha, ← hb, sa, sb]
    by_cases c : 11 ≤ (i : Int)
    · rw [if_pos c, if_pos (by omega)]
      unfold LB_Md_addTimes_87
      rw [if_pos (by omega), e2]
      obtain ⟨k1, k2, k3⟩ := key (up M (12 * to_ + i) (M (12 * to_ + i) + s * (a * p i))) (fun q q1 _ => up_ne _ _ q1) (up_eq _ _ _) (fun w => by omega) (fun _ => up_ne _ _ (by omega))
      obtain ⟨M', g1, g2, g3⟩ := ih nn (i + 1) _ (by omega) (by omega) k1 k2
      exact ⟨M', g1, (by rw [ha, hb]; exact g2), fun q hq => by rw [g3 q hq, k3 q hq]⟩
    · have a2 := h2 (i + 1) (by omega)
      have z2 : pA p i (i + 1) = 0 := if_neg (by omega)
      have z3 : pB p i (i + 1) = 0 := if_neg (by omega)
      rw [z2, z3, Int.mul_zero, Int.mul_zero] at a2
      have bT1 := bT (i + 1) (by omega)
      have ba2 : -(10100000000 : Int) ≤ M (12 * to_ + (i + 1)) ∧ M (12 * to_ + (i + 1)) ≤ 10100000000 := by rw [a2]; omega
      rw [if_neg c, if_pos (by omega), up_ne _ _ (show 12 * to_ + (i + 1) ≠ 12 * to_ + i by omega), if_pos (by omega)]
      unfold LB_Md_addTimes_87
      rw [if_pos (by omega), e2]
      obtain ⟨k1, k2, k3⟩ := key (up (up M (12 * to_ + i) (M (12 * to_ + i) + s * (a * p i))) (12 * to_ + (i + 1)) (M (12 * to_ + (i + 1)) + s * (b * p i))) (fun q q1 q2 => by rw [up_ne _ _ q2, up_ne _ _ q1]) (by rw [up_ne _ _ (by omega), up_eq]) (fun _ => up_eq _ _ _) (fun w => by omega)
      obtain ⟨M', g1, g2, g3⟩ := ih nn (i + 1) _ (by omega) (by omega) k1 k2
      exact ⟨M', g1, (by rw [ha, hb]; exact g2), fun q hq => by rw [g3 q hq, k3 q hq]⟩
theorem M_addTimes (fl : Nat) (hfl : 100 ≤ fl) {to_ fr_ : Nat} (ht : to_ < 2048) (hf : fr_ < 2048) (hne : to_ ≠ fr_) {s : Int} (hs : s = 1 ∨ s = -1) {cell : Nat} (hc : cell < 200) {hi lo : Nat → Int} (bl : -2 ≤ lo cell ∧ lo cell ≤ 2) (bh : -2 ≤ hi cell ∧ hi cell ≤ 2) {p T : Nat → Int} (bp : ∀ k, k < 12 → -10000000 ≤ p k ∧ p k ≤ 10000000) (bT : ∀ k, k < 12 → -10000000000 ≤ T k ∧ T k ≤ 10000000000) (M : Nat → Int) (h1 : ∀ k, k < 12 → M (12 * fr_ + k) = p k) (h2 : ∀ k, k < 12 → M (12 * to_ + k) = T k) :
    ∃ M', LM_Md_addTimes fl hi lo (to_ : Int) (fr_ : Int) s (cell : Int) M = some M' ∧ (∀ k, k < 12 → M' (12 * to_ + k) = T k + s * (lo cell * p k + hi cell * sh p k)) ∧ (∀ q, (q < 12 * to_ ∨ 12 * to_ + 12 ≤ q) → M' q = M q) := by
  unfold LM_Md_addTimes LB_Md_addTimes_0
  obtain ⟨M', g1, g2, g3⟩ := at3 fl ht hf hne hs hc bl bh bp bT 12 fl 0 M (by omega) (by omega) h1 (fun k hk => by
    have z1 : pA p 0 k = 0 := if_neg (by omega)
    have z2 : pB p 0 k = 0 := if_neg (by omega)
    rw [h2 k hk, z1, z2, Int.mul_zero, Int.mul_zero, Int.add_zero, Int.mul_zero, Int.add_zero])
  refine ⟨M', g1, fun k hk => ?_, g3⟩
  rw [g2 k hk]
  have y1 : pA p 12 k = p k := if_pos hk
  have y2 : pB p 12 k = sh p k := by
    unfold pB sh
    by_cases e : k = 0
    · rw [if_neg (by omega), if_pos e]
    · rw [if_pos (by omega), if_neg e]
  rw [y1, y2]
