theorem cmpM (fl : Nat) {n M : Nat} (hn : n ≤ 8) (hM : M ≤ 20) (s0 c0 : Int) (a0 : Nat → Int) (c1 : Int) (a1 : Nat → Int) (p0 m0 : Int) (S0 : Nat → Int) (p1 m1 : Int) (S1 : Nat → Int) (kb : Int → Int → Int → Int → (Nat → Int) → Int → Int → (Nat → Int) → Option (Int × Int × Int × (Nat → Int) × Int × Int × (Nat → Int))) {j : Nat} (hj : j < M) :
    ∀ (d nn p : Nat) (x1 : Int), p + d = n → d < nn → (x1 = 0 ∨ x1 = 1) →
    ∃ y : Int, LB_Md_same_90 fl s0 c0 a0 (n : Int) c1 a1 kb nn x1 (j : Int) ((p + 1 : Nat) : Int) p0 m0 S0 p1 m1 S1 = kb y ((j : Int) + 1) p0 m0 S0 p1 m1 S1 ∧ (y = 1 ∧ x1 = 1 ∧ (∀ q, p ≤ q → q < n → S1 (9 * j + (q + 1)) = S0 (9 * j + (q + 1))) ∨ y = 0 ∧ (x1 = 0 ∨ ∃ q, q < n ∧ S1 (9 * j + (q + 1)) ≠ S0 (9 * j + (q + 1)))) := by
  intro d
  induction d with
  | zero =>
    intro nn p x1 hd hnn hx
    obtain ⟨nn, rfl⟩ : ∃ r, nn = r + 1 := ⟨nn - 1, by omega⟩
    rw [LB_Md_same_90, if_pos (by omega), if_pos (by omega)]
    refine ⟨x1, rfl, ?_⟩
    rcases hx with h | h
    · exact Or.inr ⟨h, Or.inl h⟩
    · exact Or.inl ⟨h, h, fun q q1 q2 => by omega⟩
  | succ d ih =>
    intro nn p x1 hd hnn hx
    obtain ⟨nn, rfl⟩ : ∃ r, nn = r + 1 := ⟨nn - 1, by omega⟩
    have e : Int.toNat (9 * (j : Int) + ((p + 1 : Nat) : Int)) = 9 * j + (p + 1) := by omega
    unfold LB_Md_same_90 LB_Md_same_140 LB_Md_same_141
    rw [if_neg (by omega), show (((p + 1 : Nat) : Int) + 1) = ((p + 1 + 1 : Nat) : Int) by omega]
    rcases hx with h | h
    · rw [if_pos h, if_pos (by omega)]
      obtain ⟨y, g1, g2⟩ := ih nn (p + 1) 0 (by omega) (by omega) (Or.inl rfl)
      refine ⟨y, g1, ?_⟩
      rcases g2 with ⟨_, w, _⟩ | ⟨w, _⟩
      · exact absurd w (by decide)
      · exact Or.inr ⟨w, Or.inl h⟩
    · rw [if_neg (by omega), if_pos (by omega), if_pos (by omega), e]
      by_cases q : S1 (9 * j + (p + 1)) = S0 (9 * j + (p + 1))
      · rw [if_neg (fun w => w q), if_pos (by omega)]
        obtain ⟨y, g1, g2⟩ := ih nn (p + 1) 1 (by omega) (by omega) (Or.inr rfl)
        refine ⟨y, g1, ?_⟩
        rcases g2 with ⟨w1, _, w2⟩ | ⟨w1, w2⟩
        · refine Or.inl ⟨w1, h, fun r r1 r2 => ?_⟩
          by_cases w : r = p
          · rw [w]; exact q
          · exact w2 r (by omega) r2
        · refine Or.inr ⟨w1, Or.inr ?_⟩
          rcases w2 with w2 | w2
          · exact absurd w2 (by decide)
          · exact w2
      · rw [if_pos q, if_pos (by omega)]
        obtain ⟨y, g1, g2⟩ := ih nn (p + 1) 0 (by omega) (by omega) (Or.inl rfl)
        refine ⟨y, g1, ?_⟩
        rcases g2 with ⟨_, w, _⟩ | ⟨w, _⟩
        · exact absurd w (by decide)
        · exact Or.inr ⟨w, Or.inr ⟨p, by omega, q⟩⟩
theorem cmpM2 (fl : Nat) (hfl : 100 ≤ fl) {n M : Nat} (hn : n ≤ 8) (hM : M ≤ 20) (s0 c0 : Int) (a0 : Nat → Int) (c1 : Int) (a1 : Nat → Int) (p0 m0 : Int) (S0 : Nat → Int) (p1 : Int) (S1 : Nat → Int) :
    ∀ (d nn j : Nat) (x1 : Int), j + d = M → d < nn → (x1 = 0 ∨ x1 = 1) →
    ∃ y : Int, LB_Md_same_73 fl s0 c0 a0 (n : Int) c1 a1 nn x1 (j : Int) p0 m0 S0 p1 (M : Int) S1 = some (y, p0, m0, S0, p1, (M : Int), S1) ∧ (y = 1 ∧ x1 = 1 ∧ (∀ r q, j ≤ r → r < M → q < n → S1 (9 * r + (q + 1)) = S0 (9 * r + (q + 1))) ∨ y = 0 ∧ (x1 = 0 ∨ ∃ r q, r < M ∧ q < n ∧ S1 (9 * r + (q + 1)) ≠ S0 (9 * r + (q + 1)))) := by
  intro d
  induction d with
  | zero =>
    intro nn j x1 hd hnn hx
    obtain ⟨nn, rfl⟩ : ∃ r, nn = r + 1 := ⟨nn - 1, by omega⟩
    rw [LB_Md_same_73, if_pos (by omega), if_pos hx]
    refine ⟨x1, rfl, ?_⟩
    rcases hx with h | h
    · exact Or.inr ⟨h, Or.inl h⟩
    · exact Or.inl ⟨h, h, fun r q r1 r2 => by omega⟩
  | succ d ih =>
    intro nn j x1 hd hnn hx
    obtain ⟨nn, rfl⟩ : ∃ r, nn = r + 1 := ⟨nn - 1, by omega⟩
    rw [LB_Md_same_73, if_neg (by omega)]
    rcases hx with h | h
    · rw [if_pos h, if_pos (Or.inl h)]
      exact ⟨x1, rfl, Or.inr ⟨h, Or.inl h⟩⟩
    · rw [if_neg (by omega)]
      obtain ⟨y, g1, g2⟩ := cmpM fl hn hM s0 c0 a0 c1 a1 p0 m0 S0 p1 (M : Int) S1 (LB_Md_same_73 fl s0 c0 a0 (n : Int) c1 a1 nn) (show j < M by omega) n fl 0 x1 (by omega) (by omega) (Or.inr h)
      rw [show (1 : Int) = ((0 + 1 : Nat) : Int) from rfl, g1, show ((j : Int) + 1) = ((j + 1 : Nat) : Int) by omega]
      obtain ⟨z, f1, f2⟩ := ih nn (j + 1) y (by omega) (by omega) (by rcases g2 with w | w <;> omega)
      refine ⟨z, f1, ?_⟩
      rcases f2 with ⟨w1, w2, w3⟩ | ⟨w1, w2⟩
      · rcases g2 with ⟨v1, v2, v3⟩ | ⟨v1, _⟩
        · refine Or.inl ⟨w1, v2, fun r q r1 r2 r3 => ?_⟩
          by_cases w : r = j
          · rw [w]; exact v3 q (Nat.zero_le q) r3
          · exact w3 r q (by omega) r2 r3
        · omega
      · rcases w2 with w2 | w2
        · rcases g2 with ⟨v1, _⟩ | ⟨_, v2⟩
          · omega
          · rcases v2 with v2 | ⟨q, v2, v3⟩
            · exact Or.inr ⟨w1, Or.inl v2⟩
            · exact Or.inr ⟨w1, Or.inr ⟨j, q, by omega, v2, v3⟩⟩
        · exact Or.inr ⟨w1, Or.inr w2⟩
theorem cmpM0 (fl : Nat) (hfl : 100 ≤ fl) (s0 c0 : Int) (a0 : Nat → Int) (s1 c1 : Int) (a1 : Nat → Int) (p0 m0 : Int) (S0 : Nat → Int) (p1 m1 : Int) (S1 : Nat → Int) : LB_Md_same_73 fl s0 c0 a0 s1 c1 a1 fl 0 0 p0 m0 S0 p1 m1 S1 = some (0, p0, m0, S0, p1, m1, S1) := by
  obtain ⟨nn, e⟩ : ∃ r, fl = r + 1 := ⟨fl - 1, by omega⟩
  conv => lhs; arg 8; rw [e]
  rw [LB_Md_same_73]
  by_cases h : m1 ≤ 0
  · rw [if_pos h, if_pos (Or.inl rfl)]
  · rw [if_neg h, if_pos rfl, if_pos (Or.inl rfl)]
theorem q_same (fl : Nat) (hfl : 50000 ≤ fl) {s1 l1 t1 m1 k1 s1' c1' s2 l2 t2 m2 k2 s2' c2' : Int} {a1 n1 i1 a1' a2 n2 i2 a2' : Nat → Int} (p1 M1 p2 M2 : Int) (S1 S2 : Nat → Int) (h1 : BrR s1 l1 a1 t1 m1 k1 i1 s1' c1' a1') (h2 : BrR s2 l2 a2 t2 m2 k2 i2 s2' c2' a2') :
    ∃ v u1 v1 w1 e1 j1 u2 v2 w2 e2 j2 P1 Q1 R1 P2 Q2 R2, (v = 0 ∨ v = 1) ∧ LM_En_same fl s1 l1 a1 s2 l2 a2 t1 m1 k1 n1 i1 t2 m2 k2 n2 i2 = some (v, u1, v1, w1, e1, j1, u2, v2, w2, e2, j2) ∧ LM_Md_same fl s1' c1' a1' s2' c2' a2' p1 M1 S1 p2 M2 S2 = some (v, P1, Q1, R1, P2, Q2, R2) ∧ BrR s1 l1 a1 u1 v1 w1 j1 s1' c1' a1' ∧ BrR s2 l2 a2 u2 v2 w2 j2 s2' c2' a2' := by
  unfold LM_En_same LB_En_same_0 LM_Br_isOneBraidWith LB_Br_isOneBraidWith_0 LM_Md_same LB_Md_same_0 LB_Md_same_69 LB_Md_same_70
  obtain ⟨n, T, M, en', im', si', e1, e2, hn, hM, f1, f2, hT, f3, f4⟩ := bothz fl hfl h2 (en := n2) p2 M2 S2
  obtain ⟨n', T', N, en2, jm, sj, e1', e2', hn', hN, g1, g2, hT', g3, g4⟩ := bothz fl hfl h1 (en := n1) p1 M1 S1
  rw [f1, f2, g1, g2, Option.bind_some, Option.bind_some, Option.bind_some, Option.bind_some]
  dsimp only
  by_cases c1 : s2 = s1
  · rw [if_neg (show ¬ ¬ s2 = s1 from fun w => w c1), if_neg (show ¬ ¬ s2' = s1' by omega)]
    by_cases c2 : T = T'
    · rw [if_neg (show ¬ ¬ T = T' from fun w => w c2), if_neg (show ¬ ¬ T = T' from fun w => w c2)]
      by_cases c3 : (M : Int) = (N : Int)
      · rw [if_pos c3, if_neg (show ¬ ¬ (M : Int) = (N : Int) from fun w => w c3)]
        have c4 : M = N := by omega
        have c5 : n = n' := by omega
        subst c4; subst c5
        obtain ⟨y, r1, r2⟩ := cmpM2 fl (by omega) hn hM s1' c1' a1' c2' a2' T' (M : Int) sj T si' M fl 0 1 (by omega) (by omega) (Or.inr rfl)
        rw [show ((0 : Nat) : Int) = 0 from rfl] at r1
        rw [e2, r1]
        rcases cmpC2 fl (by omega) hn hM l2 a2 s1 l1 a1 T 1 en' im' T' (M : Int) 1 en2 jm M fl 0 (by omega) (by omega) with ⟨q1, q2⟩ | ⟨q1, r, q, q2, q3, q4⟩
        · rw [show ((0 : Nat) : Int) = 0 from rfl] at q1
          rw [e1, q1, Option.bind_some]
          dsimp only
          rw [if_pos (Or.inr rfl)]
          have y1 : y = 1 := by
            rcases r2 with ⟨w, _⟩ | ⟨_, w⟩
            · exact w
            · rcases w with w | ⟨r, q, w1, w2, w3⟩
              · exact absurd w (by decide)
              · have a := f3 r q w1 w2
                have b := g3 r q w1 w2
                have c := q2 r q (Nat.zero_le r) w1 w2
                omega
          rw [y1]
          rw [e1, e2] at f4
          exact ⟨1, _, _, _, _, _, _, _, _, _, _, _, _, _, _, _, _, Or.inr rfl, rfl, rfl, g4, f4⟩
        · rw [show ((0 : Nat) : Int) = 0 from rfl] at q1
          rw [e1, q1, Option.bind_some]
          dsimp only
          rw [if_pos (Or.inl rfl)]
          have y1 : y = 0 := by
            rcases r2 with ⟨_, _, w⟩ | ⟨w, _⟩
            · have a := f3 r q q2 q3
              have b := g3 r q q2 q3
              have c := w r q (Nat.zero_le r) q2 q3
              omega
            · exact w
          rw [y1]
          rw [e1, e2] at f4
          exact ⟨0, _, _, _, _, _, _, _, _, _, _, _, _, _, _, _, _, Or.inl rfl, rfl, rfl, g4, f4⟩
      · rw [if_neg c3, if_pos c3, cmpM0 fl (by omega), Option.bind_some]
        dsimp only
        rw [if_pos (Or.inl rfl)]
        exact ⟨0, _, _, _, _, _, _, _, _, _, _, _, _, _, _, _, _, Or.inl rfl, rfl, rfl, g4, f4⟩
    · rw [if_pos c2, if_pos c2, cmpM0 fl (by omega), Option.bind_some]
      dsimp only
      rw [if_pos (Or.inl rfl)]
      exact ⟨0, _, _, _, _, _, _, _, _, _, _, _, _, _, _, _, _, Or.inl rfl, rfl, rfl, g4, f4⟩
  · rw [if_pos c1, if_pos (show ¬ s2' = s1' by omega), cmpM0 fl (by omega), Option.bind_some]
    dsimp only
    rw [if_pos (Or.inl rfl)]
    exact ⟨0, _, _, _, _, _, _, _, _, _, _, _, _, _, _, _, _, Or.inl rfl, rfl, rfl, g4, f4⟩
