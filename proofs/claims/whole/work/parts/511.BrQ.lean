/-- a braid word that may stand -/
def WordOK (n cnt : Nat) (a : Nat → Int) : Prop := 1 ≤ n ∧ n ≤ 8 ∧ cnt ≤ 20 ∧ ∀ k, k < cnt → a k ≠ 0 ∧ (a k).natAbs < n
/-- what the class has of a braid, and the reference's word -/
def BrR (sC lC : Int) (aC : Nat → Int) (t m fk : Int) (im : Nat → Int) (sM cM : Int) (aM : Nat → Int) : Prop :=
  ∃ n cnt : Nat, sC = (n : Int) ∧ lC = (cnt : Int) ∧ sM = (n : Int) ∧ cM = (cnt : Int) ∧ WordOK n cnt aC ∧ (∀ k, k < cnt → aM k = aC k) ∧ (fk = 0 ∨ fk = 1 ∧ ∃ M : Nat, m = (M : Int) ∧ FormC n cnt aC t M im)
theorem lrow_congr {n : Nat} {a b : Nat → Int} : ∀ k : Nat, (∀ j, j < k → a j = b j) → lrow n a k = lrow n b k ∧ pw a k = pw b k := by
  intro k
  induction k with
  | zero => intro _; exact ⟨rfl, rfl⟩
  | succ k ih =>
    intro h
    obtain ⟨h1, h2⟩ := ih (fun j hj => h j (by omega))
    rw [lrow_s, lrow_s, pw_s, pw_s, h1, h2, h k (by omega)]
    exact ⟨rfl, rfl⟩
/-- bothz forms, found -/
theorem bothz (fl : Nat) (hfl : 50000 ≤ fl) {sC lC t m fk sM cM : Int} {aC aM en im : Nat → Int} (h : BrR sC lC aC t m fk im sM cM aM) (pM mM : Int) (si : Nat → Int) :
    ∃ (n : Nat) (T : Int) (M : Nat) (en' im' si' : Nat → Int), sC = (n : Int) ∧ sM = (n : Int) ∧ n ≤ 8 ∧ M ≤ 20 ∧ LM_Br_findForm fl sC lC aC t m fk en im = some (T, (M : Int), 1, en', im') ∧ LM_Md_norm fl sM cM aM pM mM si = some (T, (M : Int), si') ∧ (-1000 ≤ T ∧ T ≤ 1000) ∧ (∀ j p, j < M → p < n → si' (9 * j + (p + 1)) = im' (8 * j + p) + 1 ∧ 0 ≤ im' (8 * j + p) ∧ im' (8 * j + p) < 8) ∧ BrR sC lC aC T (M : Int) 1 im' sM cM aM := by
  obtain ⟨n, cnt, e1, e2, e3, e4, hw, ha, hf⟩ := h
  obtain ⟨w1, w2, w3, w4⟩ := hw
  subst e1; subst e2; subst e3; subst e4
  obtain ⟨T, M, en', im', f1, f2⟩ := findForm fl w2 w1 w3 (by omega) aC w4 t m fk en im hf
  have f3 := f2
  obtain ⟨full, Y, hNF, hT, him, hY⟩ := f2
  obtain ⟨l1, l2⟩ := lrow_congr (n := n) cnt ha
  have hb := pw_b aC cnt
  have hle := hNF.1
  have oY := hNF.2.2.2.1
  obtain ⟨si', g1, g2⟩ := norm fl w2 w1 w3 hfl aM (fun k hk => by rw [ha k hk]; exact w4 k hk) (full := full) (M := M) (Y := Y) (by rw [l1]; exact hNF) hY pM mM si
  refine ⟨n, T, M, en', im', si', rfl, rfl, w2, by omega, f1, ?_, by omega, ?_, n, cnt, rfl, rfl, rfl, rfl, ⟨w1, w2, w3, w4⟩, ha, Or.inr ⟨rfl, M, rfl, f3⟩⟩
  · rw [g1, l2, ← hT]
  · intro j p hj hp
    rw [g2 j p hj hp, him j p hj hp]
    have := (((oY j).2 p).1 hp).1
    exact ⟨rfl, by omega, by omega⟩
theorem q_form (fl : Nat) (hfl : 50000 ≤ fl) {s1 l1 t1 m1 k1 s1' c1' s2 l2 t2 m2 k2 s2' c2' : Int} {a1 n1 i1 a1' a2 n2 i2 a2' : Nat → Int} (p1 M1 p2 M2 : Int) (S1 S2 : Nat → Int) (h1 : BrR s1 l1 a1 t1 m1 k1 i1 s1' c1' a1') (h2 : BrR s2 l2 a2 t2 m2 k2 i2 s2' c2' a2') (x1 x2 x3 : Int) :
    ∃ v u1 v1 w1 e1 j1 u2 v2 w2 e2 j2 P1 Q1 R1 P2 Q2 R2, LM_En_form fl s1 l1 a1 s2 l2 a2 x1 x2 x3 t1 m1 k1 n1 i1 t2 m2 k2 n2 i2 = some (v, u1, v1, w1, e1, j1, u2, v2, w2, e2, j2) ∧ LM_Md_form fl s1' c1' a1' s2' c2' a2' x1 x2 x3 p1 M1 S1 p2 M2 S2 = some (v, P1, Q1, R1, P2, Q2, R2) ∧ BrR s1 l1 a1 u1 v1 w1 j1 s1' c1' a1' ∧ BrR s2 l2 a2 u2 v2 w2 j2 s2' c2' a2' := by
  unfold LM_En_form LB_En_form_0 LM_Md_form LB_Md_form_0 LB_Md_form_60 LB_Md_form_10060 LM_Br_formAt LB_Br_formAt_0
  by_cases c : x1 = 0
  · rw [if_pos c, if_pos c]
    obtain ⟨n, T, M, en', im', si', e1, e2, hn, hM, f1, f2, hT, f3, f4⟩ := bothz fl hfl h2 (en := n2) p2 M2 S2
    rw [f1, f2, Option.bind_some, Option.bind_some]
    dsimp only
    by_cases j0 : x2 = 0
    · rw [if_neg (by omega), if_neg (by omega), Option.bind_some]
      exact ⟨_, _, _, _, _, _, _, _, _, _, _, _, _, _, _, _, _, rfl, rfl, h1, f4⟩
    · rw [if_pos j0, if_pos j0]
      by_cases j1 : x2 < 1
      · rw [if_pos (by omega), if_pos j1, Option.bind_some]
        exact ⟨_, _, _, _, _, _, _, _, _, _, _, _, _, _, _, _, _, rfl, rfl, h1, f4⟩
      · rw [if_neg (by omega), if_neg j1]
        by_cases j2 : (M : Int) < x2
        · rw [if_pos j2, if_pos j2, Option.bind_some]
          exact ⟨_, _, _, _, _, _, _, _, _, _, _, _, _, _, _, _, _, rfl, rfl, h1, f4⟩
        · rw [if_neg j2, if_neg j2]
          by_cases j3 : x3 < 1
          · rw [if_pos j3, if_pos j3, Option.bind_some]
            exact ⟨_, _, _, _, _, _, _, _, _, _, _, _, _, _, _, _, _, rfl, rfl, h1, f4⟩
          · rw [if_neg j3, if_neg j3]
            by_cases j4 : x3 ≤ s2
            · obtain ⟨g1, g2, g3⟩ := f3 (x2 - 1).toNat (x3 - 1).toNat (by omega) (by omega)
              have ei : Int.toNat ((x2 - 1) * 8 + x3 - 1) = 8 * (x2 - 1).toNat + (x3 - 1).toNat := by omega
              have ej : Int.toNat (9 * x2 - 9 + x3) = 9 * (x2 - 1).toNat + ((x3 - 1).toNat + 1) := by omega
              rw [if_pos j4, if_pos (show x3 ≤ s2' by omega), ei, ej, g1, if_pos (by omega), if_pos (by omega), if_pos (by omega), if_pos (by omega), if_pos (by omega), Option.bind_some]
              exact ⟨_, _, _, _, _, _, _, _, _, _, _, _, _, _, _, _, _, rfl, rfl, h1, f4⟩
            · rw [if_neg j4, if_neg (show ¬ x3 ≤ s2' by omega), Option.bind_some]
              exact ⟨_, _, _, _, _, _, _, _, _, _, _, _, _, _, _, _, _, rfl, rfl, h1, f4⟩
  · rw [if_neg c, if_neg c]
    obtain ⟨n, T, M, en', im', si', e1, e2, hn, hM, f1, f2, hT, f3, f4⟩ := bothz fl hfl h1 (en := n1) p1 M1 S1
    rw [f1, f2, Option.bind_some, Option.bind_some]
    dsimp only
    by_cases j0 : x2 = 0
    · rw [if_neg (by omega), if_neg (by omega), Option.bind_some]
      exact ⟨_, _, _, _, _, _, _, _, _, _, _, _, _, _, _, _, _, rfl, rfl, f4, h2⟩
    · rw [if_pos j0, if_pos j0]
      by_cases j1 : x2 < 1
      · rw [if_pos (by omega), if_pos j1, Option.bind_some]
        exact ⟨_, _, _, _, _, _, _, _, _, _, _, _, _, _, _, _, _, rfl, rfl, f4, h2⟩
      · rw [if_neg (by omega), if_neg j1]
        by_cases j2 : (M : Int) < x2
        · rw [if_pos j2, if_pos j2, Option.bind_some]
          exact ⟨_, _, _, _, _, _, _, _, _, _, _, _, _, _, _, _, _, rfl, rfl, f4, h2⟩
        · rw [if_neg j2, if_neg j2]
          by_cases j3 : x3 < 1
          · rw [if_pos j3, if_pos j3, Option.bind_some]
            exact ⟨_, _, _, _, _, _, _, _, _, _, _, _, _, _, _, _, _, rfl, rfl, f4, h2⟩
          · rw [if_neg j3, if_neg j3]
            by_cases j4 : x3 ≤ s1
            · obtain ⟨g1, g2, g3⟩ := f3 (x2 - 1).toNat (x3 - 1).toNat (by omega) (by omega)
              have ei : Int.toNat ((x2 - 1) * 8 + x3 - 1) = 8 * (x2 - 1).toNat + (x3 - 1).toNat := by omega
              have ej : Int.toNat (9 * x2 - 9 + x3) = 9 * (x2 - 1).toNat + ((x3 - 1).toNat + 1) := by omega
              rw [if_pos j4, if_pos (show x3 ≤ s1' by omega), ei, ej, g1, if_pos (by omega), if_pos (by omega), if_pos (by omega), if_pos (by omega), if_pos (by omega), Option.bind_some]
              exact ⟨_, _, _, _, _, _, _, _, _, _, _, _, _, _, _, _, _, rfl, rfl, f4, h2⟩
            · rw [if_neg j4, if_neg (show ¬ x3 ≤ s1' by omega), Option.bind_some]
              exact ⟨_, _, _, _, _, _, _, _, _, _, _, _, _, _, _, _, _, rfl, rfl, f4, h2⟩
theorem q_length (fl : Nat) (hfl : 50000 ≤ fl) {s1 l1 t1 m1 k1 s1' c1' s2 l2 t2 m2 k2 s2' c2' : Int} {a1 n1 i1 a1' a2 n2 i2 a2' : Nat → Int} (p1 M1 p2 M2 : Int) (S1 S2 : Nat → Int) (h1 : BrR s1 l1 a1 t1 m1 k1 i1 s1' c1' a1') (h2 : BrR s2 l2 a2 t2 m2 k2 i2 s2' c2' a2') (x1 : Int) :
    ∃ v u1 v1 w1 e1 j1 u2 v2 w2 e2 j2 P1 Q1 R1 P2 Q2 R2, LM_En_length fl s1 l1 a1 s2 l2 a2 x1 t1 m1 k1 n1 i1 t2 m2 k2 n2 i2 = some (v, u1, v1, w1, e1, j1, u2, v2, w2, e2, j2) ∧ LM_Md_length fl s1' c1' a1' s2' c2' a2' x1 p1 M1 S1 p2 M2 S2 = some (v, P1, Q1, R1, P2, Q2, R2) ∧ BrR s1 l1 a1 u1 v1 w1 j1 s1' c1' a1' ∧ BrR s2 l2 a2 u2 v2 w2 j2 s2' c2' a2' := by
  unfold LM_En_length LB_En_length_0 LM_Md_length LB_Md_length_0 LM_Br_simpleBraids LB_Br_simpleBraids_0
  by_cases c : x1 = 0
  · rw [if_pos c, if_pos c]
    obtain ⟨n, T, M, en', im', si', e1, e2, hn, hM, f1, f2, hT, f3, f4⟩ := bothz fl hfl h2 (en := n2) p2 M2 S2
    rw [f1, f2]
    exact ⟨_, _, _, _, _, _, _, _, _, _, _, _, _, _, _, _, _, rfl, rfl, h1, f4⟩
  · rw [if_neg c, if_neg c]
    obtain ⟨n, T, M, en', im', si', e1, e2, hn, hM, f1, f2, hT, f3, f4⟩ := bothz fl hfl h1 (en := n1) p1 M1 S1
    rw [f1, f2]
    exact ⟨_, _, _, _, _, _, _, _, _, _, _, _, _, _, _, _, _, rfl, rfl, f4, h2⟩

theorem cmpC (fl : Nat) (hfl : 100 ≤ fl) {n M : Nat} (hn : n ≤ 8) (hM : M ≤ 20) (l0 : Int) (a0 : Nat → Int) (s1 l1 : Int) (a1 : Nat → Int) (t0 k0 : Int) (e0 im : Nat → Int) (t1 m1 k1 : Int) (e1 jm : Nat → Int) (kb : Int → Int → Int → Int → (Nat → Int) → (Nat → Int) → Int → Int → Int → (Nat → Int) → (Nat → Int) → Option (Int × Int × Int × Int × (Nat → Int) × (Nat → Int) × Int × Int × Int × (Nat → Int) × (Nat → Int))) {j : Nat} (hj : j < M) :
    ∀ (d nn p : Nat), p + d = n → d < nn →
    (LB_Br_isOneBraidWith_55 fl (n : Int) l0 a0 s1 l1 a1 kb nn (j : Int) (p : Int) t0 (M : Int) k0 e0 im t1 m1 k1 e1 jm = kb ((j : Int) + 1) t0 (M : Int) k0 e0 im t1 m1 k1 e1 jm ∧ (∀ q, p ≤ q → q < n → im (8 * j + q) = jm (8 * j + q))) ∨
    (LB_Br_isOneBraidWith_55 fl (n : Int) l0 a0 s1 l1 a1 kb nn (j : Int) (p : Int) t0 (M : Int) k0 e0 im t1 m1 k1 e1 jm = some (0, t0, (M : Int), k0, e0, im, t1, m1, k1, e1, jm) ∧ ∃ q, q < n ∧ im (8 * j + q) ≠ jm (8 * j + q)) := by
  intro d
  induction d with
  | zero =>
    intro nn p hd hnn
    obtain ⟨nn, rfl⟩ : ∃ r, nn = r + 1 := ⟨nn - 1, by omega⟩
    rw [LB_Br_isOneBraidWith_55, if_pos (by omega), if_pos (by omega)]
    exact Or.inl ⟨rfl, fun q q1 q2 => by omega⟩
  | succ d ih =>
    intro nn p hd hnn
    obtain ⟨nn, rfl⟩ : ∃ r, nn = r + 1 := ⟨nn - 1, by omega⟩
    have e : Int.toNat ((j : Int) * 8 + (p : Int)) = 8 * j + p := by omega
    rw [LB_Br_isOneBraidWith_55, if_neg (by omega), if_pos (by omega), if_pos (by omega), e]
    by_cases q : im (8 * j + p) = jm (8 * j + p)
    · rw [if_pos q, if_pos (by omega), show ((p : Int) + 1) = ((p + 1 : Nat) : Int) by omega]
      rcases ih nn (p + 1) (by omega) (by omega) with ⟨g1, g2⟩ | g
      · refine Or.inl ⟨g1, fun r r1 r2 => ?_⟩
        by_cases w : r = p
        · rw [w]; exact q
        · exact g2 r (by omega) r2
      · exact Or.inr g
    · rw [if_neg q]
      exact Or.inr ⟨rfl, p, by omega, q⟩
theorem cmpC2 (fl : Nat) (hfl : 100 ≤ fl) {n M : Nat} (hn : n ≤ 8) (hM : M ≤ 20) (l0 : Int) (a0 : Nat → Int) (s1 l1 : Int) (a1 : Nat → Int) (t0 k0 : Int) (e0 im : Nat → Int) (t1 m1 k1 : Int) (e1 jm : Nat → Int) :
    ∀ (d nn j : Nat), j + d = M → d < nn →
    (LB_Br_isOneBraidWith_45 fl (n : Int) l0 a0 s1 l1 a1 nn (j : Int) t0 (M : Int) k0 e0 im t1 m1 k1 e1 jm = some (1, t0, (M : Int), k0, e0, im, t1, m1, k1, e1, jm) ∧ (∀ r q, j ≤ r → r < M → q < n → im (8 * r + q) = jm (8 * r + q))) ∨
    (LB_Br_isOneBraidWith_45 fl (n : Int) l0 a0 s1 l1 a1 nn (j : Int) t0 (M : Int) k0 e0 im t1 m1 k1 e1 jm = some (0, t0, (M : Int), k0, e0, im, t1, m1, k1, e1, jm) ∧ ∃ r q, r < M ∧ q < n ∧ im (8 * r + q) ≠ jm (8 * r + q)) := by
  intro d
  induction d with
  | zero =>
    intro nn j hd hnn
    obtain ⟨nn, rfl⟩ : ∃ r, nn = r + 1 := ⟨nn - 1, by omega⟩
    rw [LB_Br_isOneBraidWith_45, if_pos (by omega)]
    exact Or.inl ⟨rfl, fun r q r1 r2 => by omega⟩
  | succ d ih =>
    intro nn j hd hnn
    obtain ⟨nn, rfl⟩ : ∃ r, nn = r + 1 := ⟨nn - 1, by omega⟩
    rw [LB_Br_isOneBraidWith_45, if_neg (by omega)]
    rcases cmpC fl hfl hn hM l0 a0 s1 l1 a1 t0 k0 e0 im t1 m1 k1 e1 jm (LB_Br_isOneBraidWith_45 fl (n : Int) l0 a0 s1 l1 a1 nn) (show j < M by omega) n fl 0 (by omega) (by omega) with ⟨g1, g2⟩ | ⟨g1, q, g2, g3⟩
    · rw [show (0 : Int) = ((0 : Nat) : Int) from rfl, g1, show ((j : Int) + 1) = ((j + 1 : Nat) : Int) by omega]
      rcases ih nn (j + 1) (by omega) (by omega) with ⟨f1, f2⟩ | f
      · refine Or.inl ⟨f1, fun r q r1 r2 r3 => ?_⟩
        by_cases w : r = j
        · rw [w]; exact g2 q (Nat.zero_le q) r3
        · exact f2 r q (by omega) r2 r3
      · exact Or.inr f
    · exact Or.inr ⟨g1, j, q, by omega, g2, g3⟩
