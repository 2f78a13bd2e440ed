theorem eqS {n : Nat} {S T : Simp} (oS : okN n S) (oT : okN n T) (h : ∀ p, p < n → S.1 p = T.1 p) : S = T := by
  refine simp_ext oS.1 oT.1 (fun p => ?_)
  rcases Nat.lt_or_ge p n with w | w
  · exact h p w
  · rw [((oS.2 p).2 w).1, ((oT.2 p).2 w).1]
theorem isNone2 (fl : Nat) {n m j : Nat} (hn : n ≤ 8) (hj : j < m) (hm : m ≤ 21) {im : Nat → Int} {X : Rowz} (o : okN n (X j)) (him : Img n m im X) :
    ∀ (d nn i : Nat), i + d = n → d < nn → (∀ p, p < i → (X j).1 p = p) →
    ∃ b : Int, LB_Br_isNone_2 fl (n : Int) im nn ((8 * j : Nat) : Int) (i : Int) = some b ∧ (b = 1 ∧ X j = noneS ∨ b = 0 ∧ X j ≠ noneS) := by
  intro d
  induction d with
  | zero =>
    intro nn i hd hnn hp
    obtain ⟨nn, rfl⟩ : ∃ r, nn = r + 1 := ⟨nn - 1, by omega⟩
    rw [LB_Br_isNone_2, if_pos (by omega)]
    exact ⟨1, rfl, Or.inl ⟨rfl, eqS o (okN_none n) (fun p h => hp p (by omega))⟩⟩
  | succ d ih =>
    intro nn i hd hnn hp
    obtain ⟨nn, rfl⟩ : ∃ r, nn = r + 1 := ⟨nn - 1, by omega⟩
    have e1 : Int.toNat (((8 * j : Nat) : Int) + (i : Int)) = 8 * j + i := by omega
    rw [LB_Br_isNone_2, if_neg (by omega), if_pos (by omega), e1, him j i hj (by omega)]
    by_cases q : (X j).1 i = i
    · rw [if_pos (by omega), if_pos (by omega), show ((i : Int) + 1) = ((i + 1 : Nat) : Int) by omega]
      exact ih nn (i + 1) (by omega) (by omega) (fun p h => by
        by_cases w : p = i
        · rw [w]; exact q
        · exact hp p (by omega))
    · rw [if_neg (by omega)]
      exact ⟨0, rfl, Or.inr ⟨rfl, fun w => q (by rw [w]; rfl)⟩⟩
theorem isNone (fl : Nat) {n m j : Nat} (hn : n ≤ 8) (hj : j < m) (hm : m ≤ 21) (hfl : 100 ≤ fl) {im : Nat → Int} {X : Rowz} (o : okN n (X j)) (him : Img n m im X) :
    ∃ b : Int, LM_Br_isNone fl (n : Int) im ((8 * j : Nat) : Int) = some b ∧ (b = 1 ∧ X j = noneS ∨ b = 0 ∧ X j ≠ noneS) :=
  isNone2 fl hn hj hm o him n fl 0 (by omega) (by omega) (fun p h => by omega)
theorem isTurn2 (fl : Nat) {n m j : Nat} (hn : n ≤ 8) (hj : j < m) (hm : m ≤ 21) {im : Nat → Int} {X : Rowz} (o : okN n (X j)) (him : Img n m im X) :
    ∀ (d nn i : Nat), i + d = n → d < nn → (∀ p, p < i → (X j).1 p = turnF n p) →
    ∃ b : Int, LB_Br_isTurn_2 fl (n : Int) im nn ((8 * j : Nat) : Int) (i : Int) = some b ∧ (b = 1 ∧ X j = turnS n ∨ b = 0 ∧ X j ≠ turnS n) := by
  intro d
  induction d with
  | zero =>
    intro nn i hd hnn hp
    obtain ⟨nn, rfl⟩ : ∃ r, nn = r + 1 := ⟨nn - 1, by omega⟩
    rw [LB_Br_isTurn_2, if_pos (by omega)]
    exact ⟨1, rfl, Or.inl ⟨rfl, eqS o (okN_turn n) (fun p h => hp p (by omega))⟩⟩
  | succ d ih =>
    intro nn i hd hnn hp
    obtain ⟨nn, rfl⟩ : ∃ r, nn = r + 1 := ⟨nn - 1, by omega⟩
    have e1 : Int.toNat (((8 * j : Nat) : Int) + (i : Int)) = 8 * j + i := by omega
    have e2 : turnF n i = n - 1 - i := by unfold turnF; rw [if_pos (by omega)]
    rw [LB_Br_isTurn_2, if_neg (by omega), if_pos (by omega), if_pos (by omega), e1, him j i hj (by omega)]
    by_cases q : (X j).1 i = turnF n i
    · rw [if_pos (by omega), if_pos (by omega), show ((i : Int) + 1) = ((i + 1 : Nat) : Int) by omega]
      exact ih nn (i + 1) (by omega) (by omega) (fun p h => by
        by_cases w : p = i
        · rw [w]; exact q
        · exact hp p (by omega))
    · rw [if_neg (by omega)]
      exact ⟨0, rfl, Or.inr ⟨rfl, fun w => q (by rw [w]; rfl)⟩⟩
theorem isTurn (fl : Nat) {n m j : Nat} (hn : n ≤ 8) (hj : j < m) (hm : m ≤ 21) (hfl : 100 ≤ fl) {im : Nat → Int} {X : Rowz} (o : okN n (X j)) (him : Img n m im X) :
    ∃ b : Int, LM_Br_isTurn fl (n : Int) im ((8 * j : Nat) : Int) = some b ∧ (b = 1 ∧ X j = turnS n ∨ b = 0 ∧ X j ≠ turnS n) :=
  isTurn2 fl hn hj hm o him n fl 0 (by omega) (by omega) (fun p h => by omega)
/-- the way to the front -/
theorem st7 (fl : Nat) {n m : Nat} (hn : n ≤ 8) (hn1 : 1 ≤ n) (hm : m ≤ 21) (hfl : 100 ≤ fl) (t : Int) (X0 : Rowz) :
    ∀ (d nn : Nat) (en im : Nat → Int) (X : Rowz) (l : Nat), d < m → d < nn → Itr n m l X0 X → l ≤ 28 * (m - 1 - d) → (∀ a, okN n (X a)) → Img n m im X → (∀ a, a + 1 < m → a + 1 ≠ d → nrmAt n X a) → (1 ≤ d → d + 1 < m → Mem n X (d - 1)) →
    ∃ x1 en' im' Y l', LB_Br_settle_7 fl (n : Int) nn ((d : Int) - 1) t (m : Int) en im = LB_Br_settle_31 fl (n : Int) x1 t (m : Int) en' im' ∧ Itr n m l' X0 Y ∧ l' ≤ 28 * (m - 1) ∧ Nrm n m Y ∧ (∀ a, okN n (Y a)) ∧ Img n m im' Y := by
  intro d
  induction d with
  | zero =>
    intro nn en im X l hd hnn hI hl o him hN hM
    obtain ⟨nn, rfl⟩ : ∃ r, nn = r + 1 := ⟨nn - 1, by omega⟩
    rw [LB_Br_settle_7, if_pos (by omega)]
    exact ⟨_, en, im, X, l, rfl, hI, by omega, fun j i hj hi => hN j hj (by omega) i hi, o, him⟩
  | succ d ih =>
    intro nn en im X l hd hnn hI hl o him hN hM
    obtain ⟨nn, rfl⟩ : ∃ r, nn = r + 1 := ⟨nn - 1, by omega⟩
    rw [LB_Br_settle_7, if_neg (by omega), if_pos (by omega)]
    rw [show ((((d + 1 : Nat) : Int) - 1) * 8) = ((8 * d : Nat) : Int) by omega]
    obtain ⟨k, en1, im1, Y, g1, g2, g3, g4, g5, g6⟩ := shiftz fl hn hn1 (show d + 1 < m by omega) hm hfl en im X o him
    rw [g1, Option.bind_some]
    dsimp only
    by_cases k0 : k = 0
    · subst k0
      cases g2
      rw [if_neg (by rw [if_pos rfl]; simp)]
      refine ⟨_, en1, im1, X, l, rfl, hI, by omega, fun j i hj hi => ?_, o, g5⟩
      by_cases w : j = d
      · subst w; exact g3 i hi
      · exact hN j hj (by omega) i hi
    · rw [if_pos (by rw [if_neg k0]; decide), if_pos (by omega)]
      rw [show ((((d + 1 : Nat) : Int) - 1) + -1) = ((d : Int) - 1) by omega]
      refine ih nn en1 im1 Y (l + k) (by omega) (by omega) (Itr_add hI (At_Itr (by omega) g2)) (by omega) g4 g5 ?_ ?_
      · intro a ha1 ha2
        by_cases a1 : a = d
        · subst a1; exact g3
        · by_cases a2 : a = d + 1
          · subst a2
            exact settle_behind o g2 (hN (d + 1) ha1 (by omega)) (hM (by omega) (by omega))
          · exact settle_ahead g2 (by omega) (hN a ha1 (by omega))
      · intro d1 d2
        obtain ⟨e, rfl⟩ : ∃ e, d = e + 1 := ⟨d - 1, by omega⟩
        exact settle_mem o g2 (hN e (by omega) (by omega)) g3
/-- NONEs go from the end -/
theorem st38 (fl : Nat) {n m : Nat} (hn : n ≤ 8) (hm : m ≤ 21) (hfl : 100 ≤ fl) (t : Int) (en im : Nat → Int) (X : Rowz) (o : ∀ a, okN n (X a)) (him : Img n m im X) :
    ∀ (d nn : Nat), d ≤ m → d < nn → (∀ r, d ≤ r → r < m → X r = noneS) →
    ∃ x1 f, LB_Br_settle_38 fl (n : Int) nn ((d : Int) - 1) t (d : Int) en im = LB_Br_settle_69 fl (n : Int) x1 t ((f : Nat) : Int) en im ∧ f ≤ d ∧ (∀ r, f ≤ r → r < m → X r = noneS) ∧ (1 ≤ f → X (f - 1) ≠ noneS) := by
  intro d
  induction d with
  | zero =>
    intro nn hd hnn h
    obtain ⟨nn, rfl⟩ : ∃ r, nn = r + 1 := ⟨nn - 1, by omega⟩
    rw [LB_Br_settle_38, if_pos (by omega)]
    exact ⟨_, 0, rfl, Nat.le_refl _, h, fun w => by omega⟩
  | succ d ih =>
    intro nn hd hnn h
    obtain ⟨nn, rfl⟩ : ∃ r, nn = r + 1 := ⟨nn - 1, by omega⟩
    rw [LB_Br_settle_38, if_neg (by omega), if_pos (by omega)]
    rw [show ((((d + 1 : Nat) : Int) - 1) * 8) = ((8 * d : Nat) : Int) by omega]
    obtain ⟨b, hb, hc⟩ := isNone fl hn (show d < m by omega) hm hfl (o d) him
    rw [hb, Option.bind_some]
    rcases hc with ⟨h1, h2⟩ | ⟨h1, h2⟩
    · rw [if_neg (by omega), if_pos (by omega)]
      rw [show ((((d + 1 : Nat) : Int) - 1) + -1) = ((d : Int) - 1) by omega, show (((d + 1 : Nat) : Int) - 1) = (d : Int) by omega]
      obtain ⟨x1, f, f1, f2, f3, f4⟩ := ih nn (by omega) (by omega) (fun r r1 r2 => by
        by_cases w : r = d
        · rw [w]; exact h2
        · exact h r (by omega) r2)
      exact ⟨x1, f, f1, by omega, f3, f4⟩
    · rw [if_pos h1]
      exact ⟨_, d + 1, rfl, Nat.le_refl _, h, fun _ => h2⟩
/-- TURNs go from the front -/
theorem st71 (fl : Nat) {n m : Nat} (hn : n ≤ 8) (hm : m ≤ 21) (hfl : 100 ≤ fl) (t : Int) (en im : Nat → Int) (X : Rowz) (o : ∀ a, okN n (X a)) (him : Img n m im X) {f : Nat} (hf : f ≤ m) :
    ∀ (d nn i : Nat), i + d = f → d < nn → (∀ r, r < i → X r = turnS n) →
    ∃ a, LB_Br_settle_71 fl (n : Int) nn (i : Int) t (f : Int) en im = LB_Br_settle_96 fl (n : Int) ((a : Nat) : Int) t (f : Int) en im ∧ a ≤ f ∧ (∀ r, r < a → X r = turnS n) ∧ (a < f → X a ≠ turnS n) := by
  intro d
  induction d with
  | zero =>
    intro nn i hd hnn h
    obtain ⟨nn, rfl⟩ : ∃ r, nn = r + 1 := ⟨nn - 1, by omega⟩
    rw [LB_Br_settle_71, if_pos (by omega)]
    exact ⟨i, rfl, by omega, h, fun w => by omega⟩
  | succ d ih =>
    intro nn i hd hnn h
    obtain ⟨nn, rfl⟩ : ∃ r, nn = r + 1 := ⟨nn - 1, by omega⟩
    rw [LB_Br_settle_71, if_neg (by omega), if_pos (by omega)]
    rw [show ((i : Int) * 8) = ((8 * i : Nat) : Int) by omega]
    obtain ⟨b, hb, hc⟩ := isTurn fl hn (show i < m by omega) hm hfl (o i) him
    rw [hb, Option.bind_some]
    rcases hc with ⟨h1, h2⟩ | ⟨h1, h2⟩
    · rw [if_neg (by omega), if_pos (by omega), show ((i : Int) + 1) = ((i + 1 : Nat) : Int) by omega]
      exact ih nn (i + 1) (by omega) (by omega) (fun r hr => by
        by_cases w : r = i
        · rw [w]; exact h2
        · exact h r (by omega))
    · rw [if_pos h1]
      exact ⟨i, rfl, by omega, h, fun _ => h2⟩
theorem settlez (fl : Nat) {n m : Nat} (hn : n ≤ 8) (hn1 : 1 ≤ n) (hm1 : 1 ≤ m) (hm : m ≤ 21) (hfl : 100 ≤ fl) (t : Int) (ht : -1000 ≤ t ∧ t ≤ 1000) (en im : Nat → Int) (X : Rowz) (o : ∀ a, okN n (X a)) (him : Img n m im X) (hN : ∀ a, a + 2 < m → nrmAt n X a) :
    ∃ l Y2 Y3 a m3 en' im', LM_Br_settle fl (n : Int) t (m : Int) en im = some (t + ((a : Nat) : Int), ((m3 : Nat) : Int), en', im') ∧ Itr n m l X Y2 ∧ l ≤ 28 * (m - 1) ∧ Nrm n m Y2 ∧ a + m3 ≤ m ∧ (∀ r, r < a → Y2 r = turnS n) ∧ (∀ r, r < m3 → Y2 (a + r) = Y3 r) ∧ (∀ r, a + m3 ≤ r → r < m → Y2 r = noneS) ∧ (∀ r, okN n (Y3 r)) ∧ Img n m3 im' Y3 ∧ (1 ≤ m3 → Y3 0 ≠ turnS n ∧ Y3 (m3 - 1) ≠ noneS) := by
  unfold LM_Br_settle LB_Br_settle_0
  rw [if_pos (by omega)]
  obtain ⟨x1, en1, im1, Y, l, g1, g2, g3, g4, g5, g6⟩ := st7 fl hn hn1 hm hfl t X (m - 1) fl en im X 0 (by omega) (by omega) rfl (by omega) o him (fun a a1 a2 => hN a (by omega)) (fun h1 h2 => by omega)
  rw [show ((m : Int) - 2) = (((m - 1 : Nat) : Int) - 1) by omega, g1]
  unfold LB_Br_settle_31
  rw [if_pos (by omega)]
  obtain ⟨x2, f, f1, f2, f3, f4⟩ := st38 fl hn hm hfl t en1 im1 Y g5 g6 m fl (Nat.le_refl _) (by omega) (fun r r1 r2 => by omega)
  rw [f1]
  unfold LB_Br_settle_69
  obtain ⟨a, a1, a2, a3, a4⟩ := st71 fl hn hm hfl t en1 im1 Y g5 g6 (f := f) (by omega) f fl 0 (by omega) (by omega) (fun r hr => by omega)
  rw [show ((0 : Nat) : Int) = 0 from rfl] at a1
  rw [a1]
  unfold LB_Br_settle_96
  rw [if_pos (by omega), if_pos (by omega), if_pos (by omega)]
  rw [show ((f : Int) - (a : Int)) = ((f - a : Nat) : Int) by omega]
  refine ⟨l, Y, fun r => Y (a + r), a, f - a, en1, _, rfl, g2, g3, g4, by omega, a3, fun r _ => rfl, fun r r1 r2 => f3 r (by omega) r2, fun r => g5 _, ?_, ?_⟩
  · intro r p hr hp
    unfold cpI
    rw [if_pos (by omega), ← g6 (a + r) p (by omega) hp]
    congr 1
    omega
  · intro h
    refine ⟨a4 (by omega), ?_⟩
    show Y (a + (f - a - 1)) ≠ noneS
    rw [show a + (f - a - 1) = f - 1 by omega]
    exact f4 (by omega)
