theorem mT4 (fl : Nat) {n m j : Nat} (hn : n ≤ 8) (hj : j < m) (hm : m ≤ 21) {si : Nat → Int} {X : Rowz} (o : okN n (X j)) (h : Jmg n m si X) :
    ∀ (d nn p : Nat) (x2 : Int), p + d = n → d < nn → (x2 = 1 ∧ (∀ q, q < p → (X j).1 q = turnF n q) ∨ x2 = 0 ∧ X j ≠ turnS n) →
    ∃ b : Int, LB_Md_isTurn_4 fl (n : Int) si nn (j : Int) x2 ((p + 1 : Nat) : Int) = some b ∧ (b = 1 ∧ X j = turnS n ∨ b = 0 ∧ X j ≠ turnS n) := by
  intro d
  induction d with
  | zero =>
    intro nn p x2 hd hnn hx
    obtain ⟨nn, rfl⟩ : ∃ r, nn = r + 1 := ⟨nn - 1, by omega⟩
    rw [LB_Md_isTurn_4, if_pos (by omega), if_pos (by rcases hx with hx | hx <;> omega)]
    refine ⟨x2, rfl, ?_⟩
    rcases hx with ⟨h1, h2⟩ | hx
    · exact Or.inl ⟨h1, eqS o (okN_turn n) (fun q hq => h2 q (by omega))⟩
    · exact Or.inr hx
  | succ d ih =>
    intro nn p x2 hd hnn hx
    obtain ⟨nn, rfl⟩ : ∃ r, nn = r + 1 := ⟨nn - 1, by omega⟩
    have e1 : Int.toNat (9 * (j : Int) + ((p + 1 : Nat) : Int)) = 9 * j + (p + 1) := by omega
    unfold LB_Md_isTurn_4 LB_Md_isTurn_42 LB_Md_isTurn_43
    rw [if_neg (by omega), show (((p + 1 : Nat) : Int) + 1) = ((p + 1 + 1 : Nat) : Int) by omega]
    rcases hx with ⟨h1, h2⟩ | ⟨h1, h2⟩
    · have e2 : turnF n p = n - 1 - p := by unfold turnF; rw [if_pos (by omega)]
      rw [if_neg (by omega), if_pos (by omega), if_pos (by omega), if_pos (by omega), e1, h j p hj (by omega)]
      by_cases q : (X j).1 p = turnF n p
      · rw [if_neg (by omega), if_pos (by omega)]
        refine ih nn (p + 1) 1 (by omega) (by omega) (Or.inl ⟨rfl, fun r hr => ?_⟩)
        by_cases w : r = p
        · rw [w]; exact q
        · exact h2 r (by omega)
      · rw [if_pos (by omega), if_pos (by omega)]
        exact ih nn (p + 1) 0 (by omega) (by omega) (Or.inr ⟨rfl, fun w => q (by rw [w]; rfl)⟩)
    · rw [if_pos h1, if_pos (by omega)]
      exact ih nn (p + 1) 0 (by omega) (by omega) (Or.inr ⟨rfl, h2⟩)
theorem mT (fl : Nat) {n m j : Nat} (hn : n ≤ 8) (hj : j < m) (hm : m ≤ 21) (hfl : 100 ≤ fl) {si : Nat → Int} {X : Rowz} (o : okN n (X j)) (h : Jmg n m si X) :
    ∃ b : Int, LM_Md_isTurn fl (n : Int) si (j : Int) = some b ∧ (b = 1 ∧ X j = turnS n ∨ b = 0 ∧ X j ≠ turnS n) := by
  unfold LM_Md_isTurn LB_Md_isTurn_0
  exact mT4 fl hn hj hm o h n fl 0 1 (by omega) (by omega) (Or.inl ⟨rfl, fun q hq => by omega⟩)
theorem mN4 (fl : Nat) {n m j : Nat} (hn : n ≤ 8) (hj : j < m) (hm : m ≤ 21) {si : Nat → Int} {X : Rowz} (o : okN n (X j)) (h : Jmg n m si X) :
    ∀ (d nn p : Nat) (x2 : Int), p + d = n → d < nn → (x2 = 1 ∧ (∀ q, q < p → (X j).1 q = q) ∨ x2 = 0 ∧ X j ≠ noneS) →
    ∃ b : Int, LB_Md_isNone_4 fl (n : Int) si nn (j : Int) x2 ((p + 1 : Nat) : Int) = some b ∧ (b = 1 ∧ X j = noneS ∨ b = 0 ∧ X j ≠ noneS) := by
  intro d
  induction d with
  | zero =>
    intro nn p x2 hd hnn hx
    obtain ⟨nn, rfl⟩ : ∃ r, nn = r + 1 := ⟨nn - 1, by omega⟩
    rw [LB_Md_isNone_4, if_pos (by omega), if_pos (by rcases hx with hx | hx <;> omega)]
    refine ⟨x2, rfl, ?_⟩
    rcases hx with ⟨h1, h2⟩ | hx
    · exact Or.inl ⟨h1, eqS o (okN_none n) (fun q hq => h2 q (by omega))⟩
    · exact Or.inr hx
  | succ d ih =>
    intro nn p x2 hd hnn hx
    obtain ⟨nn, rfl⟩ : ∃ r, nn = r + 1 := ⟨nn - 1, by omega⟩
    have e1 : Int.toNat (9 * (j : Int) + ((p + 1 : Nat) : Int)) = 9 * j + (p + 1) := by omega
    unfold LB_Md_isNone_4 LB_Md_isNone_35 LB_Md_isNone_36
    rw [if_neg (by omega), show (((p + 1 : Nat) : Int) + 1) = ((p + 1 + 1 : Nat) : Int) by omega]
    rcases hx with ⟨h1, h2⟩ | ⟨h1, h2⟩
    · rw [if_neg (by omega), if_pos (by omega), if_pos (by omega), e1, h j p hj (by omega)]
      by_cases q : (X j).1 p = p
      · rw [if_neg (by omega), if_pos (by omega)]
        refine ih nn (p + 1) 1 (by omega) (by omega) (Or.inl ⟨rfl, fun r hr => ?_⟩)
        by_cases w : r = p
        · rw [w]; exact q
        · exact h2 r (by omega)
      · rw [if_pos (by omega), if_pos (by omega)]
        exact ih nn (p + 1) 0 (by omega) (by omega) (Or.inr ⟨rfl, fun w => q (by rw [w]; rfl)⟩)
    · rw [if_pos h1, if_pos (by omega)]
      exact ih nn (p + 1) 0 (by omega) (by omega) (Or.inr ⟨rfl, h2⟩)
theorem mN (fl : Nat) {n m j : Nat} (hn : n ≤ 8) (hj : j < m) (hm : m ≤ 21) (hfl : 100 ≤ fl) {si : Nat → Int} {X : Rowz} (o : okN n (X j)) (h : Jmg n m si X) :
    ∃ b : Int, LM_Md_isNone fl (n : Int) si (j : Int) = some b ∧ (b = 1 ∧ X j = noneS ∨ b = 0 ∧ X j ≠ noneS) := by
  unfold LM_Md_isNone LB_Md_isNone_0
  exact mN4 fl hn hj hm o h n fl 0 1 (by omega) (by omega) (Or.inl ⟨rfl, fun q hq => by omega⟩)
/-- turned over, in the reference -/
theorem to7 (fl : Nat) {n j : Nat} (hn : n ≤ 8) (hj : j < 21) (f : Nat → Nat) (hf : ∀ p, p < n → f p < n) :
    ∀ (d nn i : Nat) (si si0 : Nat → Int), i + d = n → d < nn → (∀ p, p < n → si (9 * j + (p + 1)) = (if p < i ∨ n - 1 - p < i then ((n - 1 - f (n - 1 - p) : Nat) : Int) else (f p : Int)) + 1) → (∀ q, q < 9 * j ∨ 9 * j + 9 ≤ q → si q = si0 q) → 2 * i ≤ n + 1 →
    ∃ si', LB_Md_turnOver_7 fl (n : Int) nn (j : Int) (n : Int) ((i + 1 : Nat) : Int) si = some si' ∧ (∀ p, p < n → si' (9 * j + (p + 1)) = ((n - 1 - f (n - 1 - p) : Nat) : Int) + 1) ∧ (∀ q, q < 9 * j ∨ 9 * j + 9 ≤ q → si' q = si0 q) := by
  intro d
  induction d with
  | zero =>
    intro nn i si si0 hd hnn h1 h2 h3
    obtain ⟨nn, rfl⟩ : ∃ r, nn = r + 1 := ⟨nn - 1, by omega⟩
    rw [LB_Md_turnOver_7, if_pos (by omega), if_pos (by omega)]
    exact ⟨si, rfl, fun p hp => by rw [h1 p hp, if_pos (by omega)], h2⟩
  | succ d ih =>
    intro nn i si si0 hd hnn h1 h2 h3
    obtain ⟨nn, rfl⟩ : ∃ r, nn = r + 1 := ⟨nn - 1, by omega⟩
    rw [LB_Md_turnOver_7, if_pos (by omega)]
    by_cases q : n - 1 - i < i
    · rw [if_pos (by omega)]
      exact ⟨si, rfl, fun p hp => by rw [h1 p hp, if_pos (by omega)], h2⟩
    · have e1 : Int.toNat (9 * (j : Int) + ((i + 1 : Nat) : Int)) = 9 * j + (i + 1) := by omega
      have e2 : Int.toNat (9 * (j : Int) + (n : Int) + 1 - ((i + 1 : Nat) : Int)) = 9 * j + (n - 1 - i + 1) := by omega
      have r1 := h1 i (by omega)
      have r2 := h1 (n - 1 - i) (by omega)
      rw [if_neg (by omega)] at r1
      rw [if_neg (by omega)] at r2
      have b1 := hf i (by omega)
      have b2 := hf (n - 1 - i) (by omega)
      rw [if_neg (by omega), if_pos (by omega), if_pos (by omega), if_pos (by omega), if_pos (by omega)]
      rw [e1, e2, r1, r2, if_pos (by omega), show (((i + 1 : Nat) : Int) + 1) = ((i + 1 + 1 : Nat) : Int) by omega]
      refine ih nn (i + 1) _ si0 (by omega) (by omega) ?_ ?_ (by omega)
      · intro p hp
        by_cases p1 : p = n - 1 - i
        · subst p1
          rw [up_eq, if_pos (by omega), show n - 1 - (n - 1 - i) = i by omega]; omega
        · rw [up_ne _ _ (by omega)]
          by_cases p2 : p = i
          · subst p2; rw [up_eq, if_pos (by omega)]; omega
          · rw [up_ne _ _ (by omega), h1 p hp]
            by_cases p3 : p < i ∨ n - 1 - p < i
            · rw [if_pos p3, if_pos (by omega)]
            · rw [if_neg p3, if_neg (by omega)]
      · intro q hq
        rw [up_ne _ _ (by omega), up_ne _ _ (by omega)]; exact h2 q hq
theorem to (fl : Nat) {n j : Nat} (hn : n ≤ 8) (hj : j < 21) (hfl : 100 ≤ fl) {S : Simp} (o : okN n S) (si : Nat → Int) (h : ∀ p, p < n → si (9 * j + (p + 1)) = (S.1 p : Int) + 1) :
    ∃ si', LM_Md_turnOver fl (n : Int) (j : Int) si = some si' ∧ (∀ p, p < n → si' (9 * j + (p + 1)) = ((conjS n S).1 p : Int) + 1) ∧ (∀ q, q < 9 * j ∨ 9 * j + 9 ≤ q → si' q = si q) := by
  unfold LM_Md_turnOver LB_Md_turnOver_0
  obtain ⟨si', h1, h2, h3⟩ := to7 fl hn hj S.1 (fun p hp => ((o.2 p).1 hp).1) n fl 0 si si (by omega) (by omega) (fun p hp => by rw [if_neg (by omega)]; exact h p hp) (fun q _ => rfl) (by omega)
  refine ⟨si', h1, fun p hp => ?_, h3⟩
  rw [h2 p hp]
  show _ = ((turnF n (S.1 (turnF n p)) : Nat) : Int) + 1
  have e1 : turnF n p = n - 1 - p := by unfold turnF; rw [if_pos hp]
  have b := ((o.2 (n - 1 - p)).1 (by omega)).1
  rw [e1]; unfold turnF; rw [if_pos b]
theorem lt57 (fl : Nat) {n m i : Nat} (hn : n ≤ 8) (hi : i + 1 < n) (hm : m + 1 ≤ 21) (Y : Rowz) (t x : Int) (neg : Bool) (hx : neg = decide (x < 0)) :
    ∀ (d nn q : Nat) (si : Nat → Int), q + d = n → d < nn → Jmg n m si Y → (∀ p, p < q → si (9 * m + (p + 1)) = ((letS n i neg).1 p : Int) + 1) →
    ∃ si', LB_Md_letter_57 fl (n : Int) nn x (n : Int) ((i + 1 : Nat) : Int) ((q + 1 : Nat) : Int) t (m : Int) si = some (t, (m : Int) + 1, si') ∧ Jmg n (m + 1) si' (putR Y m (letS n i neg)) := by
  intro d
  induction d with
  | zero =>
    intro nn q si hd hnn h hp
    obtain ⟨nn, rfl⟩ : ∃ r, nn = r + 1 := ⟨nn - 1, by omega⟩
    rw [LB_Md_letter_57, if_pos (by omega), if_pos (by omega)]
    refine ⟨_, rfl, ?_⟩
    intro j p hj hp2
    by_cases j1 : j = m
    · subst j1; rw [putR_k, hp p (by omega)]
    · rw [putR_o j1]; exact h j p (by omega) hp2
  | succ d ih =>
    intro nn q si hd hnn h hp
    obtain ⟨nn, rfl⟩ : ∃ r, nn = r + 1 := ⟨nn - 1, by omega⟩
    have e1 : Int.toNat (9 * (m : Int) + ((q + 1 : Nat) : Int)) = 9 * m + (q + 1) := by omega
    unfold LB_Md_letter_57 LB_Md_letter_78 LB_Md_letter_120
    rw [if_neg (by omega)]
    have fin : ∀ v : Int, v = ((letS n i neg).1 q : Int) + 1 → ∃ si', LB_Md_letter_57 fl (n : Int) nn x (n : Int) ((i + 1 : Nat) : Int) (((q + 1 : Nat) : Int) + 1) t (m : Int) (up si (9 * m + (q + 1)) v) = some (t, (m : Int) + 1, si') ∧ Jmg n (m + 1) si' (putR Y m (letS n i neg)) := fun v hv => by
      rw [show (((q + 1 : Nat) : Int) + 1) = ((q + 1 + 1 : Nat) : Int) by omega]
      refine ih nn (q + 1) _ (by omega) (by omega) ?_ ?_
      · intro j p hj hp2
        rw [up_ne _ _ (by omega)]; exact h j p hj hp2
      · intro p hp2
        by_cases p1 : p = q
        · subst p1; rw [up_eq, hv]
        · rw [up_ne _ _ (by omega)]; exact hp p (by omega)
    by_cases x0 : x < 0
    · have en : neg = true := by rw [hx]; exact decide_eq_true x0
      have el : (letS n i neg).1 q = sw i (turnF n q) := by rw [en]; rfl
      have e3 : turnF n q = n - 1 - q := by unfold turnF; rw [if_pos (by omega)]
      rw [el, e3] at fin
      rw [if_neg (by omega), if_pos (by omega)]
      by_cases c1 : n - 1 - q = i
      · rw [if_neg (by omega), if_pos (by omega), if_pos (by omega), if_pos (by omega), e1]
        exact fin _ (by rw [c1, sw_i] <;> omega)
      · rw [if_pos (by omega), if_pos (by omega)]
        by_cases c2 : n - 1 - q = i + 1
        · rw [if_neg (by omega), if_pos (by omega), if_pos (by omega), if_pos (by omega), e1]
          exact fin _ (by rw [c2, sw_s] <;> omega)
        · rw [if_pos (by omega), if_pos (by omega), if_pos (by omega), if_pos (by omega), e1]
          exact fin _ (by rw [sw_o c1 c2]; omega)
    · have en : neg = false := by rw [hx]; exact decide_eq_false x0
      have el : (letS n i neg).1 q = sw i q := by rw [en]; rfl
      rw [el] at fin
      rw [if_pos (by omega)]
      by_cases c1 : q = i
      · rw [if_neg (by omega), if_pos (by omega), if_pos (by omega), if_pos (by omega), e1]
        exact fin _ (by rw [c1, sw_i] <;> omega)
      · rw [if_pos (by omega), if_pos (by omega)]
        by_cases c2 : q = i + 1
        · rw [if_neg (by omega), if_pos (by omega), if_pos (by omega), if_pos (by omega), e1]
          exact fin _ (by rw [c2, sw_s] <;> omega)
        · rw [if_pos (by omega), if_pos (by omega), if_pos (by omega), if_pos (by omega), e1]
          exact fin _ (by rw [sw_o c1 c2]; omega)
theorem lt33 (fl : Nat) {n m i : Nat} (hn : n ≤ 8) (hi : i + 1 < n) (hm : m + 1 ≤ 21) (hfl : 100 ≤ fl) (Y : Rowz) (o : ∀ a, okN n (Y a)) (t x : Int) (hx : x < 0) :
    ∀ (d nn q : Nat) (si : Nat → Int), q + d = m → d < nn → Jmg n m si (cjQ n Y q) →
    ∃ si', LB_Md_letter_33 fl (n : Int) nn x (n : Int) ((i + 1 : Nat) : Int) (q : Int) t (m : Int) si = some (t, (m : Int) + 1, si') ∧ Jmg n (m + 1) si' (putR (conjR n Y) m (letS n i true)) := by
  intro d
  induction d with
  | zero =>
    intro nn q si hd hnn h
    obtain ⟨nn, rfl⟩ : ∃ r, nn = r + 1 := ⟨nn - 1, by omega⟩
    rw [LB_Md_letter_33, if_pos (by omega)]
    unfold LB_Md_letter_54
    exact lt57 fl hn hi hm (conjR n Y) t x true (decide_eq_true hx).symm n fl 0 si (by omega) (by omega) (fun j p hj hp => by rw [h j p hj hp, cjQ_lt (by omega)]; rfl) (fun p hp => by omega)
  | succ d ih =>
    intro nn q si hd hnn h
    obtain ⟨nn, rfl⟩ : ∃ r, nn = r + 1 := ⟨nn - 1, by omega⟩
    rw [LB_Md_letter_33, if_neg (by omega)]
    obtain ⟨si1, h1, h2, h3⟩ := to fl hn (show q < 21 by omega) hfl (o q) si (fun p hp => by rw [h q p (by omega) hp, cjQ_ge (by omega)])
    rw [h1, Option.bind_some, if_pos (by omega), show ((q : Int) + 1) = ((q + 1 : Nat) : Int) by omega]
    refine ih nn (q + 1) si1 (by omega) (by omega) ?_
    intro j p hj hp
    by_cases j1 : j = q
    · subst j1; rw [h2 p hp, cjQ_lt (by omega)]
    · rw [h3 _ (by omega), h j p hj hp]
      by_cases j2 : j < q
      · rw [cjQ_lt j2, cjQ_lt (by omega)]
      · rw [cjQ_ge (by omega), cjQ_ge (by omega)]
theorem pw_s (a : Nat → Int) (k : Nat) : pw a (k + 1) = if a k < 0 then pw a k - 1 else pw a k := rfl
theorem lrow_s (n : Nat) (a : Nat → Int) (k : Nat) : lrow n a (k + 1) = putR (if a k < 0 then conjR n (lrow n a k) else lrow n a k) k (letS n ((a k).natAbs - 1) (decide (a k < 0))) := rfl
theorem letter (fl : Nat) {n k : Nat} (hn : n ≤ 8) (hk : k < 20) (hfl : 100 ≤ fl) (a : Nat → Int) (ha : a k ≠ 0 ∧ (a k).natAbs < n) (o : ∀ b, okN n (lrow n a k b)) (si : Nat → Int) (h : Jmg n k si (lrow n a k)) :
    ∃ si', LM_Md_letter fl (n : Int) (a k) (pw a k) (k : Int) si = some (pw a (k + 1), (k : Int) + 1, si') ∧ Jmg n (k + 1) si' (lrow n a (k + 1)) := by
  have hb := pw_b a k
  unfold LM_Md_letter LB_Md_letter_0 LB_Md_letter_15
  by_cases neg : a k < 0
  · rw [if_neg (by omega), if_pos (by omega), if_neg (by omega), if_pos (by omega), show (-(a k)) = (((a k).natAbs - 1 + 1 : Nat) : Int) by omega]
    have := lt33 fl hn (show (a k).natAbs - 1 + 1 < n by omega) (show k + 1 ≤ 21 by omega) hfl (lrow n a k) o (pw a k - 1) (a k) neg k fl 0 si (by omega) (by omega) (fun j p hj hp => by rw [cjQ_ge (by omega)]; exact h j p hj hp)
    rw [pw_s, lrow_s, if_pos neg, if_pos neg, decide_eq_true neg]
    exact this
  · rw [if_pos (by omega), if_pos (by omega)]
    unfold LB_Md_letter_54
    have := lt57 fl hn (show (a k).natAbs - 1 + 1 < n by omega) (show k + 1 ≤ 21 by omega) (lrow n a k) (pw a k) (a k) false (decide_eq_false neg).symm n fl 0 si (by omega) (by omega) h (fun p hp => by omega)
    rw [pw_s, lrow_s, if_neg neg, if_neg neg, decide_eq_false neg]
    rw [show (((a k).natAbs - 1 + 1 : Nat) : Int) = a k by omega] at this
    exact this
