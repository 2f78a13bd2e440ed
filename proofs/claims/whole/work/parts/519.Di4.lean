theorem M_isIn (fl : Nat) {n : Nat} (hn : n ≤ 20) (sg : Nat → Int) (hs : ∀ c, c < n → sg c = 1 ∨ sg c = -1) {q : Nat} (hq : q < 4 * n) : LM_Md_isIn fl sg (q : Int) = some (if outQ sg q then 0 else 1) := by
  unfold LM_Md_isIn LB_Md_isIn_0 LB_Md_isIn_28 LB_Md_isIn_48 outQ
  have hs := hs (q / 4) (by omega)
  have e : Int.toNat ((q : Int) / 4) = q / 4 := by omega
  have c4 : q % 4 = 0 ∨ q % 4 = 1 ∨ q % 4 = 2 ∨ q % 4 = 3 := by omega
  rcases c4 with c | c | c | c
  · rw [if_pos (by omega), if_neg (by simp; omega)]
  · rw [if_neg (by omega), if_pos (by omega), if_neg (by omega), if_pos (by omega), e]
    rcases hs with s | s
    · rw [if_pos (by omega), if_pos (by simp; omega)]
    · rw [if_neg (by omega), if_neg (by simp; omega)]
  · rw [if_neg (by omega), if_pos (by omega), if_pos (by omega), if_pos (by simp; omega)]
  · rw [if_neg (by omega), if_neg (by omega), if_pos (by omega), e]
    rcases hs with s | s
    · rw [if_pos s, if_neg (by simp; omega)]
    · rw [if_neg (by omega), if_pos (by omega), if_pos (by simp; omega)]
theorem pl4 (fl : Nat) {n : Nat} (hn : n ≤ 20) (lb : Nat → Int) (l : Int) :
    ∀ (d nn q : Nat), q + d = 4 * n → d < nn → LB_Md_places_4 fl (n : Int) lb nn l ((cntP (fun q => lb q == l) q : Nat) : Int) (q : Int) = some ((cntL n lb l : Nat) : Int) := by
  have cle : ∀ q, cntP (fun q => lb q == l) q ≤ q := by
    intro q
    induction q with
    | zero => exact Nat.le_refl _
    | succ q ih => rw [cnt_s]; split <;> omega
  intro d
  induction d with
  | zero =>
    intro nn q hd hnn
    obtain ⟨nn, rfl⟩ : ∃ r, nn = r + 1 := ⟨nn - 1, by omega⟩
    rw [LB_Md_places_4, if_pos (by omega), if_pos (by omega)]
    unfold cntL
    rw [show 4 * n = q by omega]
  | succ d ih =>
    intro nn q hd hnn
    obtain ⟨nn, rfl⟩ : ∃ r, nn = r + 1 := ⟨nn - 1, by omega⟩
    have := cle q
    rw [LB_Md_places_4, if_pos (by omega), if_neg (by omega), if_pos (by omega), Int.toNat_natCast]
    unfold LB_Md_places_36
    have h := ih nn (q + 1) (by omega) (by omega)
    rw [cnt_s] at h
    by_cases c : lb q = l
    · rw [if_neg (fun w => w c), if_pos (by omega), show ((q : Int) + 1) = ((q + 1 : Nat) : Int) by omega]
      rw [if_pos (by simp [c])] at h
      rw [← h]; congr 1
    · rw [if_pos c, if_pos (by omega), show ((q : Int) + 1) = ((q + 1 : Nat) : Int) by omega]
      rw [if_neg (by simp [c])] at h
      rw [← h]; congr 1 <;> omega
theorem M_places (fl : Nat) (hfl : 100 ≤ fl) {n : Nat} (hn : n ≤ 20) (lb : Nat → Int) (l : Int) : LM_Md_places fl (n : Int) lb l = some ((cntL n lb l : Nat) : Int) := by
  unfold LM_Md_places LB_Md_places_0
  exact pl4 fl hn lb l (4 * n) fl 0 (by omega) (by omega)
theorem in4 (fl : Nat) {n : Nat} (hn : n ≤ 20) (sg lb : Nat → Int) (hs : ∀ c, c < n → sg c = 1 ∨ sg c = -1) (l : Int) :
    ∀ (d nn q : Nat), q + d = 4 * n → d < nn → LB_Md_ins_4 fl (n : Int) lb sg nn l ((cntP (fun q => lb q == l && !outQ sg q) q : Nat) : Int) (q : Int) = some ((insL n sg lb l : Nat) : Int) := by
  have cle : ∀ q, cntP (fun q => lb q == l && !outQ sg q) q ≤ q := by
    intro q
    induction q with
    | zero => exact Nat.le_refl _
    | succ q ih => rw [cnt_s]; split <;> omega
  intro d
  induction d with
  | zero =>
    intro nn q hd hnn
    obtain ⟨nn, rfl⟩ : ∃ r, nn = r + 1 := ⟨nn - 1, by omega⟩
    rw [LB_Md_ins_4, if_pos (by omega), if_pos (by omega)]
    unfold insL
    rw [show 4 * n = q by omega]
  | succ d ih =>
    intro nn q hd hnn
    obtain ⟨nn, rfl⟩ : ∃ r, nn = r + 1 := ⟨nn - 1, by omega⟩
    have := cle q
    rw [LB_Md_ins_4, if_pos (by omega), if_neg (by omega), if_pos (by omega), Int.toNat_natCast]
    unfold LB_Md_ins_43 LB_Md_ins_44
    have h := ih nn (q + 1) (by omega) (by omega)
    rw [cnt_s] at h
    have e1 : ((q : Int) + 1) = ((q + 1 : Nat) : Int) := by omega
    by_cases c : lb q = l
    · rw [if_neg (fun w => w c), M_isIn fl hn sg hs (show q < 4 * n by omega), Option.bind_some]
      cases o : outQ sg q
      · rw [if_neg (by decide), if_pos (by omega), e1]
        rw [if_pos (by simp [c, o])] at h
        rw [← h]; congr 1
      · rw [if_pos (by decide), if_pos (by omega), e1]
        rw [if_neg (by simp [o])] at h
        rw [← h]; congr 1 <;> omega
    · rw [if_pos c, if_pos (by omega), e1]
      rw [if_neg (by simp [c])] at h
      rw [← h]; congr 1 <;> omega
theorem M_ins (fl : Nat) (hfl : 100 ≤ fl) {n : Nat} (hn : n ≤ 20) (sg lb : Nat → Int) (hs : ∀ c, c < n → sg c = 1 ∨ sg c = -1) (l : Int) : LM_Md_ins fl (n : Int) lb sg l = some ((insL n sg lb l : Nat) : Int) := by
  unfold LM_Md_ins LB_Md_ins_0
  exact in4 fl hn sg lb hs l (4 * n) fl 0 (by omega) (by omega)
/-- the least of the labels that a test picks, so far -/
def LeastP (lb : Nat → Int) (bad : Int → Prop) (m : Nat) (r : Int) : Prop := (r = 0 ∧ ∀ q, q < m → ¬ bad (lb q)) ∨ (0 < r ∧ bad r ∧ (∃ q, q < m ∧ lb q = r) ∧ ∀ q, q < m → lb q < r → ¬ bad (lb q))
theorem least_step {lb : Nat → Int} {bad : Int → Prop} {m : Nat} {r : Int} (hp : 0 < lb m) (h : LeastP lb bad m r) :
    (¬ bad (lb m) → LeastP lb bad (m + 1) r) ∧ (bad (lb m) → r = 0 → LeastP lb bad (m + 1) (lb m)) ∧ (bad (lb m) → r ≠ 0 → r ≤ lb m → LeastP lb bad (m + 1) r) ∧ (bad (lb m) → r ≠ 0 → ¬ r ≤ lb m → LeastP lb bad (m + 1) (lb m)) := by
  have ext : ∀ {P : Nat → Prop}, (∀ q, q < m → P q) → P m → ∀ q, q < m + 1 → P q := fun h1 h2 q hq => by
    by_cases w : q = m
    · rw [w]; exact h2
    · exact h1 q (by omega)
  refine ⟨fun hb => ?_, fun hb r0 => ?_, fun hb r0 hr => ?_, fun hb r0 hr => ?_⟩
  · rcases h with ⟨h1, h2⟩ | ⟨h1, h2, ⟨q, h3, h4⟩, h5⟩
    · exact Or.inl ⟨h1, ext h2 hb⟩
    · exact Or.inr ⟨h1, h2, ⟨q, by omega, h4⟩, ext h5 (fun _ => hb)⟩
  · rcases h with ⟨h1, h2⟩ | ⟨h1, _⟩
    · exact Or.inr ⟨hp, hb, ⟨m, by omega, rfl⟩, ext (fun q hq _ => h2 q hq) (fun w => by omega)⟩
    · omega
  · rcases h with ⟨h1, h2⟩ | ⟨h1, h2, ⟨q, h3, h4⟩, h5⟩
    · exact absurd h1 r0
    · exact Or.inr ⟨h1, h2, ⟨q, by omega, h4⟩, ext h5 (fun w => by omega)⟩
  · rcases h with ⟨h1, h2⟩ | ⟨h1, h2, ⟨q, h3, h4⟩, h5⟩
    · exact absurd h1 r0
    · exact Or.inr ⟨hp, hb, ⟨m, by omega, rfl⟩, ext (fun q hq w => h5 q hq (by omega)) (fun w => by omega)⟩
theorem lo4 (fl : Nat) (hfl : 100 ≤ fl) {n : Nat} (hn : n ≤ 20) (lb : Nat → Int) (hl : ∀ q, q < 4 * n → 0 < lb q) :
    ∀ (d nn q : Nat) (r : Int), q + d = 4 * n → d < nn → LeastP lb (fun l => cntL n lb l ≠ 2) q r → ∃ r', LB_Md_loose_4 fl (n : Int) lb nn r (q : Int) = some r' ∧ LeastP lb (fun l => cntL n lb l ≠ 2) (4 * n) r' := by
  intro d
  induction d with
  | zero =>
    intro nn q r hd hnn h
    obtain ⟨nn, rfl⟩ : ∃ r, nn = r + 1 := ⟨nn - 1, by omega⟩
    rw [LB_Md_loose_4, if_pos (by omega), if_pos (by omega)]
    exact ⟨r, rfl, by rw [show 4 * n = q by omega]; exact h⟩
  | succ d ih =>
    intro nn q r hd hnn h
    obtain ⟨nn, rfl⟩ : ∃ r, nn = r + 1 := ⟨nn - 1, by omega⟩
    obtain ⟨s1, s2, s3, s4⟩ := least_step (hl q (by omega)) h
    rw [LB_Md_loose_4, if_pos (by omega), if_neg (by omega), if_pos (by omega), Int.toNat_natCast, M_places fl hfl hn, Option.bind_some]
    unfold LB_Md_loose_49 LB_Md_loose_45 LB_Md_loose_50
    have e1 : ((q : Int) + 1) = ((q + 1 : Nat) : Int) := by omega
    by_cases c : cntL n lb (lb q) = 2
    · rw [if_pos (by omega), if_pos (by omega), e1]
      exact ih nn (q + 1) r (by omega) (by omega) (s1 (fun w => w c))
    · rw [if_neg (by omega)]
      by_cases c2 : r = 0
      · rw [if_pos c2, if_pos (by omega), e1]
        exact ih nn (q + 1) _ (by omega) (by omega) (s2 c c2)
      · rw [if_neg c2]
        by_cases c3 : r ≤ lb q
        · rw [if_pos c3, if_pos (by omega), e1]
          exact ih nn (q + 1) _ (by omega) (by omega) (s3 c c2 c3)
        · rw [if_neg c3, if_pos (by omega), e1]
          exact ih nn (q + 1) _ (by omega) (by omega) (s4 c c2 c3)
theorem M_loose (fl : Nat) (hfl : 100 ≤ fl) {n : Nat} (hn : n ≤ 20) (lb : Nat → Int) (hl : ∀ q, q < 4 * n → 0 < lb q) : ∃ r, LM_Md_loose fl (n : Int) lb = some r ∧ ((r = 0 ∧ ∀ q, q < 4 * n → cntL n lb (lb q) = 2) ∨ 0 < r ∧ Bad1 n lb r) := by
  unfold LM_Md_loose LB_Md_loose_0
  obtain ⟨r, h1, h2⟩ := lo4 fl hfl hn lb hl (4 * n) fl 0 0 (by omega) (by omega) (Or.inl ⟨rfl, fun q hq => by omega⟩)
  refine ⟨r, h1, ?_⟩
  rcases h2 with ⟨w1, w2⟩ | ⟨w1, w2, w3, w4⟩
  · exact Or.inl ⟨w1, fun q hq => Decidable.of_not_not (w2 q hq)⟩
  · exact Or.inr ⟨w1, w3, w2, fun q hq hlt => Decidable.of_not_not (w4 q hq hlt)⟩
theorem tu4 (fl : Nat) (hfl : 100 ≤ fl) {n : Nat} (hn : n ≤ 20) (sg lb : Nat → Int) (hs : ∀ c, c < n → sg c = 1 ∨ sg c = -1) (hl : ∀ q, q < 4 * n → 0 < lb q) :
    ∀ (d nn q : Nat) (r : Int), q + d = 4 * n → d < nn → LeastP lb (fun l => insL n sg lb l ≠ 1) q r → ∃ r', LB_Md_turned_4 fl (n : Int) lb sg nn r (q : Int) = some r' ∧ LeastP lb (fun l => insL n sg lb l ≠ 1) (4 * n) r' := by
  intro d
  induction d with
  | zero =>
    intro nn q r hd hnn h
    obtain ⟨nn, rfl⟩ : ∃ r, nn = r + 1 := ⟨nn - 1, by omega⟩
    rw [LB_Md_turned_4, if_pos (by omega), if_pos (by omega)]
    exact ⟨r, rfl, by rw [show 4 * n = q by omega]; exact h⟩
  | succ d ih =>
    intro nn q r hd hnn h
    obtain ⟨nn, rfl⟩ : ∃ r, nn = r + 1 := ⟨nn - 1, by omega⟩
    obtain ⟨s1, s2, s3, s4⟩ := least_step (hl q (by omega)) h
    rw [LB_Md_turned_4, if_pos (by omega), if_neg (by omega), if_pos (by omega), Int.toNat_natCast, M_ins fl hfl hn sg lb hs, Option.bind_some]
    unfold LB_Md_turned_49 LB_Md_turned_45 LB_Md_turned_50
    have e1 : ((q : Int) + 1) = ((q + 1 : Nat) : Int) := by omega
    by_cases c : insL n sg lb (lb q) = 1
    · rw [if_pos (by omega), if_pos (by omega), e1]
      exact ih nn (q + 1) r (by omega) (by omega) (s1 (fun w => w c))
    · rw [if_neg (by omega)]
      by_cases c2 : r = 0
      · rw [if_pos c2, if_pos (by omega), e1]
        exact ih nn (q + 1) _ (by omega) (by omega) (s2 c c2)
      · rw [if_neg c2]
        by_cases c3 : r ≤ lb q
        · rw [if_pos c3, if_pos (by omega), e1]
          exact ih nn (q + 1) _ (by omega) (by omega) (s3 c c2 c3)
        · rw [if_neg c3, if_pos (by omega), e1]
          exact ih nn (q + 1) _ (by omega) (by omega) (s4 c c2 c3)
theorem M_turned (fl : Nat) (hfl : 100 ≤ fl) {n : Nat} (hn : n ≤ 20) (sg lb : Nat → Int) (hs : ∀ c, c < n → sg c = 1 ∨ sg c = -1) (hl : ∀ q, q < 4 * n → 0 < lb q) : ∃ r, LM_Md_turned fl (n : Int) lb sg = some r ∧ ((r = 0 ∧ ∀ q, q < 4 * n → insL n sg lb (lb q) = 1) ∨ 0 < r ∧ Bad2 n sg lb r) := by
  unfold LM_Md_turned LB_Md_turned_0
  obtain ⟨r, h1, h2⟩ := tu4 fl hfl hn sg lb hs hl (4 * n) fl 0 0 (by omega) (by omega) (Or.inl ⟨rfl, fun q hq => by omega⟩)
  refine ⟨r, h1, ?_⟩
  rcases h2 with ⟨w1, w2⟩ | ⟨w1, w2, w3, w4⟩
  · exact Or.inl ⟨w1, fun q hq => Decidable.of_not_not (w2 q hq)⟩
  · exact Or.inr ⟨w1, w3, w2, fun q hq hlt => Decidable.of_not_not (w4 q hq hlt)⟩
theorem Bad1_one {n : Nat} {lb : Nat → Int} {l r : Int} (h1 : Bad1 n lb l) (h2 : Bad1 n lb r) : l = r := by
  obtain ⟨⟨q, a1, a2⟩, a3, a4⟩ := h1
  obtain ⟨⟨p, b1, b2⟩, b3, b4⟩ := h2
  rcases Int.lt_trichotomy l r with w | w | w
  · exact absurd (by rw [← a2] at *; exact b4 q a1 w) a3
  · exact w
  · exact absurd (by rw [← b2] at *; exact a4 p b1 w) b3
theorem Bad2_one {n : Nat} {sg lb : Nat → Int} {l r : Int} (h1 : Bad2 n sg lb l) (h2 : Bad2 n sg lb r) : l = r := by
  obtain ⟨⟨q, a1, a2⟩, a3, a4⟩ := h1
  obtain ⟨⟨p, b1, b2⟩, b3, b4⟩ := h2
  rcases Int.lt_trichotomy l r with w | w | w
  · exact absurd (by rw [← a2] at *; exact b4 q a1 w) a3
  · exact w
  · exact absurd (by rw [← b2] at *; exact a4 p b1 w) b3
