def okN (n : Nat) (S : Simp) : Prop := okS S ∧ ∀ p, (p < n → S.1 p < n ∧ S.2 p < n) ∧ (n ≤ p → S.1 p = p ∧ S.2 p = p)
theorem sw_lt {n i p : Nat} (hi : i + 1 < n) (hp : p < n) : sw i p < n := by unfold sw; (repeat' split) <;> omega
theorem sw_ge {n i p : Nat} (hi : i + 1 < n) (hp : n ≤ p) : sw i p = p := sw_o (by omega) (by omega)
theorem okN_sL {n i : Nat} {S : Simp} (hi : i + 1 < n) (h : okN n S) : okN n (sL i S) := by
  refine ⟨okS_sL h.1, fun p => ⟨fun hp => ⟨?_, ?_⟩, fun hp => ⟨?_, ?_⟩⟩⟩
  · exact sw_lt hi ((h.2 p).1 hp).1
  · exact ((h.2 _).1 (sw_lt hi hp)).2
  · show sw i (S.1 p) = p; rw [((h.2 p).2 hp).1]; exact sw_ge hi hp
  · show S.2 (sw i p) = p; rw [sw_ge hi hp]; exact ((h.2 p).2 hp).2
theorem okN_sR {n i : Nat} {S : Simp} (hi : i + 1 < n) (h : okN n S) : okN n (sR i S) := by
  refine ⟨okS_sR h.1, fun p => ⟨fun hp => ⟨?_, ?_⟩, fun hp => ⟨?_, ?_⟩⟩⟩
  · exact ((h.2 _).1 (sw_lt hi hp)).1
  · exact sw_lt hi ((h.2 p).1 hp).2
  · show S.1 (sw i p) = p; rw [sw_ge hi hp]; exact ((h.2 p).2 hp).1
  · show sw i (S.2 p) = p; rw [((h.2 p).2 hp).2]; exact sw_ge hi hp
theorem okN_pass {n j i : Nat} {X : Rowz} (hi : i + 1 < n) (h : ∀ a, okN n (X a)) : ∀ a, okN n (passz j i X a) := by
  intro a
  unfold passz
  split
  · exact okN_sL hi (h j)
  · split
    · exact okN_sR hi (h (j + 1))
    · exact h a
/-- k passes at the place j -/
def Atz (n j : Nat) : Nat → Rowz → Rowz → Prop
  | 0, X, Y => X = Y
  | k + 1, X, Y => ∃ i, i + 1 < n ∧ canz (X j) (X (j + 1)) i ∧ Atz n j k (passz j i X) Y
theorem At_Itr {n m j : Nat} (hj : j + 1 < m) : ∀ {k : Nat} {X Y : Rowz}, Atz n j k X Y → Itr n m k X Y := by
  intro k
  induction k with
  | zero => intro X Y h; exact h
  | succ k ih => intro X Y h; obtain ⟨i, hi, c, h⟩ := h; exact ⟨_, ⟨j, i, hj, hi, c, rfl⟩, ih h⟩
theorem At_ok {n j : Nat} : ∀ {k : Nat} {X Y : Rowz}, (∀ a, okN n (X a)) → Atz n j k X Y → ∀ a, okN n (Y a) := by
  intro k
  induction k with
  | zero => intro X Y h e; cases e; exact h
  | succ k ih => intro X Y h e; obtain ⟨i, hi, c, e⟩ := e; exact ih (okN_pass hi h) e
theorem At_o {n j : Nat} : ∀ {k : Nat} {X Y : Rowz}, Atz n j k X Y → ∀ a, a ≠ j → a ≠ j + 1 → Y a = X a := by
  intro k
  induction k with
  | zero => intro X Y e a _ _; cases e; rfl
  | succ k ih => intro X Y e a h1 h2; obtain ⟨i, hi, c, e⟩ := e; rw [ih e a h1 h2, pass_o _ h1 h2]
/-- passes leave what bothz make together -/
theorem At_C {n j : Nat} : ∀ {k : Nat} {X Y : Rowz}, Atz n j k X Y → ∀ p, (Y (j + 1)).1 ((Y j).1 p) = (X (j + 1)).1 ((X j).1 p) := by
  intro k
  induction k with
  | zero => intro X Y e p; cases e; rfl
  | succ k ih =>
    intro X Y e p; obtain ⟨i, hi, c, e⟩ := e
    rw [ih e p, pass_j, pass_s]
    show (X (j + 1)).1 (sw i (sw i ((X j).1 p))) = _
    rw [sw_sw]
theorem inv1 {S : Simp} (o : okS S) {p q : Nat} (h : S.1 p = S.1 q) : p = q := by rw [← o.1 p, h, o.1]
theorem inv2 {S : Simp} (o : okS S) {p q : Nat} (h : S.2 p = S.2 q) : p = q := by rw [← o.2 p, h, o.2]
/-- what crosses in the left one goes on crossing there -/
theorem At_L1 {n j : Nat} : ∀ {k : Nat} {X Y : Rowz}, (∀ a, okN n (X a)) → Atz n j k X Y → ∀ p q, p < q → (X j).1 q < (X j).1 p → (Y j).1 q < (Y j).1 p := by
  intro k
  induction k with
  | zero => intro X Y _ e p q _ h; cases e; exact h
  | succ k ih =>
    intro X Y hX e p q hpq h; obtain ⟨i, hi, c, e⟩ := e
    refine ih (okN_pass hi hX) e p q hpq ?_
    rw [pass_j]
    show sw i ((X j).1 q) < sw i ((X j).1 p)
    have o := (hX j).1
    have c1 := c.1
    have e1 : ¬ ((X j).1 q = i ∧ (X j).1 p = i + 1) := fun ⟨h1, h2⟩ => by rw [← h2, ← h1, o.1, o.1] at c1; omega
    unfold sw
    (repeat' split) <;> omega
/-- what does not cross in the right one does not come to cross there -/
theorem At_L2 {n j : Nat} : ∀ {k : Nat} {X Y : Rowz}, (∀ a, okN n (X a)) → Atz n j k X Y → ∀ p q, p < q → (X (j + 1)).2 p < (X (j + 1)).2 q → (Y (j + 1)).2 p < (Y (j + 1)).2 q := by
  intro k
  induction k with
  | zero => intro X Y _ e p q _ h; cases e; exact h
  | succ k ih =>
    intro X Y hX e p q hpq h; obtain ⟨i, hi, c, e⟩ := e
    refine ih (okN_pass hi hX) e p q hpq ?_
    rw [pass_s]
    show sw i ((X (j + 1)).2 p) < sw i ((X (j + 1)).2 q)
    have o := (hX (j + 1)).1
    have c1 := c.2
    have e1 : ¬ ((X (j + 1)).2 p = i ∧ (X (j + 1)).2 q = i + 1) := fun ⟨h1, h2⟩ => by rw [← h2, ← h1, o.2, o.2] at c1; omega
    unfold sw
    (repeat' split) <;> omega
/-- what crosses in bothz did so before -/
theorem At_L4 {n j : Nat} : ∀ {k : Nat} {X Y : Rowz}, (∀ a, okN n (X a)) → Atz n j k X Y → ∀ p q, p < q → (Y j).1 q < (Y j).1 p → (X (j + 1)).1 ((X j).1 p) < (X (j + 1)).1 ((X j).1 q) → (X j).1 q < (X j).1 p := by
  intro k
  induction k with
  | zero => intro X Y _ e p q _ h _; cases e; exact h
  | succ k ih =>
    intro X Y hX e p q hpq h hC; obtain ⟨i, hi, c, e⟩ := e
    have h2 := ih (okN_pass hi hX) e p q hpq h (by
      rw [pass_j, pass_s]
      show (X (j + 1)).1 (sw i (sw i ((X j).1 p))) < (X (j + 1)).1 (sw i (sw i ((X j).1 q)))
      rw [sw_sw, sw_sw]; exact hC)
    rw [pass_j] at h2
    have h3 : sw i ((X j).1 q) < sw i ((X j).1 p) := h2
    have o := (hX j).1
    have c2 := c.2
    have e1 : ¬ ((X j).1 p = i ∧ (X j).1 q = i + 1) := fun ⟨h1, h2⟩ => by rw [h1, h2] at hC; omega
    have e2 : ¬ (X j).1 p = (X j).1 q := fun h1 => by have := inv1 o h1; omega
    unfold sw at h3
    revert h3
    (repeat' split) <;> intro h3 <;> omega
/-- somewhere between, after turns to before -/
theorem between (P : Nat → Prop) [DecidablePred P] : ∀ (d p : Nat), P p → ¬ P (p + d) → ∃ r, p ≤ r ∧ r < p + d ∧ P r ∧ ¬ P (r + 1) := by
  intro d
  induction d with
  | zero => intro p h k; exact absurd h k
  | succ d ih =>
    intro p h k
    by_cases q : P (p + d)
    · exact ⟨p + d, by omega, by omega, q, by rw [Nat.add_assoc]; exact k⟩
    · obtain ⟨r, h1, h2, h3, h4⟩ := ih p h q
      exact ⟨r, h1, by omega, h3, h4⟩
/-- the second domino rule -/
theorem domino {n : Nat} {A B B1 B2 x : Simp} (oA : okN n A) (oB : okN n B) (o1 : okN n B1) (o2 : okN n B2)
    (H1 : ∀ r, r + 1 < n → B.1 (r + 1) < B.1 r → A.2 (r + 1) < A.2 r)
    (H2 : ∀ p q, p < q → B.1 q < B.1 p → B1.1 q < B1.1 p)
    (Hn : ∀ i, i + 1 < n → x.1 (i + 1) < x.1 i → B1.2 (i + 1) < B1.2 i)
    (H3 : ∀ i, i + 1 < n → x.1 (i + 1) < x.1 i → B.1 (B1.2 i) < B.1 (B1.2 (i + 1)))
    (H4 : ∀ p q, p < q → B1.2 p < B1.2 q → B2.2 p < B2.2 q)
    (H5 : ∀ r, r + 1 < n → A.2 (r + 1) < A.2 r → B1.1 (r + 1) < B1.1 r → B2.2 (B1.1 r) < B2.2 (B1.1 (r + 1))) :
    ∀ i, i + 1 < n → x.1 (i + 1) < x.1 i → B2.2 (i + 1) < B2.2 i := by
  intro i hi hx
  have n2 := Hn i hi hx
  have c3 := H3 i hi hx
  rcases Nat.lt_trichotomy (B2.2 (i + 1)) (B2.2 i) with h | h | h
  · exact h
  · have := inv2 o2.1 h; omega
  · exfalso
    generalize hp : B1.2 (i + 1) = p at *
    generalize hq : B1.2 i = q at *
    have fp : B1.1 p = i + 1 := by rw [← hp, o1.1.2]
    have fq : B1.1 q = i := by rw [← hq, o1.1.2]
    have qn : q < n := by rw [← hq]; exact ((o1.2 i).1 (by omega)).2
    obtain ⟨r, h1, h2, h3, h4⟩ := between (fun r => i + 1 ≤ B1.1 r) (q - p) p (by show i + 1 ≤ B1.1 p; omega) (by show ¬ i + 1 ≤ B1.1 (p + (q - p)); rw [show p + (q - p) = q by omega]; omega)
    have h4 : ¬ i + 1 ≤ B1.1 (r + 1) := h4
    have h3 : i + 1 ≤ B1.1 r := h3
    -- in B: r + 1 .. q .. p .. r
    have b1 : B.1 p ≤ B.1 r := by
      by_cases e : p = r
      · rw [e]; exact Nat.le_refl _
      · have : ¬ B.1 r < B.1 p := fun w => by
          have := H2 p r (by omega) w
          omega
        omega
    have b2 : B.1 (r + 1) ≤ B.1 q := by
      by_cases e : r + 1 = q
      · rw [e]; exact Nat.le_refl _
      · have : ¬ B.1 q < B.1 (r + 1) := fun w => by
          have := H2 (r + 1) q (by omega) w
          omega
        omega
    have a1 := H1 r (by omega) (by omega)
    have s1 := H5 r (by omega) a1 (by omega)
    have g1 : B2.2 (i + 1) ≤ B2.2 (B1.1 r) := by
      by_cases e : i + 1 = B1.1 r
      · rw [← e]; exact Nat.le_refl _
      · refine Nat.le_of_lt (H4 _ _ (by omega) ?_)
        rw [hp, o1.1.1]
        have : p ≠ r := fun w => e (by rw [← w, fp])
        omega
    have g2 : B2.2 (B1.1 (r + 1)) ≤ B2.2 i := by
      by_cases e : B1.1 (r + 1) = i
      · rw [e]; exact Nat.le_refl _
      · refine Nat.le_of_lt (H4 _ _ (by omega) ?_)
        rw [hq, o1.1.1]
        have : r + 1 ≠ q := fun w => e (by rw [w, fq])
        omega
    omega
def nrmAt (n : Nat) (X : Rowz) (j : Nat) : Prop := ∀ i, i + 1 < n → ¬ canz (X j) (X (j + 1)) i
/-- what the place j + 1 was before what is behind it came to it -/
def Mem (n : Nat) (X : Rowz) (j : Nat) : Prop := ∃ B : Simp, okN n B ∧ (∀ r, r + 1 < n → B.1 (r + 1) < B.1 r → (X j).2 (r + 1) < (X j).2 r) ∧ (∀ p q, p < q → B.1 q < B.1 p → (X (j + 1)).1 q < (X (j + 1)).1 p) ∧ (∀ i, i + 1 < n → (X (j + 2)).1 (i + 1) < (X (j + 2)).1 i → B.1 ((X (j + 1)).2 i) < B.1 ((X (j + 1)).2 (i + 1)))
theorem nrm_lt {n : Nat} {X : Rowz} {j : Nat} (o : ∀ a, okN n (X a)) (h : nrmAt n X j) : ∀ i, i + 1 < n → (X (j + 1)).1 (i + 1) < (X (j + 1)).1 i → (X j).2 (i + 1) < (X j).2 i := by
  intro i hi hx
  rcases Nat.lt_trichotomy ((X j).2 (i + 1)) ((X j).2 i) with w | w | w
  · exact w
  · have := inv2 (o j).1 w; omega
  · exact absurd ⟨w, hx⟩ (h i hi)
/-- one step of the way to the front: the place behind stays in order -/
theorem settle_behind {n k j : Nat} {X Y : Rowz} (o : ∀ a, okN n (X a)) (h : Atz n j k X Y) (h1 : nrmAt n X (j + 1)) (hM : Mem n X j) : nrmAt n Y (j + 1) := by
  obtain ⟨B, oB, m1, m2, m3⟩ := hM
  have oY := At_ok o h
  have e2 : Y (j + 2) = X (j + 2) := At_o h (j + 2) (by omega) (by omega)
  intro i hi c
  have := domino (x := X (j + 2)) (o j) oB (o (j + 1)) (oY (j + 1)) m1 m2 (nrm_lt o h1) m3 (At_L2 o h)
    (by
      intro r hr a1 b1
      -- strands a = A.2 (r+1) < b = A.2 r
      have oj := (o j).1
      have c1 := At_L1 o h _ _ a1 (by rw [oj.2, oj.2]; omega)
      have C1 := At_C h ((X j).2 (r + 1))
      have C2 := At_C h ((X j).2 r)
      rw [oj.2] at C1 C2
      rw [← C1, ← C2, (oY (j + 1)).1.1, (oY (j + 1)).1.1]
      exact c1) i hi (by have := c.2; rw [show j + 1 + 1 = j + 2 from rfl, e2] at this; exact this)
  have := c.1
  omega
/-- and the memory for the next place -/
theorem settle_mem {n k j : Nat} {X Y : Rowz} (o : ∀ a, okN n (X a)) (h : Atz n (j + 1) k X Y) (h0 : nrmAt n X j) (hY : nrmAt n Y (j + 1)) : Mem n Y j := by
  have oY := At_ok o h
  have e0 : Y j = X j := At_o h j (by omega) (by omega)
  refine ⟨X (j + 1), o (j + 1), ?_, At_L1 o h, ?_⟩
  · rw [e0]; exact nrm_lt o h0
  · intro i hi hx
    have n2 := nrm_lt oY hY i hi hx
    have oj := (oY (j + 1)).1
    refine At_L4 o h _ _ n2 (by rw [oj.2, oj.2]; omega) ?_
    have C1 := At_C h ((Y (j + 1)).2 (i + 1))
    have C2 := At_C h ((Y (j + 1)).2 i)
    rw [oj.2] at C1 C2
    rw [← C1, ← C2]
    exact hx
theorem settle_ahead {n k j : Nat} {X Y : Rowz} (h : Atz n j k X Y) {a : Nat} (ha : a + 1 < j ∨ j + 1 < a) (h1 : nrmAt n X a) : nrmAt n Y a := by
  unfold nrmAt
  rw [At_o h a (by omega) (by omega), At_o h (a + 1) (by omega) (by omega)]
  exact h1
