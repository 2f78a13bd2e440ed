/-- neighbours exchanged -/
def sw (i p : Nat) : Nat := if p = i then i + 1 else if p = i + 1 then i else p
theorem sw_i (i : Nat) : sw i i = i + 1 := by unfold sw; rw [if_pos rfl]
theorem sw_s (i : Nat) : sw i (i + 1) = i := by unfold sw; rw [if_neg (by omega), if_pos rfl]
theorem sw_o {i p : Nat} (h : p ≠ i) (k : p ≠ i + 1) : sw i p = p := by unfold sw; rw [if_neg h, if_neg k]
theorem sw_sw (i p : Nat) : sw i (sw i p) = p := by unfold sw; (repeat' split) <;> omega
theorem sw_braid (i p : Nat) : sw i (sw (i + 1) (sw i p)) = sw (i + 1) (sw i (sw (i + 1) p)) := by unfold sw; (repeat' split) <;> omega
theorem sw_far {i k : Nat} (h : i + 1 < k) (p : Nat) : sw i (sw k p) = sw k (sw i p) := by unfold sw; (repeat' split) <;> omega
/-- a simple braid: where the strand that begins at p endsz, and backz -/
abbrev Simp := (Nat → Nat) × (Nat → Nat)
def sL (i : Nat) (S : Simp) : Simp := (fun p => sw i (S.1 p), fun p => S.2 (sw i p))
def sR (i : Nat) (T : Simp) : Simp := (fun p => T.1 (sw i p), fun p => sw i (T.2 p))
def okS (S : Simp) : Prop := (∀ p, S.2 (S.1 p) = p) ∧ (∀ p, S.1 (S.2 p) = p)
theorem okS_sL {i : Nat} {S : Simp} (h : okS S) : okS (sL i S) := by
  constructor <;> intro p <;> simp only [sL]
  · rw [sw_sw, h.1]
  · rw [h.2, sw_sw]
theorem okS_sR {i : Nat} {S : Simp} (h : okS S) : okS (sR i S) := by
  constructor <;> intro p <;> simp only [sR]
  · rw [h.1, sw_sw]
  · rw [sw_sw, h.2]
/-- the crossing at i goes from T to S -/
def canz (S T : Simp) (i : Nat) : Prop := S.2 i < S.2 (i + 1) ∧ T.1 (i + 1) < T.1 i
/-- a row of simple braids -/
abbrev Rowz := Nat → Simp
def passz (j i : Nat) (X : Rowz) : Rowz := fun a => if a = j then sL i (X j) else if a = j + 1 then sR i (X (j + 1)) else X a
def Stpz (n m : Nat) (X Y : Rowz) : Prop := ∃ j i, j + 1 < m ∧ i + 1 < n ∧ canz (X j) (X (j + 1)) i ∧ Y = passz j i X
def Itr (n m : Nat) : Nat → Rowz → Rowz → Prop
  | 0, X, Y => X = Y
  | k + 1, X, Y => ∃ Z, Stpz n m X Z ∧ Itr n m k Z Y
def Nrm (n m : Nat) (X : Rowz) : Prop := ∀ j i, j + 1 < m → i + 1 < n → ¬ canz (X j) (X (j + 1)) i
theorem Itr_add {n m : Nat} : ∀ {a b : Nat} {X Y Z : Rowz}, Itr n m a X Y → Itr n m b Y Z → Itr n m (a + b) X Z := by
  intro a
  induction a with
  | zero => intro b X Y Z h k; cases h; rw [Nat.zero_add]; exact k
  | succ a ih =>
    intro b X Y Z h k
    obtain ⟨W, hW, h⟩ := h
    rw [Nat.succ_add]
    exact ⟨W, hW, ih h k⟩
theorem Itr_one {n m : Nat} {X Y : Rowz} (h : Stpz n m X Y) : Itr n m 1 X Y := ⟨Y, h, rfl⟩
theorem sL_sL_far {i k : Nat} (h : i + 1 < k) (S : Simp) : sL i (sL k S) = sL k (sL i S) := by
  unfold sL
  refine Prod.ext (funext fun p => ?_) (funext fun p => ?_)
  · exact sw_far h _
  · show S.2 (sw k (sw i p)) = S.2 (sw i (sw k p)); rw [sw_far h]
theorem sR_sR_far {i k : Nat} (h : i + 1 < k) (S : Simp) : sR i (sR k S) = sR k (sR i S) := by
  unfold sR
  refine Prod.ext (funext fun p => ?_) (funext fun p => ?_)
  · show S.1 (sw k (sw i p)) = S.1 (sw i (sw k p)); rw [sw_far h]
  · exact sw_far h _
theorem sL_sR (i k : Nat) (S : Simp) : sL i (sR k S) = sR k (sL i S) := rfl
theorem sL_braid (i : Nat) (S : Simp) : sL i (sL (i + 1) (sL i S)) = sL (i + 1) (sL i (sL (i + 1) S)) := by
  unfold sL
  refine Prod.ext (funext fun p => ?_) (funext fun p => ?_)
  · exact sw_braid i _
  · show S.2 (sw i (sw (i + 1) (sw i p))) = S.2 (sw (i + 1) (sw i (sw (i + 1) p))); rw [sw_braid]
theorem sR_braid (i : Nat) (S : Simp) : sR i (sR (i + 1) (sR i S)) = sR (i + 1) (sR i (sR (i + 1) S)) := by
  unfold sR
  refine Prod.ext (funext fun p => ?_) (funext fun p => ?_)
  · show S.1 (sw i (sw (i + 1) (sw i p))) = S.1 (sw (i + 1) (sw i (sw (i + 1) p))); rw [sw_braid]
  · exact sw_braid i _
theorem pass_j (j i : Nat) (X : Rowz) : passz j i X j = sL i (X j) := by unfold passz; rw [if_pos rfl]
theorem pass_s (j i : Nat) (X : Rowz) : passz j i X (j + 1) = sR i (X (j + 1)) := by unfold passz; rw [if_neg (by omega), if_pos rfl]
theorem pass_o {j i a : Nat} (X : Rowz) (h : a ≠ j) (k : a ≠ j + 1) : passz j i X a = X a := by unfold passz; rw [if_neg h, if_neg k]
/-- two steps from one row meet again, as many steps from each -/
theorem local_ {n m : Nat} {X Y Z : Rowz} (hX : ∀ a, okS (X a)) (hY : Stpz n m X Y) (hZ : Stpz n m X Z) : ∃ l W, Itr n m l Y W ∧ Itr n m l Z W := by
  -- ordered pairs of places
  have key : ∀ j i k q, j + 1 < m → i + 1 < n → k + 1 < m → q + 1 < n → canz (X j) (X (j + 1)) i → canz (X k) (X (k + 1)) q → (j < k ∨ j = k ∧ i ≤ q) → ∃ l W, Itr n m l (passz j i X) W ∧ Itr n m l (passz k q X) W := by
    intro j i k q hj hi hk hq c1 c2 hlt
    rcases hlt with h | ⟨h, h2⟩
    · by_cases hs : k = j + 1
      · subst hs
        -- neighbours: they commute
        refine ⟨1, passz (j + 1) q (passz j i X), ⟨_, ⟨j + 1, q, hk, hq, ?_, rfl⟩, rfl⟩, ⟨_, ⟨j, i, hj, hi, ?_, ?_⟩, rfl⟩⟩
        · rw [pass_s, pass_o X (by omega) (by omega)]
          refine ⟨?_, c2.2⟩
          have h1 := c2.1
          have o := hX (j + 1)
          show sw i ((X (j + 1)).2 q) < sw i ((X (j + 1)).2 (q + 1))
          unfold sw
          have h3 := c1.2
          have e1 : (X (j + 1)).2 q = i → (X (j + 1)).1 i = q := fun h => by rw [← h, o.2]
          have e2 : (X (j + 1)).2 q = i + 1 → (X (j + 1)).1 (i + 1) = q := fun h => by rw [← h, o.2]
          have e3 : (X (j + 1)).2 (q + 1) = i → (X (j + 1)).1 i = q + 1 := fun h => by rw [← h, o.2]
          have e4 : (X (j + 1)).2 (q + 1) = i + 1 → (X (j + 1)).1 (i + 1) = q + 1 := fun h => by rw [← h, o.2]
          (repeat' split) <;> omega
        · rw [pass_o X (by omega) (by omega), pass_j]
          refine ⟨c1.1, ?_⟩
          have h1 := c1.2
          have o := hX (j + 1)
          show sw q ((X (j + 1)).1 (i + 1)) < sw q ((X (j + 1)).1 i)
          unfold sw
          have h3 := c2.1
          have e1 : (X (j + 1)).1 i = q → (X (j + 1)).2 q = i := fun h => by rw [← h, o.1]
          have e2 : (X (j + 1)).1 (i + 1) = q → (X (j + 1)).2 q = i + 1 := fun h => by rw [← h, o.1]
          have e3 : (X (j + 1)).1 i = q + 1 → (X (j + 1)).2 (q + 1) = i := fun h => by rw [← h, o.1]
          have e4 : (X (j + 1)).1 (i + 1) = q + 1 → (X (j + 1)).2 (q + 1) = i + 1 := fun h => by rw [← h, o.1]
          (repeat' split) <;> omega
        · funext a
          by_cases h1 : a = j
          · subst h1; rw [pass_o _ (by omega) (by omega), pass_j, pass_j, pass_o _ (by omega) (by omega)]
          · by_cases h2 : a = j + 1
            · subst h2; rw [pass_j, pass_s, pass_s, pass_j]; rfl
            · by_cases h3 : a = j + 1 + 1
              · subst h3; rw [pass_s, pass_o _ (by omega) (by omega), pass_o _ (by omega) (by omega), pass_s]
              · rw [pass_o _ (by omega) (by omega), pass_o _ (by omega) (by omega), pass_o _ (by omega) (by omega), pass_o _ (by omega) (by omega)]
      · -- far apart
        refine ⟨1, passz k q (passz j i X), ⟨_, ⟨k, q, hk, hq, ?_, rfl⟩, rfl⟩, ⟨_, ⟨j, i, hj, hi, ?_, ?_⟩, rfl⟩⟩
        · rw [pass_o X (by omega) (by omega), pass_o X (by omega) (by omega)]; exact c2
        · rw [pass_o X (by omega) (by omega), pass_o X (by omega) (by omega)]; exact c1
        · funext a
          by_cases h1 : a = j
          · subst h1; rw [pass_o _ (by omega) (by omega), pass_j, pass_j, pass_o _ (by omega) (by omega)]
          · by_cases h2 : a = j + 1
            · subst h2; rw [pass_o _ (by omega) (by omega), pass_s, pass_s, pass_o _ (by omega) (by omega)]
            · rw [pass_o (j := j) _ h1 h2]
              unfold passz
              simp only [if_neg h1, if_neg h2, if_neg (show k ≠ j by omega), if_neg (show k ≠ j + 1 by omega), if_neg (show k + 1 ≠ j by omega), if_neg (show k + 1 ≠ j + 1 by omega)]
    · subst h
      rcases Nat.lt_or_ge i q with h3 | h3
      · by_cases h4 : q = i + 1
        · subst h4
          -- i, i + 1 at one place: the long way on bothz sides
          have a1 := c1.1; have a2 := c1.2; have b1 := c2.1; have b2 := c2.2
          refine ⟨2, passz j i (passz j (i + 1) (passz j i X)), ⟨_, ⟨j, i + 1, hj, hq, ?_, rfl⟩, _, ⟨j, i, hj, hi, ?_, rfl⟩, rfl⟩, ⟨_, ⟨j, i, hj, hi, ?_, rfl⟩, _, ⟨j, i + 1, hj, hq, ?_, ?_⟩, rfl⟩⟩
          · rw [pass_j, pass_s]
            constructor
            · show (X j).2 (sw i (i + 1)) < (X j).2 (sw i (i + 1 + 1)); rw [sw_s, sw_o (by omega) (by omega)]; omega
            · show (X (j + 1)).1 (sw i (i + 1 + 1)) < (X (j + 1)).1 (sw i (i + 1)); rw [sw_s, sw_o (by omega) (by omega)]; omega
          · rw [pass_j, pass_s, pass_j, pass_s]
            constructor
            · show (X j).2 (sw i (sw (i + 1) i)) < (X j).2 (sw i (sw (i + 1) (i + 1))); rw [sw_i (i + 1), sw_o (i := i + 1) (by omega) (by omega), sw_i, sw_o (by omega) (by omega)]; exact b1
            · show (X (j + 1)).1 (sw i (sw (i + 1) (i + 1))) < (X (j + 1)).1 (sw i (sw (i + 1) i)); rw [sw_i (i + 1), sw_o (i := i + 1) (by omega) (by omega), sw_i, sw_o (by omega) (by omega)]; exact b2
          · rw [pass_j, pass_s]
            constructor
            · show (X j).2 (sw (i + 1) i) < (X j).2 (sw (i + 1) (i + 1)); rw [sw_i, sw_o (by omega) (by omega)]; omega
            · show (X (j + 1)).1 (sw (i + 1) (i + 1)) < (X (j + 1)).1 (sw (i + 1) i); rw [sw_i, sw_o (by omega) (by omega)]; omega
          · rw [pass_j, pass_s, pass_j, pass_s]
            constructor
            · show (X j).2 (sw (i + 1) (sw i (i + 1))) < (X j).2 (sw (i + 1) (sw i (i + 1 + 1))); rw [sw_s, sw_o (i := i) (by omega) (by omega), sw_s, sw_o (by omega) (by omega)]; exact a1
            · show (X (j + 1)).1 (sw (i + 1) (sw i (i + 1 + 1))) < (X (j + 1)).1 (sw (i + 1) (sw i (i + 1))); rw [sw_s, sw_o (i := i) (by omega) (by omega), sw_s, sw_o (by omega) (by omega)]; exact a2
          · funext a
            by_cases h1 : a = j
            · subst h1; simp only [pass_j]; exact sL_braid i _
            · by_cases h2 : a = j + 1
              · subst h2; simp only [pass_s]; exact sR_braid i _
              · simp only [pass_o _ h1 h2]
        · refine ⟨1, passz j q (passz j i X), ⟨_, ⟨j, q, hk, hq, ?_, rfl⟩, rfl⟩, ⟨_, ⟨j, i, hj, hi, ?_, ?_⟩, rfl⟩⟩
          · rw [pass_j, pass_s]
            constructor
            · show (X j).2 (sw i q) < (X j).2 (sw i (q + 1)); rw [sw_o (by omega) (by omega), sw_o (by omega) (by omega)]; exact c2.1
            · show (X (j + 1)).1 (sw i (q + 1)) < (X (j + 1)).1 (sw i q); rw [sw_o (by omega) (by omega), sw_o (by omega) (by omega)]; exact c2.2
          · rw [pass_j, pass_s]
            constructor
            · show (X j).2 (sw q i) < (X j).2 (sw q (i + 1)); rw [sw_o (by omega) (by omega), sw_o (by omega) (by omega)]; exact c1.1
            · show (X (j + 1)).1 (sw q (i + 1)) < (X (j + 1)).1 (sw q i); rw [sw_o (by omega) (by omega), sw_o (by omega) (by omega)]; exact c1.2
          · funext a
            by_cases h1 : a = j
            · subst h1; simp only [pass_j]; exact (sL_sL_far (by omega) _).symm
            · by_cases h2 : a = j + 1
              · subst h2; simp only [pass_s]; exact (sR_sR_far (by omega) _).symm
              · simp only [pass_o _ h1 h2]
      · have h4 : q = i := by omega
        subst h4
        exact ⟨0, _, rfl, rfl⟩
  obtain ⟨j, i, hj, hi, c1, e1⟩ := hY
  obtain ⟨k, q, hk, hq, c2, e2⟩ := hZ
  subst e1; subst e2
  by_cases h : j < k ∨ j = k ∧ i ≤ q
  · exact key j i k q hj hi hk hq c1 c2 h
  · obtain ⟨l, W, h1, h2⟩ := key k q j i hk hq hj hi c2 c1 (by omega)
    exact ⟨l, W, h2, h1⟩
theorem okS_pass {j i : Nat} {X : Rowz} (h : ∀ a, okS (X a)) : ∀ a, okS (passz j i X a) := by
  intro a
  unfold passz
  split
  · exact okS_sL (h j)
  · split
    · exact okS_sR (h (j + 1))
    · exact h a
theorem okS_Stp {n m : Nat} {X Y : Rowz} (h : ∀ a, okS (X a)) (s : Stpz n m X Y) : ∀ a, okS (Y a) := by
  obtain ⟨j, i, _, _, _, e⟩ := s
  subst e
  exact okS_pass h
theorem okS_Itr {n m : Nat} : ∀ {k : Nat} {X Y : Rowz}, (∀ a, okS (X a)) → Itr n m k X Y → ∀ a, okS (Y a) := by
  intro k
  induction k with
  | zero => intro X Y h e; cases e; exact h
  | succ k ih => intro X Y h e; obtain ⟨Z, hZ, e⟩ := e; exact ih (okS_Stp h hZ) e
theorem Nrm_Stp {n m : Nat} {X Y : Rowz} (h : Nrm n m X) (s : Stpz n m X Y) : False := by
  obtain ⟨j, i, hj, hi, c, _⟩ := s
  exact h j i hj hi c
/-- where one way comes to an end, each way does, as long -/
theorem one_end {n m : Nat} : ∀ (k : Nat) {X Z : Rowz}, (∀ a, okS (X a)) → Itr n m k X Z → Nrm n m Z → ∀ {Y : Rowz}, Stpz n m X Y → ∃ r, r + 1 = k ∧ Itr n m r Y Z := by
  intro k
  induction k using Nat.strongRecOn with
  | _ k ih =>
    intro X Z hX hk hZ Y hY
    match k, hk with
    | 0, hk => cases hk; exact (Nrm_Stp hZ hY).elim
    | k + 1, ⟨C, hC, hk⟩ =>
      obtain ⟨l, W, hl1, hl2⟩ := local_ hX hY hC
      -- along C -> W
      have walk : ∀ (l : Nat) {C W : Rowz} (r : Nat), r < k + 1 → (∀ a, okS (C a)) → Itr n m r C Z → Itr n m l C W → ∃ t, t + l = r ∧ Itr n m t W Z := by
        intro l
        induction l with
        | zero => intro C W r hr hC' h1 h2; cases h2; exact ⟨r, rfl, h1⟩
        | succ l il =>
          intro C W r hr hC' h1 h2
          obtain ⟨E, hE, h2⟩ := h2
          obtain ⟨s, hs, h3⟩ := ih r hr hC' h1 hZ hE
          obtain ⟨t, ht, h4⟩ := il s (by omega) (okS_Stp hC' hE) h3 h2
          exact ⟨t, by omega, h4⟩
      obtain ⟨t, ht, h4⟩ := walk l k (Nat.lt_succ_self k) (okS_Stp hX hC) hk hl2
      exact ⟨k, rfl, by have := Itr_add hl1 h4; rwa [show l + t = k by omega] at this⟩
theorem one_end_itr {n m : Nat} {Z : Rowz} (hZ : Nrm n m Z) : ∀ (l k : Nat) {X Y : Rowz}, (∀ a, okS (X a)) → Itr n m k X Z → Itr n m l X Y → ∃ r, r + l = k ∧ Itr n m r Y Z := by
  intro l
  induction l with
  | zero => intro k X Y hX h e; cases e; exact ⟨k, rfl, h⟩
  | succ l il =>
    intro k X Y hX h e
    obtain ⟨E, hE, e⟩ := e
    obtain ⟨s, hs, h3⟩ := one_end k hX h hZ hE
    obtain ⟨r, hr, h4⟩ := il s (okS_Stp hX hE) h3 e
    exact ⟨r, by omega, h4⟩
/-- the end is one -/
theorem one_nrm {n m k l : Nat} {X Y Z : Rowz} (hX : ∀ a, okS (X a)) (h1 : Itr n m k X Z) (hZ : Nrm n m Z) (h2 : Itr n m l X Y) (hY : Nrm n m Y) : Y = Z := by
  obtain ⟨r, _, h⟩ := one_end_itr hZ l k hX h1 h2
  match r, h with
  | 0, h => exact h
  | r + 1, ⟨E, hE, _⟩ => exact (Nrm_Stp hY hE).elim
