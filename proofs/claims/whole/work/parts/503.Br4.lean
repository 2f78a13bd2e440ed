def putR (X : Rowz) (k : Nat) (x : Simp) : Rowz := fun a => if a = k then x else X a
theorem putR_k (X : Rowz) (k : Nat) (x : Simp) : putR X k x k = x := by unfold putR; rw [if_pos rfl]
theorem putR_o {X : Rowz} {k a : Nat} {x : Simp} (h : a ≠ k) : putR X k x a = X a := by unfold putR; rw [if_neg h]
theorem okN_put {n k : Nat} {X : Rowz} {x : Simp} (h : ∀ a, okN n (X a)) (o : okN n x) : ∀ a, okN n (putR X k x a) := by
  intro a; unfold putR; split
  · exact o
  · exact h a
theorem Itr_put {n m k : Nat} {x : Simp} (hk : m ≤ k) : ∀ {l : Nat} {X Y : Rowz}, Itr n m l X Y → Itr n (k + 1) l (putR X k x) (putR Y k x) := by
  intro l
  induction l with
  | zero => intro X Y h; cases h; rfl
  | succ l ih =>
    intro X Y h
    obtain ⟨Z, ⟨j, i, hj, hi, c, e⟩, h⟩ := h
    refine ⟨putR Z k x, ⟨j, i, by omega, hi, ?_, ?_⟩, ih h⟩
    · rw [putR_o (by omega), putR_o (by omega)]; exact c
    · subst e
      funext a
      by_cases h1 : a = k
      · subst h1; rw [putR_k, pass_o _ (by omega) (by omega), putR_k]
      · rw [putR_o h1]
        unfold passz
        rw [putR_o (by omega), putR_o (by omega), putR_o h1]
theorem Itr_le {n m m' : Nat} (hm : m ≤ m') : ∀ {l : Nat} {X Y : Rowz}, Itr n m l X Y → Itr n m' l X Y := by
  intro l
  induction l with
  | zero => intro X Y h; exact h
  | succ l ih =>
    intro X Y h
    obtain ⟨Z, ⟨j, i, hj, hi, c, e⟩, h⟩ := h
    exact ⟨Z, ⟨j, i, by omega, hi, c, e⟩, ih h⟩
/-- what is behind NONEs comes ahead of them -/
theorem throughz {n f : Nat} (hn : n ≤ 8) {x : Simp} (ox : okN n x) : ∀ (z : Nat) {X : Rowz}, (∀ a, okN n (X a)) → (∀ a, f ≤ a → a < f + z → X a = noneS) → X (f + z) = x → ∃ l Y, l ≤ 28 * z ∧ Itr n (f + z + 1) l X Y ∧ Y f = x ∧ (∀ a, f < a → a ≤ f + z → Y a = noneS) ∧ (∀ a, a < f ∨ f + z < a → Y a = X a) := by
  intro z
  induction z with
  | zero => intro X hX h1 h2; exact ⟨0, X, Nat.le_refl _, rfl, h2, fun a ha hb => by omega, fun a _ => rfl⟩
  | succ z ih =>
    intro X hX h1 h2
    have e0 : X (f + z) = noneS := h1 _ (by omega) (by omega)
    obtain ⟨k, Y, hk, hn1, hn2⟩ := At_none (j := f + z) hn _ hX rfl (by intro p q hpq hl; rw [e0] at hl; exact absurd hl (by show ¬ q < p; omega))
    have oY := At_ok hX hk
    have ey : Y (f + z) = x := by
      refine simp_ext (oY _).1 ox.1 (fun p => ?_)
      rw [hn2 p, e0, show f + z + 1 = f + (z + 1) by omega, h2]; rfl
    have kb := At_inv hn hk
    have k28 := inv8_le (X (f + z + 1)).1
    obtain ⟨l, W, lb, hl, w1, w2, w3⟩ := ih oY (fun a ha hb => by rw [At_o hk a (by omega) (by omega)]; exact h1 a ha (by omega)) ey
    refine ⟨k + l, W, by omega, Itr_add (At_Itr (by omega) hk) (Itr_le (by omega) hl), w1, ?_, ?_⟩
    · intro a ha hb
      by_cases h3 : a = f + z + 1
      · subst h3; rw [w3 _ (by omega)]; exact hn1
      · exact w2 a ha (by omega)
    · intro a ha
      rw [w3 a (by omega), At_o hk a (by omega) (by omega)]
def Emb (n full m : Nat) (Y : Rowz) : Rowz := fun a => if a < full then turnS n else if a < full + m then Y (a - full) else noneS
theorem Emb_pass {n full m j i : Nat} {Y : Rowz} (hj : j + 1 < m) : Emb n full m (passz j i Y) = passz (full + j) i (Emb n full m Y) := by
  funext a
  unfold Emb passz
  simp only [if_neg (show ¬ full + j < full by omega), if_pos (show full + j < full + m by omega), if_neg (show ¬ full + j + 1 < full by omega), if_pos (show full + j + 1 < full + m by omega), show full + j - full = j by omega, show full + j + 1 - full = j + 1 by omega]
  by_cases h1 : a < full
  · rw [if_pos h1, if_neg (by omega), if_neg (by omega), if_pos h1]
  · rw [if_neg h1]
    by_cases h2 : a < full + m
    · rw [if_pos h2]
      by_cases h3 : a = full + j
      · rw [if_pos (by omega), if_pos h3]
      · rw [if_neg (by omega), if_neg h3]
        by_cases h4 : a = full + j + 1
        · rw [if_pos (by omega), if_pos h4]
        · rw [if_neg (by omega), if_neg h4, if_neg h1, if_pos h2]
    · rw [if_neg h2, if_neg (by omega), if_neg (by omega), if_neg h1, if_neg h2]
theorem Emb_in {n full m a : Nat} {Y : Rowz} (h : a < m) : Emb n full m Y (full + a) = Y a := by
  unfold Emb; rw [if_neg (by omega), if_pos (by omega), show full + a - full = a by omega]
theorem Emb_lo {n full m a : Nat} {Y : Rowz} (h : a < full) : Emb n full m Y a = turnS n := by unfold Emb; rw [if_pos h]
theorem Emb_hi {n full m a : Nat} {Y : Rowz} (h : full + m ≤ a) : Emb n full m Y a = noneS := by unfold Emb; rw [if_neg (by omega), if_neg (by omega)]
theorem okN_Emb {n full m : Nat} {Y : Rowz} (h : ∀ a, okN n (Y a)) : ∀ a, okN n (Emb n full m Y a) := by
  intro a; unfold Emb; split
  · exact okN_turn n
  · split
    · exact h _
    · exact okN_none n
theorem Itr_Emb {n full m z : Nat} : ∀ {l : Nat} {Y Y' : Rowz}, Itr n m l Y Y' → Itr n (full + m + z) l (Emb n full m Y) (Emb n full m Y') := by
  intro l
  induction l with
  | zero => intro X Y h; cases h; rfl
  | succ l ih =>
    intro X Y h
    obtain ⟨Z, ⟨j, i, hj, hi, c, e⟩, h⟩ := h
    refine ⟨_, ⟨full + j, i, by omega, hi, ?_, ?_⟩, ih h⟩
    · rw [Emb_in (by omega), show full + j + 1 = full + (j + 1) by omega, Emb_in hj]; exact c
    · subst e; exact Emb_pass hj
theorem Nrm_Emb {n full m z : Nat} {Y : Rowz} (h : Nrm n m Y) : Nrm n (full + m + z) (Emb n full m Y) := by
  intro j i hj hi c
  by_cases h1 : j < full
  · have := c.1
    rw [Emb_lo h1] at this
    have : turnF n i < turnF n (i + 1) := this
    unfold turnF at this
    rw [if_pos (by omega), if_pos (by omega)] at this
    omega
  · by_cases h2 : j + 1 < full + m
    · have e1 : Emb n full m Y j = Y (j - full) := by unfold Emb; rw [if_neg h1, if_pos (by omega)]
      have e2 : Emb n full m Y (j + 1) = Y (j - full + 1) := by unfold Emb; rw [if_neg (by omega), if_pos h2]; congr 1; omega
      rw [e1, e2] at c
      exact h (j - full) i (by omega) hi c
    · have := c.2
      rw [Emb_hi (by omega)] at this
      have : i + 1 < i := this
      omega
/-- k letters' row comes to TURNs, what is kept, and NONEs -/
def NFz (n k : Nat) (X : Rowz) (full m : Nat) (Y : Rowz) : Prop := full + m ≤ k ∧ (∃ l, l ≤ 2000 * k ∧ Itr n k l X (Emb n full m Y)) ∧ Nrm n m Y ∧ (∀ a, okN n (Y a)) ∧ (∀ a, okN n (X a))
theorem conj_Emb {n full m : Nat} {Y : Rowz} : conjR n (Emb n full m Y) = Emb n full m (conjR n Y) := by
  funext a
  show conjS n (Emb n full m Y a) = _
  unfold Emb
  split
  · exact conj_turn n
  · split
    · rfl
    · exact conj_none n
theorem NF_conj {n k full m : Nat} {X Y : Rowz} (h : NFz n k X full m Y) : NFz n k (conjR n X) full m (conjR n Y) := by
  obtain ⟨h1, ⟨l, hl, h2⟩, h3, h4, h5⟩ := h
  refine ⟨h1, ⟨l, hl, ?_⟩, Nrm_conj h4 h3, fun a => okN_conj (h4 a), fun a => okN_conj (h5 a)⟩
  rw [← conj_Emb]
  exact Itr_conj h5 h2
theorem NF_put {n k full m : Nat} {X Y : Rowz} (hn : n ≤ 8) (hk : k ≤ 20) (h : NFz n k X full m Y) {x : Simp} (ox : okN n x) {l a m3 : Nat} {Y2 Y3 : Rowz} (hl : l ≤ 28 * m) (hs : Itr n (m + 1) l (putR Y m x) Y2) (hN : Nrm n (m + 1) Y2) (ha : a + m3 ≤ m + 1) (t1 : ∀ r, r < a → Y2 r = turnS n) (t2 : ∀ r, r < m3 → Y2 (a + r) = Y3 r) (t3 : ∀ r, a + m3 ≤ r → r < m + 1 → Y2 r = noneS) (o3 : ∀ a, okN n (Y3 a)) :
    NFz n (k + 1) (putR X k x) (full + a) m3 Y3 := by
  obtain ⟨h1, ⟨l1, lb1, h2⟩, h3, h4, h5⟩ := h
  -- first all but the new one
  have s1 : Itr n (k + 1) l1 (putR X k x) (putR (Emb n full m Y) k x) := Itr_put (Nat.le_refl k) h2
  -- the new one ahead of the NONEs
  obtain ⟨l2, W, lb2, s2, w1, w2, w3⟩ := throughz (f := full + m) hn ox (k - (full + m)) (X := putR (Emb n full m Y) k x) (okN_put (okN_Emb h4) ox) (fun a ha hb => by rw [putR_o (by omega)]; exact Emb_hi ha) (by rw [show full + m + (k - (full + m)) = k by omega]; exact putR_k _ _ _)
  rw [show full + m + (k - (full + m)) + 1 = k + 1 by omega] at s2
  have eW : W = Emb n full (m + 1) (putR Y m x) := by
    funext b
    by_cases b1 : b < full + m
    · rw [w3 b (Or.inl b1), putR_o (by omega)]
      unfold Emb
      by_cases b2 : b < full
      · rw [if_pos b2, if_pos b2]
      · rw [if_neg b2, if_neg b2, if_pos b1, if_pos (by omega), putR_o (by omega)]
    · by_cases b2 : b = full + m
      · subst b2; rw [w1, Emb_in (by omega), putR_k]
      · rw [Emb_hi (by omega)]
        by_cases b3 : b ≤ k
        · exact w2 b (by omega) (by omega)
        · rw [w3 b (Or.inr (by omega)), putR_o (by omega)]; exact Emb_hi (by omega)
  have s3 : Itr n (k + 1) l (Emb n full (m + 1) (putR Y m x)) (Emb n full (m + 1) Y2) := by
    have := Itr_Emb (full := full) (z := k - (full + m)) hs
    rwa [show full + (m + 1) + (k - (full + m)) = k + 1 by omega] at this
  have eE : Emb n full (m + 1) Y2 = Emb n (full + a) m3 Y3 := by
    funext b
    unfold Emb
    by_cases b1 : b < full
    · rw [if_pos b1, if_pos (by omega)]
    · rw [if_neg b1]
      by_cases b2 : b < full + a
      · rw [if_pos (by omega), if_pos b2]; exact t1 _ (by omega)
      · rw [if_neg b2]
        by_cases b3 : b < full + a + m3
        · rw [if_pos (by omega), if_pos b3, ← t2 _ (by omega)]; congr 1; omega
        · rw [if_neg b3]
          by_cases b4 : b < full + (m + 1)
          · rw [if_pos b4]; exact t3 _ (by omega) (by omega)
          · rw [if_neg b4]
  refine ⟨by omega, ⟨l1 + (l2 + l), by omega, ?_⟩, ?_, o3, okN_put h5 ox⟩
  · rw [← eE]
    rw [eW] at s2
    exact Itr_add s1 (Itr_add s2 s3)
  · intro j i hj hi c
    have := hN (a + j) i (by omega) hi
    rw [t2 j (by omega), show a + j + 1 = a + (j + 1) by omega, t2 (j + 1) hj] at this
    exact this c
theorem NF_nil (n : Nat) : NFz n 0 (fun _ => noneS) 0 0 (fun _ => noneS) := by
  refine ⟨Nat.le_refl _, ⟨0, Nat.le_refl _, ?_⟩, fun j i hj => by omega, fun _ => okN_none n, fun _ => okN_none n⟩
  show _ = _
  funext a
  rw [Emb_hi (by omega)]
/-- each way from the row that comes to an end endsz there -/
theorem NF_end {n k full m l : Nat} {X Y Z : Rowz} (h : NFz n k X full m Y) (hZ : Itr n k l X Z) (hN : Nrm n k Z) : Z = Emb n full m Y := by
  obtain ⟨h1, ⟨l1, lb1, h2⟩, h3, h4, h5⟩ := h
  have : Nrm n k (Emb n full m Y) := by
    have := Nrm_Emb (full := full) (z := k - (full + m)) h3
    rwa [show full + m + (k - (full + m)) = k by omega] at this
  exact one_nrm (fun a => (h5 a).1) h2 this hZ hN
theorem NF_bound {n k full m : Nat} {X Y : Rowz} (h : NFz n k X full m Y) : ∀ l Z, Itr n k l X Z → l ≤ 2000 * k := by
  obtain ⟨h1, ⟨l1, lb1, h2⟩, h3, h4, h5⟩ := h
  have : Nrm n k (Emb n full m Y) := by
    have := Nrm_Emb (full := full) (z := k - (full + m)) h3
    rwa [show full + m + (k - (full + m)) = k by omega] at this
  intro l Z hl
  obtain ⟨r, hr, _⟩ := one_end_itr this l l1 (fun a => (h5 a).1) h2 hl
  omega
