/-- an arc walked along: as long as the edge goes in above -/
def aw (f : Nat → Nat) (P : Nat → Bool) (v : Int) : Nat → Nat → (Nat → Int) → (Nat → Int)
  | 0, x, a => up a x v
  | k + 1, x, a => if P x = true then aw f P v k (f x) (up a x v) else up a x v
theorem aw_s (f : Nat → Nat) (P : Nat → Bool) (v : Int) (k x : Nat) (a : Nat → Int) : aw f P v (k + 1) x a = if P x = true then aw f P v k (f x) (up a x v) else up a x v := rfl
theorem aw_like {f : Nat → Nat} {P : Nat → Bool} {v : Int} {N : Nat} : ∀ (k x : Nat) {A a : Nat → Int}, like N A a → like N (aw f P v k x A) (aw f P v k x a) := by
  intro k
  induction k with
  | zero => intro x A a h; exact like_up h x v
  | succ k ih =>
    intro x A a h
    rw [aw_s, aw_s]
    split
    · exact ih (f x) (like_up h x v)
    · exact like_up h x v
/-- first the arcs with endsz, then those without -/
def ar1 (f : Nat → Nat) (P Q : Nat → Bool) (N : Nat) : Nat → (Nat → Int) × Nat
  | 0 => ((fun _ => -1), 0)
  | k + 1 => if Q k = true then (aw f P ((ar1 f P Q N k).2 : Int) N k (ar1 f P Q N k).1, (ar1 f P Q N k).2 + 1) else ar1 f P Q N k
def ar2 (f : Nat → Nat) (P Q : Nat → Bool) (N : Nat) : Nat → (Nat → Int) × Nat
  | 0 => ar1 f P Q N N
  | k + 1 => if (ar2 f P Q N k).1 k < 0 then (aw f P ((ar2 f P Q N k).2 : Int) N k (ar2 f P Q N k).1, (ar2 f P Q N k).2 + 1) else ar2 f P Q N k
theorem ar1_s (f : Nat → Nat) (P Q : Nat → Bool) (N k : Nat) : ar1 f P Q N (k + 1) = if Q k = true then (aw f P ((ar1 f P Q N k).2 : Int) N k (ar1 f P Q N k).1, (ar1 f P Q N k).2 + 1) else ar1 f P Q N k := rfl
theorem ar2_s (f : Nat → Nat) (P Q : Nat → Bool) (N k : Nat) : ar2 f P Q N (k + 1) = if (ar2 f P Q N k).1 k < 0 then (aw f P ((ar2 f P Q N k).2 : Int) N k (ar2 f P Q N k).1, (ar2 f P Q N k).2 + 1) else ar2 f P Q N k := rfl
/-- marks of aw: what is marked bears v, the rest is as it was; and the marked ones are closedz under going on -/
theorem aw_v {f : Nat → Nat} {P : Nat → Bool} {v : Int} : ∀ (k x : Nat) (a : Nat → Int) (y : Nat), aw f P v k x a y = v ∨ aw f P v k x a y = a y := by
  intro k
  induction k with
  | zero =>
    intro x a y
    show up a x v y = v ∨ up a x v y = a y
    by_cases w : y = x
    · rw [w, up_eq]; exact Or.inl rfl
    · rw [up_ne _ _ w]; exact Or.inr rfl
  | succ k ih =>
    intro x a y
    have z : up a x v y = v ∨ up a x v y = a y := by
      by_cases w : y = x
      · rw [w, up_eq]; exact Or.inl rfl
      · rw [up_ne _ _ w]; exact Or.inr rfl
    rw [aw_s]
    split
    · rcases ih (f x) (up a x v) y with e | e
      · exact Or.inl e
      · rw [e]; exact z
    · exact z
theorem aw_at {f : Nat → Nat} {P : Nat → Bool} {v : Int} : ∀ (k x : Nat) (a : Nat → Int), aw f P v k x a x = v := by
  intro k
  cases k with
  | zero => intro x a; exact up_eq _ _ _
  | succ k =>
    intro x a
    rw [aw_s]
    split
    · rcases aw_v k (f x) (up a x v) x with e | e
      · exact e
      · rw [e, up_eq]
    · exact up_eq _ _ _
theorem aw_ge {f : Nat → Nat} {P : Nat → Bool} {v : Int} (hv : 0 ≤ v) (k x : Nat) (a : Nat → Int) (y : Nat) (h : 0 ≤ a y) : 0 ≤ aw f P v k x a y := by
  rcases aw_v (f := f) (P := P) (v := v) k x a y with e | e <;> rw [e] <;> assumption
/-- marks step by step along the way -/
theorem aw_it {f : Nat → Nat} {P : Nat → Bool} {v : Int} : ∀ (k x : Nat) (a : Nat → Int) (j : Nat), j ≤ k → (∀ i, i < j → P (it f i x) = true) → aw f P v k x a (it f j x) = v := by
  intro k
  induction k with
  | zero => intro x a j hj _; rw [show j = 0 by omega]; exact aw_at 0 x a
  | succ k ih =>
    intro x a j hj hP
    by_cases w : j = 0
    · rw [w]; exact aw_at (k + 1) x a
    · rw [aw_s, if_pos (show P x = true from hP 0 (by omega))]
      have := ih (f x) (up a x v) (j - 1) (by omega) (fun i hi => by
        rw [it_f, ← it_s f i x]; exact hP (i + 1) (by omega))
      rw [it_f, ← it_s f (j - 1) x, show j - 1 + 1 = j by omega] at this
      exact this
theorem aw_only {f : Nat → Nat} {P : Nat → Bool} {v : Int} : ∀ (k x : Nat) (a : Nat → Int) (y : Nat), (∀ j, j ≤ k → it f j x ≠ y) → aw f P v k x a y = a y := by
  intro k
  induction k with
  | zero => intro x a y h; exact up_ne _ _ (fun w => h 0 (by omega) w.symm)
  | succ k ih =>
    intro x a y h
    have z : up a x v y = a y := up_ne _ _ (fun w => h 0 (by omega) w.symm)
    rw [aw_s]
    split
    · rw [ih (f x) (up a x v) y (fun j hj => by rw [it_f, ← it_s f j x]; exact h (j + 1) (by omega)), z]
    · exact z
section
variable {n : Nat} {sg lb nm fr to at_ : Nat → Int}
def upTz (to : Nat → Int) (e : Nat) : Bool := decide ((to e).toNat % 2 = 1)
def loF (fr : Nat → Int) (e : Nat) : Bool := decide ((fr e).toNat % 2 = 0)
theorem nx_lo (h : EdgA n sg lb nm fr to at_) {e : Nat} (he : e < 2 * n) : loF fr (nx to at_ e) = !upTz to e := by
  have := (nx_ok h he).2.2
  unfold loF upTz
  rw [this, Int.toNat_natCast]
  have o : opp (to e).toNat % 2 = (to e).toNat % 2 := by unfold opp; split <;> omega
  rw [o]
  by_cases c : (to e).toNat % 2 = 1
  · simp [c]
  · simp [show (to e).toNat % 2 = 0 by omega]
/-- each round comes backz -/
theorem backz (h : EdgA n sg lb nm fr to at_) {e : Nat} (he : e < 2 * n) : ∃ t, 0 < t ∧ t ≤ 2 * n ∧ it (nx to at_) t e = e := by
  have hf := nx_closed h
  -- pigeon: not all of 0 .. 2n are apart
  refine Classical.byContradiction (fun no => ?_)
  have := pigeon (N := 2 * n) (k := 2 * n + 1) (fun j => it (nx to at_) j e) (fun j _ => it_lt hf he j) (fun i j hi hj w => by
    rcases Nat.lt_trichotomy i j with x | x | x
    · have := it_inj hf he i (j - i) (by rw [show i + (j - i) = j by omega]; exact w)
      exact (no ⟨j - i, by omega, by omega, this⟩).elim
    · exact x
    · have := it_inj hf he j (i - j) (by rw [show j + (i - j) = i by omega]; exact w.symm)
      exact (no ⟨i - j, by omega, by omega, this⟩).elim)
  omega
/-- from an edge that comes out below the walk endsz in time -/
theorem endsz (h : EdgA n sg lb nm fr to at_) {e : Nat} (he : e < 2 * n) (hl : loF fr e = true) : ∃ t, t < 2 * n ∧ upTz to (it (nx to at_) t e) = false ∧ ∀ i, i < t → upTz to (it (nx to at_) i e) = true := by
  have hf := nx_closed h
  obtain ⟨t, t1, t2, t3⟩ := backz h he
  have last : upTz to (it (nx to at_) (t - 1) e) = false := by
    have := nx_lo h (it_lt hf he (t - 1))
    rw [← it_s (nx to at_) (t - 1) e, show t - 1 + 1 = t by omega, t3, hl] at this
    cases u : upTz to (it (nx to at_) (t - 1) e)
    · rfl
    · rw [u] at this; cases this
  -- the least one
  have least : ∀ m, upTz to (it (nx to at_) m e) = false → ∃ t, t ≤ m ∧ upTz to (it (nx to at_) t e) = false ∧ ∀ i, i < t → upTz to (it (nx to at_) i e) = true := by
    intro m
    induction m using Nat.strongRecOn with
    | ind m ih =>
      intro hm
      by_cases w : ∃ i, i < m ∧ upTz to (it (nx to at_) i e) = false
      · obtain ⟨i, i1, i2⟩ := w
        obtain ⟨t, a, b, c⟩ := ih i i1 i2
        exact ⟨t, by omega, b, c⟩
      · refine ⟨m, Nat.le_refl _, hm, fun i hi => ?_⟩
        cases u : upTz to (it (nx to at_) i e)
        · exact absurd ⟨i, hi, u⟩ w
        · rfl
  obtain ⟨s, a, b, c⟩ := least (t - 1) last
  exact ⟨s, by omega, b, c⟩
/-- class: one arc -/
theorem cfA12 (fl : Nat) (hn : n ≤ 20) (h : EdgA n sg lb nm fr to at_) (x1 v : Int) : ∀ (k nn x : Nat) (A : Nat → Int), k < nn → x < 2 * n → k ≤ 2 * n → ∃ A', LB_Sh_fillArc_12 fl ((2 * n : Nat) : Int) at_ to nn x1 v (x : Int) ((2 * n - k : Nat) : Int) A = some A' ∧ ∀ B, A = up B x v → A' = aw (nx to at_) (upTz to) v k x B := by
  intro k
  induction k with
  | zero =>
    intro nn x A hnn hx _
    obtain ⟨nn, rfl⟩ : ∃ r, nn = r + 1 := ⟨nn - 1, by omega⟩
    rw [LB_Sh_fillArc_12, if_pos (by omega)]
    exact ⟨A, rfl, fun B hB => hB⟩
  | succ k ih =>
    intro nn x A hnn hx hk
    obtain ⟨nn, rfl⟩ : ∃ r, nn = r + 1 := ⟨nn - 1, by omega⟩
    obtain ⟨_, _, t1, t2, _⟩ := fr_ok h hx
    have nl := (nx_ok h hx).1
    rw [LB_Sh_fillArc_12, if_neg (by omega), if_pos (by omega), Int.toNat_natCast, (isU fl t1).1, Option.bind_some]
    by_cases u : (to x).toNat % 2 = 1
    · rw [if_pos u, if_neg (by decide), C_nextEdge fl hn h hx, Option.bind_some, if_pos (by omega), if_pos (by omega), Int.toNat_natCast, show (((2 * n - (k + 1) : Nat) : Int) + 1) = ((2 * n - k : Nat) : Int) by omega]
      obtain ⟨A', g1, g2⟩ := ih nn (nx to at_ x) (up A (nx to at_ x) v) (by omega) nl (by omega)
      refine ⟨A', g1, fun B hB => ?_⟩
      rw [aw_s, if_pos (by unfold upTz; simp [u]), g2 A rfl, hB]
    · rw [if_neg u, if_pos rfl]
      exact ⟨A, rfl, fun B hB => by rw [aw_s, if_neg (by unfold upTz; simp [u])]; exact hB⟩
theorem C_fillArc (fl : Nat) (hfl : 200 ≤ fl) (hn : n ≤ 20) (h : EdgA n sg lb nm fr to at_) (v : Int) {x : Nat} (hx : x < 2 * n) (A : Nat → Int) : LM_Sh_fillArc fl ((2 * n : Nat) : Int) at_ to (x : Int) v A = some (aw (nx to at_) (upTz to) v (2 * n) x A) := by
  unfold LM_Sh_fillArc LB_Sh_fillArc_0
  obtain ⟨A', g1, g2⟩ := cfA12 fl hn h (x : Int) v (2 * n) fl x (up A x v) (by omega) hx (Nat.le_refl _)
  rw [show ((2 * n - 2 * n : Nat) : Int) = 0 by omega] at g1
  rw [if_pos (by omega), Int.toNat_natCast, g1, g2 A rfl]
theorem ar1_le (f : Nat → Nat) (P Q : Nat → Bool) (N : Nat) : ∀ k, (ar1 f P Q N k).2 ≤ k := by
  intro k
  induction k with
  | zero => exact Nat.le_refl _
  | succ k ih =>
    rw [ar1_s]
    split
    · show (ar1 f P Q N k).2 + 1 ≤ k + 1; omega
    · omega
theorem ar2_le (f : Nat → Nat) (P Q : Nat → Bool) (N : Nat) : ∀ k, (ar2 f P Q N k).2 ≤ N + k := by
  intro k
  induction k with
  | zero => exact ar1_le f P Q N N
  | succ k ih =>
    rw [ar2_s]
    split
    · show (ar2 f P Q N k).2 + 1 ≤ N + (k + 1); omega
    · omega
theorem ca49 (fl : Nat) (hfl : 200 ≤ fl) (hn : n ≤ 20) (h : EdgA n sg lb nm fr to at_) : ∀ (r nn k : Nat) (A : Nat → Int), k + r = 2 * n → r < nn → like (2 * n) A (ar2 (nx to at_) (upTz to) (loF fr) (2 * n) k).1 → ∃ A', LB_Sh_findArcs_49 fl ((2 * n : Nat) : Int) at_ fr to nn ((ar2 (nx to at_) (upTz to) (loF fr) (2 * n) k).2 : Int) (k : Int) A = some (((ar2 (nx to at_) (upTz to) (loF fr) (2 * n) (2 * n)).2 : Int), A') ∧ like (2 * n) A' (ar2 (nx to at_) (upTz to) (loF fr) (2 * n) (2 * n)).1 := by
  intro r
  induction r with
  | zero =>
    intro nn k A hr hnn hA
    obtain ⟨nn, rfl⟩ : ∃ r, nn = r + 1 := ⟨nn - 1, by omega⟩
    have : k = 2 * n := by omega
    subst this
    rw [LB_Sh_findArcs_49, if_pos (by omega)]
    exact ⟨A, rfl, hA⟩
  | succ r ih =>
    intro nn k A hr hnn hA
    obtain ⟨nn, rfl⟩ : ∃ r, nn = r + 1 := ⟨nn - 1, by omega⟩
    have le := ar2_le (nx to at_) (upTz to) (loF fr) (2 * n) k
    rw [LB_Sh_findArcs_49, if_neg (by omega), if_pos (by omega), Int.toNat_natCast, hA k (by omega)]
    unfold LB_Sh_findArcs_75
    by_cases c : (ar2 (nx to at_) (upTz to) (loF fr) (2 * n) k).1 k < 0
    · rw [if_neg (by omega), C_fillArc fl hfl hn h _ (show k < 2 * n by omega), Option.bind_some, if_pos (by omega), if_pos (by omega), show ((k : Int) + 1) = ((k + 1 : Nat) : Int) by omega]
      have := ih nn (k + 1) (aw (nx to at_) (upTz to) ((ar2 (nx to at_) (upTz to) (loF fr) (2 * n) k).2 : Int) (2 * n) k A) (by omega) (by omega) (by rw [ar2_s, if_pos c]; exact aw_like _ _ hA)
      rw [ar2_s, if_pos c] at this
      rw [show (((ar2 (nx to at_) (upTz to) (loF fr) (2 * n) k).2 : Nat) : Int) + 1 = (((ar2 (nx to at_) (upTz to) (loF fr) (2 * n) k).2 + 1 : Nat) : Int) by omega]
      exact this
    · rw [if_pos (by omega), if_pos (by omega), show ((k : Int) + 1) = ((k + 1 : Nat) : Int) by omega]
      have := ih nn (k + 1) A (by omega) (by omega) (by rw [ar2_s, if_neg c]; exact hA)
      rw [ar2_s, if_neg c] at this
      exact this
theorem ca12 (fl : Nat) (hfl : 200 ≤ fl) (hn : n ≤ 20) (h : EdgA n sg lb nm fr to at_) : ∀ (r nn k : Nat) (A : Nat → Int), k + r = 2 * n → r < nn → like (2 * n) A (ar1 (nx to at_) (upTz to) (loF fr) (2 * n) k).1 → ∃ A', LB_Sh_findArcs_12 fl ((2 * n : Nat) : Int) at_ fr to nn ((ar1 (nx to at_) (upTz to) (loF fr) (2 * n) k).2 : Int) (k : Int) A = some (((ar2 (nx to at_) (upTz to) (loF fr) (2 * n) (2 * n)).2 : Int), A') ∧ like (2 * n) A' (ar2 (nx to at_) (upTz to) (loF fr) (2 * n) (2 * n)).1 := by
  intro r
  induction r with
  | zero =>
    intro nn k A hr hnn hA
    obtain ⟨nn, rfl⟩ : ∃ r, nn = r + 1 := ⟨nn - 1, by omega⟩
    have : k = 2 * n := by omega
    subst this
    rw [LB_Sh_findArcs_12, if_pos (by omega)]
    exact ca49 fl hfl hn h (2 * n) fl 0 A (by omega) (by omega) hA
  | succ r ih =>
    intro nn k A hr hnn hA
    obtain ⟨nn, rfl⟩ : ∃ r, nn = r + 1 := ⟨nn - 1, by omega⟩
    have le := ar1_le (nx to at_) (upTz to) (loF fr) (2 * n) k
    obtain ⟨f1, f2, _⟩ := fr_ok h (show k < 2 * n by omega)
    rw [LB_Sh_findArcs_12, if_neg (by omega), if_pos (by omega), Int.toNat_natCast, (isU fl f1).1, Option.bind_some]
    unfold LB_Sh_findArcs_41
    by_cases u : (fr k).toNat % 2 = 1
    · rw [if_pos u, if_pos (by decide), if_pos (by omega), show ((k : Int) + 1) = ((k + 1 : Nat) : Int) by omega]
      have q : ¬ loF fr k = true := by unfold loF; simp [u]
      have := ih nn (k + 1) A (by omega) (by omega) (by rw [ar1_s, if_neg q]; exact hA)
      rw [ar1_s, if_neg q] at this
      exact this
    · have q : loF fr k = true := by unfold loF; simp; omega
      rw [if_neg u, if_neg (fun z => z rfl), C_fillArc fl hfl hn h _ (show k < 2 * n by omega), Option.bind_some, if_pos (by omega), if_pos (by omega), show ((k : Int) + 1) = ((k + 1 : Nat) : Int) by omega]
      have := ih nn (k + 1) (aw (nx to at_) (upTz to) ((ar1 (nx to at_) (upTz to) (loF fr) (2 * n) k).2 : Int) (2 * n) k A) (by omega) (by omega) (by rw [ar1_s, if_pos q]; exact aw_like _ _ hA)
      rw [ar1_s, if_pos q] at this
      rw [show (((ar1 (nx to at_) (upTz to) (loF fr) (2 * n) k).2 : Nat) : Int) + 1 = (((ar1 (nx to at_) (upTz to) (loF fr) (2 * n) k).2 + 1 : Nat) : Int) by omega]
      exact this
/-- arcs that have edges: how many, and whose -/
def arcN (n : Nat) (fr to at_ : Nat → Int) : Nat := (ar2 (nx to at_) (upTz to) (loF fr) (2 * n) (2 * n)).2
def arcA (n : Nat) (fr to at_ : Nat → Int) : Nat → Int := (ar2 (nx to at_) (upTz to) (loF fr) (2 * n) (2 * n)).1
theorem C_findArcs (fl : Nat) (hfl : 200 ≤ fl) (hn : n ≤ 20) (h : EdgA n sg lb nm fr to at_) (A : Nat → Int) : ∃ A', LM_Sh_findArcs fl ((2 * n : Nat) : Int) at_ fr to A = some ((arcN n fr to at_ : Int), A') ∧ like (2 * n) A' (arcA n fr to at_) := by
  unfold LM_Sh_findArcs LB_Sh_findArcs_0
  exact ca12 fl hfl hn h (2 * n) fl 0 _ (by omega) (by omega) (fun y hy => by unfold fillF; rw [if_pos (by omega)]; rfl)
end
