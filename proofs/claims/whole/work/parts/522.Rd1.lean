/-- f, t times -/
def it (f : Nat → Nat) : Nat → Nat → Nat
  | 0, x => x
  | t + 1, x => f (it f t x)
theorem it_s (f : Nat → Nat) (t x : Nat) : it f (t + 1) x = f (it f t x) := rfl
theorem it_f (f : Nat → Nat) : ∀ t x, it f t (f x) = f (it f t x) := by
  intro t
  induction t with
  | zero => intro x; rfl
  | succ t ih => intro x; rw [it_s, it_s, ih]
def closedz (f : Nat → Nat) (N : Nat) : Prop := (∀ x, x < N → f x < N) ∧ (∀ x y, x < N → y < N → f x = f y → x = y)
theorem it_lt {f : Nat → Nat} {N : Nat} (h : closedz f N) {x : Nat} (hx : x < N) : ∀ t, it f t x < N := by
  intro t
  induction t with
  | zero => exact hx
  | succ t ih => exact h.1 _ ih
theorem it_inj {f : Nat → Nat} {N : Nat} (h : closedz f N) {x : Nat} (hx : x < N) : ∀ s d, it f s x = it f (s + d) x → it f d x = x := by
  intro s
  induction s with
  | zero => intro d e; rw [Nat.zero_add] at e; exact e.symm
  | succ s ih =>
    intro d e
    rw [show s + 1 + d = (s + d) + 1 by omega, it_s, it_s] at e
    exact ih d (h.2 _ _ (it_lt h hx s) (it_lt h hx (s + d)) e)
/-- marks along f as long as there is no mark -/
def mkz (f : Nat → Nat) (v : Int) : Nat → Nat → (Nat → Int) → (Nat → Int) × Nat
  | 0, _, a => (a, 0)
  | k + 1, x, a => if 0 ≤ a x then (a, 0) else ((mkz f v k (f x) (up a x v)).1, (mkz f v k (f x) (up a x v)).2 + 1)
theorem mk_s (f : Nat → Nat) (v : Int) (k x : Nat) (a : Nat → Int) : mkz f v (k + 1) x a = if 0 ≤ a x then (a, 0) else ((mkz f v k (f x) (up a x v)).1, (mkz f v k (f x) (up a x v)).2 + 1) := rfl
/-- how many are without a mark -/
def Uz (N : Nat) (a : Nat → Int) : Nat := cntP (fun x => decide (a x < 0)) N
theorem U_up {N : Nat} {a : Nat → Int} {x : Nat} {v : Int} (hx : x < N) (h : a x < 0) (hv : 0 ≤ v) : Uz N (up a x v) + 1 = Uz N a := by
  unfold Uz
  rw [cnt_rm (p := fun x => decide (a x < 0)) (x := x) (by simp [h]) hx]
  congr 1
  refine cnt_congr (fun q hq => ?_)
  by_cases c : q = x
  · rw [c, up_eq]; simp; omega
  · rw [up_ne _ _ c]; simp [c]
theorem U_pos {N : Nat} {a : Nat → Int} {x : Nat} (hx : x < N) (h : a x < 0) : 1 ≤ Uz N a := cnt_pos hx (by simp [h])
theorem U_le (N : Nat) (a : Nat → Int) : Uz N a ≤ N := by
  unfold Uz
  have : ∀ (p : Nat → Bool) m, cntP p m ≤ m := by
    intro p m
    induction m with
    | zero => exact Nat.le_refl _
    | succ m ih => rw [cnt_s]; split <;> omega
  exact this _ _
def like (N : Nat) (A a : Nat → Int) : Prop := ∀ x, x < N → A x = a x
theorem like_up {N : Nat} {A a : Nat → Int} (h : like N A a) (x : Nat) (v : Int) : like N (up A x v) (up a x v) := fun y hy => by
  by_cases c : y = x
  · rw [c, up_eq, up_eq]
  · rw [up_ne _ _ c, up_ne _ _ c, h y hy]
/-- a loop that marks so is mkz -/
theorem mk_loop {R : Type} {f : Nat → Nat} {N : Nat} {v : Int} (hv : 0 ≤ v) (hf : ∀ x, x < N → f x < N) (G : Nat → Nat → Nat → (Nat → Int) → R) (E : Nat → Nat → (Nat → Int) → R)
    (hstop : ∀ nn x t A, x < N → t ≤ N → 0 ≤ A x → G (nn + 1) x t A = E x t A)
    (hstep : ∀ nn x t A, x < N → t < N → A x < 0 → G (nn + 1) x t A = G nn (f x) (t + 1) (up A x v)) :
    ∀ (u k nn x t : Nat) (A a : Nat → Int), Uz N a = u → u < k → u < nn → x < N → t + u ≤ N → like N A a → ∃ x' A', x' < N ∧ G nn x t A = E x' (t + (mkz f v k x a).2) A' ∧ like N A' (mkz f v k x a).1 := by
  intro u
  induction u with
  | zero =>
    intro k nn x t A a hu hk hnn hx ht hl
    obtain ⟨nn, rfl⟩ : ∃ r, nn = r + 1 := ⟨nn - 1, by omega⟩
    obtain ⟨k, rfl⟩ : ∃ r, k = r + 1 := ⟨k - 1, by omega⟩
    have : ¬ a x < 0 := fun w => by have := U_pos hx w; omega
    rw [mk_s, if_pos (by omega)]
    exact ⟨x, A, hx, hstop nn x t A hx (by omega) (by rw [hl x hx]; omega), hl⟩
  | succ u ih =>
    intro k nn x t A a hu hk hnn hx ht hl
    obtain ⟨nn, rfl⟩ : ∃ r, nn = r + 1 := ⟨nn - 1, by omega⟩
    obtain ⟨k, rfl⟩ : ∃ r, k = r + 1 := ⟨k - 1, by omega⟩
    rw [mk_s]
    by_cases c : 0 ≤ a x
    · rw [if_pos c]
      exact ⟨x, A, hx, hstop nn x t A hx (by omega) (by rw [hl x hx]; exact c), hl⟩
    · rw [if_neg c]
      have hu2 := U_up (v := v) hx (show a x < 0 by omega) hv
      obtain ⟨x', A', h0, h1, h2⟩ := ih k nn (f x) (t + 1) (up A x v) (up a x v) (by omega) (by omega) (by omega) (hf x hx) (by omega) (like_up hl x v)
      refine ⟨x', A', h0, ?_, h2⟩
      rw [hstep nn x t A hx (by omega) (by rw [hl x hx]; omega), h1]
      congr 1
      omega
/-- a whole round is marked -/
theorem mk_round {f : Nat → Nat} {N : Nat} (hf : closedz f N) {v : Int} (hv : 0 ≤ v) {a : Nat → Int} (hcl : ∀ y, y < N → a (f y) = a y) {x : Nat} (hx : x < N) (hax : a x < 0) :
    ∀ (u k i : Nat) (b : Nat → Int), Uz N b = u → u < k → (∀ j, 0 < j → j < i → it f j x ≠ x) → (∀ y, y < N → (b y = if (∃ j, j < i ∧ it f j x = y) then v else a y)) → (i = 0 ∨ it f i x = x ∨ True) →
    ∃ t, i ≤ t ∧ (mkz f v k (it f i x) b).2 + i = t ∧ (1 ≤ i ∧ it f i x = x → t = i) ∧ (0 < t) ∧ it f t x = x ∧ (∀ j, 0 < j → j < t → it f j x ≠ x) ∧ (∀ y, y < N → ((mkz f v k (it f i x) b).1 y = if (∃ j, j < t ∧ it f j x = y) then v else a y)) := by
  have hcl' : ∀ t, a (it f t x) = a x := by
    intro t
    induction t with
    | zero => rfl
    | succ t ih => rw [it_s, hcl _ (it_lt hf hx t), ih]
  intro u
  induction u with
  | zero =>
    intro k i b hu hk hne hb _
    obtain ⟨k, rfl⟩ : ∃ r, k = r + 1 := ⟨k - 1, by omega⟩
    have hm : ¬ b (it f i x) < 0 := fun w => by have := U_pos (it_lt hf hx i) w; omega
    rw [mk_s, if_pos (by omega)]
    have hbi := hb (it f i x) (it_lt hf hx i)
    have hi : it f i x = x ∧ 0 < i := by
      by_cases q : ∃ j, j < i ∧ it f j x = it f i x
      · obtain ⟨j, hj, e⟩ := q
        have := it_inj hf hx j (i - j) (by rw [show j + (i - j) = i by omega]; exact e)
        by_cases j0 : j = 0
        · rw [j0] at this; rw [show i - 0 = i by omega] at this; exact ⟨this, by omega⟩
        · exact absurd this (hne (i - j) (by omega) (by omega))
      · rw [if_neg q, hcl'] at hbi; omega
    exact ⟨i, Nat.le_refl _, by omega, fun _ => rfl, hi.2, hi.1, hne, hb⟩
  | succ u ih =>
    intro k i b hu hk hne hb _
    obtain ⟨k, rfl⟩ : ∃ r, k = r + 1 := ⟨k - 1, by omega⟩
    have hbi := hb (it f i x) (it_lt hf hx i)
    rw [mk_s]
    by_cases c : 0 ≤ b (it f i x)
    · rw [if_pos c]
      have hi : it f i x = x ∧ 0 < i := by
        by_cases q : ∃ j, j < i ∧ it f j x = it f i x
        · obtain ⟨j, hj, e⟩ := q
          have := it_inj hf hx j (i - j) (by rw [show j + (i - j) = i by omega]; exact e)
          by_cases j0 : j = 0
          · rw [j0] at this; rw [show i - 0 = i by omega] at this; exact ⟨this, by omega⟩
          · exact absurd this (hne (i - j) (by omega) (by omega))
        · rw [if_neg q, hcl'] at hbi; omega
      exact ⟨i, Nat.le_refl _, by omega, fun _ => rfl, hi.2, hi.1, hne, hb⟩
    · rw [if_neg c]
      have nq : ¬ ∃ j, j < i ∧ it f j x = it f i x := fun q => by rw [if_pos q] at hbi; omega
      have hu2 := U_up (v := v) (it_lt hf hx i) (show b (it f i x) < 0 by omega) hv
      have hne2 : ∀ j, 0 < j → j < i + 1 → it f j x ≠ x := fun j j1 j2 w => by
        by_cases e : j = i
        · subst e; exact nq ⟨0, j1, by rw [w]; rfl⟩
        · exact hne j j1 (by omega) w
      obtain ⟨t, t1, t2, t3, t4, t5, t6, t7⟩ := ih k (i + 1) (up b (it f i x) v) (by omega) (by omega) hne2 (fun y hy => by
        by_cases e : y = it f i x
        · rw [e, up_eq, if_pos ⟨i, by omega, rfl⟩]
        · rw [up_ne _ _ e, hb y hy]
          by_cases q : ∃ j, j < i ∧ it f j x = y
          · rw [if_pos q, if_pos (by obtain ⟨j, q1, q2⟩ := q; exact ⟨j, by omega, q2⟩)]
          · rw [if_neg q, if_neg (fun ⟨j, q1, q2⟩ => by
              by_cases e2 : j = i
              · rw [e2] at q2; exact e q2.symm
              · exact q ⟨j, by omega, q2⟩)]) (Or.inr (Or.inr trivial))
      refine ⟨t, by omega, ?_, fun w => ?_, t4, t5, t6, t7⟩
      · show (mkz f v k (f (it f i x)) (up b (it f i x) v)).2 + 1 + i = t
        rw [it_s] at t2; omega
      · exact absurd w.2 (hne2 i w.1 (by omega))
/-- the rounds of f, numbered by their least ones: marks, how many, first ones, lengths -/
def rndz (f : Nat → Nat) (N : Nat) : Nat → (Nat → Int) × Nat × (Nat → Nat) × (Nat → Nat)
  | 0 => (fun _ => -1, 0, fun _ => 0, fun _ => 0)
  | k + 1 => if 0 ≤ (rndz f N k).1 k then rndz f N k else ((mkz f ((rndz f N k).2.1 : Int) (N + 1) k (rndz f N k).1).1, (rndz f N k).2.1 + 1, (fun c => if c = (rndz f N k).2.1 then k else (rndz f N k).2.2.1 c), (fun c => if c = (rndz f N k).2.1 then (mkz f ((rndz f N k).2.1 : Int) (N + 1) k (rndz f N k).1).2 else (rndz f N k).2.2.2 c))
theorem rnd_s (f : Nat → Nat) (N k : Nat) : rndz f N (k + 1) = if 0 ≤ (rndz f N k).1 k then rndz f N k else ((mkz f ((rndz f N k).2.1 : Int) (N + 1) k (rndz f N k).1).1, (rndz f N k).2.1 + 1, (fun c => if c = (rndz f N k).2.1 then k else (rndz f N k).2.2.1 c), (fun c => if c = (rndz f N k).2.1 then (mkz f ((rndz f N k).2.1 : Int) (N + 1) k (rndz f N k).1).2 else (rndz f N k).2.2.2 c)) := rfl
/-- what they are -/
def Rnd (f : Nat → Nat) (N k : Nat) (s : (Nat → Int) × Nat × (Nat → Nat) × (Nat → Nat)) : Prop :=
  (∀ y, y < N → s.1 (f y) = s.1 y) ∧ (∀ y, y < N → -1 ≤ s.1 y ∧ s.1 y < (s.2.1 : Int)) ∧ (∀ y, y < k → 0 ≤ s.1 y) ∧ s.2.1 ≤ k ∧
  (∀ c, c < s.2.1 → s.2.2.1 c < k ∧ s.1 (s.2.2.1 c) = (c : Int) ∧ 0 < s.2.2.2 c ∧ it f (s.2.2.2 c) (s.2.2.1 c) = s.2.2.1 c ∧ (∀ j, 0 < j → j < s.2.2.2 c → it f j (s.2.2.1 c) ≠ s.2.2.1 c) ∧ (∀ y, y < N → s.1 y = (c : Int) → s.2.2.1 c ≤ y ∧ ∃ j, j < s.2.2.2 c ∧ it f j (s.2.2.1 c) = y)) ∧
  (∀ c d, c < d → d < s.2.1 → s.2.2.1 c < s.2.2.1 d)
theorem rnd_ok {f : Nat → Nat} {N : Nat} (hf : closedz f N) : ∀ k, k ≤ N → Rnd f N k (rndz f N k) := by
  intro k
  induction k with
  | zero =>
    intro _
    exact ⟨fun y _ => rfl, fun y _ => ⟨Int.le_refl _, by show (-1 : Int) < ((0 : Nat) : Int); decide⟩, fun y hy => by omega, Nat.le_refl _, fun c hc => absurd hc (Nat.not_lt_zero c), fun c d _ hd => absurd hd (Nat.not_lt_zero d)⟩
  | succ k ih =>
    intro hk
    obtain ⟨i1, i2, i3, i4, i5, i6⟩ := ih (by omega)
    rw [rnd_s]
    generalize rndz f N k = s at *
    by_cases c : 0 ≤ s.1 k
    · rw [if_pos c]
      refine ⟨i1, i2, fun y hy => ?_, by omega, fun c hc => ?_, i6⟩
      · by_cases e : y = k
        · rw [e]; exact c
        · exact i3 y (by omega)
      · obtain ⟨a1, a2⟩ := i5 c hc
        exact ⟨by omega, a2⟩
    · rw [if_neg c]
      obtain ⟨t, t1, t2, t3, t4, t5, t6, t7⟩ := mk_round hf (v := (s.2.1 : Int)) (by omega) i1 (show k < N by omega) (show s.1 k < 0 by omega) (Uz N s.1) (N + 1) 0 s.1 rfl (by have := U_le N s.1; omega) (fun j j1 j2 => by omega) (fun y hy => by rw [if_neg (fun ⟨j, q1, _⟩ => by omega)]) (Or.inl rfl)
      have e0 : it f 0 k = k := rfl
      rw [e0] at t2 t7
      rw [Nat.add_zero] at t2
      generalize hm : mkz f (s.2.1 : Int) (N + 1) k s.1 = r at *
      have orb : ∀ y, y < N → ((∃ j, j < t ∧ it f j k = f y) ↔ (∃ j, j < t ∧ it f j k = y)) := fun y hy => by
        constructor
        · intro ⟨j, q1, q2⟩
          by_cases j0 : j = 0
          · subst j0
            refine ⟨t - 1, by omega, hf.2 _ _ (it_lt hf (by omega) _) hy ?_⟩
            rw [← it_s f, show t - 1 + 1 = t by omega, t5, ← q2]; rfl
          · refine ⟨j - 1, by omega, hf.2 _ _ (it_lt hf (by omega) _) hy ?_⟩
            rw [← it_s f, show j - 1 + 1 = j by omega, q2]
        · intro ⟨j, q1, q2⟩
          by_cases j1 : j + 1 = t
          · refine ⟨0, t4, ?_⟩
            rw [← q2, ← it_s f, j1, t5]; rfl
          · exact ⟨j + 1, by omega, by rw [it_s, q2]⟩
      refine ⟨fun y hy => ?_, fun y hy => ?_, fun y hy => ?_, by show s.2.1 + 1 ≤ k + 1; omega, fun c hc => ?_, fun c d hcd hd => ?_⟩
      · show r.1 (f y) = r.1 y
        rw [t7 _ (hf.1 y hy), t7 y hy]
        by_cases q : ∃ j, j < t ∧ it f j k = y
        · rw [if_pos q, if_pos ((orb y hy).2 q)]
        · rw [if_neg q, if_neg (fun w => q ((orb y hy).1 w)), i1 y hy]
      · show -1 ≤ r.1 y ∧ r.1 y < ((s.2.1 + 1 : Nat) : Int)
        rw [t7 y hy]
        have := i2 y hy
        split <;> omega
      · show 0 ≤ r.1 y
        rw [t7 y (by omega)]
        split
        · omega
        · rename_i q
          by_cases e : y = k
          · exact absurd ⟨0, t4, by rw [e]; rfl⟩ q
          · exact i3 y (by omega)
      · have hc : c < s.2.1 + 1 := hc
        by_cases e : c = s.2.1
        · subst e
          show (if s.2.1 = s.2.1 then k else s.2.2.1 s.2.1) < k + 1 ∧ r.1 (if s.2.1 = s.2.1 then k else s.2.2.1 s.2.1) = (s.2.1 : Int) ∧ 0 < (if s.2.1 = s.2.1 then r.2 else s.2.2.2 s.2.1) ∧ it f (if s.2.1 = s.2.1 then r.2 else s.2.2.2 s.2.1) (if s.2.1 = s.2.1 then k else s.2.2.1 s.2.1) = (if s.2.1 = s.2.1 then k else s.2.2.1 s.2.1) ∧ (∀ j, 0 < j → j < (if s.2.1 = s.2.1 then r.2 else s.2.2.2 s.2.1) → it f j (if s.2.1 = s.2.1 then k else s.2.2.1 s.2.1) ≠ (if s.2.1 = s.2.1 then k else s.2.2.1 s.2.1)) ∧ (∀ y, y < N → r.1 y = (s.2.1 : Int) → (if s.2.1 = s.2.1 then k else s.2.2.1 s.2.1) ≤ y ∧ ∃ j, j < (if s.2.1 = s.2.1 then r.2 else s.2.2.2 s.2.1) ∧ it f j (if s.2.1 = s.2.1 then k else s.2.2.1 s.2.1) = y)
          rw [if_pos rfl, if_pos rfl, t2]
          refine ⟨by omega, ?_, t4, t5, t6, fun y hy hry => ?_⟩
          · rw [t7 k (by omega), if_pos ⟨0, t4, rfl⟩]
          · rw [t7 y hy] at hry
            have q : ∃ j, j < t ∧ it f j k = y := by
              refine Decidable.byContradiction (fun q => ?_)
              rw [if_neg q] at hry
              have := i2 y hy
              omega
            refine ⟨?_, q⟩
            rcases Nat.lt_or_ge y k with w | w
            · exfalso
              have h0 := i3 y w
              obtain ⟨j, q1, q2⟩ := q
              have : s.1 y = s.1 k := by
                rw [← q2]
                clear q1 q2
                induction j with
                | zero => rfl
                | succ j ihj => rw [it_s, i1 _ (it_lt hf (by omega) j), ihj]
              omega
            · exact w
        · obtain ⟨a1, a2, a3, a4, a5, a6⟩ := i5 c (by omega)
          show (if c = s.2.1 then k else s.2.2.1 c) < k + 1 ∧ r.1 (if c = s.2.1 then k else s.2.2.1 c) = (c : Int) ∧ 0 < (if c = s.2.1 then r.2 else s.2.2.2 c) ∧ it f (if c = s.2.1 then r.2 else s.2.2.2 c) (if c = s.2.1 then k else s.2.2.1 c) = (if c = s.2.1 then k else s.2.2.1 c) ∧ (∀ j, 0 < j → j < (if c = s.2.1 then r.2 else s.2.2.2 c) → it f j (if c = s.2.1 then k else s.2.2.1 c) ≠ (if c = s.2.1 then k else s.2.2.1 c)) ∧ (∀ y, y < N → r.1 y = (c : Int) → (if c = s.2.1 then k else s.2.2.1 c) ≤ y ∧ ∃ j, j < (if c = s.2.1 then r.2 else s.2.2.2 c) ∧ it f j (if c = s.2.1 then k else s.2.2.1 c) = y)
          rw [if_neg e, if_neg e]
          refine ⟨by omega, ?_, a3, a4, a5, fun y hy hry => ?_⟩
          · rw [t7 _ (by omega)]
            split
            · rename_i q
              exfalso
              obtain ⟨j, q1, q2⟩ := q
              have : s.1 (s.2.2.1 c) = s.1 k := by
                rw [← q2]
                clear q1 q2
                induction j with
                | zero => rfl
                | succ j ihj => rw [it_s, i1 _ (it_lt hf (by omega) j), ihj]
              omega
            · exact a2
          · rw [t7 y hy] at hry
            by_cases q : ∃ j, j < t ∧ it f j k = y
            · rw [if_pos q] at hry; omega
            · rw [if_neg q] at hry
              exact a6 y hy hry
      · have hd : d < s.2.1 + 1 := hd
        show (if c = s.2.1 then k else s.2.2.1 c) < (if d = s.2.1 then k else s.2.2.1 d)
        rw [if_neg (show ¬ c = s.2.1 by omega)]
        by_cases e : d = s.2.1
        · rw [if_pos e]; exact (i5 c (by omega)).1
        · rw [if_neg e]; exact i6 c d hcd (by omega)
