/-- ways with two endsz: mates; joined at two endsz -/
def jn (μ : Nat → Nat) (a b : Nat) : Nat → Nat := fun p => if p = μ b then μ a else if p = μ a then μ b else μ p
/-- mates among the open places -/
def Mat (O : Nat → Prop) (μ : Nat → Nat) : Prop := ∀ p, O p → O (μ p) ∧ μ (μ p) = p ∧ μ p ≠ p
theorem jn_Mat {O : Nat → Prop} {μ : Nat → Nat} (h : Mat O μ) {a b : Nat} (ha : O a) (hb : O b) (hab : a ≠ b) : Mat (fun p => O p ∧ p ≠ a ∧ p ≠ b) (jn μ a b) := by
  obtain ⟨a1, a2, a3⟩ := h a ha
  obtain ⟨b1, b2, b3⟩ := h b hb
  have hne : μ a ≠ μ b := fun e => hab (by rw [← a2, e, b2])
  intro p hp
  obtain ⟨p1, p2, p3⟩ := h p hp.1
  unfold jn
  by_cases c : μ a = b
  · have d : μ b = a := by rw [← c, a2]
    have e1 : p ≠ μ b := by rw [d]; exact hp.2.1
    have e2 : p ≠ μ a := by rw [c]; exact hp.2.2
    have q1 : μ p ≠ a := fun e => hp.2.2 (by rw [← p2, e, c])
    have q2 : μ p ≠ b := fun e => hp.2.1 (by rw [← p2, e, d])
    rw [if_neg e1, if_neg e2]
    have q1' : μ p ≠ μ b := by rw [d]; exact q1
    have q2' : μ p ≠ μ a := by rw [c]; exact q2
    rw [if_neg q1', if_neg q2', p2]
    exact ⟨⟨p1, q1, q2⟩, rfl, p3⟩
  · have d : μ b ≠ a := fun e => c (by rw [← e, b2])
    by_cases e1 : p = μ b
    · rw [if_pos e1, if_neg hne, if_pos rfl]
      exact ⟨⟨a1, a3, c⟩, e1.symm, by rw [e1]; exact hne⟩
    · rw [if_neg e1]
      by_cases e2 : p = μ a
      · rw [if_pos e2, if_pos rfl]
        exact ⟨⟨b1, d, b3⟩, e2.symm, by rw [e2]; exact fun w => hne w.symm⟩
      · rw [if_neg e2]
        have q1 : μ p ≠ a := fun e => e2 (by rw [← p2, e])
        have q2 : μ p ≠ b := fun e => e1 (by rw [← p2, e])
        have q3 : μ p ≠ μ b := fun e => hp.2.2 (by rw [← p2, e, b2])
        have q4 : μ p ≠ μ a := fun e => hp.2.1 (by rw [← p2, e, a2])
        rw [if_neg q3, if_neg q4, p2]
        exact ⟨⟨p1, q1, q2⟩, rfl, p3⟩
/-- classes of edges against mates -/
def Cls (O : Nat → Prop) (μ : Nat → Nat) (ed ρ : Nat → Nat) : Prop := ∀ p q, O p → O q → (ρ (ed p) = ρ (ed q) ↔ q = p ∨ q = μ p)
def uni (ρ : Nat → Nat) (x y : Nat) : Nat → Nat := fun e => if ρ e = x then y else ρ e
theorem jn_Cls {O : Nat → Prop} {μ ed ρ : Nat → Nat} (h : Mat O μ) (hc : Cls O μ ed ρ) {a b : Nat} (ha : O a) (hb : O b) (hab : a ≠ b) : Cls (fun p => O p ∧ p ≠ a ∧ p ≠ b) (jn μ a b) ed (uni ρ (ρ (ed a)) (ρ (ed b))) ∧ (ρ (ed a) = ρ (ed b) ↔ μ a = b) := by
  obtain ⟨a1, a2, a3⟩ := h a ha
  obtain ⟨b1, b2, b3⟩ := h b hb
  have hne : μ a ≠ μ b := fun e => hab (by rw [← a2, e, b2])
  have eab : ρ (ed a) = ρ (ed b) ↔ μ a = b := by
    rw [hc a b ha hb]
    constructor
    · intro w
      rcases w with w | w
      · exact absurd w.symm hab
      · exact w.symm
    · intro w; exact Or.inr w.symm
  refine ⟨fun p q hp hq => ?_, eab⟩
  obtain ⟨p1, p2, p3⟩ := h p hp.1
  have pa : ρ (ed p) = ρ (ed a) ↔ p = μ a := by
    rw [hc p a hp.1 ha]
    constructor
    · intro w
      rcases w with w | w
      · exact absurd w.symm hp.2.1
      · rw [w, p2]
    · intro w; right; rw [w, a2]
  have qa : ρ (ed q) = ρ (ed a) ↔ q = μ a := by
    obtain ⟨q1, q2, q3⟩ := h q hq.1
    rw [hc q a hq.1 ha]
    constructor
    · intro w
      rcases w with w | w
      · exact absurd w.symm hq.2.1
      · rw [w, q2]
    · intro w; right; rw [w, a2]
  have pb : ρ (ed p) = ρ (ed b) ↔ p = μ b := by
    rw [hc p b hp.1 hb]
    constructor
    · intro w
      rcases w with w | w
      · exact absurd w.symm hp.2.2
      · rw [w, p2]
    · intro w; right; rw [w, b2]
  have qb : ρ (ed q) = ρ (ed b) ↔ q = μ b := by
    obtain ⟨q1, q2, q3⟩ := h q hq.1
    rw [hc q b hq.1 hb]
    constructor
    · intro w
      rcases w with w | w
      · exact absurd w.symm hq.2.2
      · rw [w, q2]
    · intro w; right; rw [w, b2]
  have pq := hc p q hp.1 hq.1
  unfold uni jn
  by_cases cp : p = μ a
  · rw [if_pos (pa.2 cp)]
    have npb : p ≠ μ b := by rw [cp]; exact hne
    rw [if_neg npb, if_pos cp]
    by_cases cq : q = μ a
    · rw [if_pos (qa.2 cq)]
      exact ⟨fun _ => Or.inl (by rw [cp, cq]), fun _ => rfl⟩
    · rw [if_neg (fun w => cq (qa.1 w))]
      rw [eq_comm, qb]
      constructor
      · intro w; exact Or.inr w
      · intro w
        rcases w with w | w
        · exact absurd (by rw [w, cp]) cq
        · exact w
  · rw [if_neg (fun w => cp (pa.1 w))]
    by_cases cq : q = μ a
    · rw [if_pos (qa.2 cq), pb]
      by_cases cpb : p = μ b
      · rw [if_pos cpb]
        exact ⟨fun _ => Or.inr cq, fun _ => cpb⟩
      · rw [if_neg cpb, if_neg cp]
        constructor
        · intro w; exact absurd w cpb
        · intro w
          exfalso
          rcases w with w | w
          · exact cp (by rw [← w, cq])
          · have : p = a := by rw [← p2, ← w, cq, a2]
            exact hp.2.1 this
    · rw [if_neg (fun w => cq (qa.1 w)), pq]
      by_cases cpb : p = μ b
      · rw [if_pos cpb]
        constructor
        · intro w
          rcases w with w | w
          · exact Or.inl w
          · exfalso
            rw [cpb, b2] at w
            exact hq.2.2 w
        · intro w
          rcases w with w | w
          · exact Or.inl w
          · exact absurd w cq
      · rw [if_neg cpb, if_neg cp]
/-- union by roots -/
def RtI (N : Nat) (rt : Nat → Int) (ρ : Nat → Nat) (D : Nat) : Prop := ∀ e, e < N → ρ e < N ∧ rt (ρ e) = (ρ e : Int) ∧ ∃ k, k ≤ D ∧ ∃ path : Nat → Nat, path 0 = e ∧ path k = ρ e ∧ (∀ i, i < k → path i < N ∧ rt (path i) = (path (i + 1) : Int) ∧ path (i + 1) ≠ path i) 
theorem ro2 (fl : Nat) {N : Nat} (hN : N ≤ 48) (rt : Nat → Int) (x1 : Int) : ∀ (k nn : Nat) (path : Nat → Nat), k < nn → path k < N → rt (path k) = (path k : Int) → (∀ i, i < k → path i < N ∧ rt (path i) = (path (i + 1) : Int) ∧ path (i + 1) ≠ path i) → LB_Md_rootOf_2 fl rt nn x1 (path 0 : Int) = some (path k : Int) := by
  intro k
  induction k with
  | zero =>
    intro nn path hnn h1 h2 h3
    obtain ⟨nn, rfl⟩ : ∃ r, nn = r + 1 := ⟨nn - 1, by omega⟩
    rw [LB_Md_rootOf_2, if_pos (by omega), Int.toNat_natCast, if_pos h2]
  | succ k ih =>
    intro nn path hnn h1 h2 h3
    obtain ⟨nn, rfl⟩ : ∃ r, nn = r + 1 := ⟨nn - 1, by omega⟩
    obtain ⟨a, b, c⟩ := h3 0 (by omega)
    rw [LB_Md_rootOf_2, if_pos (by omega), Int.toNat_natCast, b, if_neg (by omega)]
    exact ih nn (fun i => path (i + 1)) (by omega) h1 h2 (fun i hi => h3 (i + 1) (by omega))
theorem M_rootOf (fl : Nat) (hfl : 200 ≤ fl) {N : Nat} (hN : N ≤ 48) {rt : Nat → Int} {ρ : Nat → Nat} {D : Nat} (hD : D ≤ 100) (h : RtI N rt ρ D) {e : Nat} (he : e < N) : LM_Md_rootOf fl rt (e : Int) = some (ρ e : Int) := by
  obtain ⟨a, b, k, k1, path, p1, p2, p3⟩ := h e he
  unfold LM_Md_rootOf LB_Md_rootOf_0
  have := ro2 fl hN rt (e : Int) k fl path (by omega) (by rw [p2]; exact a) (by rw [p2]; exact b) p3
  rw [p1, p2] at this
  exact this
theorem RtI_uni {N : Nat} {rt : Nat → Int} {ρ : Nat → Nat} {D : Nat} (h : RtI N rt ρ D) {x y : Nat} (hx : x < N) (hy : y < N) : RtI N (up rt (ρ x) (ρ y : Int)) (uni ρ (ρ x) (ρ y)) (D + 1) := by
  intro e he
  obtain ⟨a, b, k, k1, path, p1, p2, p3⟩ := h e he
  obtain ⟨xa, xb, _⟩ := h x hx
  obtain ⟨ya, yb, _⟩ := h y hy
  -- no root lies inside a path
  have inn : ∀ i, i < k → ∀ z, rt z = (z : Int) → path i ≠ z := fun i hi z hz w => by
    have := p3 i hi
    rw [w, hz] at this
    have : path (i + 1) = z := by omega
    have := (p3 i hi).2.2
    rw [w] at this
    omega
  unfold uni
  by_cases c : ρ e = ρ x
  · rw [if_pos c]
    by_cases s : ρ x = ρ y
    · refine ⟨ya, by rw [← s, up_eq], k, by omega, path, p1, by rw [p2, c, s], fun i hi => ⟨(p3 i hi).1, ?_, (p3 i hi).2.2⟩⟩
      rw [up_ne _ _ (inn i hi _ xb)]; exact (p3 i hi).2.1
    · refine ⟨ya, by rw [up_ne _ _ (fun w => s w.symm)]; exact yb, k + 1, by omega, fun i => if i ≤ k then path i else ρ y, by show (if 0 ≤ k then path 0 else ρ y) = e; rw [if_pos (by omega)]; exact p1, by show (if k + 1 ≤ k then path (k + 1) else ρ y) = ρ y; rw [if_neg (by omega)], fun i hi => ?_⟩
      show (if i ≤ k then path i else ρ y) < N ∧ up rt (ρ x) (ρ y : Int) (if i ≤ k then path i else ρ y) = ((if i + 1 ≤ k then path (i + 1) else ρ y : Nat) : Int) ∧ (if i + 1 ≤ k then path (i + 1) else ρ y) ≠ (if i ≤ k then path i else ρ y)
      rw [if_pos (show i ≤ k by omega)]
      by_cases ik : i = k
      · subst ik
        rw [if_neg (by omega), p2, c, up_eq]
        exact ⟨xa, rfl, fun w => s w.symm⟩
      · rw [if_pos (by omega), up_ne _ _ (inn i (by omega) _ xb)]
        exact p3 i (by omega)
  · rw [if_neg c]
    refine ⟨a, by rw [up_ne _ _ c]; exact b, k, by omega, path, p1, p2, fun i hi => ⟨(p3 i hi).1, ?_, (p3 i hi).2.2⟩⟩
    rw [up_ne _ _ (inn i hi _ xb)]; exact (p3 i hi).2.1
