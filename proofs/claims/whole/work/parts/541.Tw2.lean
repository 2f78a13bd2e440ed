/-- an edge cut: its end t gets b; x is where its first part goes in now, y where the other one comes out -/
theorem WFS_cut {S : Nat → Prop} {sg lb lb' : Nat → Int} (h : WFS S sg lb) {t x y : Nat} {b : Int} (ht : S t) (ot : outQ sg t = false) (hx : ¬ S x) (hy : ¬ S y) (ox : outQ sg x = false) (oy : outQ sg y = true) (hb : ∀ q, S q → lb q ≠ b) (l1 : lb' t = b) (l2 : lb' x = lb t) (l3 : lb' y = b) (l4 : ∀ q, S q → q ≠ t → lb' q = lb q) : WFS (fun q => S q ∨ q = x ∨ q = y) sg lb' := by
  obtain ⟨p, p1, p2, p3, p4⟩ := h t ht
  rw [ot] at p3
  have npt : p ≠ t := fun w => by rw [w, ot] at p3; cases p3
  have lt : lb t ≠ b := hb t ht
  have lp : lb' p = lb t := by rw [l4 p p1 npt, p2]
  intro q hq
  rcases hq with hq | hq | hq
  · by_cases e : q = t
    · subst e
      refine ⟨y, Or.inr (Or.inr rfl), by rw [l1, l3], by rw [oy, ot]; rfl, fun r hr hl => ?_⟩
      rw [l1] at hl
      rcases hr with hr | hr | hr
      · by_cases e2 : r = q
        · exact Or.inl e2
        · rw [l4 r hr e2] at hl; exact absurd hl (hb r hr)
      · rw [hr, l2] at hl; exact absurd hl lt
      · exact Or.inr hr
    · by_cases e3 : q = p
      · subst e3
        refine ⟨x, Or.inr (Or.inl rfl), by rw [l2, lp], by rw [ox, p3]; rfl, fun r hr hl => ?_⟩
        rw [lp] at hl
        rcases hr with hr | hr | hr
        · by_cases e2 : r = t
          · rw [e2, l1] at hl; exact absurd hl.symm lt
          · rw [l4 r hr e2] at hl
            rcases p4 r hr hl with w | w
            · exact absurd w e2
            · exact Or.inl w
        · exact Or.inr hr
        · rw [hr, l3] at hl; exact absurd hl.symm lt
      · obtain ⟨m, m1, m2, m3, m4⟩ := h q hq
        have nq : lb q ≠ lb t := fun w => by
          rcases p4 q hq w with v | v
          · exact e v
          · exact e3 v
        have nm : m ≠ t := fun w => nq (by rw [← m2, w])
        refine ⟨m, Or.inl m1, by rw [l4 m m1 nm, l4 q hq e, m2], m3, fun r hr hl => ?_⟩
        rw [l4 q hq e] at hl
        rcases hr with hr | hr | hr
        · by_cases e2 : r = t
          · rw [e2, l1] at hl; exact absurd hl.symm (hb q hq)
          · rw [l4 r hr e2] at hl; exact m4 r hr hl
        · rw [hr, l2] at hl; exact absurd hl.symm nq
        · rw [hr, l3] at hl; exact absurd hl.symm (hb q hq)
  · subst hq
    refine ⟨p, Or.inl p1, by rw [lp, l2], by rw [p3, ox, Bool.not_false], fun r hr hl => ?_⟩
    rw [l2] at hl
    rcases hr with hr | hr | hr
    · by_cases e2 : r = t
      · rw [e2, l1] at hl; exact absurd hl.symm lt
      · rw [l4 r hr e2] at hl
        rcases p4 r hr hl with w | w
        · exact absurd w e2
        · exact Or.inr w
    · exact Or.inl hr
    · rw [hr, l3] at hl; exact absurd hl.symm lt
  · subst hq
    refine ⟨t, Or.inl ht, by rw [l1, l3], by rw [ot, oy]; rfl, fun r hr hl => ?_⟩
    rw [l3] at hl
    rcases hr with hr | hr | hr
    · by_cases e2 : r = t
      · exact Or.inr e2
      · rw [l4 r hr e2] at hl; exact absurd hl (hb r hr)
    · rw [hr, l2] at hl; exact absurd hl lt
    · exact Or.inl hr
/-- an edge of its own -/
theorem WFS_new {S : Nat → Prop} {sg lb lb' : Nat → Int} (h : WFS S sg lb) {x y : Nat} {b : Int} (hx : ¬ S x) (hy : ¬ S y) (ox : outQ sg x = false) (oy : outQ sg y = true) (hb : ∀ q, S q → lb q ≠ b) (l2 : lb' x = b) (l3 : lb' y = b) (l4 : ∀ q, S q → lb' q = lb q) : WFS (fun q => S q ∨ q = x ∨ q = y) sg lb' := by
  intro q hq
  rcases hq with hq | hq | hq
  · obtain ⟨m, m1, m2, m3, m4⟩ := h q hq
    refine ⟨m, Or.inl m1, by rw [l4 m m1, l4 q hq, m2], m3, fun r hr hl => ?_⟩
    rw [l4 q hq] at hl
    rcases hr with hr | hr | hr
    · rw [l4 r hr] at hl; exact m4 r hr hl
    · rw [hr, l2] at hl; exact absurd hl.symm (hb q hq)
    · rw [hr, l3] at hl; exact absurd hl.symm (hb q hq)
  · subst hq
    refine ⟨y, Or.inr (Or.inr rfl), by rw [l2, l3], by rw [ox, oy]; rfl, fun r hr hl => ?_⟩
    rw [l2] at hl
    rcases hr with hr | hr | hr
    · rw [l4 r hr] at hl; exact absurd hl (hb r hr)
    · exact Or.inl hr
    · exact Or.inr hr
  · subst hq
    refine ⟨x, Or.inr (Or.inl rfl), by rw [l2, l3], by rw [ox, oy]; rfl, fun r hr hl => ?_⟩
    rw [l3] at hl
    rcases hr with hr | hr | hr
    · rw [l4 r hr] at hl; exact absurd hl (hb r hr)
    · exact Or.inr hr
    · exact Or.inl hr
theorem WFS_eq {S T : Nat → Prop} {sg lb sg' lb' : Nat → Int} (h : WFS S sg lb) (hST : ∀ q, T q ↔ S q) (h1 : ∀ q, S q → lb' q = lb q) (h2 : ∀ q, S q → outQ sg' q = outQ sg q) : WFS T sg' lb' := by
  intro q hq
  have hq := (hST q).1 hq
  obtain ⟨m, m1, m2, m3, m4⟩ := h q hq
  refine ⟨m, (hST m).2 m1, by rw [h1 m m1, h1 q hq, m2], by rw [h2 m m1, h2 q hq, m3], fun p hp hl => ?_⟩
  have hp := (hST p).1 hp
  rw [h1 p hp, h1 q hq] at hl
  exact m4 p hp hl
theorem out_up {n q : Nat} (hq : q < 4 * n) (sg : Nat → Int) (s : Int) : outQ (up sg n s) q = outQ sg q := by unfold outQ; rw [up_ne _ _ (by omega)]
theorem out_new (n : Nat) (sg : Nat → Int) {s : Int} (hs : s = 1 ∨ s = -1) : outQ (up sg n s) (4 * n) = false ∧ outQ (up sg n s) (4 * n + 2) = true ∧ outQ (up sg n s) (4 * n + (if s ≤ 0 then 1 else 3)) = false ∧ outQ (up sg n s) (4 * n + (if s ≤ 0 then 3 else 1)) = true := by
  have := out_4 (up sg n s) n
  unfold upI upO at this
  rw [up_eq] at this
  exact this
/-- two cuts of one edge at a new crossing: its first passz i1 o1, its second i2 o2 -/
theorem WF_tw {n : Nat} {sg lb lb' : Nat → Int} (h : WF0 n sg lb) {s : Int} (hs : s = 1 ∨ s = -1) {t : Nat} (ht : t < 4 * n) (ot : outQ sg t = false) {u v : Int} (hu : ¬ usedL n lb u) (hv : ¬ usedL n lb v) (huv : u ≠ v) {i1 o1 i2 o2 : Nat} (hi : (i1 = 4 * n ∧ o1 = 4 * n + 2 ∧ i2 = 4 * n + (if s ≤ 0 then 1 else 3) ∧ o2 = 4 * n + (if s ≤ 0 then 3 else 1)) ∨ (i2 = 4 * n ∧ o2 = 4 * n + 2 ∧ i1 = 4 * n + (if s ≤ 0 then 1 else 3) ∧ o1 = 4 * n + (if s ≤ 0 then 3 else 1)))
    (l1 : lb' t = v) (l2 : lb' i1 = lb t) (l3 : lb' o1 = u) (l4 : lb' i2 = u) (l5 : lb' o2 = v) (l6 : ∀ q, q < 4 * n → q ≠ t → lb' q = lb q) : WF0 (n + 1) (up sg n s) lb' := by
  obtain ⟨n0, n2, nI, nO⟩ := out_new n sg hs
  have io : outQ (up sg n s) i1 = false ∧ outQ (up sg n s) o1 = true ∧ outQ (up sg n s) i2 = false ∧ outQ (up sg n s) o2 = true ∧ 4 * n ≤ i1 ∧ 4 * n ≤ o1 ∧ 4 * n ≤ i2 ∧ 4 * n ≤ o2 ∧ i1 ≠ i2 ∧ o1 ≠ o2 ∧ i1 ≠ o2 ∧ i2 ≠ o1 ∧ i1 ≠ o1 ∧ i2 ≠ o2 ∧ (∀ q, q < 4 * (n + 1) ↔ (q < 4 * n ∨ q = i1 ∨ q = o1) ∨ q = i2 ∨ q = o2) := by
    rcases hi with ⟨a, b, c, d⟩ | ⟨a, b, c, d⟩
    · refine ⟨by rw [a]; exact n0, by rw [b]; exact n2, by rw [c]; exact nI, by rw [d]; exact nO, ?_⟩
      split at c <;> split at d <;> first | omega | (refine ⟨by omega, by omega, by omega, by omega, by omega, by omega, by omega, by omega, by omega, by omega, fun q => by omega⟩)
    · refine ⟨by rw [c]; exact nI, by rw [d]; exact nO, by rw [a]; exact n0, by rw [b]; exact n2, ?_⟩
      split at c <;> split at d <;> first | omega | (refine ⟨by omega, by omega, by omega, by omega, by omega, by omega, by omega, by omega, by omega, by omega, fun q => by omega⟩)
  obtain ⟨q1, q2, q3, q4, b1, b2, b3, b4, d1, d2, d3, d4, d5, d6, all⟩ := io
  have h0 : WFS (fun q => q < 4 * n) (up sg n s) lb := WFS_eq h (fun q => Iff.rfl) (fun q _ => rfl) (fun q hq => out_up hq sg s)
  have c1 := WFS_cut (lb' := fun q => if q = t then u else if q = i1 then lb t else if q = o1 then u else lb q) h0 (t := t) (x := i1) (y := o1) (b := u) ht (by rw [out_up ht]; exact ot) (by show ¬ i1 < 4 * n; omega) (by show ¬ o1 < 4 * n; omega) q1 q2 (fun q hq w => hu ⟨q, hq, w⟩) (by show (if t = t then u else _) = u; rw [if_pos rfl]) (by show (if i1 = t then u else if i1 = i1 then lb t else _) = lb t; rw [if_neg (by omega), if_pos rfl]) (by show (if o1 = t then u else if o1 = i1 then lb t else if o1 = o1 then u else _) = u; rw [if_neg (by omega), if_neg (by omega), if_pos rfl]) (fun q hq hne => by
      have hq : q < 4 * n := hq
      show (if q = t then u else if q = i1 then lb t else if q = o1 then u else lb q) = lb q
      rw [if_neg hne, if_neg (by omega), if_neg (by omega)])
  have c2 := WFS_cut (lb' := lb') c1 (t := t) (x := i2) (y := o2) (b := v) (Or.inl ht) (by rw [out_up ht]; exact ot) (fun w => by
      rcases w with w | w | w
      · have w : i2 < 4 * n := w
        omega
      · omega
      · omega) (fun w => by
      rcases w with w | w | w
      · have w : o2 < 4 * n := w
        omega
      · omega
      · omega) q3 q4 (fun q hq w => by
      have w : (if q = t then u else if q = i1 then lb t else if q = o1 then u else lb q) = v := w
      rcases hq with hq | hq | hq
      · by_cases e : q = t
        · rw [if_pos e] at w; exact huv w
        · have hq : q < 4 * n := hq
          rw [if_neg e, if_neg (by omega), if_neg (by omega)] at w
          exact hv ⟨q, hq, w⟩
      · rw [hq, if_neg (by omega), if_pos rfl] at w; exact hv ⟨t, ht, w⟩
      · rw [hq, if_neg (by omega), if_neg (by omega), if_pos rfl] at w; exact huv w) l1 (by rw [l4]; show u = (if t = t then u else _); rw [if_pos rfl]) l5 (fun q hq hne => by
      show lb' q = (if q = t then u else if q = i1 then lb t else if q = o1 then u else lb q)
      rw [if_neg hne]
      rcases hq with hq | hq | hq
      · have hq : q < 4 * n := hq
        rw [if_neg (by omega), if_neg (by omega), l6 q hq hne]
      · rw [hq, if_pos rfl, l2]
      · rw [hq, if_neg (by omega), if_pos rfl, l3])
  exact WFS_eq c2 (fun q => all q) (fun _ _ => rfl) (fun _ _ => rfl)
