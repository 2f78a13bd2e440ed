/-- every label stands at two places, in and out: among the places that count -/
def WFS (S : Nat → Prop) (sg lb : Nat → Int) : Prop := ∀ q, S q → ∃ m, S m ∧ lb m = lb q ∧ outQ sg m = !outQ sg q ∧ ∀ p, S p → lb p = lb q → p = q ∨ p = m
def WF0 (n : Nat) (sg lb : Nat → Int) : Prop := WFS (fun q => q < 4 * n) sg lb
theorem WF_Edg {n : Nat} {sg lb nm fr to at_ : Nat → Int} (h : EdgA n sg lb nm fr to at_) : WF0 n sg lb := by
  intro q hq
  obtain ⟨e, he, a1, a2, a3, a4⟩ := Edg_at h hq
  obtain ⟨p, r, b1, b2, b3, b4, b5, b6, b7, b8, b9, b10⟩ := Edg_fr h he
  cases o : outQ sg q
  · have : q = r := by have := a4 o; omega
    subst this
    exact ⟨p, b1, by rw [b9, b10], by rw [b5]; rfl, fun x hx hl => by
      cases ox : outQ sg x
      · left; exact Edg_inj h hx hq hl (by rw [ox, o])
      · right; exact Edg_inj h hx b1 (by rw [hl, b9, b10]) (by rw [ox, b5])⟩
  · have : q = p := by have := a3 o; omega
    subst this
    exact ⟨r, b2, by rw [b9, b10], by rw [b6]; rfl, fun x hx hl => by
      cases ox : outQ sg x
      · right; exact Edg_inj h hx b2 (by rw [hl, b9, b10]) (by rw [ox, b6])
      · left; exact Edg_inj h hx hq hl (by rw [ox, o])⟩
theorem WF_cnt {n : Nat} {sg lb : Nat → Int} (h : WF0 n sg lb) {q : Nat} (hq : q < 4 * n) : cntL n lb (lb q) = 2 ∧ insL n sg lb (lb q) = 1 := by
  obtain ⟨m, m1, m2, m3, m4⟩ := h q hq
  have ne : q ≠ m := fun w => by rw [← w] at m3; cases o : outQ sg q <;> rw [o] at m3 <;> cases m3
  refine ⟨cnt_two hq m1 ne (by simp) (by simp [m2]) (fun x hx hl => m4 x hx (by simpa using hl)), ?_⟩
  cases o : outQ sg q
  · refine cnt_one hq (by simp [o]) (fun x hx hl => ?_)
    simp at hl
    rcases m4 x hx hl.1 with w | w
    · exact w
    · rw [w, m3, o] at hl; exact absurd hl.2 (by decide)
  · refine cnt_one m1 (by simp [m2, m3, o]) (fun x hx hl => ?_)
    simp at hl
    rcases m4 x hx hl.1 with w | w
    · rw [w, o] at hl; exact absurd hl.2 (by decide)
    · exact w
/-- so it has edges -/
theorem Edg_WF {n : Nat} (hn : n ≤ 20) {sg lb : Nat → Int} (hl : ∀ q, q < 4 * n → 0 ≤ lb q ∧ lb q ≤ 9999) (h : WF0 n sg lb) : ∃ nm fr to at_, EdgA n sg lb nm fr to at_ := by
  rcases C_shape0 200 (by omega) hn sg lb hl 0 0 0 0 0 0 lb lb lb lb lb lb lb lb lb lb lb with ⟨l, _, _, _, _, _, _, _, _, _, _, _, _, _, _, _, _, b⟩ | ⟨l, _, _, _, _, _, _, _, _, _, _, _, _, _, _, _, _, b, _⟩ | ⟨c, _, _, _, _, a1, a2, a3, a4, a5, a6, a7, a8, a9, a10, a11, _, b, _⟩ | ⟨_, _, _, _, a1, a2, a3, a4, a5, a6, a7, a8, a9, a10, a11, _, b, _⟩
  · obtain ⟨⟨q, q1, q2⟩, b2, _⟩ := b
    rw [← q2] at b2
    exact absurd (WF_cnt h q1).1 b2
  · obtain ⟨⟨q, q1, q2⟩, b2, _⟩ := b
    rw [← q2] at b2
    exact absurd (WF_cnt h q1).2 b2
  · exact ⟨_, _, _, _, b.2.1⟩
  · exact ⟨_, _, _, _, b.2.1⟩
theorem mgL_a (a b : Int) : mgL a b a = min a b := by unfold mgL; rw [if_pos (Or.inl rfl)]
theorem mgL_b (a b : Int) : mgL a b b = min a b := by unfold mgL; rw [if_pos (Or.inr rfl)]
theorem mgL_o {a b l : Int} (h1 : l ≠ a) (h2 : l ≠ b) : mgL a b l = l := by unfold mgL; rw [if_neg (by omega)]
theorem WFS_join {S : Nat → Prop} {sg lb : Nat → Int} (h : WFS S sg lb) {x y : Nat} (hx : S x) (hy : S y) (ox : outQ sg x = false) (oy : outQ sg y = true) : WFS (fun q => S q ∧ q ≠ x ∧ q ≠ y) sg (jl x y lb) := by
  have nxy : x ≠ y := fun w => by rw [w, oy] at ox; cases ox
  obtain ⟨x', hx1, hx2, hx3, hx4⟩ := h x hx
  obtain ⟨y', hy1, hy2, hy3, hy4⟩ := h y hy
  rw [ox] at hx3
  rw [oy] at hy3
  by_cases e : lb x = lb y
  · -- they are one edge
    have ejl : ∀ q, jl x y lb q = lb q := fun q => by unfold jl; rw [e, mgL_same]
    have only : ∀ q, S q → lb q = lb x → q = x ∨ q = y := fun q hq hl => by
      rcases hx4 q hq hl with w | w
      · exact Or.inl w
      · rcases hx4 y hy e.symm with w2 | w2
        · exact absurd w2.symm nxy
        · exact Or.inr (by rw [w, w2])
    intro q ⟨q1, q2, q3⟩
    obtain ⟨m, m1, m2, m3, m4⟩ := h q q1
    have hq : lb q ≠ lb x := fun w => by
      rcases only q q1 w with w2 | w2
      · exact q2 w2
      · exact q3 w2
    refine ⟨m, ⟨m1, fun w => hq (by rw [← m2, w]), fun w => hq (by rw [← m2, w, e])⟩, by rw [ejl, ejl, m2], m3, fun p ⟨p1, _, _⟩ hl => m4 p p1 (by rw [ejl, ejl] at hl; exact hl)⟩
  · have nx' : x' ≠ x := fun w => by rw [w, ox] at hx3; cases hx3
    have ny' : y' ≠ y := fun w => by rw [w, oy] at hy3; cases hy3
    have nx'y : x' ≠ y := fun w => e (by rw [← hx2, w])
    have ny'x : y' ≠ x := fun w => e (by rw [← hy2, w])
    have vx : jl x y lb x' = min (lb x) (lb y) := by unfold jl; rw [hx2, mgL_a]
    have vy : jl x y lb y' = min (lb x) (lb y) := by unfold jl; rw [hy2, mgL_b]
    have vo : ∀ q, lb q ≠ lb x → lb q ≠ lb y → jl x y lb q = lb q := fun q h1 h2 => by unfold jl; rw [mgL_o h1 h2]
    have vm : ∀ p, S p → p ≠ x → p ≠ y → jl x y lb p = min (lb x) (lb y) → p = x' ∨ p = y' := fun p p1 p2 p3 hv => by
      by_cases w1 : lb p = lb x
      · rcases hx4 p p1 w1 with w | w
        · exact absurd w p2
        · exact Or.inl w
      · by_cases w2 : lb p = lb y
        · rcases hy4 p p1 w2 with w | w
          · exact absurd w p3
          · exact Or.inr w
        · rw [vo p w1 w2] at hv; omega
    intro q ⟨q1, q2, q3⟩
    by_cases w1 : lb q = lb x
    · have : q = x' := by
        rcases hx4 q q1 w1 with w | w
        · exact absurd w q2
        · exact w
      subst this
      exact ⟨y', ⟨hy1, ny'x, ny'⟩, by rw [vx, vy], by rw [hy3, hx3]; rfl, fun p ⟨p1, p2, p3⟩ hl => vm p p1 p2 p3 (by rw [hl, vx])⟩
    · by_cases w2 : lb q = lb y
      · have : q = y' := by
          rcases hy4 q q1 w2 with w | w
          · exact absurd w q3
          · exact w
        subst this
        exact ⟨x', ⟨hx1, nx', nx'y⟩, by rw [vx, vy], by rw [hy3, hx3]; rfl, fun p ⟨p1, p2, p3⟩ hl => (vm p p1 p2 p3 (by rw [hl, vy])).symm⟩
      · obtain ⟨m, m1, m2, m3, m4⟩ := h q q1
        refine ⟨m, ⟨m1, fun w => w1 (by rw [← m2, w]), fun w => w2 (by rw [← m2, w])⟩, by rw [vo q w1 w2, vo m (by rw [m2]; exact w1) (by rw [m2]; exact w2), m2], m3, fun p ⟨p1, p2, p3⟩ hl => m4 p p1 ?_⟩
        rw [vo q w1 w2] at hl
        by_cases v1 : lb p = lb x
        · have : jl x y lb p = min (lb x) (lb y) := by unfold jl; rw [v1, mgL_a]
          omega
        · by_cases v2 : lb p = lb y
          · have : jl x y lb p = min (lb x) (lb y) := by unfold jl; rw [v2, mgL_b]
            omega
          · rw [vo p v1 v2] at hl; exact hl
theorem sk_lt {n c q : Nat} (hc : c < n) (hq : q < 4 * (n - 1)) : sk c q < 4 * n ∧ sk c q / 4 ≠ c := by unfold sk; split <;> omega
theorem sk_inj {c p q : Nat} (h : sk c p = sk c q) : p = q := by unfold sk at h; split at h <;> split at h <;> omega
theorem sk_sur {n c q : Nat} (hc : c < n) (hq : q < 4 * n) (hne : q / 4 ≠ c) : ∃ p, p < 4 * (n - 1) ∧ sk c p = q := by
  by_cases w : q < 4 * c
  · exact ⟨q, by omega, by unfold sk; rw [if_pos w]⟩
  · exact ⟨q - 4, by omega, by unfold sk; rw [if_neg (by omega)]; omega⟩
theorem sk_out (sg : Nat → Int) (c q : Nat) : outQ (goS sg c) q = outQ sg (sk c q) := by
  have e1 : sk c q % 4 = q % 4 := by unfold sk; split <;> omega
  have e2 : sk c q / 4 = sk1 c (q / 4) := by unfold sk sk1; split <;> split <;> omega
  unfold outQ goS
  rw [e1, e2]
theorem WF_go {n c : Nat} (hc : c < n) {sg lb : Nat → Int} (h : WF0 n sg lb) {a b d e : Nat} (ha : a < 4) (hb : b < 4) (hd : d < 4) (he : e < 4) (hne : a ≠ d ∧ a ≠ e ∧ b ≠ d ∧ b ≠ e) (oa : outQ sg (4 * c + a) = false) (ob : outQ sg (4 * c + b) = true) (od : outQ sg (4 * c + d) = false) (oe : outQ sg (4 * c + e) = true) : WF0 (n - 1) (goS sg c) (goL lb c (4 * c + a) (4 * c + b) (4 * c + d) (4 * c + e)) := by
  have h1 := WFS_join h (x := 4 * c + a) (y := 4 * c + b) (by show 4 * c + a < 4 * n; omega) (by show 4 * c + b < 4 * n; omega) oa ob
  have h2 := WFS_join h1 (x := 4 * c + d) (y := 4 * c + e) ⟨by show 4 * c + d < 4 * n; omega, by omega, by omega⟩ ⟨by show 4 * c + e < 4 * n; omega, by omega, by omega⟩ od oe
  have nab : a ≠ b := fun w => by rw [w, ob] at oa; cases oa
  have nde : d ≠ e := fun w => by rw [w, oe] at od; cases od
  intro q hq
  have hq : q < 4 * (n - 1) := hq
  obtain ⟨s1, s2⟩ := sk_lt hc hq
  obtain ⟨m, ⟨⟨m1, m2, m3⟩, m4, m5⟩, m6, m7, m8⟩ := h2 (sk c q) ⟨⟨s1, by omega, by omega⟩, by omega, by omega⟩
  have m1 : m < 4 * n := m1
  have mc : m / 4 ≠ c := by omega
  obtain ⟨p, p1, p2⟩ := sk_sur hc m1 mc
  refine ⟨p, p1, by unfold goL; rw [p2, m6], by rw [sk_out, sk_out, p2, m7], fun r hr hl => ?_⟩
  have hr : r < 4 * (n - 1) := hr
  obtain ⟨t1, t2⟩ := sk_lt hc hr
  rcases m8 (sk c r) ⟨⟨t1, by omega, by omega⟩, by omega, by omega⟩ hl with w | w
  · exact Or.inl (sk_inj w)
  · exact Or.inr (sk_inj (by rw [w, p2]))
theorem lab_jl {lb : Nat → Int} {P : Int → Prop} {S : Nat → Prop} {x y : Nat} (hx : S x) (hy : S y) (h : ∀ q, S q → P (lb q)) : ∀ q, S q → P (jl x y lb q) := fun q hq => by
  unfold jl mgL
  split
  · rcases Int.le_total (lb x) (lb y) with w | w
    · rw [show min (lb x) (lb y) = lb x by omega]; exact h x hx
    · rw [show min (lb x) (lb y) = lb y by omega]; exact h y hy
  · exact h q hq
theorem lab_go {n c : Nat} (hc : c < n) {lb : Nat → Int} {P : Int → Prop} (h : ∀ q, q < 4 * n → P (lb q)) {a b d e : Nat} (ha : a < 4) (hb : b < 4) (hd : d < 4) (he : e < 4) : ∀ q, q < 4 * (n - 1) → P (goL lb c (4 * c + a) (4 * c + b) (4 * c + d) (4 * c + e) q) := fun q hq => by
  have h1 := lab_jl (S := fun q => q < 4 * n) (P := P) (x := 4 * c + a) (y := 4 * c + b) (by show 4 * c + a < 4 * n; omega) (by show 4 * c + b < 4 * n; omega) h
  have h2 := lab_jl (S := fun q => q < 4 * n) (P := P) (x := 4 * c + d) (y := 4 * c + e) (by show 4 * c + d < 4 * n; omega) (by show 4 * c + e < 4 * n; omega) h1
  exact h2 _ (sk_lt hc hq).1
