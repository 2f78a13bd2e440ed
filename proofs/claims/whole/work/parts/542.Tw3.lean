/-- one label set anew -/
def stDz (t : Nat) (v : Int) (d : Dg) : Dg := (d.1, d.2.1, up d.2.2.1 t v, d.2.2.2)
def ciD (c : Int) (d : Dg) : Dg := (d.1, c, d.2.2.1, d.2.2.2)
def twX (s ov f u v : Int) (d : Dg) : Dg := if ov = 0 then crD s f u u v d else crD s u v f u d
theorem DA_st {d : Dg} {n ci : Int} {A S : Nat → Int} (hD : DA d n ci A S) (t : Nat) (v : Int) : DA (stDz t v d) n ci (up A t v) S := ⟨hD.1, hD.2.1, fun q hq => by
  show up A t v q = up d.2.2.1 t v q
  by_cases w : q = t
  · rw [w, up_eq, up_eq]
  · rw [up_ne _ _ w, up_ne _ _ w]; exact hD.2.2.1 q hq, hD.2.2.2⟩
theorem DA_ci {d : Dg} {n ci : Int} {A S : Nat → Int} (hD : DA d n ci A S) (c : Int) : DA (ciD c d) n c A S := ⟨hD.1, rfl, hD.2.2.1, hD.2.2.2⟩
theorem crL4_v (n : Nat) (s li lo ui uo : Int) (lb : Nat → Int) : crL4 n s li lo ui uo lb (4 * n) = li ∧ crL4 n s li lo ui uo lb (4 * n + 2) = lo ∧ crL4 n s li lo ui uo lb (4 * n + (if s ≤ 0 then 1 else 3)) = ui ∧ crL4 n s li lo ui uo lb (4 * n + (if s ≤ 0 then 3 else 1)) = uo ∧ ∀ q, q < 4 * n → crL4 n s li lo ui uo lb q = lb q := by
  unfold crL4
  refine ⟨by rw [if_pos rfl], by rw [if_neg (by omega), if_pos rfl], ?_, ?_, fun q hq => ?_⟩
  · rw [if_neg (by split <;> omega), if_neg (by split <;> omega), if_pos rfl]
  · rw [if_neg (by split <;> omega), if_neg (by split <;> omega), if_neg (by split <;> omega), if_pos rfl]
  · rw [if_neg (by omega), if_neg (by omega), if_neg (by split <;> omega), if_neg (by split <;> omega)]
theorem crL4_all {n : Nat} {s li lo ui uo : Int} {lb : Nat → Int} {P : Int → Prop} (h : ∀ q, q < 4 * n → P (lb q)) (h1 : P li) (h2 : P lo) (h3 : P ui) (h4 : P uo) : ∀ q, q < 4 * (n + 1) → P (crL4 n s li lo ui uo lb q) := fun q hq => by
  obtain ⟨a, b, c, e, f⟩ := crL4_v n s li lo ui uo lb
  by_cases w : q < 4 * n
  · rw [f q w]; exact h q w
  · by_cases w0 : q = 4 * n
    · rw [w0, a]; exact h1
    · by_cases w2 : q = 4 * n + 2
      · rw [w2, b]; exact h2
      · by_cases w1 : q = 4 * n + (if s ≤ 0 then 1 else 3)
        · rw [w1, c]; exact h3
        · have : q = 4 * n + (if s ≤ 0 then 3 else 1) := by split at w1 <;> split <;> omega
          rw [this, e]; exact h4
theorem sgn_cr {n : Nat} {sg : Nat → Int} (h : ∀ c, c < n → sg c = 1 ∨ sg c = -1) {s : Int} (hs : s = 1 ∨ s = -1) : ∀ c, c < n + 1 → up sg n s c = 1 ∨ up sg n s c = -1 := fun c hc => by
  by_cases w : c = n
  · rw [w, up_eq]; exact hs
  · rw [up_ne _ _ w]; exact h c (by omega)
theorem twX_d (s ov f u v : Int) (d : Dg) : (twX s ov f u v d).1 = d.1 + 1 ∧ (twX s ov f u v d).2.1 = d.2.1 ∧ (twX s ov f u v d).2.2.2 = up d.2.2.2 d.1 s := by
  unfold twX; split <;> exact ⟨rfl, rfl, rfl⟩
theorem okD_tw {d : Dg} (h : okD d) (hn : d.1 < 20) {s ov u v : Int} (hs : s = 1 ∨ s = -1) {t : Nat} (ht : t < 4 * d.1) (ot : outQ d.2.2.2 t = false) (hu : ¬ usedL d.1 d.2.2.1 u) (hv : ¬ usedL d.1 d.2.2.1 v) (huv : u ≠ v) (bu : 1 ≤ u ∧ u ≤ 44) (bv : 1 ≤ v ∧ v ≤ 44) : okD (twX s ov (d.2.2.1 t) u v (stDz t v d)) := by
  have hl := h.2.2.2.1
  have lt := hl t ht
  have st : ∀ q, q < 4 * d.1 → 1 ≤ (stDz t v d).2.2.1 q ∧ (stDz t v d).2.2.1 q ≤ 9999 := fun q hq => by
    show 1 ≤ up d.2.2.1 t v q ∧ up d.2.2.1 t v q ≤ 9999
    by_cases w : q = t
    · rw [w, up_eq]; omega
    · rw [up_ne _ _ w]; exact hl q hq
  unfold twX
  by_cases c : ov = 0
  · rw [if_pos c]
    refine ⟨by show d.1 + 1 ≤ 20; omega, h.2.1, sgn_cr h.2.2.1 hs, crL4_all (P := fun x => 1 ≤ x ∧ x ≤ 9999) st lt (by omega) (by omega) (by omega), ?_⟩
    obtain ⟨k1, k2, k3, k4, k5⟩ := crL4_v d.1 s (d.2.2.1 t) u u v (stDz t v d).2.2.1
    exact WF_tw h.2.2.2.2 hs ht ot hu hv huv (Or.inl ⟨rfl, rfl, rfl, rfl⟩) (by show crL4 d.1 s (d.2.2.1 t) u u v (stDz t v d).2.2.1 t = v; rw [k5 t ht]; exact up_eq _ _ _) k1 k2 k3 k4 (fun q hq hne => by
      show crL4 d.1 s (d.2.2.1 t) u u v (stDz t v d).2.2.1 q = d.2.2.1 q
      rw [k5 q hq]; exact up_ne _ _ hne)
  · rw [if_neg c]
    refine ⟨by show d.1 + 1 ≤ 20; omega, h.2.1, sgn_cr h.2.2.1 hs, crL4_all (P := fun x => 1 ≤ x ∧ x ≤ 9999) st (by omega) (by omega) lt (by omega), ?_⟩
    obtain ⟨k1, k2, k3, k4, k5⟩ := crL4_v d.1 s u v (d.2.2.1 t) u (stDz t v d).2.2.1
    exact WF_tw h.2.2.2.2 hs ht ot hu hv huv (Or.inr ⟨rfl, rfl, rfl, rfl⟩) (by show crL4 d.1 s u v (d.2.2.1 t) u (stDz t v d).2.2.1 t = v; rw [k5 t ht]; exact up_eq _ _ _) k3 k4 k1 k2 (fun q hq hne => by
      show crL4 d.1 s u v (d.2.2.1 t) u (stDz t v d).2.2.1 q = d.2.2.1 q
      rw [k5 q hq]; exact up_ne _ _ hne)
theorem WF_tw0 {n : Nat} {sg lb lb' : Nat → Int} (h : WF0 n sg lb) {s : Int} (hs : s = 1 ∨ s = -1) {u v : Int} (hu : ¬ usedL n lb u) (hv : ¬ usedL n lb v) (huv : u ≠ v) {i1 o1 i2 o2 : Nat} (hi : (i1 = 4 * n ∧ o1 = 4 * n + 2 ∧ i2 = 4 * n + (if s ≤ 0 then 1 else 3) ∧ o2 = 4 * n + (if s ≤ 0 then 3 else 1)) ∨ (i2 = 4 * n ∧ o2 = 4 * n + 2 ∧ i1 = 4 * n + (if s ≤ 0 then 1 else 3) ∧ o1 = 4 * n + (if s ≤ 0 then 3 else 1)))
    (l2 : lb' i1 = v) (l3 : lb' o1 = u) (l4 : lb' i2 = u) (l5 : lb' o2 = v) (l6 : ∀ q, q < 4 * n → lb' q = lb q) : WF0 (n + 1) (up sg n s) lb' := by
  obtain ⟨n0, n2, nI, nO⟩ := out_new n sg hs
  have io : outQ (up sg n s) i1 = false ∧ outQ (up sg n s) o1 = true ∧ outQ (up sg n s) i2 = false ∧ outQ (up sg n s) o2 = true ∧ 4 * n ≤ i1 ∧ 4 * n ≤ o1 ∧ 4 * n ≤ i2 ∧ 4 * n ≤ o2 ∧ i1 ≠ i2 ∧ o1 ≠ o2 ∧ i1 ≠ o2 ∧ i2 ≠ o1 ∧ i1 ≠ o1 ∧ i2 ≠ o2 ∧ (∀ q, q < 4 * (n + 1) ↔ (q < 4 * n ∨ q = i2 ∨ q = o1) ∨ q = i1 ∨ q = o2) := by
    rcases hi with ⟨a, b, c, d⟩ | ⟨a, b, c, d⟩
    · refine ⟨by rw [a]; exact n0, by rw [b]; exact n2, by rw [c]; exact nI, by rw [d]; exact nO, ?_⟩
      split at c <;> split at d <;> first | omega | (refine ⟨by omega, by omega, by omega, by omega, by omega, by omega, by omega, by omega, by omega, by omega, fun q => by omega⟩)
    · refine ⟨by rw [c]; exact nI, by rw [d]; exact nO, by rw [a]; exact n0, by rw [b]; exact n2, ?_⟩
      split at c <;> split at d <;> first | omega | (refine ⟨by omega, by omega, by omega, by omega, by omega, by omega, by omega, by omega, by omega, by omega, fun q => by omega⟩)
  obtain ⟨q1, q2, q3, q4, b1, b2, b3, b4, d1, d2, d3, d4, d5, d6, all⟩ := io
  have h0 : WFS (fun q => q < 4 * n) (up sg n s) lb := WFS_eq h (fun q => Iff.rfl) (fun q _ => rfl) (fun q hq => out_up hq sg s)
  have c1 := WFS_new (lb' := lb') h0 (x := i2) (y := o1) (b := u) (by show ¬ i2 < 4 * n; omega) (by show ¬ o1 < 4 * n; omega) q3 q2 (fun q hq w => hu ⟨q, hq, w⟩) l4 l3 (fun q hq => l6 q hq)
  have c2 := WFS_new (lb' := lb') c1 (x := i1) (y := o2) (b := v) (fun w => by
      rcases w with w | w | w
      · have w : i1 < 4 * n := w
        omega
      · omega
      · omega) (fun w => by
      rcases w with w | w | w
      · have w : o2 < 4 * n := w
        omega
      · omega
      · omega) q1 q4 (fun q hq w => by
      rcases hq with hq | hq | hq
      · rw [l6 q hq] at w; exact hv ⟨q, hq, w⟩
      · rw [hq, l4] at w; exact huv w
      · rw [hq, l3] at w; exact huv w) l2 l5 (fun q _ => rfl)
  exact WFS_eq c2 (fun q => all q) (fun _ _ => rfl) (fun _ _ => rfl)
theorem okD_tw0 {d : Dg} (h : okD d) (hn : d.1 < 20) {s ov u v : Int} (hs : s = 1 ∨ s = -1) (hc : d.2.1 ≠ 0) (hu : ¬ usedL d.1 d.2.2.1 u) (hv : ¬ usedL d.1 d.2.2.1 v) (huv : u ≠ v) (bu : 1 ≤ u ∧ u ≤ 44) (bv : 1 ≤ v ∧ v ≤ 44) : okD (twX s ov v u v (ciD (d.2.1 - 1) d)) := by
  have hl := h.2.2.2.1
  have hci := h.2.1
  unfold twX
  by_cases c : ov = 0
  · rw [if_pos c]
    refine ⟨by show d.1 + 1 ≤ 20; omega, by show 0 ≤ d.2.1 - 1 ∧ d.2.1 - 1 ≤ 20; omega, sgn_cr h.2.2.1 hs, crL4_all (P := fun x => 1 ≤ x ∧ x ≤ 9999) hl (by omega) (by omega) (by omega) (by omega), ?_⟩
    obtain ⟨k1, k2, k3, k4, k5⟩ := crL4_v d.1 s v u u v d.2.2.1
    exact WF_tw0 h.2.2.2.2 hs hu hv huv (Or.inl ⟨rfl, rfl, rfl, rfl⟩) k1 k2 k3 k4 k5
  · rw [if_neg c]
    refine ⟨by show d.1 + 1 ≤ 20; omega, by show 0 ≤ d.2.1 - 1 ∧ d.2.1 - 1 ≤ 20; omega, sgn_cr h.2.2.1 hs, crL4_all (P := fun x => 1 ≤ x ∧ x ≤ 9999) hl (by omega) (by omega) (by omega) (by omega), ?_⟩
    obtain ⟨k1, k2, k3, k4, k5⟩ := crL4_v d.1 s u v v u d.2.2.1
    exact WF_tw0 h.2.2.2.2 hs hu hv huv (Or.inr ⟨rfl, rfl, rfl, rfl⟩) k3 k4 k1 k2 k5
/-- what TWIST makes -/
def twS (l s ov u v : Int) (t : Option Nat) (d : Dg) : Int × Dg :=
  if d.1 = 20 then (0, d) else if l = 0 then (if d.2.1 = 0 then (0, d) else (1, twX s ov v u v (ciD (d.2.1 - 1) d))) else
  match t with | none => (0, d) | some t => (1, twX s ov l u v (stDz t v d))
def atL (d : Dg) (l : Int) (t : Option Nat) : Prop := match t with | none => ∀ q, q < 4 * d.1 → d.2.2.1 q ≠ l | some t => t < 4 * d.1 ∧ outQ d.2.2.2 t = false ∧ d.2.2.1 t = l
section
variable {nm fr to at_ : Nat → Int}
theorem named_at {d : Dg} (hE : EdgA d.1 d.2.2.2 d.2.2.1 nm fr to at_) {l : Int} {t : Option Nat} (ht : atL d l t) : (t = none ∧ ∀ f, f < 2 * d.1 → nm f ≠ l) ∨ ∃ e t', t = some t' ∧ e < 2 * d.1 ∧ nm e = l ∧ to e = ((t' : Nat) : Int) ∧ t' < 4 * d.1 := by
  cases t with
  | none =>
    refine Or.inl ⟨rfl, fun f hf w => ?_⟩
    obtain ⟨p, q, a1, a2, a3, a4, a5, a6, a7, a8⟩ := hE.1 f hf
    exact ht p a1 (by rw [a7, w])
  | some t =>
    obtain ⟨t1, t2, t3⟩ := ht
    obtain ⟨e, e1, e2, e3⟩ := hE.2.2 t t1
    obtain ⟨p, q, a1, a2, a3, a4, a5, a6, a7, a8⟩ := hE.1 e e1
    rcases e3 with e3 | e3
    · have : p = t := by rw [a3] at e3; omega
      rw [this, t2] at a5; cases a5
    · have : q = t := by rw [a4] at e3; omega
      exact Or.inr ⟨e, t, rfl, e1, by rw [← a8, this, t3], e3, t1⟩
theorem at_ex {d : Dg} (hE : EdgA d.1 d.2.2.2 d.2.2.1 nm fr to at_) (l : Int) : ∃ t, atL d l t := by
  by_cases w : ∃ e, e < 2 * d.1 ∧ nm e = l
  · obtain ⟨e, e1, e2⟩ := w
    obtain ⟨p, q, a1, a2, a3, a4, a5, a6, a7, a8⟩ := hE.1 e e1
    exact ⟨some q, a2, a6, by rw [a8, e2]⟩
  · refine ⟨none, fun q hq hl => w ?_⟩
    obtain ⟨e, e1, e2, e3⟩ := hE.2.2 q hq
    obtain ⟨p, r, a1, a2, a3, a4, a5, a6, a7, a8⟩ := hE.1 e e1
    refine ⟨e, e1, ?_⟩
    rcases e3 with e3 | e3
    · have : p = q := by rw [a3] at e3; omega
      rw [← a7, this, hl]
    · have : r = q := by rw [a4] at e3; omega
      rw [← a8, this, hl]
theorem nm_inj {n : Nat} {sg lb : Nat → Int} (hE : EdgA n sg lb nm fr to at_) {e f : Nat} (he : e < 2 * n) (hf : f < 2 * n) (h : nm e = nm f) : e = f := by
  rcases Nat.lt_trichotomy e f with w | w | w
  · have := hE.2.1 e f w hf; omega
  · exact w
  · have := hE.2.1 f e w he; omega
theorem free_uniq {n : Nat} {lb : Nat → Int} {b l m : Int} (h : IsFree n lb b l) (k : IsFree n lb b m) : l = m := by
  rcases Int.lt_trichotomy l m with w | w | w
  · exact absurd (k.2.2 l h.1 w) h.2.1
  · exact w
  · exact absurd (h.2.2 m k.1 w) k.2.1
theorem C_twist (fl : Nat) (hfl : 200 ≤ fl) {d : Dg} (h : okD d) (hE : EdgA d.1 d.2.2.2 d.2.2.1 nm fr to at_) {n ci : Int} {A S : Nat → Int} (hD : DA d n ci A S) {l s ov u v : Int} {t : Option Nat} (ht : atL d l t) (hu : IsFree d.1 d.2.2.1 0 u) (hv : IsFree d.1 d.2.2.1 u v) (f : Nat → Int) (kn : Int) :
    ∃ f' n' ci' kn' A' S', LM_Mo_twist fl ((2 * d.1 : Nat) : Int) nm to l s ov f n ci kn A S = some ((twS l s ov u v t d).1, f', n', ci', kn', A', S') ∧ DA (twS l s ov u v t d).2 n' ci' A' S' ∧ (kn' = kn ∨ kn' = 0) := by
  have hn := h.1
  have hci := h.2.1
  have e1 := hD.1
  have e2 := hD.2.1
  unfold LM_Mo_twist LB_Mo_twist_0 twS
  by_cases c : d.1 = 20
  · rw [if_neg (by omega), if_pos c]
    exact ⟨_, _, _, _, _, _, rfl, hD, Or.inl rfl⟩
  · obtain ⟨f', g1, g2⟩ := C_free fl hfl hn hE (fun q hq => (h.2.2.2.1 q hq).1) f
    have f0 := g2 0 (by omega)
    have f1 := g2 1 (by omega)
    rw [if_pos rfl] at f0
    rw [if_neg (by omega), show 1 - 1 = 0 from rfl] at f1
    have u0 : f' 0 = u := free_uniq f0.1 hu
    rw [u0] at f1
    have v0 : f' 1 = v := free_uniq f1.1 hv
    rw [if_pos (by omega), if_neg c, g1, Option.bind_some, if_pos (by decide), if_pos (by decide), show Int.toNat (0 : Int) = 0 from rfl, show Int.toNat (1 : Int) = 1 from rfl, u0, v0]
    by_cases c2 : l = 0
    · rw [if_neg (fun w => w c2), if_pos c2]
      by_cases c3 : d.2.1 = 0
      · rw [if_neg (by omega), if_pos c3]
        exact ⟨_, _, _, _, _, _, rfl, hD, Or.inl rfl⟩
      · obtain ⟨n', A', S', a1, a2⟩ := C_add fl (show (ciD (d.2.1 - 1) d).1 < 20 by show d.1 < 20; omega) (DA_ci hD (d.2.1 - 1)) s ov v u u v kn
        rw [if_pos (by omega), if_neg c3, a1, Option.bind_some, if_pos (by omega)]
        refine ⟨_, _, _, _, _, _, rfl, ?_, Or.inr rfl⟩
        unfold twX
        rw [e2]
        by_cases o : ov = 0
        · simp only [if_pos o] at a2 ⊢; exact a2
        · simp only [if_neg o] at a2 ⊢; exact a2
    · rw [if_pos c2, if_neg c2]
      rcases named_at hE ht with ⟨t1, t2⟩ | ⟨e, t', t1, t2, t3, t4, t5⟩
      · rcases C_named (nm := nm) fl hfl hn l with ⟨x, x1, x2, _⟩ | ⟨_, x4⟩
        · exact absurd x2 (t2 x x1)
        · subst t1
          rw [x4, Option.bind_some, if_neg (by decide)]
          exact ⟨_, _, _, _, _, _, rfl, hD, Or.inl rfl⟩
      · rcases C_named (nm := nm) fl hfl hn l with ⟨x, x1, x2, x3⟩ | ⟨x3, _⟩
        · have : x = e := nm_inj hE x1 t2 (by rw [x2, t3])
          subst this t1
          rw [x3, Option.bind_some, if_pos (by omega), if_pos (by omega), Int.toNat_natCast, t4, if_pos (by omega), Int.toNat_natCast]
          obtain ⟨n', A', S', a1, a2⟩ := C_add fl (show (stDz t' v d).1 < 20 by show d.1 < 20; omega) (DA_st hD t' v) s ov l u u v kn
          rw [a1, Option.bind_some]
          refine ⟨_, _, _, _, _, _, rfl, ?_, Or.inr rfl⟩
          show DA (twX s ov l u v (stDz t' v d)) _ _ _ _
          unfold twX
          by_cases o : ov = 0
          · simp only [if_pos o] at a2 ⊢; exact a2
          · simp only [if_neg o] at a2 ⊢; exact a2
        · exact absurd t3 (x3 e t2)
theorem M_twist (fl : Nat) (hfl : 200 ≤ fl) {d : Dg} (h : okD d) (hE : EdgA d.1 d.2.2.2 d.2.2.1 nm fr to at_) {n ci : Int} {A S : Nat → Int} (hD : DA d n ci A S) {l s ov u v : Int} (hs : s = 1 ∨ s = -1) {t : Option Nat} (ht : atL d l t) (hu : IsFree d.1 d.2.2.1 0 u) (hv : IsFree d.1 d.2.2.1 u v) (bu : u ≤ 44) (bv : v ≤ 44) :
    ∃ n' ci' A' S', LM_Md_twist fl ((2 * d.1 : Nat) : Int) to nm l s ov n ci A S = some ((twS l s ov u v t d).1, n', ci', A', S') ∧ DA (twS l s ov u v t d).2 n' ci' A' S' := by
  have hn := h.1
  have hci := h.2.1
  have e1 := hD.1
  have e2 := hD.2.1
  have bb : ∀ b m : Int, IsFree d.1 d.2.2.1 b m → IsFree d.1 A b m := fun b m ⟨x, y, z⟩ => by
    have iff : ∀ k, usedL d.1 A k ↔ usedL d.1 d.2.2.1 k := fun k => ⟨fun ⟨q, q1, q2⟩ => ⟨q, q1, by rw [← hD.2.2.1 q q1]; exact q2⟩, fun ⟨q, q1, q2⟩ => ⟨q, q1, by rw [hD.2.2.1 q q1]; exact q2⟩⟩
    exact ⟨x, fun w => y ((iff m).1 w), fun k k1 k2 => (iff k).2 (z k k1 k2)⟩
  have fu := M_free fl hfl hn (by omega) bu (bb _ _ hu)
  have fv := M_free fl hfl hn (by have := hu.1; omega) bv (bb _ _ hv)
  unfold LM_Md_twist LB_Md_twist_0
  have step : ∀ x4 : Int, (l = 0 → True) → (∀ (w : d.1 ≠ 20), (l = 0 ∧ d.2.1 ≠ 0) ∨ (l ≠ 0 ∧ 0 ≤ x4) → ∃ n' ci' A' S', LB_Md_twist_52 fl ((2 * d.1 : Nat) : Int) to nm l s ov x4 n ci A S = some ((twS l s ov u v t d).1, n', ci', A', S') ∧ DA (twS l s ov u v t d).2 n' ci' A' S') → (l ≠ 0 → x4 < 0 → t = none) → ∃ n' ci' A' S', LB_Md_twist_13 fl ((2 * d.1 : Nat) : Int) to nm x4 l s ov n ci A S = some ((twS l s ov u v t d).1, n', ci', A', S') ∧ DA (twS l s ov u v t d).2 n' ci' A' S' := by
    intro x4 _ h52 hx
    unfold LB_Md_twist_13 LB_Md_twist_41
    by_cases c : d.1 = 20
    · rw [if_pos (by omega)]
      unfold twS
      rw [if_pos c]
      exact ⟨_, _, _, _, rfl, hD⟩
    · rw [if_neg (by omega)]
      by_cases c2 : l = 0
      · rw [if_neg (fun w => w c2)]
        by_cases c3 : d.2.1 = 0
        · rw [if_pos (by omega)]
          unfold twS
          rw [if_neg c, if_pos c2, if_pos c3]
          exact ⟨_, _, _, _, rfl, hD⟩
        · rw [if_neg (by omega), if_pos c2]
          exact h52 c (Or.inl ⟨c2, c3⟩)
      · rw [if_pos c2, if_neg c2]
        by_cases c4 : 0 ≤ x4
        · rw [if_pos c4]
          exact h52 c (Or.inr ⟨c2, c4⟩)
        · rw [if_neg c4]
          unfold twS
          rw [if_neg c, if_neg c2, hx c2 (by omega)]
          exact ⟨_, _, _, _, rfl, hD⟩
  by_cases c2 : l = 0
  · rw [if_neg (fun w => w c2)]
    refine step (-1) (fun _ => trivial) (fun w hh => ?_) (fun w => absurd c2 w)
    rcases hh with ⟨_, hh⟩ | ⟨hh, _⟩
    · unfold LB_Md_twist_52 LB_Md_twist_77 LB_Md_twist_116 twS
      rw [if_neg w, if_pos c2, if_neg hh, e1, fu, Option.bind_some, fv, Option.bind_some]
      simp only [if_neg (fun x : ¬ l = 0 => x c2)]
      rw [if_pos (by omega)]
      have DD := DA_ci hD (ci - 1)
      rw [e1] at DD
      unfold twX
      rw [← e2]
      by_cases o : ov = 0
      · rw [if_pos o, if_pos o]
        obtain ⟨n', A', S', a1, a2⟩ := M_cross fl (show (ciD (ci - 1) d).1 < 22 by show d.1 < 22; omega) DD hs v u u v
        rw [a1, Option.bind_some]
        exact ⟨_, _, _, _, rfl, a2⟩
      · rw [if_neg o, if_neg o]
        obtain ⟨n', A', S', a1, a2⟩ := M_cross fl (show (ciD (ci - 1) d).1 < 22 by show d.1 < 22; omega) DD hs u v v u
        rw [a1, Option.bind_some]
        exact ⟨_, _, _, _, rfl, a2⟩
    · exact absurd c2 hh
  · rw [if_pos c2]
    rcases named_at hE ht with ⟨t1, t2⟩ | ⟨e, t', t1, t2, t3, t4, t5⟩
    · rw [M_find0 fl (by omega) (by omega) nm l t2, Option.bind_some]
      exact step (-1) (fun _ => trivial) (fun _ hh => by omega) (fun _ _ => t1)
    · rw [M_find fl (by omega) (by omega) nm l t2 t3 (fun f hf hl => nm_inj hE hf t2 (by rw [hl, t3])), Option.bind_some]
      refine step (e : Int) (fun _ => trivial) (fun w _ => ?_) (fun _ w => by omega)
      unfold LB_Md_twist_52 LB_Md_twist_77 LB_Md_twist_116 twS
      rw [if_neg w, if_neg c2, t1, e1, fu, Option.bind_some, fv, Option.bind_some]
      simp only [if_pos c2]
      rw [if_pos (by omega), Int.toNat_natCast, t4, if_pos (by omega), Int.toNat_natCast]
      have DD := DA_st hD t' v
      rw [e1] at DD
      unfold twX
      by_cases o : ov = 0
      · rw [if_pos o, if_pos o]
        obtain ⟨n', A', S', a1, a2⟩ := M_cross fl (show (stDz t' v d).1 < 22 by show d.1 < 22; omega) DD hs l u u v
        rw [a1, Option.bind_some]
        exact ⟨_, _, _, _, rfl, a2⟩
      · rw [if_neg o, if_neg o]
        obtain ⟨n', A', S', a1, a2⟩ := M_cross fl (show (stDz t' v d).1 < 22 by show d.1 < 22; omega) DD hs u v l u
        rw [a1, Option.bind_some]
        exact ⟨_, _, _, _, rfl, a2⟩
theorem tw_ok {d : Dg} (h : okD d) {l s ov u v : Int} (hs : s = 1 ∨ s = -1) {t : Option Nat} (ht : atL d l t) (hu : IsFree d.1 d.2.2.1 0 u) (hv : IsFree d.1 d.2.2.1 u v) (bu : u ≤ 44) (bv : v ≤ 44) : okD (twS l s ov u v t d).2 := by
  have b1 := hu.1
  have b2 := hv.1
  have hn := h.1
  unfold twS
  by_cases c : d.1 = 20
  · rw [if_pos c]; exact h
  · rw [if_neg c]
    by_cases c2 : l = 0
    · rw [if_pos c2]
      by_cases c3 : d.2.1 = 0
      · rw [if_pos c3]; exact h
      · rw [if_neg c3]; exact okD_tw0 h (by omega) hs c3 hu.2.1 hv.2.1 (by omega) (by omega) (by omega)
    · rw [if_neg c2]
      cases t with
      | none => exact h
      | some t =>
        show okD (twX s ov l u v (stDz t v d))
        rw [← ht.2.2]
        exact okD_tw h (by omega) hs ht.1 ht.2.1 hu.2.1 hv.2.1 (by omega) (by omega) (by omega)
end
