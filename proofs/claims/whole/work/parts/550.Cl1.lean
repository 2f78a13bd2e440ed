theorem WFS_cutB {S : Nat → Prop} {sg lb lb' : Nat → Int} (h : WFS S sg lb) {t x y : Nat} {b : Int} (β : Bool) (ht : S t) (ot : outQ sg t = β) (ox : outQ sg x = β) (oy : outQ sg y = !β) (hb : ∀ q, S q → lb q ≠ b) (l1 : lb' t = b) (l2 : lb' x = lb t) (l3 : lb' y = b) (l4 : ∀ q, S q → q ≠ t → lb' q = lb q) : WFS (fun q => S q ∨ q = x ∨ q = y) sg lb' := by
  obtain ⟨p, p1, p2, p3, p4⟩ := h t ht
  rw [ot] at p3
  have npt : p ≠ t := fun w => by rw [w, ot] at p3; cases β <;> cases p3
  have lt : lb t ≠ b := hb t ht
  have lp : lb' p = lb t := by rw [l4 p p1 npt, p2]
  intro q hq
  rcases hq with hq | hq | hq
  · by_cases e : q = t
    · subst e
      refine ⟨y, Or.inr (Or.inr rfl), by rw [l1, l3], by rw [oy, ot], fun r hr hl => ?_⟩
      rw [l1] at hl
      rcases hr with hr | hr | hr
      · by_cases e2 : r = q
        · exact Or.inl e2
        · rw [l4 r hr e2] at hl; exact absurd hl (hb r hr)
      · rw [hr, l2] at hl; exact absurd hl lt
      · exact Or.inr hr
    · by_cases e3 : q = p
      · subst e3
        refine ⟨x, Or.inr (Or.inl rfl), by rw [l2, lp], by rw [ox, p3, Bool.not_not], fun r hr hl => ?_⟩
        rw [lp] at hl
        rcases hr with hr | hr | hr
        · by_cases e2 : r = t
          · rw [e2, l1] at hl; exact absurd hl.symm lt
          · rw [l4 r hr e2] at hl
            rcases p4 r hr hl with w | w
            · exact absurd w e2
            · exact Or.inl w
        · exact Or.inr hr
        · rw [hr, l3] at hl; exact absurd hl.symm lt
      · obtain ⟨m, m1, m2, m3, m4⟩ := h q hq
        have nq : lb q ≠ lb t := fun w => by
          rcases p4 q hq w with v | v
          · exact e v
          · exact e3 v
        have nm : m ≠ t := fun w => nq (by rw [← m2, w])
        refine ⟨m, Or.inl m1, by rw [l4 m m1 nm, l4 q hq e, m2], m3, fun r hr hl => ?_⟩
        rw [l4 q hq e] at hl
        rcases hr with hr | hr | hr
        · by_cases e2 : r = t
          · rw [e2, l1] at hl; exact absurd hl.symm (hb q hq)
          · rw [l4 r hr e2] at hl; exact m4 r hr hl
        · rw [hr, l2] at hl; exact absurd hl.symm nq
        · rw [hr, l3] at hl; exact absurd hl.symm (hb q hq)
  · subst hq
    refine ⟨p, Or.inl p1, by rw [lp, l2], by rw [p3, ox], fun r hr hl => ?_⟩
    rw [l2] at hl
    rcases hr with hr | hr | hr
    · by_cases e2 : r = t
      · rw [e2, l1] at hl; exact absurd hl.symm lt
      · rw [l4 r hr e2] at hl
        rcases p4 r hr hl with w | w
        · exact absurd w e2
        · exact Or.inr w
    · exact Or.inl hr
    · rw [hr, l3] at hl; exact absurd hl.symm lt
  · subst hq
    refine ⟨t, Or.inl ht, by rw [l1, l3], by rw [ot, oy, Bool.not_not], fun r hr hl => ?_⟩
    rw [l3] at hl
    rcases hr with hr | hr | hr
    · by_cases e2 : r = t
      · exact Or.inr e2
      · rw [l4 r hr e2] at hl; exact absurd hl (hb r hr)
    · rw [hr, l2] at hl; exact absurd hl lt
    · exact Or.inl hr
/-- labels renamed one after the other -/
def sr (T : Nat → Int) : Nat → Int → Int
  | 0, l => l
  | p + 1, l => if sr T p l = T p then ((p + 1 : Nat) : Int) else sr T p l
theorem sr_s (T : Nat → Int) (p : Nat) (l : Int) : sr T (p + 1) l = if sr T p l = T p then ((p + 1 : Nat) : Int) else sr T p l := rfl
/-- tops: as at the bottom, or new labels, each once -/
def Tops (N : Nat) (top : Int) (T : Nat → Int) : Prop := (∀ p, p < N → T p = ((p + 1 : Nat) : Int) ∨ ((N : Int) < T p ∧ T p ≤ top)) ∧ ∀ p r, p < N → r < N → T p = T r → p = r
theorem sr_low {N : Nat} {top : Int} {T : Nat → Int} (h : Tops N top T) {l : Int} (hl : l ≤ (N : Int)) : ∀ p, p ≤ N → sr T p l = l := by
  intro p
  induction p with
  | zero => intro _; rfl
  | succ p ih =>
    intro hp
    rw [sr_s, ih (by omega)]
    by_cases w : l = T p
    · rw [if_pos w]
      rcases h.1 p (by omega) with v | v <;> omega
    · rw [if_neg w]
theorem sr_no {T : Nat → Int} {l : Int} : ∀ p, (∀ r, r < p → T r ≠ l) → sr T p l = l := by
  intro p
  induction p with
  | zero => intro _; rfl
  | succ p ih =>
    intro hp
    rw [sr_s, ih (fun r hr => hp r (by omega)), if_neg (fun w => hp p (by omega) w.symm)]
theorem sr_top {N : Nat} {top : Int} {T : Nat → Int} (h : Tops N top T) {p : Nat} (hp : p < N) : ∀ r, p < r → r ≤ N → sr T r (T p) = ((p + 1 : Nat) : Int) := by
  intro r
  induction r with
  | zero => intro h1; omega
  | succ r ih =>
    intro h1 h2
    rw [sr_s]
    by_cases w : p = r
    · subst w
      rw [sr_no p (fun r hr e => by have := h.2 r p (by omega) hp e; omega), if_pos rfl]
    · rw [ih (by omega) (by omega)]
      split
      · next v =>
        rcases h.1 r (by omega) with x | x <;> omega
      · rfl
/-- how often the strands stand as they began -/
def unt (T : Nat → Int) : Nat → Int
  | 0 => 0
  | p + 1 => unt T p + if T p = ((p + 1 : Nat) : Int) then 1 else 0
theorem unt_s (T : Nat → Int) (p : Nat) : unt T (p + 1) = unt T p + if T p = ((p + 1 : Nat) : Int) then 1 else 0 := rfl
theorem unt_b (T : Nat → Int) : ∀ p : Nat, 0 ≤ unt T p ∧ unt T p ≤ (p : Int) := by
  intro p
  induction p with
  | zero => exact ⟨Int.le_refl _, Int.le_refl _⟩
  | succ p ih => rw [unt_s]; split <;> omega
/-- the word's crossings, letter by letter -/
def clI (X : Nat → Int) (k : Nat) : Nat := (absI (X k)).toNat - 1
def clT (N : Nat) (X : Nat → Int) : Nat → (Nat → Int) × Dg
  | 0 => ((fun p => ((p + 1 : Nat) : Int)), (0, 0, (fun _ => 0), (fun _ => 0)))
  | k + 1 => (up (up (clT N X k).1 (clI X k) ((N + 2 * k + 1 : Nat) : Int)) (clI X k + 1) ((N + 2 * k + 2 : Nat) : Int),
      if X k ≤ 0 then crD (-1) ((clT N X k).1 (clI X k + 1)) ((N + 2 * k + 1 : Nat) : Int) ((clT N X k).1 (clI X k)) ((N + 2 * k + 2 : Nat) : Int) (clT N X k).2
      else crD 1 ((clT N X k).1 (clI X k)) ((N + 2 * k + 2 : Nat) : Int) ((clT N X k).1 (clI X k + 1)) ((N + 2 * k + 1 : Nat) : Int) (clT N X k).2)
theorem clT_s (N : Nat) (X : Nat → Int) (k : Nat) : clT N X (k + 1) = (up (up (clT N X k).1 (clI X k) ((N + 2 * k + 1 : Nat) : Int)) (clI X k + 1) ((N + 2 * k + 2 : Nat) : Int),
      if X k ≤ 0 then crD (-1) ((clT N X k).1 (clI X k + 1)) ((N + 2 * k + 1 : Nat) : Int) ((clT N X k).1 (clI X k)) ((N + 2 * k + 2 : Nat) : Int) (clT N X k).2
      else crD 1 ((clT N X k).1 (clI X k)) ((N + 2 * k + 2 : Nat) : Int) ((clT N X k).1 (clI X k + 1)) ((N + 2 * k + 1 : Nat) : Int) (clT N X k).2) := rfl
def clD (N m : Nat) (X : Nat → Int) : Dg := (m, unt (clT N X m).1 N, (fun q => sr (clT N X m).1 N ((clT N X m).2.2.2.1 q)), (clT N X m).2.2.2.2)
def Wrd (N m : Nat) (X : Nat → Int) : Prop := 1 ≤ N ∧ N ≤ 8 ∧ m ≤ 20 ∧ ∀ k, k < m → 1 ≤ absI (X k) ∧ absI (X k) < (N : Int)
/-- the open braid -/
def Opn (N k : Nat) (T : Nat → Int) (d : Dg) : Prop :=
  d.1 = k ∧ Tops N ((N + 2 * k : Nat) : Int) T ∧ (∀ c, c < k → d.2.2.2 c = 1 ∨ d.2.2.2 c = -1) ∧ (∀ q, q < 4 * k → 1 ≤ d.2.2.1 q ∧ d.2.2.1 q ≤ ((N + 2 * k : Nat) : Int)) ∧
  (∀ q p, q < 4 * k → p < N → T p ≠ ((p + 1 : Nat) : Int) → d.2.2.1 q = T p → outQ d.2.2.2 q = true) ∧
  (∀ q p, q < 4 * k → p < N → d.2.2.1 q = ((p + 1 : Nat) : Int) → outQ d.2.2.2 q = false ∧ T p ≠ ((p + 1 : Nat) : Int)) ∧
  (∀ p, p < N → T p ≠ ((p + 1 : Nat) : Int) → ∃ q, q < 4 * k ∧ d.2.2.1 q = T p) ∧
  WFS (fun q => q < 4 * k) d.2.2.2 (fun q => sr T N (d.2.2.1 q))
/-- one strand more throughz a crossing: a stands for the new label at position i -/
theorem Opn_st {N : Nat} {S : Nat → Prop} {sg lb T : Nat → Int} {top top' : Int} (hT : Tops N top T) (htt : (N : Int) ≤ top) (ht2 : top < top') (hlb : ∀ q, S q → lb q ≤ top)
    (h1 : ∀ q p, S q → p < N → T p ≠ ((p + 1 : Nat) : Int) → lb q = T p → outQ sg q = true)
    (h3 : ∀ p, p < N → T p ≠ ((p + 1 : Nat) : Int) → ∃ q, S q ∧ lb q = T p)
    (h4 : WFS S sg (fun q => sr T N (lb q)))
    (h2 : ∀ q p, S q → p < N → lb q = ((p + 1 : Nat) : Int) → outQ sg q = false ∧ T p ≠ ((p + 1 : Nat) : Int))
    {i x y : Nat} (hi : i < N) (hx : ¬ S x) (hy : ¬ S y) (hxy : x ≠ y) (ox : outQ sg x = false) (oy : outQ sg y = true) {lb' : Nat → Int} (l1 : lb' x = T i) (l2 : lb' y = top') (l3 : ∀ q, S q → lb' q = lb q) :
    Tops N top' (up T i top') ∧
    (∀ q p, (S q ∨ q = x ∨ q = y) → p < N → up T i top' p ≠ ((p + 1 : Nat) : Int) → lb' q = up T i top' p → outQ sg q = true) ∧
    (∀ q p, (S q ∨ q = x ∨ q = y) → p < N → lb' q = ((p + 1 : Nat) : Int) → outQ sg q = false ∧ up T i top' p ≠ ((p + 1 : Nat) : Int)) ∧
    (∀ p, p < N → up T i top' p ≠ ((p + 1 : Nat) : Int) → ∃ q, (S q ∨ q = x ∨ q = y) ∧ lb' q = up T i top' p) ∧
    WFS (fun q => S q ∨ q = x ∨ q = y) sg (fun q => sr (up T i top') N (lb' q)) := by
  have hT' : Tops N top' (up T i top') := by
    refine ⟨fun p hp => ?_, fun p r hp hr w => ?_⟩
    · by_cases e : p = i
      · rw [e, up_eq]; right; omega
      · rw [up_ne _ _ e]
        rcases hT.1 p hp with v | v <;> omega
    · by_cases e : p = i
      · by_cases e2 : r = i
        · rw [e, e2]
        · rw [e, up_eq, up_ne _ _ e2] at w
          rcases hT.1 r hr with v | v <;> omega
      · by_cases e2 : r = i
        · rw [e2, up_eq, up_ne _ _ e] at w
          rcases hT.1 p hp with v | v <;> omega
        · rw [up_ne _ _ e, up_ne _ _ e2] at w; exact hT.2 p r hp hr w
  have low : ∀ p, p < N → ((p + 1 : Nat) : Int) ≤ (N : Int) := fun p hp => by omega
  have ti := hT.1 i hi
  -- how labels are renamed now
  have ren : ∀ l : Int, l ≤ top → l ≠ T i → sr (up T i top') N l = sr T N l := fun l hl hne => by
    by_cases w : l ≤ (N : Int)
    · rw [sr_low hT w N (Nat.le_refl _), sr_low hT' w N (Nat.le_refl _)]
    · by_cases e : ∃ p, p < N ∧ T p = l
      · obtain ⟨p, p1, p2⟩ := e
        have pi : p ≠ i := fun z => hne (by rw [← p2, z])
        rw [← p2, sr_top hT p1 N p1 (Nat.le_refl _)]
        have := sr_top hT' p1 N p1 (Nat.le_refl _)
        rw [up_ne _ _ pi] at this
        exact this
      · rw [sr_no N (fun r hr z => e ⟨r, hr, z⟩), sr_no N (fun r hr z => by
          by_cases ri : r = i
          · rw [ri, up_eq] at z; omega
          · rw [up_ne _ _ ri] at z; exact e ⟨r, hr, z⟩)]
  have rtop : sr (up T i top') N top' = ((i + 1 : Nat) : Int) := by
    have := sr_top hT' hi N hi (Nat.le_refl _)
    rw [up_eq] at this; exact this
  refine ⟨hT', fun q p hq hp hne hl => ?_, fun q p hq hp hl => ?_, fun p hp hne => ?_, ?_⟩
  · by_cases e : p = i
    · rw [e, up_eq] at hl
      rcases hq with hq | hq | hq
      · rw [l3 q hq] at hl; have := hlb q hq; omega
      · rw [hq, l1] at hl; omega
      · rw [hq]; exact oy
    · rw [up_ne _ _ e] at hl hne
      rcases hq with hq | hq | hq
      · rw [l3 q hq] at hl; exact h1 q p hq hp hne hl
      · rw [hq, l1] at hl; exact absurd (hT.2 i p hi hp hl).symm e
      · rw [hq]; exact oy
  · rcases hq with hq | hq | hq
    · rw [l3 q hq] at hl
      obtain ⟨a, b⟩ := h2 q p hq hp hl
      refine ⟨a, ?_⟩
      by_cases e : p = i
      · rw [e, up_eq]; omega
      · rw [up_ne _ _ e]; exact b
    · rw [hq, l1] at hl
      refine ⟨by rw [hq]; exact ox, ?_⟩
      by_cases e : p = i
      · rw [e, up_eq]; omega
      · rcases ti with v | v
        · omega
        · omega
    · rw [hq, l2] at hl; omega
  · by_cases e : p = i
    · rw [e, up_eq]; exact ⟨y, Or.inr (Or.inr rfl), l2⟩
    · rw [up_ne _ _ e] at hne ⊢
      obtain ⟨q, q1, q2⟩ := h3 p hp hne
      exact ⟨q, Or.inl q1, by rw [l3 q q1, q2]⟩
  · by_cases e : T i = ((i + 1 : Nat) : Int)
    · -- a strand without crossings so far
      have := WFS_new (lb' := fun q => sr (up T i top') N (lb' q)) h4 (x := x) (y := y) (b := ((i + 1 : Nat) : Int)) hx hy ox oy (fun q hq w => ?_) (by
        show sr (up T i top') N (lb' x) = _
        rw [l1, e, sr_low hT' (low i hi) N (Nat.le_refl _)]) (by
        show sr (up T i top') N (lb' y) = _
        rw [l2, rtop]) (fun q hq => by
        show sr (up T i top') N (lb' q) = sr T N (lb q)
        rw [l3 q hq]
        refine ren _ (hlb q hq) (fun w => ?_)
        exact (h2 q i hq hi (by rw [w, e])).2 e)
      · exact this
      · have w : sr T N (lb q) = ((i + 1 : Nat) : Int) := w
        by_cases z : lb q ≤ (N : Int)
        · rw [sr_low hT z N (Nat.le_refl _)] at w
          exact (h2 q i hq hi w).2 e
        · by_cases z2 : ∃ p, p < N ∧ T p = lb q
          · obtain ⟨p, p1, p2⟩ := z2
            rw [← p2, sr_top hT p1 N p1 (Nat.le_refl _)] at w
            have : p = i := by omega
            rw [this, e] at p2
            omega
          · rw [sr_no N (fun r hr z3 => z2 ⟨r, hr, z3⟩)] at w; omega
    · obtain ⟨t, t1, t2⟩ := h3 i hi e
      have ti2 : (N : Int) < T i ∧ T i ≤ top := by rcases ti with v | v <;> first | exact absurd v e | exact v
      have st : sr T N (lb t) = ((i + 1 : Nat) : Int) := by rw [t2, sr_top hT hi N hi (Nat.le_refl _)]
      have sti : sr (up T i top') N (T i) = T i := sr_no N (fun r hr z => by
        by_cases ri : r = i
        · rw [ri, up_eq] at z; omega
        · rw [up_ne _ _ ri] at z; exact ri (hT.2 r i hr hi z))
      have := WFS_cutB (lb' := fun q => sr (up T i top') N (lb' q)) h4 (t := t) (x := y) (y := x) (b := T i) true t1 (h1 t i t1 hi e t2) oy ox (fun q hq w => ?_) (by
        show sr (up T i top') N (lb' t) = _
        rw [l3 t t1, t2, sti]) (by
        show sr (up T i top') N (lb' y) = sr T N (lb t)
        rw [l2, rtop, st]) (by
        show sr (up T i top') N (lb' x) = _
        rw [l1, sti]) (fun q hq hne => by
        show sr (up T i top') N (lb' q) = sr T N (lb q)
        rw [l3 q hq]
        refine ren _ (hlb q hq) (fun w => hne ?_)
        have oq := h1 q i hq hi e w
        obtain ⟨m, m1, m2, m3, m4⟩ := h4 t t1
        rcases m4 q hq (by show sr T N (lb q) = sr T N (lb t); rw [w, t2]) with v | v
        · exact v
        · rw [← v, oq, h1 t i t1 hi e t2] at m3; cases m3)
      · exact WFS_eq this (fun q => by constructor <;> (intro w; rcases w with w | w | w <;> simp [w])) (fun _ _ => rfl) (fun _ _ => rfl)
      · have w : sr T N (lb q) = T i := w
        by_cases z : lb q ≤ (N : Int)
        · rw [sr_low hT z N (Nat.le_refl _)] at w; omega
        · by_cases z2 : ∃ p, p < N ∧ T p = lb q
          · obtain ⟨p, p1, p2⟩ := z2
            rw [← p2, sr_top hT p1 N p1 (Nat.le_refl _)] at w
            omega
          · rw [sr_no N (fun r hr z3 => z2 ⟨r, hr, z3⟩)] at w
            exact z2 ⟨i, hi, w.symm⟩
