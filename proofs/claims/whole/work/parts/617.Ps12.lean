/-- every fault has a number -/
def okR (r : Rs) : Prop := ∀ e, r = .inr e → e.1 ≠ 0
theorem okR_inl (a : Nat × List Int) : okR (.inl a) := fun e h => by cases h
theorem okR_inr {c : Int} {q : Nat} (h : c ≠ 0) : okR (.inr (c, q)) := fun e g => by rw [← Sum.inr.inj g]; exact h
theorem okR_ref (tx : Nat → Int) (sz q : Nat) {code : Int} (h : code ≠ 0) : okR (.inr (refC tx sz q code, q)) := okR_inr (refC_ne tx sz q h)
theorem okR_ite {p : Prop} [Decidable p] {a b : Rs} (ha : okR a) (hb : okR b) : okR (if p then a else b) := by split <;> assumption
theorem okR_sq {r : Rs} {f : Nat → Rs} (h1 : okR r) (h2 : ∀ q, okR (f q)) : okR (sq r f) := by
  unfold sq
  cases r with
  | inr e => exact h1
  | inl a =>
    show okR (match f a.1 with | .inl b => .inl (b.1, a.2 ++ b.2) | .inr e => .inr e)
    have := h2 a.1
    cases e : f a.1 with
    | inr e2 => rw [e] at this; exact this
    | inl b => exact okR_inl _
section
variable (tx : Nat → Int) (sz : Nat)
theorem ok_mark (m : Int) (q : Nat) : okR (sMark tx sz m q) := okR_ite (okR_inl _) (okR_ref tx sz q (by decide))
theorem ok_num (sg : Int) (q : Nat) : okR (sNum tx sz sg q) := okR_ite (okR_inl _) (okR_ref tx sz q (by decide))
theorem ok_sgd (q : Nat) : okR (sSgd tx sz q) := okR_ite (ok_num tx sz _ _) (ok_num tx sz _ _)
theorem ok_sign (q : Nat) : okR (sSign tx sz q) := okR_ite (okR_inl _) (okR_ite (okR_inl _) (okR_ref tx sz q (by decide)))
theorem ok_side (q : Nat) : okR (sSide tx sz q) := okR_ite (okR_inl _) (okR_ite (okR_inl _) (okR_ref tx sz q (by decide)))
theorem ok_cross (q : Nat) : okR (sCross tx sz q) :=
  okR_sq (ok_sign tx sz q) fun q => okR_sq (ok_mark tx sz _ q) fun q => okR_sq (ok_num tx sz _ q) fun q => okR_sq (ok_mark tx sz _ q) fun q => okR_sq (ok_num tx sz _ q) fun q => okR_sq (ok_mark tx sz _ q) fun q => okR_sq (ok_num tx sz _ q) fun q => okR_sq (ok_mark tx sz _ q) fun q => okR_sq (ok_num tx sz _ q) fun q => okR_sq (ok_mark tx sz _ q) fun _ => okR_inl _
theorem ok_tail (q : Nat) : okR (sTail tx sz q) := okR_ite (ok_num tx sz _ _) (okR_inl _)
theorem ok_code : ∀ d q, okR (sCode tx sz d q) := by
  intro d
  induction d with
  | zero => intro q; exact okR_ite (okR_ref tx sz q (by decide)) (ok_tail tx sz q)
  | succ d ih => intro q; exact okR_ite (okR_sq (ok_cross tx sz q) ih) (ok_tail tx sz q)
theorem ok_let : ∀ d q, okR (sLet tx sz d q) := by
  intro d
  induction d with
  | zero => intro q; exact okR_ite (okR_ref tx sz q (by decide)) (okR_inl _)
  | succ d ih => intro q; exact okR_ite (okR_sq (ok_sgd tx sz q) ih) (okR_inl _)
theorem ok_tm (c : Int) (lv : List Int) (has : Bool) (q : Nat) : okR (sTm tx sz c lv has q) := okR_ite (okR_ite (okR_sq (okR_inl _) (ok_sgd tx sz)) (okR_inl _)) (okR_ite (okR_inl _) (okR_ref tx sz q (by decide)))
theorem ok_term (sg : Int) (lv : List Int) (q : Nat) : okR (sTerm tx sz sg lv q) := okR_ite (okR_ite (ok_tm tx sz _ _ _ _) (okR_inr (by decide))) (ok_tm tx sz _ _ _ _)
theorem ok_sumL (lv : List Int) : ∀ d q, okR (sSumL tx sz lv d q) := by
  intro d
  induction d with
  | zero => intro q; exact okR_ite (okR_ref tx sz q (by decide)) (okR_inl _)
  | succ d ih => intro q; exact okR_ite (okR_sq (ok_term tx sz _ _ _) ih) (okR_inl _)
theorem ok_sum (lv : List Int) (q : Nat) : okR (sSum tx sz lv q) := okR_sq (ok_mark tx sz _ q) fun q => okR_ite (okR_sq (ok_term tx sz _ _ _) (ok_sumL tx sz lv 63)) (okR_sq (ok_term tx sz _ _ _) (ok_sumL tx sz lv 63))
theorem ok_rest (k q : Nat) : okR (sRest tx sz k q) := okR_ite (ok_code tx sz 20 q) (okR_ite (okR_sq (ok_num tx sz _ q) (ok_let tx sz 32)) (okR_ite (ok_num tx sz _ q) (okR_ite (okR_sq (ok_num tx sz _ q) fun q => okR_sq (ok_sign tx sz q) (ok_side tx sz)) (okR_ite (okR_sq (ok_sgd tx sz q) fun q => okR_sq (ok_side tx sz q) (ok_sgd tx sz)) (okR_ite (okR_ite (okR_inl _) (ok_sum tx sz _ q)) (okR_inl _))))))
theorem ok_line (k q : Nat) : okR (sLine tx sz k q) := okR_sq (ok_rest tx sz k q) fun q => okR_ite (okR_inl _) (okR_ref tx sz q (by decide))
end
/-- the lines read -/
abbrev Lin := Nat × List Int
def tot : List Lin → Nat
  | [] => 0
  | x :: L => x.2.length + tot L
theorem tot_app : ∀ (L M : List Lin), tot (L ++ M) = tot L + tot M := by
  intro L
  induction L with
  | nil => intro M; show tot M = 0 + tot M; omega
  | cons x L ih => intro M; show x.2.length + tot (L ++ M) = x.2.length + tot L + tot M; rw [ih]; omega
theorem tot_take : ∀ (L : List Lin) (i : Nat), i < L.length → tot (L.take i) + (L.getD i (0, [])).2.length ≤ tot L := by
  intro L
  induction L with
  | nil => intro i h; exact absurd h (by show ¬ i < 0; omega)
  | cons x L ih =>
    intro i h
    cases i with
    | zero => show 0 + x.2.length ≤ x.2.length + tot L; omega
    | succ i =>
      have := ih i (by rw [List.length_cons] at h; omega)
      show x.2.length + tot (L.take i) + (L.getD i (0, [])).2.length ≤ x.2.length + tot L
      omega
/-- the class's store of lines -/
def LiS (L : List Lin) (kd st vl : Nat → Int) : Prop := (∀ i, i ≤ L.length → st i = ((tot (L.take i) : Nat) : Int)) ∧ ∀ i, i < L.length → kd i = ((L.getD i (0, [])).1 : Int) ∧ ∀ j, j < (L.getD i (0, [])).2.length → vl (tot (L.take i) + j) = (L.getD i (0, [])).2.getD j 0
theorem getD_l1 (L : List Lin) (x : Lin) {i : Nat} (h : i < L.length) : (L ++ [x]).getD i (0, []) = L.getD i (0, []) := by
  rw [List.getD_eq_getElem?_getD, List.getD_eq_getElem?_getD, List.getElem?_append_left h]
theorem getD_l2 (L : List Lin) (x : Lin) : (L ++ [x]).getD L.length (0, []) = x := by
  rw [List.getD_eq_getElem?_getD, List.getElem?_append_right (Nat.le_refl _), Nat.sub_self]
  rfl
theorem take_l1 (L : List Lin) (x : Lin) {i : Nat} (h : i ≤ L.length) : (L ++ [x]).take i = L.take i := List.take_append_of_le_length h
theorem LiS_add {L : List Lin} {kd st vl st' vl' : Nat → Int} (h : LiS L kd st vl) {k : Nat} {l : List Int} (hn : NC (up st (L.length + 1) (st L.length)) vl L.length (tot L) st' vl' l) : LiS (L ++ [(k, l)]) (up kd L.length (k : Int)) st' vl' := by
  obtain ⟨h1, h2⟩ := h
  obtain ⟨n1, n2, n3, n4⟩ := hn
  have el : (L ++ [(k, l)]).length = L.length + 1 := by rw [List.length_append]; rfl
  constructor
  · intro i hi
    rw [el] at hi
    by_cases c : i = L.length + 1
    · rw [c, n3, List.take_of_length_le (by rw [el]; omega), tot_app]
      show ((tot L + l.length : Nat) : Int) = ((tot L + (l.length + 0) : Nat) : Int)
      rw [Nat.add_zero]
    · rw [n1 i (by omega), up_ne _ _ c, take_l1 _ _ (by omega)]
      exact h1 i (by omega)
  · intro i hi
    rw [el] at hi
    by_cases c : i = L.length
    · rw [c, getD_l2, up_eq, take_l1 _ _ (Nat.le_refl _), List.take_of_length_le (Nat.le_refl _)]
      exact ⟨rfl, n4⟩
    · have hi2 : i < L.length := by omega
      rw [getD_l1 _ _ hi2, up_ne _ _ c, take_l1 _ _ (by omega)]
      refine ⟨(h2 i hi2).1, fun j hj => ?_⟩
      have := tot_take L i hi2
      rw [n2 _ (by omega)]
      exact (h2 i hi2).2 j hj
def sText (tx : Nat → Int) (sz : Nat) : Nat → Nat → List Lin → (List Lin) ⊕ (Int × Nat)
  | 0, _, L => .inl L
  | d + 1, b, L =>
    if sz ≤ b then .inl L
    else if tkK tx sz (idl tx sz b) = 0 then sText tx sz d (idl tx sz b + 1) L
    else if kw tx sz (idl tx sz b) = 0 then .inr (refC tx sz (idl tx sz b) 3, idl tx sz b)
    else if 64 ≤ L.length then .inr (refC tx sz (idl tx sz b) 5, idl tx sz b)
    else match sLine tx sz (kw tx sz (idl tx sz b)) (nxt tx sz (idl tx sz b)) with
      | .inl a => sText tx sz d (a.1 + 1) (L ++ [(kw tx sz (idl tx sz b), a.2)])
      | .inr e => .inr e
