def noneS : Simp := (fun p => p, fun p => p)
def turnF (n p : Nat) : Nat := if p < n then n - 1 - p else p
def turnS (n : Nat) : Simp := (turnF n, turnF n)
theorem turnF_turnF (n p : Nat) : turnF n (turnF n p) = p := by unfold turnF; (repeat' split) <;> omega
theorem okN_none (n : Nat) : okN n noneS := ⟨⟨fun _ => rfl, fun _ => rfl⟩, fun _ => ⟨fun h => ⟨h, h⟩, fun _ => ⟨rfl, rfl⟩⟩⟩
theorem okN_turn (n : Nat) : okN n (turnS n) := by
  refine ⟨⟨turnF_turnF n, turnF_turnF n⟩, fun p => ⟨fun h => ?_, fun h => ?_⟩⟩
  · have : turnF n p < n := by unfold turnF; split <;> omega
    exact ⟨this, this⟩
  · have : turnF n p = p := by unfold turnF; split <;> omega
    exact ⟨this, this⟩
/-- turned over -/
def conjS (n : Nat) (S : Simp) : Simp := (fun p => turnF n (S.1 (turnF n p)), fun p => turnF n (S.2 (turnF n p)))
theorem turnF_lt {n p : Nat} (h : p < n) : turnF n p < n := by unfold turnF; split <;> omega
theorem turnF_ge {n p : Nat} (h : n ≤ p) : turnF n p = p := by unfold turnF; split <;> omega
theorem okN_conj {n : Nat} {S : Simp} (h : okN n S) : okN n (conjS n S) := by
  refine ⟨⟨fun p => ?_, fun p => ?_⟩, fun p => ⟨fun hp => ⟨?_, ?_⟩, fun hp => ⟨?_, ?_⟩⟩⟩
  · show turnF n (S.2 (turnF n (turnF n (S.1 (turnF n p))))) = p; rw [turnF_turnF, h.1.1, turnF_turnF]
  · show turnF n (S.1 (turnF n (turnF n (S.2 (turnF n p))))) = p; rw [turnF_turnF, h.1.2, turnF_turnF]
  · exact turnF_lt ((h.2 _).1 (turnF_lt hp)).1
  · exact turnF_lt ((h.2 _).1 (turnF_lt hp)).2
  · show turnF n (S.1 (turnF n p)) = p; rw [turnF_ge hp, ((h.2 p).2 hp).1, turnF_ge hp]
  · show turnF n (S.2 (turnF n p)) = p; rw [turnF_ge hp, ((h.2 p).2 hp).2, turnF_ge hp]
theorem conj_none (n : Nat) : conjS n noneS = noneS := by
  refine Prod.ext (funext fun p => ?_) (funext fun p => ?_) <;> exact turnF_turnF n p
theorem conj_turn (n : Nat) : conjS n (turnS n) = turnS n := by
  refine Prod.ext (funext fun p => ?_) (funext fun p => ?_) <;> (show turnF n (turnF n (turnF n p)) = turnF n p; rw [turnF_turnF])
theorem turn_sw {n i : Nat} (hi : i + 1 < n) (p : Nat) : turnF n (sw i p) = sw (n - 2 - i) (turnF n p) := by
  unfold turnF sw; (repeat' split) <;> omega
theorem conj_sL {n i : Nat} (hi : i + 1 < n) (S : Simp) : conjS n (sL i S) = sL (n - 2 - i) (conjS n S) := by
  refine Prod.ext (funext fun p => ?_) (funext fun p => ?_)
  · exact turn_sw hi _
  · show turnF n (S.2 (sw i (turnF n p))) = turnF n (S.2 (turnF n (sw (n - 2 - i) p)))
    rw [turn_sw (by omega), show n - 2 - (n - 2 - i) = i by omega]
theorem conj_sR {n i : Nat} (hi : i + 1 < n) (S : Simp) : conjS n (sR i S) = sR (n - 2 - i) (conjS n S) := by
  refine Prod.ext (funext fun p => ?_) (funext fun p => ?_)
  · show turnF n (S.1 (sw i (turnF n p))) = turnF n (S.1 (turnF n (sw (n - 2 - i) p)))
    rw [turn_sw (by omega), show n - 2 - (n - 2 - i) = i by omega]
  · exact turn_sw hi _
def conjR (n : Nat) (X : Rowz) : Rowz := fun a => conjS n (X a)
theorem can_conj {n i : Nat} {S T : Simp} (hi : i + 1 < n) (oS : okN n S) (oT : okN n T) (h : canz S T i) : canz (conjS n S) (conjS n T) (n - 2 - i) := by
  have a1 := ((oS.2 i).1 (by omega)).2
  have a2 := ((oS.2 (i + 1)).1 (by omega)).2
  have b1 := ((oT.2 i).1 (by omega)).1
  have b2 := ((oT.2 (i + 1)).1 (by omega)).1
  have t1 : turnF n (n - 2 - i) = i + 1 := by unfold turnF; split <;> omega
  have t2 : turnF n (n - 2 - i + 1) = i := by unfold turnF; split <;> omega
  have h1 := h.1
  have h2 := h.2
  constructor
  · show turnF n (S.2 (turnF n (n - 2 - i))) < turnF n (S.2 (turnF n (n - 2 - i + 1)))
    rw [t1, t2]; unfold turnF; (repeat' split) <;> omega
  · show turnF n (T.1 (turnF n (n - 2 - i + 1))) < turnF n (T.1 (turnF n (n - 2 - i)))
    rw [t1, t2]; unfold turnF; (repeat' split) <;> omega
theorem pass_conj {n j i : Nat} (hi : i + 1 < n) (X : Rowz) : conjR n (passz j i X) = passz j (n - 2 - i) (conjR n X) := by
  funext a
  show conjS n (passz j i X a) = _
  by_cases h1 : a = j
  · subst h1; rw [pass_j, pass_j, conj_sL hi]; rfl
  · by_cases h2 : a = j + 1
    · subst h2; rw [pass_s, pass_s, conj_sR hi]; rfl
    · rw [pass_o _ h1 h2, pass_o _ h1 h2]; rfl
theorem okN_Stp {n m : Nat} {X Y : Rowz} (h : ∀ a, okN n (X a)) (s : Stpz n m X Y) : ∀ a, okN n (Y a) := by
  obtain ⟨j, i, _, hi, _, e⟩ := s
  subst e
  exact okN_pass hi h
theorem okN_Itr {n m : Nat} : ∀ {k : Nat} {X Y : Rowz}, (∀ a, okN n (X a)) → Itr n m k X Y → ∀ a, okN n (Y a) := by
  intro k
  induction k with
  | zero => intro X Y h e; cases e; exact h
  | succ k ih => intro X Y h e; obtain ⟨Z, hZ, e⟩ := e; exact ih (okN_Stp h hZ) e
theorem Itr_conj {n m : Nat} : ∀ {k : Nat} {X Y : Rowz}, (∀ a, okN n (X a)) → Itr n m k X Y → Itr n m k (conjR n X) (conjR n Y) := by
  intro k
  induction k with
  | zero => intro X Y _ e; cases e; rfl
  | succ k ih =>
    intro X Y hX e
    obtain ⟨Z, hZ, e⟩ := e
    have oZ := okN_Stp hX hZ
    obtain ⟨j, i, hj, hi, c, eZ⟩ := hZ
    refine ⟨conjR n Z, ⟨j, n - 2 - i, hj, by omega, can_conj hi (hX j) (hX (j + 1)) c, ?_⟩, ih oZ e⟩
    rw [eZ, pass_conj hi]
theorem conj_conj {n : Nat} (S : Simp) : conjS n (conjS n S) = S := by
  refine Prod.ext (funext fun p => ?_) (funext fun p => ?_)
  · show turnF n (turnF n (S.1 (turnF n (turnF n p)))) = S.1 p; rw [turnF_turnF, turnF_turnF]
  · show turnF n (turnF n (S.2 (turnF n (turnF n p)))) = S.2 p; rw [turnF_turnF, turnF_turnF]
theorem Nrm_conj {n m : Nat} {X : Rowz} (hX : ∀ a, okN n (X a)) (h : Nrm n m X) : Nrm n m (conjR n X) := by
  intro j i hj hi c
  have := can_conj hi (okN_conj (hX j)) (okN_conj (hX (j + 1))) c
  rw [conj_conj, conj_conj] at this
  exact h j (n - 2 - i) hj (by omega) this
/-- how many pairs cross, of eight strands -/
def b01 (f : Nat → Nat) (p q : Nat) : Nat := if f q < f p then 1 else 0
def inv8 (f : Nat → Nat) : Nat :=
  b01 f 0 1 + b01 f 0 2 + b01 f 0 3 + b01 f 0 4 + b01 f 0 5 + b01 f 0 6 + b01 f 0 7 +
  b01 f 1 2 + b01 f 1 3 + b01 f 1 4 + b01 f 1 5 + b01 f 1 6 + b01 f 1 7 +
  b01 f 2 3 + b01 f 2 4 + b01 f 2 5 + b01 f 2 6 + b01 f 2 7 +
  b01 f 3 4 + b01 f 3 5 + b01 f 3 6 + b01 f 3 7 + b01 f 4 5 + b01 f 4 6 + b01 f 4 7 + b01 f 5 6 + b01 f 5 7 + b01 f 6 7
theorem b01_le (f : Nat → Nat) (p q : Nat) : b01 f p q ≤ 1 := by unfold b01; split <;> omega
theorem inv8_le (f : Nat → Nat) : inv8 f ≤ 28 := by
  unfold inv8
  have h := b01_le f
  have h1 := h 0 1; have h2 := h 0 2; have h3 := h 0 3; have h4 := h 0 4; have h5 := h 0 5; have h6 := h 0 6; have h7 := h 0 7
  have h8 := h 1 2; have h9 := h 1 3; have h10 := h 1 4; have h11 := h 1 5; have h12 := h 1 6; have h13 := h 1 7
  have h14 := h 2 3; have h15 := h 2 4; have h16 := h 2 5; have h17 := h 2 6; have h18 := h 2 7
  have h19 := h 3 4; have h20 := h 3 5; have h21 := h 3 6; have h22 := h 3 7; have h23 := h 4 5; have h24 := h 4 6; have h25 := h 4 7; have h26 := h 5 6; have h27 := h 5 7; have h28 := h 6 7
  omega
theorem b01_sw (f : Nat → Nat) (i p q : Nat) : b01 (fun x => f (sw i x)) p q = b01 f (sw i p) (sw i q) := rfl
theorem inv8_sw {f : Nat → Nat} {i : Nat} (hi : i < 7) (h : f (i + 1) < f i) : inv8 (fun x => f (sw i x)) + 1 = inv8 f := by
  have h1 : b01 f i (i + 1) = 1 := by unfold b01; rw [if_pos h]
  have h2 : b01 f (i + 1) i = 0 := by unfold b01; rw [if_neg (by omega)]
  unfold inv8
  simp only [b01_sw]
  match i, hi with
  | 0, _ => simp only [sw, Nat.reduceAdd, Nat.reduceEqDiff, if_true, if_false] at *; omega
  | 1, _ => simp only [sw, Nat.reduceAdd, Nat.reduceEqDiff, if_true, if_false] at *; omega
  | 2, _ => simp only [sw, Nat.reduceAdd, Nat.reduceEqDiff, if_true, if_false] at *; omega
  | 3, _ => simp only [sw, Nat.reduceAdd, Nat.reduceEqDiff, if_true, if_false] at *; omega
  | 4, _ => simp only [sw, Nat.reduceAdd, Nat.reduceEqDiff, if_true, if_false] at *; omega
  | 5, _ => simp only [sw, Nat.reduceAdd, Nat.reduceEqDiff, if_true, if_false] at *; omega
  | 6, _ => simp only [sw, Nat.reduceAdd, Nat.reduceEqDiff, if_true, if_false] at *; omega
theorem At_inv {n j : Nat} (hn : n ≤ 8) : ∀ {k : Nat} {X Y : Rowz}, Atz n j k X Y → inv8 (Y (j + 1)).1 + k = inv8 (X (j + 1)).1 := by
  intro k
  induction k with
  | zero => intro X Y e; cases e; rfl
  | succ k ih =>
    intro X Y e
    obtain ⟨i, hi, c, e⟩ := e
    have h1 := ih e
    rw [pass_s] at h1
    have h2 := inv8_sw (f := (X (j + 1)).1) (i := i) (by omega) c.2
    have h3 : inv8 (sR i (X (j + 1))).1 = inv8 (fun x => (X (j + 1)).1 (sw i x)) := rfl
    omega
/-- what grows and stays below n is nothing but itself -/
theorem mono_id {n : Nat} {f : Nat → Nat} (h1 : ∀ p, p < n → f p < n) (h2 : ∀ p, p + 1 < n → f p < f (p + 1)) : ∀ p, p < n → f p = p := by
  have lo : ∀ p, p < n → p ≤ f p := by
    intro p
    induction p with
    | zero => intro _; omega
    | succ p ih => intro h; have := ih (by omega); have := h2 p h; omega
  have hi : ∀ d p, p < n → n - 1 - p = d → f p ≤ p := by
    intro d
    induction d with
    | zero => intro p h e; have := h1 p h; omega
    | succ d ih => intro p h e; have := ih (p + 1) (by omega) (by omega); have := h2 p (by omega); omega
  intro p h
  have := lo p h
  have := hi _ p h rfl
  omega
theorem simp_ext {S T : Simp} (oS : okS S) (oT : okS T) (h : ∀ p, S.1 p = T.1 p) : S = T := by
  have e : S.1 = T.1 := funext h
  refine Prod.ext e (funext fun p => ?_)
  have : S.1 (S.2 p) = S.1 (T.2 p) := by rw [oS.2, e, oT.2]
  exact inv1 oS this
/-- NONE takes all that stands behind it -/
theorem At_none {n j : Nat} (hn : n ≤ 8) : ∀ (d : Nat) {X : Rowz}, (∀ a, okN n (X a)) → inv8 (X (j + 1)).1 = d → (∀ p q, p < q → (X j).1 q < (X j).1 p → (X (j + 1)).1 ((X j).1 q) < (X (j + 1)).1 ((X j).1 p)) →
    ∃ k Y, Atz n j k X Y ∧ Y (j + 1) = noneS ∧ (∀ p, (Y j).1 p = (X (j + 1)).1 ((X j).1 p)) := by
  intro d
  induction d using Nat.strongRecOn with
  | _ d ih =>
    intro X hX hd hadd
    by_cases hc : ∃ i, i + 1 < n ∧ (X (j + 1)).1 (i + 1) < (X (j + 1)).1 i
    · obtain ⟨i, hi, hx⟩ := hc
      have oj := (hX j).1
      have c : canz (X j) (X (j + 1)) i := by
        refine ⟨?_, hx⟩
        rcases Nat.lt_trichotomy ((X j).2 i) ((X j).2 (i + 1)) with w | w | w
        · exact w
        · have := inv2 oj w; omega
        · have := hadd _ _ w (by rw [oj.2, oj.2]; omega)
          rw [oj.2, oj.2] at this; omega
      have hat : Atz n j 1 X (passz j i X) := ⟨i, hi, c, rfl⟩
      have h1 := At_inv hn hat
      obtain ⟨k, Y, h2, h3, h4⟩ := ih (inv8 (passz j i X (j + 1)).1) (by omega) (okN_pass hi hX) rfl (by
        intro p q hpq hl
        have C1 := At_C hat p; have C2 := At_C hat q
        rw [C1, C2]
        by_cases hb : (X j).1 q < (X j).1 p
        · exact hadd p q hpq hb
        · rw [pass_j] at hl
          have hl : sw i ((X j).1 q) < sw i ((X j).1 p) := hl
          have ne : ¬ (X j).1 p = (X j).1 q := fun w => by have := inv1 oj w; omega
          have : (X j).1 p = i ∧ (X j).1 q = i + 1 := by
            unfold sw at hl
            revert hl
            (repeat' split) <;> intro hl <;> omega
          rw [this.1, this.2]; exact hx)
      refine ⟨k + 1, Y, ⟨i, hi, c, h2⟩, h3, fun p => ?_⟩
      rw [h4 p, At_C hat p]
    · refine ⟨0, X, rfl, ?_, ?_⟩
      · have hid := mono_id (f := (X (j + 1)).1) (n := n) (fun p hp => (((hX (j + 1)).2 p).1 hp).1) (fun p hp => by
          rcases Nat.lt_trichotomy ((X (j + 1)).1 p) ((X (j + 1)).1 (p + 1)) with w | w | w
          · exact w
          · have := inv1 (hX (j + 1)).1 w; omega
          · exact absurd ⟨p, hp, w⟩ hc)
        refine simp_ext (hX (j + 1)).1 (okN_none n).1 (fun p => ?_)
        show _ = p
        rcases Nat.lt_or_ge p n with w | w
        · exact hid p w
        · exact (((hX (j + 1)).2 p).2 w).1
      · intro p
        have hid := mono_id (f := (X (j + 1)).1) (n := n) (fun p hp => (((hX (j + 1)).2 p).1 hp).1) (fun p hp => by
          rcases Nat.lt_trichotomy ((X (j + 1)).1 p) ((X (j + 1)).1 (p + 1)) with w | w | w
          · exact w
          · have := inv1 (hX (j + 1)).1 w; omega
          · exact absurd ⟨p, hp, w⟩ hc)
        rcases Nat.lt_or_ge ((X j).1 p) n with w | w
        · exact (hid _ w).symm
        · exact ((((hX (j + 1)).2 _).2 w).1).symm
