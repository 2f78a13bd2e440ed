theorem up_eq (f : Nat → Int) (k : Nat) (v : Int) : up f k v k = v := by unfold up; rw [if_pos rfl]
theorem up_at (f : Nat → Int) {k j : Nat} (v : Int) (h : j = k) : up f k v j = v := by unfold up; rw [if_pos h]
theorem up_ne (f : Nat → Int) {k j : Nat} (v : Int) (h : j ≠ k) : up f k v j = f j := by unfold up; rw [if_neg h]
/-- the class's rows: place p of the simple braid j at 8 j + p -/
def Img (n m : Nat) (im : Nat → Int) (X : Rowz) : Prop := ∀ j p, j < m → p < n → im (8 * j + p) = ((X j).1 p : Int)
theorem mvz (fl j i : Nat) (en im : Nat → Int) (hi : i + 1 < 8) (hj : j < 20) (h1 : 0 ≤ en i ∧ en i < 8) (h2 : 0 ≤ en (i + 1) ∧ en (i + 1) < 8) (h3 : en i ≠ en (i + 1)) :
    ∃ en' im', LM_Br_moveSwap fl ((8 * j : Nat) : Int) ((8 * j : Nat) + 8 : Int) (i : Int) en im = some (en', im')
      ∧ (∀ p, en' p = if p = i then en (i + 1) else if p = i + 1 then en i else en p)
      ∧ im' (8 * j + (en i).toNat) = i + 1 ∧ im' (8 * j + (en (i + 1)).toNat) = i
      ∧ im' (8 * j + 8 + i) = im (8 * j + 8 + (i + 1)) ∧ im' (8 * j + 8 + (i + 1)) = im (8 * j + 8 + i)
      ∧ (∀ q, q ≠ 8 * j + (en i).toNat → q ≠ 8 * j + (en (i + 1)).toNat → q ≠ 8 * j + 8 + i → q ≠ 8 * j + 8 + (i + 1) → im' q = im q) := by
  unfold LM_Br_moveSwap LB_Br_moveSwap_0
  have e1 : Int.toNat ((i : Int) + 1) = i + 1 := by omega
  have e2 : Int.toNat (((8 * j : Nat) : Int) + en i) = 8 * j + (en i).toNat := by omega
  have e3 : Int.toNat (((8 * j : Nat) : Int) + en (i + 1)) = 8 * j + (en (i + 1)).toNat := by omega
  have e4 : Int.toNat (((8 * j : Nat) : Int) + 8 + (i : Int)) = 8 * j + 8 + i := by omega
  have e5 : Int.toNat (((8 * j : Nat) : Int) + 8 + (i : Int) + 1) = 8 * j + 8 + (i + 1) := by omega
  simp only [Int.toNat_natCast, e1, e2, e3, e4, e5]
  repeat rw [if_pos (by omega)]
  refine ⟨_, _, rfl, ?_, ?_, ?_, ?_, ?_, ?_⟩
  · intro p
    unfold up
    (repeat' split) <;> first | rfl | omega
  · simp (disch := omega) only [up_at, up_ne]
  · simp (disch := omega) only [up_at, up_ne]
  · simp (disch := omega) only [up_at, up_ne]
  · simp (disch := omega) only [up_at, up_ne]
  · intro q q1 q2 q3 q4
    simp (disch := omega) only [up_ne]
/-- a crossing moved: the arrays are those of the row after the passz -/
theorem mv_pass (fl : Nat) {n m j i : Nat} {X : Rowz} {en im : Nat → Int} (hn : n ≤ 8) (hi : i + 1 < n) (hj : j + 1 < m) (hm : m ≤ 21) (o : ∀ a, okN n (X a)) (hen : ∀ p, p < n → en p = ((X j).2 p : Int)) (him : Img n m im X) :
    ∃ en' im', LM_Br_moveSwap fl ((8 * j : Nat) : Int) ((8 * j : Nat) + 8 : Int) (i : Int) en im = some (en', im') ∧ (∀ p, p < n → en' p = ((passz j i X j).2 p : Int)) ∧ Img n m im' (passz j i X) := by
  have a1 := hen i (by omega)
  have a2 := hen (i + 1) hi
  have b1 := (((o j).2 i).1 (by omega)).2
  have b2 := (((o j).2 (i + 1)).1 hi).2
  have ne : (X j).2 i ≠ (X j).2 (i + 1) := fun w => by have := inv2 (o j).1 w; omega
  obtain ⟨en', im', h, c1, c2, c3, c4, c5, c6⟩ := mvz fl j i en im (by omega) (by omega) (by omega) (by omega) (by omega)
  refine ⟨en', im', h, ?_, ?_⟩
  · intro p hp
    rw [c1, pass_j]
    show _ = ((X j).2 (sw i p) : Int)
    unfold sw
    by_cases p1 : p = i
    · rw [if_pos p1, if_pos p1, a2]
    · rw [if_neg p1, if_neg p1]
      by_cases p2 : p = i + 1
      · rw [if_pos p2, if_pos p2, a1]
      · rw [if_neg p2, if_neg p2, hen p hp]
  · intro k p hk hp
    have f1 : (en i).toNat = (X j).2 i := by omega
    have f2 : (en (i + 1)).toNat = (X j).2 (i + 1) := by omega
    rw [f1] at c2 c6; rw [f2] at c3 c6
    have oj := (o j).1
    by_cases k1 : k = j
    · subst k1
      rw [pass_j]
      show _ = (sw i ((X k).1 p) : Int)
      by_cases p1 : (X k).1 p = i
      · have : p = (X k).2 i := by rw [← p1, oj.1]
        subst this
        rw [c2, p1, sw_i]; omega
      · by_cases p2 : (X k).1 p = i + 1
        · have : p = (X k).2 (i + 1) := by rw [← p2, oj.1]
          subst this
          rw [c3, p2, sw_s]
        · have q1 : p ≠ (X k).2 i := fun w => p1 (by rw [w, oj.2])
          have q2 : p ≠ (X k).2 (i + 1) := fun w => p2 (by rw [w, oj.2])
          rw [sw_o p1 p2, c6 _ (by omega) (by omega) (by omega) (by omega)]
          exact him k p hk hp
    · by_cases k2 : k = j + 1
      · subst k2
        rw [pass_s]
        show _ = (((X (j + 1)).1 (sw i p) : Nat) : Int)
        have r : ∀ q, q < n → im (8 * j + 8 + q) = ((X (j + 1)).1 q : Int) := fun q hq => by
          rw [← him (j + 1) q hk hq]; congr 1
        rw [show 8 * (j + 1) + p = 8 * j + 8 + p by omega]
        by_cases p1 : p = i
        · subst p1; rw [c4, sw_i, r _ hi]
        · by_cases p2 : p = i + 1
          · subst p2; rw [c5, sw_s, r _ (by omega)]
          · rw [sw_o p1 p2, c6 _ (by omega) (by omega) (by omega) (by omega), r p hp]
      · rw [pass_o _ k1 k2, c6 _ (by omega) (by omega) (by omega) (by omega)]
        exact him k p hk hp
