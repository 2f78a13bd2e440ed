/-- the reference's rows: place p (from 1 on) of the simple braid j at 9 j + p -/
def Jmg (n m : Nat) (si : Nat → Int) (X : Rowz) : Prop := ∀ j p, j < m → p < n → si (9 * j + (p + 1)) = ((X j).1 p : Int) + 1
theorem ca (fl : Nat) {n m j i : Nat} (hn : n ≤ 8) (hj : j < m) (hm : m ≤ 21) (hi : i + 1 < n) {si : Nat → Int} {X : Rowz} (h : Jmg n m si X) :
    LM_Md_crossAbove fl si (j : Int) (((i + 1 : Nat)) : Int) = some (if (X j).1 (i + 1) < (X j).1 i then 1 else 0) := by
  unfold LM_Md_crossAbove LB_Md_crossAbove_0
  have e1 : Int.toNat (9 * (j : Int) + ((i + 1 : Nat) : Int)) = 9 * j + (i + 1) := by omega
  have e2 : Int.toNat (9 * (j : Int) + ((i + 1 : Nat) : Int) + 1) = 9 * j + (i + 1 + 1) := by omega
  rw [if_pos (by omega), if_pos (by omega), if_pos (by omega), e1, e2, h j i hj (by omega), h j (i + 1) hj hi]
  by_cases q : (X j).1 (i + 1) < (X j).1 i
  · rw [if_neg (by omega), if_pos q]
  · rw [if_pos (by omega), if_neg q]
theorem cb8 (fl : Nat) {n m j i : Nat} (hn : n ≤ 8) (hj : j < m) (hm : m ≤ 21) (hi : i + 1 < n) {si : Nat → Int} {X : Rowz} (o : okN n (X j)) (h : Jmg n m si X) :
    ∀ (d nn p : Nat) (x3 x4 : Int), p + d = n → d < nn → x3 = (if (X j).2 i < p then ((X j).2 i : Int) + 1 else 0) → x4 = (if (X j).2 (i + 1) < p then ((X j).2 (i + 1) : Int) + 1 else 0) →
    LB_Md_crossBelow_8 fl (n : Int) si nn (j : Int) ((i + 1 : Nat) : Int) x3 x4 ((p + 1 : Nat) : Int) = some (if (X j).2 (i + 1) < (X j).2 i then 1 else 0) := by
  intro d
  have b1 := ((o.2 i).1 (by omega)).2
  have b2 := ((o.2 (i + 1)).1 hi).2
  induction d with
  | zero =>
    intro nn p x3 x4 hd hnn h3 h4
    obtain ⟨nn, rfl⟩ : ∃ r, nn = r + 1 := ⟨nn - 1, by omega⟩
    rw [if_pos (by omega)] at h3 h4
    rw [LB_Md_crossBelow_8, if_pos (by omega)]
    by_cases q : (X j).2 (i + 1) < (X j).2 i
    · rw [if_neg (by omega), if_pos q]
    · rw [if_pos (by omega), if_neg q]
  | succ d ih =>
    intro nn p x3 x4 hd hnn h3 h4
    obtain ⟨nn, rfl⟩ : ∃ r, nn = r + 1 := ⟨nn - 1, by omega⟩
    have e1 : Int.toNat (9 * (j : Int) + ((p + 1 : Nat) : Int)) = 9 * j + (p + 1) := by omega
    have f1 : (X j).1 p = i ↔ p = (X j).2 i := ⟨fun w => by rw [← w, o.1.1], fun w => by rw [w, o.1.2]⟩
    have f2 : (X j).1 p = i + 1 ↔ p = (X j).2 (i + 1) := ⟨fun w => by rw [← w, o.1.1], fun w => by rw [w, o.1.2]⟩
    unfold LB_Md_crossBelow_8 LB_Md_crossBelow_39 LB_Md_crossBelow_65
    rw [if_neg (by omega), if_pos (by omega), if_pos (by omega), e1, h j p hj (by omega)]
    have fin : ∀ (y3 y4 : Int), y3 = (if (X j).2 i < p + 1 then ((X j).2 i : Int) + 1 else 0) → y4 = (if (X j).2 (i + 1) < p + 1 then ((X j).2 (i + 1) : Int) + 1 else 0) → LB_Md_crossBelow_8 fl (n : Int) si nn (j : Int) ((i + 1 : Nat) : Int) y3 y4 (((p + 1 : Nat) : Int) + 1) = some (if (X j).2 (i + 1) < (X j).2 i then 1 else 0) := fun y3 y4 h1 h2 => by
      rw [show (((p + 1 : Nat) : Int) + 1) = ((p + 1 + 1 : Nat) : Int) by omega]
      exact ih nn (p + 1) y3 y4 (by omega) (by omega) h1 h2
    by_cases q1 : (X j).1 p = i
    · rw [if_neg (by omega)]
      rw [if_pos (by omega), if_pos (by omega), if_pos (by omega), if_pos (by omega), if_pos (by omega)]
      refine fin _ _ ?_ ?_
      · rw [if_pos (by omega)]; omega
      · rw [h4]; split <;> split <;> omega
    · rw [if_pos (by omega)]
      rw [if_pos (by omega), if_pos (by omega), if_pos (by omega)]
      by_cases q2 : (X j).1 p = i + 1
      · rw [if_neg (by omega), if_pos (by omega)]
        refine fin _ _ ?_ ?_
        · rw [h3]; split <;> split <;> omega
        · rw [if_pos (by omega)]; omega
      · rw [if_pos (by omega), if_pos (by omega)]
        refine fin _ _ ?_ ?_
        · rw [h3]; split <;> split <;> omega
        · rw [h4]; split <;> split <;> omega
theorem cb (fl : Nat) {n m j i : Nat} (hn : n ≤ 8) (hj : j < m) (hm : m ≤ 21) (hfl : 100 ≤ fl) (hi : i + 1 < n) {si : Nat → Int} {X : Rowz} (o : okN n (X j)) (h : Jmg n m si X) :
    LM_Md_crossBelow fl (n : Int) si (j : Int) ((i + 1 : Nat) : Int) = some (if (X j).2 (i + 1) < (X j).2 i then 1 else 0) := by
  unfold LM_Md_crossBelow LB_Md_crossBelow_0
  exact cb8 fl hn hj hm hi o h n fl 0 0 0 (by omega) (by omega) (by rw [if_neg (by omega)]) (by rw [if_neg (by omega)])
theorem ps2 (fl : Nat) {n m j i : Nat} (hn : n ≤ 8) (hj : j + 1 < m) (hm : m ≤ 21) (hi : i + 1 < n) {X : Rowz} :
    ∀ (d nn p : Nat) (si : Nat → Int), p + d = n → d < nn → (∀ a q, a < m → q < n → a ≠ j → si (9 * a + (q + 1)) = ((X a).1 q : Int) + 1) → (∀ q, q < n → si (9 * j + (q + 1)) = if q < p then ((sw i ((X j).1 q) : Nat) : Int) + 1 else ((X j).1 q : Int) + 1) →
    ∃ si', LB_Md_pass_2 fl (n : Int) nn ((j + 1 : Nat) : Int) ((i + 1 : Nat) : Int) ((p + 1 : Nat) : Int) si = some si' ∧ Jmg n m si' (passz j i X) := by
  intro d
  induction d with
  | zero =>
    intro nn p si hd hnn h1 h2
    obtain ⟨nn, rfl⟩ : ∃ r, nn = r + 1 := ⟨nn - 1, by omega⟩
    have e1 : Int.toNat (9 * ((j + 1 : Nat) : Int) + ((i + 1 : Nat) : Int)) = 9 * (j + 1) + (i + 1) := by omega
    have e2 : Int.toNat (9 * ((j + 1 : Nat) : Int) + ((i + 1 : Nat) : Int) + 1) = 9 * (j + 1) + (i + 1 + 1) := by omega
    rw [LB_Md_pass_2, if_pos (by omega), if_pos (by omega), if_pos (by omega), if_pos (by omega), e1, e2]
    refine ⟨_, rfl, ?_⟩
    intro a q ha hq
    by_cases a1 : a = j
    · subst a1
      rw [pass_j, up_ne _ _ (by omega), up_ne _ _ (by omega), h2 q hq, if_pos (by omega)]; rfl
    · by_cases a2 : a = j + 1
      · subst a2
        rw [pass_s]
        show _ = (((X (j + 1)).1 (sw i q) : Nat) : Int) + 1
        by_cases q1 : q = i
        · subst q1; rw [up_ne _ _ (by omega), up_eq, h1 _ _ ha hi (by omega), sw_i]
        · by_cases q2 : q = i + 1
          · subst q2; rw [up_eq, h1 _ _ ha (by omega) (by omega), sw_s]
          · rw [up_ne _ _ (by omega), up_ne _ _ (by omega), sw_o q1 q2, h1 _ _ ha hq (by omega)]
      · rw [pass_o _ a1 a2, up_ne _ _ (by omega), up_ne _ _ (by omega), h1 a q ha hq a1]
  | succ d ih =>
    intro nn p si hd hnn h1 h2
    obtain ⟨nn, rfl⟩ : ∃ r, nn = r + 1 := ⟨nn - 1, by omega⟩
    have e1 : Int.toNat (9 * ((j + 1 : Nat) : Int) - 9 + ((p + 1 : Nat) : Int)) = 9 * j + (p + 1) := by omega
    have r := h2 p (by omega)
    rw [if_neg (by omega)] at r
    unfold LB_Md_pass_2 LB_Md_pass_65
    rw [if_neg (by omega), if_pos (by omega), if_pos (by omega), e1, r]
    have fin : ∀ v : Int, v = ((sw i ((X j).1 p) : Nat) : Int) + 1 → ∃ si', LB_Md_pass_2 fl (n : Int) nn ((j + 1 : Nat) : Int) ((i + 1 : Nat) : Int) (((p + 1 : Nat) : Int) + 1) (up si (9 * j + (p + 1)) v) = some si' ∧ Jmg n m si' (passz j i X) := fun v hv => by
      rw [show (((p + 1 : Nat) : Int) + 1) = ((p + 1 + 1 : Nat) : Int) by omega]
      refine ih nn (p + 1) _ (by omega) (by omega) ?_ ?_
      · intro a q ha hq a1
        rw [up_ne _ _ (by omega)]; exact h1 a q ha hq a1
      · intro q hq
        by_cases q1 : q = p
        · subst q1; rw [up_eq, if_pos (by omega), hv]
        · rw [up_ne _ _ (by omega), h2 q hq]
          by_cases q2 : q < p
          · rw [if_pos q2, if_pos (by omega)]
          · rw [if_neg q2, if_neg (by omega)]
    by_cases c1 : (X j).1 p = i
    · rw [if_neg (by omega), if_pos (by omega), if_pos (by omega), if_pos (by omega)]
      exact fin _ (by rw [c1, sw_i] <;> omega)
    · rw [if_pos (by omega), if_pos (by omega)]
      by_cases c2 : (X j).1 p = i + 1
      · rw [if_neg (by omega), if_pos (by omega), if_pos (by omega)]
        exact fin _ (by rw [c2, sw_s]; omega)
      · rw [if_pos (by omega), if_pos (by omega), if_pos (by omega)]
        exact fin _ (by rw [sw_o c1 c2])
theorem psz (fl : Nat) {n m j i : Nat} (hn : n ≤ 8) (hj : j + 1 < m) (hm : m ≤ 21) (hfl : 100 ≤ fl) (hi : i + 1 < n) {X : Rowz} {si : Nat → Int} (h : Jmg n m si X) :
    ∃ si', LM_Md_pass fl (n : Int) ((j + 1 : Nat) : Int) ((i + 1 : Nat) : Int) si = some si' ∧ Jmg n m si' (passz j i X) := by
  unfold LM_Md_pass LB_Md_pass_0
  exact ps2 fl hn hj hm hi n fl 0 si (by omega) (by omega) (fun a q ha hq _ => h a q ha hq) (fun q hq => by rw [if_neg (by omega)]; exact h j q (by omega) hq)
