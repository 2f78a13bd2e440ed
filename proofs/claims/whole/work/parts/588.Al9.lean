theorem fmx2 (fl : Nat) (arA : Nat → Int) (n : Int) (sgA pl : Nat → Int) : ∀ (r nn i : Nat) (hi lo : Nat → Int), i + r = 200 → r < nn → (∀ q, q < i → hi q = 0 ∧ lo q = 0) → ∃ hi' lo', LB_Md_findMatrix_2 fl arA n sgA pl nn (i : Int) hi lo = LB_Md_findMatrix_31 fl arA n sgA pl fl 0 hi' lo' ∧ ∀ q, q < 200 → hi' q = 0 ∧ lo' q = 0 := by
  intro r
  induction r with
  | zero =>
    intro nn i hi lo hr hnn hz
    obtain ⟨nn, rfl⟩ : ∃ r, nn = r + 1 := ⟨nn - 1, by omega⟩
    rw [LB_Md_findMatrix_2, if_pos (by omega)]
    exact ⟨hi, lo, rfl, fun q hq => hz q (by omega)⟩
  | succ r ih =>
    intro nn i hi lo hr hnn hz
    obtain ⟨nn, rfl⟩ : ∃ r, nn = r + 1 := ⟨nn - 1, by omega⟩
    rw [LB_Md_findMatrix_2, if_neg (by omega), if_pos (by omega), if_pos (by omega), Int.toNat_natCast, show ((i : Int) + 1) = ((i + 1 : Nat) : Int) by omega]
    refine ih nn (i + 1) _ _ (by omega) (by omega) (fun q hq => ?_)
    by_cases c : q = i
    · rw [c, up_eq, up_eq]; exact ⟨rfl, rfl⟩
    · rw [up_ne _ _ c, up_ne _ _ c]; exact hz q (by omega)
/-- one row of the matrix -/
theorem row_up {c x y z : Nat} {hi lo : Nat → Int} (h0 : ∀ j, j < 20 → hi (20 * c + j) = 0 ∧ lo (20 * c + j) = 0) (hx : x < 20) (hy : y < 20) (hz : z < 20) :
    (∀ j, j < 20 → up (up hi (20 * c + x) 1) (20 * c + z) (up hi (20 * c + x) 1 (20 * c + z) - 1) (20 * c + j) = ind j x - ind j z) ∧
    (∀ j, j < 20 → up (up lo (20 * c + y) (-1)) (20 * c + z) (up lo (20 * c + y) (-1) (20 * c + z) + 1) (20 * c + j) = ind j z - ind j y) := by
  refine ⟨fun j hj => ?_, fun j hj => ?_⟩
  · unfold up ind
    have a := (h0 j hj).1
    have b := (h0 z hz).1
    (repeat' split) <;> omega
  · unfold up ind
    have a := (h0 j hj).2
    have b := (h0 z hz).2
    (repeat' split) <;> omega
section
variable {nm fr to at_ : Nat → Int}
theorem fmx31 (fl : Nat) {d : Dg} (hE : EdgA d.1 d.2.2.2 d.2.2.1 nm fr to at_) (hn : d.1 ≤ 10) (hs1 : ∀ c, c < d.1 → d.2.2.2 c = 1 ∨ d.2.2.2 c = -1) (hA : arcN d.1 fr to at_ ≤ 20) {sgA ar pl : Nat → Int} (hs : like d.1 sgA d.2.2.2) (ha : like (2 * d.1) ar (arcA d.1 fr to at_)) (hp : ∀ q, q < 4 * d.1 → pl q = at_ q) :
    ∀ (r nn c : Nat) (hi lo : Nat → Int), c + r = d.1 → r < nn → (∀ c', c' < c → ∀ j, j < 20 → hi (20 * c' + j) = mHi d.2.2.2 (arcQ d.1 fr to at_) c' j ∧ lo (20 * c' + j) = mLo d.2.2.2 (arcQ d.1 fr to at_) c' j) → (∀ c', c ≤ c' → c' < 10 → ∀ j, j < 20 → hi (20 * c' + j) = 0 ∧ lo (20 * c' + j) = 0) →
    ∃ hi' lo', LB_Md_findMatrix_31 fl ar (d.1 : Int) sgA pl nn (c : Int) hi lo = some (hi', lo') ∧ ∀ c', c' < d.1 → ∀ j, j < 20 → hi' (20 * c' + j) = mHi d.2.2.2 (arcQ d.1 fr to at_) c' j ∧ lo' (20 * c' + j) = mLo d.2.2.2 (arcQ d.1 fr to at_) c' j := by
  have hAr : ∀ q, q < 4 * d.1 → 0 ≤ pl q ∧ pl q < 48 ∧ ar (pl q).toNat = (arcQ d.1 fr to at_ q : Int) ∧ arcQ d.1 fr to at_ q < 20 := fun q hq => by
    obtain ⟨e, e1, e2, _⟩ := Edg_at hE hq
    have := arcQ_ok hE hq
    rw [hp q hq, ha _ (by rw [e2, Int.toNat_natCast]; exact e1), this.1]
    exact ⟨by omega, by omega, rfl, by omega⟩
  intro r
  induction r with
  | zero =>
    intro nn c hi lo hr hnn h1 h2
    obtain ⟨nn, rfl⟩ : ∃ r, nn = r + 1 := ⟨nn - 1, by omega⟩
    rw [LB_Md_findMatrix_31, if_pos (by omega)]
    exact ⟨hi, lo, rfl, fun c' hc' => h1 c' (by omega)⟩
  | succ r ih =>
    intro nn c hi lo hr hnn h1 h2
    obtain ⟨nn, rfl⟩ : ∃ r, nn = r + 1 := ⟨nn - 1, by omega⟩
    obtain ⟨w1, w2, w3, v3⟩ := hAr (4 * c) (by omega)
    obtain ⟨w4, w5, w6, v6⟩ := hAr (4 * c + 2) (by omega)
    obtain ⟨w7, w8, w9, v9⟩ := hAr (4 * c + 1) (by omega)
    have t0 : Int.toNat (4 * (c : Int)) = 4 * c := by omega
    have t2 : Int.toNat (4 * (c : Int) + 2) = 4 * c + 2 := by omega
    have t1 : Int.toNat (4 * (c : Int) + 1) = 4 * c + 1 := by omega
    have hc0 := h2 c (Nat.le_refl _) (by omega)
    rw [LB_Md_findMatrix_31, if_neg (by omega), t0, t2, t1, Int.toNat_natCast, if_pos (by omega), if_pos ⟨w1, w2⟩, if_pos (by omega), if_pos ⟨w4, w5⟩, if_pos (by omega), if_pos ⟨w7, w8⟩, if_pos (by omega), w3, w6, w9, hs c (by omega)]
    have go : ∀ x y : Nat, x < 20 → y < 20 → (if d.2.2.2 c ≤ 0 then arcQ d.1 fr to at_ (4 * c + 2) else arcQ d.1 fr to at_ (4 * c)) = x → (if d.2.2.2 c ≤ 0 then arcQ d.1 fr to at_ (4 * c) else arcQ d.1 fr to at_ (4 * c + 2)) = y → ∀ (X4 X5 : Int),
        ∃ hi' lo', LB_Md_findMatrix_147 fl ar (d.1 : Int) sgA pl (LB_Md_findMatrix_31 fl ar (d.1 : Int) sgA pl nn) (y : Int) (20 * (c : Int)) (c : Int) X4 X5 (arcQ d.1 fr to at_ (4 * c + 1) : Int) (up hi (20 * c + x) 1) lo = some (hi', lo') ∧ ∀ c', c' < d.1 → ∀ j, j < 20 → hi' (20 * c' + j) = mHi d.2.2.2 (arcQ d.1 fr to at_) c' j ∧ lo' (20 * c' + j) = mLo d.2.2.2 (arcQ d.1 fr to at_) c' j := fun x y hx hy ex ey X4 X5 => by
      unfold LB_Md_findMatrix_147
      have s1 : Int.toNat (20 * (c : Int) + (y : Int)) = 20 * c + y := by omega
      have s2 : Int.toNat (20 * (c : Int) + (arcQ d.1 fr to at_ (4 * c + 1) : Int)) = 20 * c + arcQ d.1 fr to at_ (4 * c + 1) := by omega
      rw [s1, s2, (hc0 y hy).2]
      have bh : -5 ≤ up hi (20 * c + x) 1 (20 * c + arcQ d.1 fr to at_ (4 * c + 1)) ∧ up hi (20 * c + x) 1 (20 * c + arcQ d.1 fr to at_ (4 * c + 1)) ≤ 5 := by
        have := (hc0 _ v9).1
        unfold up; split <;> omega
      have bl : -5 ≤ up lo (20 * c + y) (0 - 1) (20 * c + arcQ d.1 fr to at_ (4 * c + 1)) ∧ up lo (20 * c + y) (0 - 1) (20 * c + arcQ d.1 fr to at_ (4 * c + 1)) ≤ 5 := by
        have := (hc0 _ v9).2
        unfold up; split <;> omega
      rw [if_pos (by omega), if_pos (by omega), if_pos (by omega), if_pos (by omega), show ((c : Int) + 1) = ((c + 1 : Nat) : Int) by omega]
      obtain ⟨ru1, ru2⟩ := row_up hc0 hx hy v9
      refine ih nn (c + 1) _ _ (by omega) (by omega) (fun c' hc' j hj => ?_) (fun c' k1 k2 j hj => ?_)
      · by_cases cc : c' = c
        · subst cc
          refine ⟨(ru1 j hj).trans ?_, (ru2 j hj).trans ?_⟩
          · unfold mHi; rw [ex]
          · unfold mLo; rw [ey]
        · rw [up_ne _ _ (by omega), up_ne _ _ (by omega), up_ne _ _ (by omega), up_ne _ _ (by omega)]
          exact h1 c' (by omega) j hj
      · rw [up_ne _ _ (by omega), up_ne _ _ (by omega), up_ne _ _ (by omega), up_ne _ _ (by omega)]
        exact h2 c' (by omega) k2 j hj
    rcases hs1 c (by omega) with e | e
    · rw [e, if_neg (by decide), if_pos (by omega)]
      unfold LB_Md_findMatrix_115
      have s1 : Int.toNat (20 * (c : Int) + (arcQ d.1 fr to at_ (4 * c) : Int)) = 20 * c + arcQ d.1 fr to at_ (4 * c) := by omega
      rw [s1, (hc0 _ v3).1, Int.toNat_natCast, hs c (by omega), e, if_pos (by omega), if_pos (by omega), if_neg (by decide), if_pos (by omega)]
      exact go _ _ v3 v6 (by rw [e, if_neg (by decide)]) (by rw [e, if_neg (by decide)]) _ _
    · rw [e, if_pos (by decide), if_pos (by omega)]
      unfold LB_Md_findMatrix_115
      have s1 : Int.toNat (20 * (c : Int) + (arcQ d.1 fr to at_ (4 * c + 2) : Int)) = 20 * c + arcQ d.1 fr to at_ (4 * c + 2) := by omega
      rw [s1, (hc0 _ v6).1, Int.toNat_natCast, hs c (by omega), e, if_pos (by omega), if_pos (by omega), if_pos (by decide), if_pos (by omega)]
      exact go _ _ v6 v3 (by rw [e, if_pos (by decide)]) (by rw [e, if_pos (by decide)]) _ _
theorem M_findMatrix (fl : Nat) (hfl : 500 ≤ fl) {d : Dg} (hE : EdgA d.1 d.2.2.2 d.2.2.1 nm fr to at_) (hn : d.1 ≤ 10) (hs1 : ∀ c, c < d.1 → d.2.2.2 c = 1 ∨ d.2.2.2 c = -1) (hA : arcN d.1 fr to at_ ≤ 20) {sgA ar pl : Nat → Int} (hs : like d.1 sgA d.2.2.2) (ha : like (2 * d.1) ar (arcA d.1 fr to at_)) (hp : ∀ q, q < 4 * d.1 → pl q = at_ q) (hi lo : Nat → Int) :
    ∃ hi' lo', LM_Md_findMatrix fl ar (d.1 : Int) sgA pl hi lo = some (hi', lo') ∧ ∀ c', c' < d.1 → ∀ j, j < 20 → hi' (20 * c' + j) = mHi d.2.2.2 (arcQ d.1 fr to at_) c' j ∧ lo' (20 * c' + j) = mLo d.2.2.2 (arcQ d.1 fr to at_) c' j := by
  unfold LM_Md_findMatrix LB_Md_findMatrix_0
  obtain ⟨h1, l1, e1, z⟩ := fmx2 fl ar (d.1 : Int) sgA pl 200 fl 0 hi lo (by omega) (by omega) (fun q hq => by omega)
  have e1 : LB_Md_findMatrix_2 fl ar (d.1 : Int) sgA pl fl 0 hi lo = _ := e1
  rw [e1]
  exact fmx31 fl hE hn hs1 hA hs ha hp d.1 fl 0 h1 l1 (by omega) (by omega) (fun c' hc' => by omega) (fun c' _ hc' j hj => z _ (by omega))
end
