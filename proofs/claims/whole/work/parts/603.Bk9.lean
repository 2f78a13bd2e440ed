/-- the Jones polynomial's coefficients -/
def jnP (b : Int → Int) (w e : Int) : Int := if w % 2 = 0 then b (e + 3 * w) else -(b (e + 3 * w))
section
variable {n : Nat} {pl : Nat → Int}
theorem jo75 (fl : Nat) (E dn ci : Int) (sgA : Nat → Int) (w : Int) (ot rt wy : Nat → Int) : ∀ (r nn i : Nat) (po : Nat → Int), i + r = 201 → r < nn → (∀ k, k < i → po k = ot k) → ∃ po', LB_Md_jones_75 fl E dn ci sgA pl nn w (i : Int) ot po rt wy = some (ot, po', rt, wy) ∧ ∀ k, k < 201 → po' k = ot k := by
  intro r
  induction r with
  | zero =>
    intro nn i po hr hnn h
    obtain ⟨nn, rfl⟩ : ∃ r, nn = r + 1 := ⟨nn - 1, by omega⟩
    rw [LB_Md_jones_75, if_pos (by omega)]
    exact ⟨po, rfl, fun k hk => h k (by omega)⟩
  | succ r ih =>
    intro nn i po hr hnn h
    obtain ⟨nn, rfl⟩ : ∃ r, nn = r + 1 := ⟨nn - 1, by omega⟩
    rw [LB_Md_jones_75, if_neg (by omega), if_pos (by omega), if_pos (by omega), Int.toNat_natCast, show ((i : Int) + 1) = ((i + 1 : Nat) : Int) by omega]
    exact ih nn (i + 1) _ (by omega) (by omega) (fun k hk => by
      by_cases c : k = i
      · rw [c, up_eq]
      · rw [up_ne _ _ c]; exact h k (by omega))
theorem jo11 (fl : Nat) (E dn ci : Int) (sgA : Nat → Int) {w : Int} (hw : -10 ≤ w ∧ w ≤ 10) {b : Int → Int} (hb : ∀ e : Int, 66 < e ∨ e < -66 → b e = 0) (po rt wy : Nat → Int) (hpo : ∀ i, i < 201 → po i = b ((i : Int) - 100)) (bp : ∀ i, i < 201 → -1000000000000000 ≤ po i ∧ po i ≤ 1000000000000000) :
    ∀ (r nn i : Nat) (ot : Nat → Int), i + r = 201 → r < nn → (∀ k, k < i → ot k = jnP b w ((k : Int) - 100)) → ∃ ot', LB_Md_jones_11 fl E dn ci sgA pl nn w (i : Int) ot po rt wy = LB_Md_jones_75 fl E dn ci sgA pl fl w 0 ot' po rt wy ∧ ∀ k, k < 201 → ot' k = jnP b w ((k : Int) - 100) := by
  intro r
  induction r with
  | zero =>
    intro nn i ot hr hnn h
    obtain ⟨nn, rfl⟩ : ∃ r, nn = r + 1 := ⟨nn - 1, by omega⟩
    rw [LB_Md_jones_11, if_pos (by omega)]
    exact ⟨ot, rfl, fun k hk => h k (by omega)⟩
  | succ r ih =>
    intro nn i ot hr hnn h
    obtain ⟨nn, rfl⟩ : ∃ r, nn = r + 1 := ⟨nn - 1, by omega⟩
    have go : ∀ (v x3 : Int), v = b ((i : Int) - 100 + 3 * w) → (-1000000000000000 ≤ v ∧ v ≤ 1000000000000000) → ∃ ot', LB_Md_jones_45 fl E dn ci sgA pl (LB_Md_jones_11 fl E dn ci sgA pl nn) v w (i : Int) x3 ot po rt wy = LB_Md_jones_75 fl E dn ci sgA pl fl w 0 ot' po rt wy ∧ ∀ k, k < 201 → ot' k = jnP b w ((k : Int) - 100) := fun v x3 hv bv => by
      have tm : (Int.tmod w 2 = 0) ↔ w % 2 = 0 := ⟨fun q => by have := Int.dvd_of_tmod_eq_zero q; omega, fun q => Int.tmod_eq_zero_of_dvd (by omega)⟩
      have fin : ∀ u : Int, u = jnP b w ((i : Int) - 100) → ∀ x4 : Int, ∃ ot', LB_Md_jones_66 fl E dn ci sgA pl (LB_Md_jones_11 fl E dn ci sgA pl nn) u (i : Int) w (i : Int) x3 x4 ot po rt wy = LB_Md_jones_75 fl E dn ci sgA pl fl w 0 ot' po rt wy ∧ ∀ k, k < 201 → ot' k = jnP b w ((k : Int) - 100) := fun u hu x4 => by
        unfold LB_Md_jones_66
        rw [if_pos (by omega), if_pos (by omega), Int.toNat_natCast, show ((i : Int) + 1) = ((i + 1 : Nat) : Int) by omega]
        exact ih nn (i + 1) _ (by omega) (by omega) (fun k hk => by
          by_cases c : k = i
          · rw [c, up_eq, hu]
          · rw [up_ne _ _ c]; exact h k (by omega))
      unfold LB_Md_jones_45
      rw [if_pos (by decide)]
      by_cases c : w % 2 = 0
      · rw [if_neg (fun q => q (tm.2 c))]
        exact fin v (by unfold jnP; rw [if_pos c, hv]) v
      · rw [if_pos (fun q => c (tm.1 q)), if_pos (by omega)]
        exact fin (-v) (by unfold jnP; rw [if_neg c, hv]) v
    rw [LB_Md_jones_11, if_neg (by omega), if_pos (by omega)]
    by_cases c1 : (i : Int) + 3 * w < 0
    · rw [if_pos c1]
      unfold LB_Md_jones_35
      exact go 0 _ (hb _ (by omega)).symm (by omega)
    · rw [if_neg c1]
      by_cases c2 : (i : Int) + 3 * w ≤ 200
      · obtain ⟨j, hj⟩ : ∃ j : Nat, (i : Int) + 3 * w = (j : Int) := ⟨((i : Int) + 3 * w).toNat, by omega⟩
        rw [if_pos c2, if_pos (by omega), hj, Int.toNat_natCast]
        exact go (po j) _ (by rw [hpo j (by omega)]; congr 1; omega) (bp j (by omega))
      · rw [if_neg c2]
        unfold LB_Md_jones_35
        exact go 0 _ (hb _ (by omega)).symm (by omega)
variable {ed : Nat → Nat}
theorem M_jones (fl : Nat) (hfl : 2000 ≤ fl) (hn : n ≤ 10) (hpl : ∀ q, q < 4 * n → pl q = (ed q : Int) ∧ ed q < 2 * n) {μ : Nat → Nat} (hM : Mat (opn n 0) μ) (hC : Cls (opn n 0) μ ed (fun e => e)) {ci : Nat} (hci : ci ≤ 9) {sgA : Nat → Int} (hs : ∀ c, c < n → sgA c = 1 ∨ sgA c = -1) (ot po rt wy : Nat → Int) :
    ∃ ot' po' rt' wy', LM_Md_jones fl ((2 * n : Nat) : Int) (n : Int) (ci : Int) sgA pl ot po rt wy = some (ot', po', rt', wy') ∧ PolM po' (jnP (brP n μ ci) (sgs sgA n)) := by
  have bs := sgs_b n hs
  obtain ⟨p1, r1, w1, k1, k2, k3⟩ := M_bracket fl hfl hn hpl hM hC hci po rt wy
  unfold LM_Md_jones LB_Md_jones_0
  rw [k1, Option.bind_some, (CM_signs fl (by omega) (by omega) hs).2, Option.bind_some]
  obtain ⟨o1, l1, l2⟩ := jo11 (pl := pl) fl ((2 * n : Nat) : Int) (n : Int) (ci : Int) sgA (w := sgs sgA n) (by omega) (b := brP n μ ci) (fun e he => brP_far hn hci he) p1 r1 w1 k2 k3 201 fl 0 ot (by omega) (by omega) (fun k hk => by omega)
  obtain ⟨p2, m1, m2⟩ := jo75 (pl := pl) fl ((2 * n : Nat) : Int) (n : Int) (ci : Int) sgA (sgs sgA n) o1 r1 w1 201 fl 0 p1 (by omega) (by omega) (fun k hk => by omega)
  refine ⟨o1, p2, r1, w1, l1.trans m1, fun i hi => ?_, fun e => ?_⟩
  · rw [m2 i hi, l2 i hi]
    have key : -1000000000000000 ≤ brP n μ ci ((i : Int) - 100 + 3 * sgs sgA n) ∧ brP n μ ci ((i : Int) - 100 + 3 * sgs sgA n) ≤ 1000000000000000 := by
      by_cases c : -100 ≤ (i : Int) - 100 + 3 * sgs sgA n ∧ (i : Int) - 100 + 3 * sgs sgA n ≤ 100
      · obtain ⟨j, hj⟩ : ∃ j : Nat, (i : Int) + 3 * sgs sgA n = (j : Int) := ⟨((i : Int) + 3 * sgs sgA n).toNat, by omega⟩
        have := k3 j (by omega)
        rw [k2 j (by omega)] at this
        rw [show (i : Int) - 100 + 3 * sgs sgA n = (j : Int) - 100 by omega]
        exact this
      · rw [brP_far hn hci (by omega)]; omega
    unfold jnP
    split <;> omega
  · by_cases c : -100 ≤ e ∧ e ≤ 100
    · rw [if_pos c, m2 _ (by omega), l2 _ (by omega), show (((e + 100).toNat : Nat) : Int) - 100 = e by omega]
    · rw [if_neg c]
      unfold jnP
      rw [brP_far hn hci (by omega)]
      split <;> rfl
theorem C_frame (fl : Nat) {te : Nat → Int} {b : Int → Int} (h : PolC 0 1 te b) {w : Int} (hw : -10 ≤ w ∧ w ≤ 10) : ∃ ra si, LM_Po_timesFrame fl (-w) 0 1 = some (ra, si) ∧ PolC ra si te (jnP b w) := by
  obtain ⟨h1, h2, h3, h4⟩ := h
  have key : ∀ (s : Int), (s = 1 ∨ s = -1) → (∀ e, jnP b w e = s * b (e + 3 * w)) → PolC (0 + 3 * (-w)) s te (jnP b w) := fun s hs hj => ⟨hs, by omega, h3, fun e => by
    rw [hj, h4]
    by_cases c : (0 : Int) - 80 ≤ e + 3 * w ∧ e + 3 * w ≤ 0 + 80
    · rw [if_pos c, if_pos (by omega), Int.one_mul, show e - (0 + 3 * -w) + 80 = e + 3 * w - 0 + 80 by omega]
    · rw [if_neg c, if_neg (by omega), Int.mul_zero]⟩
  unfold LM_Po_timesFrame LB_Po_timesFrame_0
  by_cases c : w % 2 = 0
  · rw [if_pos (by omega), if_pos (by omega)]
    exact ⟨_, _, rfl, key 1 (Or.inl rfl) (fun e => by unfold jnP; rw [if_pos c]; omega)⟩
  · rw [if_neg (by omega), if_pos (by omega)]
    exact ⟨_, _, rfl, key (-1) (Or.inr rfl) (fun e => by unfold jnP; rw [if_neg c]; omega)⟩
end
