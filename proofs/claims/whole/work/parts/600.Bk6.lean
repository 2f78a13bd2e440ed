section
variable {n : Nat} {pl : Nat → Int}
theorem wCt_hi {n : Nat} {μ : Nat → Nat} {ci a m st : Nat} (h : wCt n μ ci a m st ≠ 0) : m ≤ ci + 2 * n := by
  refine Classical.byContradiction (fun w => h ?_)
  refine cnt_zero (fun q _ => ?_)
  simp only [decide_eq_false_iff_not]
  intro ⟨x, _⟩
  have := cf_le n 0 (μ, ci) q
  have : cf n 0 (μ, ci) q ≤ ci + 2 * n := this
  omega
def trm (n : Nat) (μ : Nat → Nat) (ci a : Nat) (e : Int) (m : Nat) : Int := if 1 ≤ m then ((wCt n μ ci a m (2 ^ n) : Nat) : Int) * dpw (m - 1) (e - (2 * (a : Int) - (n : Int))) else 0
theorem trm_abs {n : Nat} (hn : n ≤ 10) {μ : Nat → Nat} {ci : Nat} (hci : ci ≤ 9) (a : Nat) (e : Int) (m : Nat) : (trm n μ ci a e m).natAbs ≤ 300000000000 := by
  unfold trm
  split
  · by_cases w : wCt n μ ci a m (2 ^ n) = 0
    · rw [w]; show ((0 : Int) * _).natAbs ≤ _; rw [Int.zero_mul]; decide
    · have h := wCt_hi w
      have p10 : 2 ^ n ≤ 1024 := by
        have : 2 ^ n ≤ 2 ^ 10 := Nat.pow_le_pow_right (by omega) hn
        omega
      have l := wCt_le n μ ci a m (2 ^ n)
      have d := dpw_abs (m - 1) (e - (2 * (a : Int) - (n : Int)))
      have b : 2 ^ (m - 1) ≤ 2 ^ 28 := Nat.pow_le_pow_right (by omega) (by omega)
      have d2 : (dpw (m - 1) (e - (2 * (a : Int) - (n : Int)))).natAbs ≤ 268435456 := Nat.le_trans (Int.ofNat_le.1 d) b
      have := absmul (x := ((wCt n μ ci a m (2 ^ n) : Nat) : Int)) (A := 1024) (by rw [Int.natAbs_natCast]; omega) d2
      omega
  · decide
theorem bk139 (fl : Nat) (hfl : 300 ≤ fl) (hn : n ≤ 10) {μ : Nat → Nat} {ci : Nat} (hci : ci ≤ 9) {a : Nat} (ha : a ≤ n) (kb : Int → (Nat → Int) → (Nat → Int) → (Nat → Int) → Option ((Nat → Int) × (Nat → Int) × (Nat → Int))) (rt wy : Nat → Int) (hw : ∀ i, i < 704 → wy i = ((wCt n μ ci (i / 64) (i % 64) (2 ^ n) : Nat) : Int)) (P0 : Nat → Int) :
    ∀ (r nn m : Nat) (P : Nat → Int), m + r = 64 → r < nn → 1 ≤ m → (∀ i, i < 201 → P i = P0 i + smz (trm n μ ci a ((i : Int) - 100)) m) → (∀ i, i < 201 → (((P i).natAbs : Nat) : Int) ≤ 300000000000 * ((64 * a + m : Nat) : Int)) →
    ∃ P', LB_Md_bracket_139 fl ((2 * n : Nat) : Int) (n : Int) (ci : Int) pl kb nn (a : Int) (m : Int) P rt wy = kb ((a + 1 : Nat) : Int) P' rt wy ∧ (∀ i, i < 201 → P' i = P0 i + smz (trm n μ ci a ((i : Int) - 100)) 64) ∧ ∀ i, i < 201 → (((P' i).natAbs : Nat) : Int) ≤ 300000000000 * ((64 * (a + 1) : Nat) : Int) := by
  have p10 : 2 ^ n ≤ 1024 := by
    have : 2 ^ n ≤ 2 ^ 10 := Nat.pow_le_pow_right (by omega) hn
    omega
  intro r
  induction r with
  | zero =>
    intro nn m P hr hnn m1 h1 h2
    obtain ⟨nn, rfl⟩ : ∃ r, nn = r + 1 := ⟨nn - 1, by omega⟩
    have : m = 64 := by omega
    subst this
    rw [LB_Md_bracket_139, if_pos (by omega), if_pos (by omega), show ((a : Int) + 1) = ((a + 1 : Nat) : Int) by omega]
    exact ⟨P, rfl, h1, fun i hi => by have := h2 i hi; omega⟩
  | succ r ih =>
    intro nn m P hr hnn m1 h1 h2
    obtain ⟨nn, rfl⟩ : ∃ r, nn = r + 1 := ⟨nn - 1, by omega⟩
    have ei : Int.toNat (64 * (a : Int) + (m : Int)) = 64 * a + m := by omega
    have hwi := hw (64 * a + m) (by omega)
    rw [show (64 * a + m) / 64 = a by omega, show (64 * a + m) % 64 = m by omega] at hwi
    have hlt := wCt_le n μ ci a m (2 ^ n)
    have ta := fun (i : Nat) => trm_abs hn (μ := μ) hci a ((i : Int) - 100) m
    rw [LB_Md_bracket_139, if_neg (by omega), if_pos (by omega), if_pos (by omega), ei, hwi]
    by_cases c : ((wCt n μ ci a m (2 ^ n) : Nat) : Int) ≤ 0
    · rw [if_pos c]
      have z : wCt n μ ci a m (2 ^ n) = 0 := by omega
      have tz : ∀ e : Int, trm n μ ci a e m = 0 := fun e => by unfold trm; rw [if_pos m1, z]; show (0 : Int) * _ = 0; rw [Int.zero_mul]
      unfold LB_Md_bracket_190
      rw [if_pos (by omega), show ((m : Int) + 1) = ((m + 1 : Nat) : Int) by omega]
      exact ih nn (m + 1) P (by omega) (by omega) (by omega) (fun i hi => by rw [h1 i hi, sm_s, tz]; omega) (fun i hi => by have := h2 i hi; omega)
    · rw [if_neg c]
      have m29 := wCt_hi (n := n) (μ := μ) (ci := ci) (a := a) (m := m) (st := 2 ^ n) (by omega)
      have em : (m : Int) - 1 = ((m - 1 : Nat) : Int) := by omega
      obtain ⟨P1, k1, k2⟩ := M_addPower fl (by omega) (ex := 2 * (a : Int) - (n : Int)) (by omega) (m := m - 1) (by omega) (t := wCt n μ ci a m (2 ^ n)) (by omega) (P0 := P) (fun i hi => by have := h2 i hi; omega)
      rw [if_pos (by omega), em, k1, Option.bind_some]
      unfold LB_Md_bracket_190
      rw [if_pos (by omega), show ((m : Int) + 1) = ((m + 1 : Nat) : Int) by omega]
      have v : ∀ i, i < 201 → P1 i = P i + trm n μ ci a ((i : Int) - 100) m := fun i hi => by
        rw [k2 i hi]; unfold trm; rw [if_pos (by omega)]
      exact ih nn (m + 1) P1 (by omega) (by omega) (by omega) (fun i hi => by rw [v i hi, h1 i hi, sm_s]; omega) (fun i hi => by rw [v i hi]; have a1 := h2 i hi; have a2 := ta i; omega)
theorem bk126 (fl : Nat) (hfl : 300 ≤ fl) (hn : n ≤ 10) {μ : Nat → Nat} {ci : Nat} (hci : ci ≤ 9) (rt wy : Nat → Int) (hw : ∀ i, i < 704 → wy i = ((wCt n μ ci (i / 64) (i % 64) (2 ^ n) : Nat) : Int)) :
    ∀ (r nn a : Nat) (P : Nat → Int), a + r = n + 1 → r < nn → (∀ i, i < 201 → P i = smz (fun a => smz (trm n μ ci a ((i : Int) - 100)) 64) a) → (∀ i, i < 201 → (((P i).natAbs : Nat) : Int) ≤ 300000000000 * ((64 * a : Nat) : Int)) →
    ∃ P', LB_Md_bracket_126 fl ((2 * n : Nat) : Int) (n : Int) (ci : Int) pl nn (a : Int) P rt wy = some (P', rt, wy) ∧ (∀ i, i < 201 → P' i = brE n μ ci ((i : Int) - 100)) ∧ ∀ i, i < 201 → -1000000000000000 ≤ P' i ∧ P' i ≤ 1000000000000000 := by
  intro r
  induction r with
  | zero =>
    intro nn a P hr hnn h1 h2
    obtain ⟨nn, rfl⟩ : ∃ r, nn = r + 1 := ⟨nn - 1, by omega⟩
    have : a = n + 1 := by omega
    subst this
    rw [LB_Md_bracket_126, if_pos (by omega)]
    exact ⟨P, rfl, h1, fun i hi => by have := h2 i hi; omega⟩
  | succ r ih =>
    intro nn a P hr hnn h1 h2
    obtain ⟨nn, rfl⟩ : ∃ r, nn = r + 1 := ⟨nn - 1, by omega⟩
    rw [LB_Md_bracket_126, if_neg (by omega)]
    obtain ⟨P1, k1, k2, k3⟩ := bk139 (pl := pl) fl hfl hn (μ := μ) hci (show a ≤ n by omega) (LB_Md_bracket_126 fl ((2 * n : Nat) : Int) (n : Int) (ci : Int) pl nn) rt wy hw P 63 fl 1 P (by omega) (by omega) (by omega) (fun i hi => by
      have : smz (trm n μ ci a ((i : Int) - 100)) 1 = 0 := by show (0 : Int) + trm n μ ci a _ 0 = 0; unfold trm; rw [if_neg (by omega)]; rfl
      rw [this]; omega) (fun i hi => by have := h2 i hi; omega)
    have k1 : LB_Md_bracket_139 fl ((2 * n : Nat) : Int) (n : Int) (ci : Int) pl (LB_Md_bracket_126 fl ((2 * n : Nat) : Int) (n : Int) (ci : Int) pl nn) fl (a : Int) 1 P rt wy = _ := k1
    rw [k1]
    exact ih nn (a + 1) P1 (by omega) (by omega) (fun i hi => by rw [k2 i hi, h1 i hi]; rfl) k3
theorem bk35 (fl : Nat) (E dn ci : Int) (po rt : Nat → Int) : ∀ (r nn i : Nat) (wy : Nat → Int), i + r = 704 → r < nn → (∀ k, k < i → wy k = 0) → ∃ wy', LB_Md_bracket_35 fl E dn ci pl nn (i : Int) po rt wy = LB_Md_bracket_57 fl E dn ci pl fl 0 po rt wy' ∧ ∀ k, k < 704 → wy' k = 0 := by
  intro r
  induction r with
  | zero =>
    intro nn i wy hr hnn h
    obtain ⟨nn, rfl⟩ : ∃ r, nn = r + 1 := ⟨nn - 1, by omega⟩
    rw [LB_Md_bracket_35, if_pos (by omega)]
    exact ⟨wy, rfl, fun k hk => h k (by omega)⟩
  | succ r ih =>
    intro nn i wy hr hnn h
    obtain ⟨nn, rfl⟩ : ∃ r, nn = r + 1 := ⟨nn - 1, by omega⟩
    rw [LB_Md_bracket_35, if_neg (by omega), if_pos (by omega), if_pos (by omega), Int.toNat_natCast, show ((i : Int) + 1) = ((i + 1 : Nat) : Int) by omega]
    exact ih nn (i + 1) _ (by omega) (by omega) (fun k hk => by
      by_cases c : k = i
      · rw [c, up_eq]
      · rw [up_ne _ _ c]; exact h k (by omega))
/-- the bracket's coefficients -/
def brP (n : Nat) (μ : Nat → Nat) (ci : Nat) (e : Int) : Int := if n = 0 ∧ ci = 0 then (if e = 0 then 1 else 0) else brE n μ ci e
theorem dpw_far {m : Nat} {e : Int} (h : 2 * (m : Int) < e ∨ e < -(2 * (m : Int))) : dpw m e = 0 := (dpw_v m).2 e (fun ⟨j, j1, j2⟩ => by omega)
theorem trm_far {n : Nat} (hn : n ≤ 10) {μ : Nat → Nat} {ci : Nat} (hci : ci ≤ 9) {a : Nat} (ha : a ≤ n) {e : Int} (he : 66 < e ∨ e < -66) (m : Nat) : trm n μ ci a e m = 0 := by
  unfold trm
  split
  · by_cases w : wCt n μ ci a m (2 ^ n) = 0
    · rw [w]; show (0 : Int) * _ = 0; rw [Int.zero_mul]
    · have h := wCt_hi w
      rw [dpw_far (by omega), Int.mul_zero]
  · rfl
theorem brP_far {n : Nat} (hn : n ≤ 10) {μ : Nat → Nat} {ci : Nat} (hci : ci ≤ 9) {e : Int} (he : 66 < e ∨ e < -66) : brP n μ ci e = 0 := by
  unfold brP
  split
  · rw [if_neg (by omega)]
  · exact sm_zero (fun a ha => sm_zero (fun m _ => trm_far hn hci (by omega) he m))
variable {ed : Nat → Nat}
theorem M_bracket (fl : Nat) (hfl : 2000 ≤ fl) (hn : n ≤ 10) (hpl : ∀ q, q < 4 * n → pl q = (ed q : Int) ∧ ed q < 2 * n) {μ : Nat → Nat} (hM : Mat (opn n 0) μ) (hC : Cls (opn n 0) μ ed (fun e => e)) {ci : Nat} (hci : ci ≤ 9) (po rt wy : Nat → Int) :
    ∃ po' rt' wy', LM_Md_bracket fl ((2 * n : Nat) : Int) (n : Int) (ci : Int) pl po rt wy = some (po', rt', wy') ∧ (∀ i, i < 201 → po' i = brP n μ ci ((i : Int) - 100)) ∧ ∀ i, i < 201 → -1000000000000000 ≤ po' i ∧ po' i ≤ 1000000000000000 := by
  have p10 : 2 ^ n ≤ 1024 := by
    have : 2 ^ n ≤ 2 ^ 10 := Nat.pow_le_pow_right (by omega) hn
    omega
  obtain ⟨p0, p1, p2⟩ := M_clear fl (by omega) po
  unfold LM_Md_bracket LB_Md_bracket_0
  rw [p1, Option.bind_some]
  have main : ¬ (n = 0 ∧ ci = 0) → ∃ po' rt' wy', LB_Md_bracket_33 fl ((2 * n : Nat) : Int) (n : Int) (ci : Int) pl p0 rt wy = some (po', rt', wy') ∧ (∀ i, i < 201 → po' i = brP n μ ci ((i : Int) - 100)) ∧ ∀ i, i < 201 → -1000000000000000 ≤ po' i ∧ po' i ≤ 1000000000000000 := fun hne => by
    unfold LB_Md_bracket_33
    obtain ⟨w1, k1, k2⟩ := bk35 (pl := pl) fl ((2 * n : Nat) : Int) (n : Int) (ci : Int) p0 rt 704 fl 0 wy (by omega) (by omega) (fun k hk => by omega)
    have k1 : LB_Md_bracket_35 fl ((2 * n : Nat) : Int) (n : Int) (ci : Int) pl fl 0 p0 rt wy = _ := k1
    rw [k1]
    obtain ⟨rt1, w2, l1, l2⟩ := bk57 fl (by omega) hn hpl hM hC hci p0 (2 ^ n) fl 0 rt w1 (by omega) (by omega) (fun i hi => by rw [k2 i hi]; rfl)
    have l1 : LB_Md_bracket_57 fl ((2 * n : Nat) : Int) (n : Int) (ci : Int) pl fl 0 p0 rt w1 = _ := l1
    rw [l1]
    obtain ⟨P', y1, y2, y3⟩ := bk126 (pl := pl) fl (by omega) hn (μ := μ) hci rt1 w2 l2 (n + 1) fl 0 p0 (by omega) (by omega) (fun i hi => by rw [p2 i hi]; rfl) (fun i hi => by rw [p2 i hi]; decide)
    refine ⟨P', rt1, w2, y1, fun i hi => ?_, y3⟩
    rw [y2 i hi]; unfold brP; rw [if_neg hne]
  by_cases c : n = 0
  · rw [if_neg (by omega)]
    by_cases d : ci = 0
    · rw [if_neg (by omega), if_pos (by decide)]
      refine ⟨_, rt, wy, rfl, fun i hi => ?_, fun i hi => ?_⟩
      · unfold brP
        rw [if_pos ⟨c, d⟩]
        by_cases e : i = 100
        · rw [e, if_pos (by omega)]; exact up_eq _ _ _
        · rw [up_ne _ _ (show i ≠ Int.toNat 100 from e), p2 i hi, if_neg (by omega)]
      · by_cases e : i = 100
        · rw [e]
          have : up p0 (Int.toNat 100) 1 100 = 1 := up_eq _ _ _
          rw [this]; omega
        · rw [up_ne _ _ (show i ≠ Int.toNat 100 from e), p2 i hi]; omega
    · rw [if_pos (by omega)]
      exact main (fun w => d w.2)
  · rw [if_pos (by omega)]
    exact main (fun w => c w.1)
end
