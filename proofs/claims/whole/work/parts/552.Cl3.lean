theorem clT_d (N : Nat) (X : Nat → Int) : ∀ k, (clT N X k).2.1 = k ∧ (clT N X k).2.2.1 = 0 := by
  intro k
  induction k with
  | zero => exact ⟨rfl, rfl⟩
  | succ k ih =>
    rw [clT_s]
    dsimp only
    split
    · exact ⟨by show (clT N X k).2.1 + 1 = k + 1; rw [ih.1], ih.2⟩
    · exact ⟨by show (clT N X k).2.1 + 1 = k + 1; rw [ih.1], ih.2⟩
theorem cc31 (fl : Nat) (hfl : 200 ≤ fl) {N m : Nat} {X : Nat → Int} (h : Wrd N m X) {x : Nat → Int} (hx : ∀ k, k < m → x k = X k) :
    ∀ (r nn k : Nat) (kn n : Int) (en A S : Nat → Int), k + r = m → r < nn → (∀ p, p < N → en p = (clT N X k).1 p) → DA (clT N X k).2 n 0 A S →
    ∃ en' kn' A' S', LB_Br_close_31 fl (N : Int) (m : Int) x nn (k : Int) en n 0 kn A S = some (en', (m : Int), unt (clT N X m).1 N, kn', A', S') ∧ DA (clD N m X) (m : Int) (unt (clT N X m).1 N) A' S' ∧ (kn' = kn ∨ kn' = 0) := by
  intro r
  have hN := h.2.1
  have hm := h.2.2.1
  induction r with
  | zero =>
    intro nn k kn n en A S hr hnn hen hD
    obtain ⟨nn, rfl⟩ : ∃ r, nn = r + 1 := ⟨nn - 1, by omega⟩
    have : k = m := by omega
    subst this
    obtain ⟨d1, d2, d3, d4⟩ := hD
    have c1 := (clT_d N X k).1
    rw [LB_Br_close_31, if_pos (by omega), d1, c1]
    rw [c1] at d3 d4
    obtain ⟨kn', A', g1, g2, g3⟩ := cc146 fl hfl hN (k : Int) x hm (clT N X k).1 (clT N X k).2.2.2.1 S en hen N fl 0 0 kn A (by omega) (by omega) rfl d3
    exact ⟨en, kn', A', S, g1, ⟨rfl, rfl, g2, d4⟩, g3⟩
  | succ r ih =>
    intro nn k kn n en A S hr hnn hen hD
    obtain ⟨nn, rfl⟩ : ∃ r, nn = r + 1 := ⟨nn - 1, by omega⟩
    have hX := h.2.2.2 k (by omega)
    have c1 := (clT_d N X k).1
    have n1 := hD.1
    rw [LB_Br_close_31, if_neg (by omega), if_pos (by omega), Int.toNat_natCast, hx k (by omega), show (if 0 ≤ X k then X k else 0 - X k) = absI (X k) from rfl]
    have ci : absI (X k) = ((clI X k + 1 : Nat) : Int) := by unfold clI; omega
    have cb : clI X k + 1 < N := by omega
    have g : (-2147483648 ≤ 0 - X k ∧ 0 - X k < 2147483648) := by unfold absI at hX; split at hX <;> omega
    have g2 : (-2147483648 ≤ 0 - X k ∧ 0 - X k < 2147483648) ∧ (-2147483648 ≤ absI (X k) - 1 ∧ absI (X k) - 1 < 2147483648) ∧ (-2147483648 ≤ 2 * (k : Int) ∧ 2 * (k : Int) < 2147483648) ∧ (-2147483648 ≤ (N : Int) + 2 * (k : Int) ∧ (N : Int) + 2 * (k : Int) < 2147483648) ∧ (-2147483648 ≤ (N : Int) + 2 * (k : Int) + 1 ∧ (N : Int) + 2 * (k : Int) + 1 < 2147483648) ∧ (-2147483648 ≤ (N : Int) + 2 * (k : Int) + 1 + 1 ∧ (N : Int) + 2 * (k : Int) + 1 + 1 < 2147483648) := ⟨g, by omega, by omega, by omega, by omega, by omega⟩
    have ea : (N : Int) + 2 * (k : Int) + 1 = ((N + 2 * k + 1 : Nat) : Int) := by omega
    have eb : (N : Int) + 2 * (k : Int) + 1 + 1 = ((N + 2 * k + 2 : Nat) : Int) := by omega
    have el : absI (X k) - 1 = ((clI X k : Nat) : Int) := by omega
    have fin : ∀ s : Int, (s = if X k ≤ 0 then -1 else 1) → ∃ en' kn' A' S', LB_Br_close_86 fl (N : Int) (m : Int) x (LB_Br_close_31 fl (N : Int) (m : Int) x nn) s (k : Int) (absI (X k)) (absI (X k) - 1) ((N : Int) + 2 * (k : Int) + 1) ((N : Int) + 2 * (k : Int) + 1 + 1) en n 0 kn A S = some (en', (m : Int), unt (clT N X m).1 N, kn', A', S') ∧ DA (clD N m X) (m : Int) (unt (clT N X m).1 N) A' S' ∧ (kn' = kn ∨ kn' = 0) := fun s hs => by
      unfold LB_Br_close_86 LB_Br_close_101
      rw [el, eb, ea, ci]
      obtain ⟨n', A1, S1, a1, a2⟩ := C_add fl (show (clT N X k).2.1 < 20 by omega) hD s (if 0 ≤ s then 0 else 1) (en (clI X k)) ((N + 2 * k + 2 : Nat) : Int) (en (clI X k + 1)) ((N + 2 * k + 1 : Nat) : Int) kn
      have a2' : DA (clT N X (k + 1)).2 n' 0 A1 S1 := by
        rw [clT_s]
        dsimp only
        rw [hen _ (by omega), hen _ (by omega)] at a2
        by_cases w : X k ≤ 0
        · rw [if_pos w] at hs ⊢
          subst hs
          exact a2
        · rw [if_neg w] at hs ⊢
          subst hs
          exact a2
      have hen' : ∀ p, p < N → up (up en (clI X k) ((N + 2 * k + 1 : Nat) : Int)) (clI X k + 1) ((N + 2 * k + 2 : Nat) : Int) p = (clT N X (k + 1)).1 p := fun p hp => by
        rw [clT_s]
        dsimp only
        unfold up
        split
        · rfl
        · split
          · rfl
          · exact hen p hp
      have rest := ih nn (k + 1) 0 n' (up (up en (clI X k) ((N + 2 * k + 1 : Nat) : Int)) (clI X k + 1) ((N + 2 * k + 2 : Nat) : Int)) A1 S1 (by omega) (by omega) hen' a2'
      obtain ⟨en', kn', A', S', r1, r2, r3⟩ := rest
      have body : ∀ ab : Int, (ab = if 0 ≤ s then 0 else 1) → (if (0 ≤ ((clI X k : Nat) : Int) ∧ ((clI X k : Nat) : Int) < 8) then (if (0 ≤ ((clI X k + 1 : Nat) : Int) ∧ ((clI X k + 1 : Nat) : Int) < 8) then ((LM_Di_addCrossing fl s ab (en (Int.toNat ((clI X k : Nat) : Int))) ((N + 2 * k + 2 : Nat) : Int) (en (Int.toNat ((clI X k + 1 : Nat) : Int))) ((N + 2 * k + 1 : Nat) : Int) n kn A S).bind fun o0 => (if (-2147483648 ≤ ((k : Int) + 1) ∧ ((k : Int) + 1) < 2147483648) then (LB_Br_close_31 fl (N : Int) (m : Int) x nn ((k : Int) + 1) (up (up en (Int.toNat ((clI X k : Nat) : Int)) ((N + 2 * k + 1 : Nat) : Int)) (Int.toNat ((clI X k + 1 : Nat) : Int)) ((N + 2 * k + 2 : Nat) : Int)) o0.1 0 o0.2.1 o0.2.2.1 o0.2.2.2) else none)) else none) else none) = some (en', (m : Int), unt (clT N X m).1 N, kn', A', S') := fun ab hab => by
        rw [if_pos (by omega), if_pos (by omega), Int.toNat_natCast, Int.toNat_natCast, hab, a1, Option.bind_some, if_pos (by omega)]
        exact r1
      refine ⟨en', kn', A', S', ?_, r2, by rcases r3 with z | z <;> exact Or.inr z⟩
      by_cases w : 0 ≤ s
      · rw [if_pos w]; exact body 0 (by rw [if_pos w])
      · rw [if_neg w]; exact body 1 (by rw [if_neg w])
    by_cases w : X k ≤ 0
    · rw [if_pos w, if_pos g2]; exact fin (-1) (by rw [if_pos w])
    · rw [if_neg w, if_pos g2]; exact fin 1 (by rw [if_neg w])
theorem cc6 (fl : Nat) (hfl : 200 ≤ fl) {N m : Nat} {X : Nat → Int} (h : Wrd N m X) {x : Nat → Int} (hx : ∀ k, k < m → x k = X k) (kn : Int) (A S : Nat → Int) :
    ∀ (r nn p : Nat) (en : Nat → Int), p + r = N → r < nn → (∀ q, q < p → en q = ((q + 1 : Nat) : Int)) →
    ∃ en' kn' A' S', LB_Br_close_6 fl (N : Int) (m : Int) x nn (p : Int) en 0 0 kn A S = some (en', (m : Int), unt (clT N X m).1 N, kn', A', S') ∧ DA (clD N m X) (m : Int) (unt (clT N X m).1 N) A' S' ∧ (kn' = kn ∨ kn' = 0) := by
  intro r
  have hN := h.2.1
  have hm := h.2.2.1
  induction r with
  | zero =>
    intro nn p en hr hnn hen
    obtain ⟨nn, rfl⟩ : ∃ r, nn = r + 1 := ⟨nn - 1, by omega⟩
    have : p = N := by omega
    subst this
    rw [LB_Br_close_6, if_pos (by omega)]
    exact cc31 fl hfl h hx m fl 0 kn 0 en A S (by omega) (by omega) hen ⟨rfl, rfl, fun q hq => absurd hq (Nat.not_lt_zero q), fun q hq => absurd hq (Nat.not_lt_zero q)⟩
  | succ r ih =>
    intro nn p en hr hnn hen
    obtain ⟨nn, rfl⟩ : ∃ r, nn = r + 1 := ⟨nn - 1, by omega⟩
    rw [LB_Br_close_6, if_neg (by omega), if_pos (by omega), if_pos (by omega), Int.toNat_natCast, show ((p : Int) + 1) = ((p + 1 : Nat) : Int) by omega]
    refine ih nn (p + 1) _ (by omega) (by omega) (fun q hq => ?_)
    by_cases w : q = p
    · rw [w, up_eq]
    · rw [up_ne _ _ w]; exact hen q (by omega)
theorem C_close (fl : Nat) (hfl : 200 ≤ fl) {N m : Nat} {X : Nat → Int} (h : Wrd N m X) {x : Nat → Int} (hx : ∀ k, k < m → x k = X k) (en : Nat → Int) (n ci kn : Int) (A S : Nat → Int) :
    ∃ en' kn' A' S', LM_Br_close fl (N : Int) (m : Int) x en n ci kn A S = some (en', (m : Int), unt (clT N X m).1 N, kn', A', S') ∧ DA (clD N m X) (m : Int) (unt (clT N X m).1 N) A' S' ∧ kn' = 0 := by
  have hN := h.2.1
  unfold LM_Br_close LB_Br_close_0
  rw [show LM_Di_clear fl n ci kn = some (0, 0, 0) from rfl, Option.bind_some]
  obtain ⟨en', kn', A', S', g1, g2, g3⟩ := cc6 fl hfl h hx 0 A S N fl 0 en (by omega) (by omega) (fun q hq => by omega)
  exact ⟨en', kn', A', S', g1, g2, by rcases g3 with z | z <;> exact z⟩
/-- the reference's closure -/
theorem mc205 (fl : Nat) {m : Nat} (hm : m ≤ 20) (a b : Int) (L : Nat → Int) (kb : Int → Int → Int → Int → (Nat → Int) → (Nat → Int) → (Nat → Int) → Option (Int × Int × (Nat → Int) × (Nat → Int) × (Nat → Int))) {p : Nat} (hp : p < 8) (x2 ci : Int) (S to A0 : Nat → Int) :
    ∀ (r nn q : Nat) (A : Nat → Int), q + r = 4 * m → r < nn → (∀ y, y < 4 * m → A y = if y < q ∧ A0 y = to (p + 1) then ((p + 1 : Nat) : Int) else A0 y) →
    ∃ A', LB_Md_close_205 fl a b L kb nn x2 ((p + 1 : Nat) : Int) (q : Int) (m : Int) ci A S to = kb x2 (((p + 1 : Nat) : Int) + 1) (m : Int) ci A' S to ∧ (∀ y, y < 4 * m → A' y = if A0 y = to (p + 1) then ((p + 1 : Nat) : Int) else A0 y) := by
  intro r
  induction r with
  | zero =>
    intro nn q A hr hnn hA
    obtain ⟨nn, rfl⟩ : ∃ r, nn = r + 1 := ⟨nn - 1, by omega⟩
    rw [LB_Md_close_205, if_pos (by omega), if_pos (by omega), if_pos (by omega)]
    refine ⟨A, rfl, fun y hy => ?_⟩
    rw [hA y hy]
    by_cases w : A0 y = to (p + 1)
    · rw [if_pos ⟨by omega, w⟩, if_pos w]
    · rw [if_neg (fun z => w z.2), if_neg w]
  | succ r ih =>
    intro nn q A hr hnn hA
    obtain ⟨nn, rfl⟩ : ∃ r, nn = r + 1 := ⟨nn - 1, by omega⟩
    have aq := hA q (by omega)
    rw [if_neg (by omega)] at aq
    rw [LB_Md_close_205, if_pos (by omega), if_neg (by omega), if_pos (by omega), if_pos (by omega), Int.toNat_natCast, Int.toNat_natCast, aq]
    have step : ∀ v : Int, (v = if A0 q = to (p + 1) then ((p + 1 : Nat) : Int) else A0 q) → ∃ A', LB_Md_close_261 fl a b L kb (LB_Md_close_205 fl a b L kb nn) v (q : Int) x2 ((p + 1 : Nat) : Int) (q : Int) (m : Int) ci A S to = kb x2 (((p + 1 : Nat) : Int) + 1) (m : Int) ci A' S to ∧ (∀ y, y < 4 * m → A' y = if A0 y = to (p + 1) then ((p + 1 : Nat) : Int) else A0 y) := fun v hv => by
      unfold LB_Md_close_261
      rw [if_pos (by omega), if_pos (by omega), Int.toNat_natCast, show ((q : Int) + 1) = ((q + 1 : Nat) : Int) by omega]
      refine ih nn (q + 1) _ (by omega) (by omega) (fun y hy => ?_)
      by_cases w : y = q
      · rw [w, up_eq, hv]
        by_cases z : A0 q = to (p + 1)
        · rw [if_pos z, if_pos ⟨by omega, z⟩]
        · rw [if_neg z, if_neg (fun u => z u.2)]
      · rw [up_ne _ _ w, hA y hy]
        by_cases z : y < q ∧ A0 y = to (p + 1)
        · rw [if_pos z, if_pos ⟨by omega, z.2⟩]
        · rw [if_neg z, if_neg (fun u => z ⟨by omega, u.2⟩)]
    by_cases w : A0 q = to (p + 1)
    · rw [if_neg (fun z => z w)]; exact step _ (by rw [if_pos w])
    · rw [if_pos w]; exact step _ (by rw [if_neg w])
theorem mc174 (fl : Nat) (hfl : 200 ≤ fl) {N : Nat} (hN : N ≤ 8) (a b : Int) (L : Nat → Int) {m : Nat} (hm : m ≤ 20) (T lb S to : Nat → Int) (hto : ∀ p, p < N → to (p + 1) = T p) :
    ∀ (r nn p : Nat) (ci : Int) (A : Nat → Int), p + r = N → r < nn → ci = unt T p → like (4 * m) A (fun q => sr T p (lb q)) →
    ∃ A', LB_Md_close_174 fl a b L nn (N : Int) ((p + 1 : Nat) : Int) (m : Int) ci A S to = some ((m : Int), unt T N, A', S, to) ∧ like (4 * m) A' (fun q => sr T N (lb q)) := by
  intro r
  induction r with
  | zero =>
    intro nn p ci A hr hnn hc hA
    obtain ⟨nn, rfl⟩ : ∃ r, nn = r + 1 := ⟨nn - 1, by omega⟩
    have : p = N := by omega
    subst this
    rw [LB_Md_close_174, if_pos (by omega), hc]
    exact ⟨A, rfl, hA⟩
  | succ r ih =>
    intro nn p ci A hr hnn hc hA
    obtain ⟨nn, rfl⟩ : ∃ r, nn = r + 1 := ⟨nn - 1, by omega⟩
    have u := unt_b T p
    rw [LB_Md_close_174, if_neg (by omega), if_pos (by omega), Int.toNat_natCast, hto p (by omega)]
    have step : ∀ c2 : Int, c2 = unt T (p + 1) → ∃ A', LB_Md_close_202 fl a b L (LB_Md_close_174 fl a b L nn) (N : Int) ((p + 1 : Nat) : Int) (m : Int) c2 A S to = some ((m : Int), unt T N, A', S, to) ∧ like (4 * m) A' (fun q => sr T N (lb q)) := fun c2 hc2 => by
      unfold LB_Md_close_202
      obtain ⟨A1, g1, g2⟩ := mc205 fl hm a b L (LB_Md_close_174 fl a b L nn) (p := p) (by omega) (N : Int) c2 S to A (4 * m) fl 0 A (by omega) (by omega) (fun y hy => by rw [if_neg (by omega)])
      rw [show ((0 : Nat) : Int) = 0 from rfl] at g1
      rw [g1, show (((p + 1 : Nat) : Int) + 1) = ((p + 1 + 1 : Nat) : Int) by omega]
      refine ih nn (p + 1) c2 A1 (by omega) (by omega) hc2 (fun q hq => ?_)
      rw [g2 q hq, hA q hq, hto p (by omega)]
      show _ = sr T (p + 1) (lb q)
      rw [sr_s]
    by_cases w : T p = ((p + 1 : Nat) : Int)
    · rw [if_neg (fun z => z w), if_pos (by omega)]
      exact step _ (by rw [unt_s, if_pos w, hc])
    · rw [if_pos w]
      exact step _ (by rw [unt_s, if_neg w, hc]; omega)
theorem mc43 (fl : Nat) (hfl : 200 ≤ fl) {N m : Nat} {X : Nat → Int} (h : Wrd N m X) {x : Nat → Int} (hx : ∀ k, k < m → x k = X k) :
    ∀ (r nn k : Nat) (n : Int) (to A S : Nat → Int), k + r = m → r < nn → (∀ p, p < N → to (p + 1) = (clT N X k).1 p) → DA (clT N X k).2 n 0 A S →
    ∃ A' S' to', LB_Md_close_43 fl (N : Int) (m : Int) x nn (N : Int) (k : Int) n 0 A S to = some ((m : Int), unt (clT N X m).1 N, A', S', to') ∧ DA (clD N m X) (m : Int) (unt (clT N X m).1 N) A' S' := by
  intro r
  have hN := h.2.1
  have hm := h.2.2.1
  induction r with
  | zero =>
    intro nn k n to A S hr hnn hen hD
    obtain ⟨nn, rfl⟩ : ∃ r, nn = r + 1 := ⟨nn - 1, by omega⟩
    have : k = m := by omega
    subst this
    obtain ⟨d1, d2, d3, d4⟩ := hD
    have c1 := (clT_d N X k).1
    rw [LB_Md_close_43, if_pos (by omega), d1, c1]
    rw [c1] at d3 d4
    obtain ⟨A', g1, g2⟩ := mc174 fl hfl hN (N : Int) (k : Int) x hm (clT N X k).1 (clT N X k).2.2.2.1 S to hen N fl 0 0 A (by omega) (by omega) rfl d3
    exact ⟨A', S, to, g1, rfl, rfl, g2, d4⟩
  | succ r ih =>
    intro nn k n to A S hr hnn hen hD
    obtain ⟨nn, rfl⟩ : ∃ r, nn = r + 1 := ⟨nn - 1, by omega⟩
    have hX := h.2.2.2 k (by omega)
    have c1 := (clT_d N X k).1
    have n1 := hD.1
    have ci : absI (X k) = ((clI X k + 1 : Nat) : Int) := by unfold clI; omega
    have cb : clI X k + 1 < N := by omega
    have ea : (N : Int) + 2 * (k : Int) + 1 = ((N + 2 * k + 1 : Nat) : Int) := by omega
    have eb : (N : Int) + 2 * (k : Int) + 2 = ((N + 2 * k + 2 : Nat) : Int) := by omega
    have hen' : ∀ p, p < N → up (up to (clI X k + 1) ((N + 2 * k + 1 : Nat) : Int)) (clI X k + 1 + 1) ((N + 2 * k + 2 : Nat) : Int) (p + 1) = (clT N X (k + 1)).1 p := fun p hp => by
      rw [clT_s]
      dsimp only
      unfold up
      by_cases w : p = clI X k + 1
      · rw [if_pos (by omega), if_pos w]
      · rw [if_neg (by omega), if_neg w]
        by_cases w2 : p = clI X k
        · rw [if_pos (by omega), if_pos w2]
        · rw [if_neg (by omega), if_neg w2]; exact hen p hp
    have fin : ∃ A' S' to', LB_Md_close_72 fl (N : Int) (m : Int) x (LB_Md_close_43 fl (N : Int) (m : Int) x nn) (absI (X k)) (N : Int) (k : Int) (X k) n 0 A S to = some ((m : Int), unt (clT N X m).1 N, A', S', to') ∧ DA (clD N m X) (m : Int) (unt (clT N X m).1 N) A' S' := by
      unfold LB_Md_close_72 LB_Md_close_146
      rw [ci, show (((clI X k + 1 : Nat) : Int) + 1) = ((clI X k + 1 + 1 : Nat) : Int) by omega, Int.toNat_natCast, Int.toNat_natCast, eb, ea, hen (clI X k) (by omega), hen (clI X k + 1) cb, if_pos (by omega), if_pos (by omega)]
      by_cases w : X k ≤ 0
      · rw [if_pos w, if_pos (by omega)]
        obtain ⟨n', A1, S1, a1, a2⟩ := M_cross fl (show (clT N X k).2.1 < 22 by omega) hD (s := -1) (Or.inr rfl) ((clT N X k).1 (clI X k + 1)) ((N + 2 * k + 1 : Nat) : Int) ((clT N X k).1 (clI X k)) ((N + 2 * k + 2 : Nat) : Int)
        rw [a1, Option.bind_some, if_pos (by omega), if_pos (by omega), if_pos (by omega), show ((k : Int) + 1) = ((k + 1 : Nat) : Int) by omega]
        exact ih nn (k + 1) n' _ A1 S1 (by omega) (by omega) hen' (by rw [clT_s]; dsimp only; rw [if_pos w]; exact a2)
      · rw [if_neg w, if_pos (by omega)]
        obtain ⟨n', A1, S1, a1, a2⟩ := M_cross fl (show (clT N X k).2.1 < 22 by omega) hD (s := 1) (Or.inl rfl) ((clT N X k).1 (clI X k)) ((N + 2 * k + 2 : Nat) : Int) ((clT N X k).1 (clI X k + 1)) ((N + 2 * k + 1 : Nat) : Int)
        rw [a1, Option.bind_some, if_pos (by omega), if_pos (by omega), if_pos (by omega), show ((k : Int) + 1) = ((k + 1 : Nat) : Int) by omega]
        exact ih nn (k + 1) n' _ A1 S1 (by omega) (by omega) hen' (by rw [clT_s]; dsimp only; rw [if_neg w]; exact a2)
    rw [LB_Md_close_43, if_neg (by omega), if_pos (by omega), Int.toNat_natCast, hx k (by omega)]
    by_cases w : 0 ≤ X k
    · rw [if_pos w]
      have : X k = absI (X k) := by unfold absI; rw [if_pos w]
      rw [← this] at fin; exact fin
    · have : absI (X k) = -(X k) := by unfold absI; rw [if_neg w]; omega
      rw [if_neg w, if_pos (by omega), ← this]
      exact fin
theorem mc23 (fl : Nat) (hfl : 200 ≤ fl) {N m : Nat} {X : Nat → Int} (h : Wrd N m X) {x : Nat → Int} (hx : ∀ k, k < m → x k = X k) (A S : Nat → Int) :
    ∀ (r nn p : Nat) (to : Nat → Int), p + r = N → r < nn → (∀ q, q < p → to (q + 1) = ((q + 1 : Nat) : Int)) →
    ∃ A' S' to', LB_Md_close_23 fl (N : Int) (m : Int) x nn (N : Int) ((p + 1 : Nat) : Int) 0 0 A S to = some ((m : Int), unt (clT N X m).1 N, A', S', to') ∧ DA (clD N m X) (m : Int) (unt (clT N X m).1 N) A' S' := by
  intro r
  have hN := h.2.1
  have hm := h.2.2.1
  induction r with
  | zero =>
    intro nn p to hr hnn hen
    obtain ⟨nn, rfl⟩ : ∃ r, nn = r + 1 := ⟨nn - 1, by omega⟩
    have : p = N := by omega
    subst this
    rw [LB_Md_close_23, if_pos (by omega)]
    exact mc43 fl hfl h hx m fl 0 0 to A S (by omega) (by omega) hen ⟨rfl, rfl, fun q hq => absurd hq (Nat.not_lt_zero q), fun q hq => absurd hq (Nat.not_lt_zero q)⟩
  | succ r ih =>
    intro nn p to hr hnn hen
    obtain ⟨nn, rfl⟩ : ∃ r, nn = r + 1 := ⟨nn - 1, by omega⟩
    rw [LB_Md_close_23, if_neg (by omega), if_pos (by omega), if_pos (by omega), Int.toNat_natCast, show (((p + 1 : Nat) : Int) + 1) = ((p + 1 + 1 : Nat) : Int) by omega]
    refine ih nn (p + 1) _ (by omega) (by omega) (fun q hq => ?_)
    by_cases w : q = p
    · rw [w, up_eq]
    · rw [up_ne _ _ (by omega)]; exact hen q (by omega)
theorem M_close (fl : Nat) (hfl : 200 ≤ fl) {N m : Nat} {X : Nat → Int} (h : Wrd N m X) {x : Nat → Int} (hx : ∀ k, k < m → x k = X k) (n ci : Int) (A S to : Nat → Int) :
    ∃ A' S' to', LM_Md_close fl (N : Int) (m : Int) x n ci A S to = some ((m : Int), unt (clT N X m).1 N, A', S', to') ∧ DA (clD N m X) (m : Int) (unt (clT N X m).1 N) A' S' := by
  have hN := h.2.1
  unfold LM_Md_close LB_Md_close_0
  exact mc23 fl hfl h hx A S N fl 0 to (by omega) (by omega) (fun q hq => by omega)
