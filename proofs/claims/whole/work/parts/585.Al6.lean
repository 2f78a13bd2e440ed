theorem rc18 (fl : Nat) {x : Nat} (hx : x < 512) : ∀ (r nn i : Nat) (rc S : Nat → Int), i + r = 10 → r < nn → ∃ S', LB_Mi_reach_18 fl nn (x : Int) (i : Int) rc S = some (rc, S') ∧ (∀ k, i ≤ k → k < 10 → S' (10 * x + k) = 0) ∧ (∀ q, (q < 10 * x + i ∨ 10 * x + 10 ≤ q) → S' q = S q) := by
  intro r
  induction r with
  | zero =>
    intro nn i rc S hr hnn
    obtain ⟨nn, rfl⟩ : ∃ r, nn = r + 1 := ⟨nn - 1, by omega⟩
    rw [LB_Mi_reach_18, if_pos (by omega)]
    exact ⟨S, rfl, fun k h1 h2 => by omega, fun q _ => rfl⟩
  | succ r ih =>
    intro nn i rc S hr hnn
    obtain ⟨nn, rfl⟩ : ∃ r, nn = r + 1 := ⟨nn - 1, by omega⟩
    rw [LB_Mi_reach_18, if_neg (by omega), if_pos (by omega), if_pos (by omega), if_pos (by omega), show ((i : Int) + 1) = ((i + 1 : Nat) : Int) by omega, show Int.toNat ((x : Int) * 10 + (i : Int)) = 10 * x + i by omega]
    obtain ⟨S', h1, h2, h3⟩ := ih nn (i + 1) rc (up S (10 * x + i) 0) (by omega) (by omega)
    refine ⟨S', h1, fun k k1 k2 => ?_, fun q hq => ?_⟩
    · by_cases c : k = i
      · rw [c, h3 _ (by omega), up_eq]
      · exact h2 k (by omega) k2
    · rw [h3 q (by omega), up_ne _ _ (by omega)]
theorem C_reach (fl : Nat) (hfl : 100 ≤ fl) {x : Nat} (hx : x < 512) (rc S : Nat → Int) (h01 : rc x = 0 ∨ rc x = 1) : ∃ rc' S', LM_Mi_reach fl (x : Int) rc S = some (rc', S') ∧ (∀ y, rc' y = if y = x then 1 else rc y) ∧ (rc x = 0 → ∀ k, k < 10 → S' (10 * x + k) = 0) ∧ (rc x = 1 → S' = S) ∧ (∀ q, (q < 10 * x ∨ 10 * x + 10 ≤ q) → S' q = S q) := by
  unfold LM_Mi_reach LB_Mi_reach_0
  rw [if_pos (by omega), Int.toNat_natCast]
  rcases h01 with h | h
  · rw [h, if_neg (by omega)]
    obtain ⟨S', h1, h2, h3⟩ := rc18 fl hx 10 fl 0 (up rc x 1) S (by omega) (by omega)
    exact ⟨_, S', h1, fun y => rfl, fun _ k hk => h2 k (by omega) hk, fun e => by omega, fun q hq => h3 q (by omega)⟩
  · rw [h, if_pos (by decide)]
    refine ⟨rc, S, rfl, fun y => ?_, fun e => by omega, fun _ => rfl, fun q _ => rfl⟩
    by_cases c : y = x
    · rw [if_pos c, c, h]
    · rw [if_neg c]
def pA (p : Nat → Int) (i e : Nat) : Int := if e < i then p e else 0
def pB (p : Nat → Int) (i e : Nat) : Int := if 0 < e ∧ e ≤ i then p (e - 1) else 0
theorem ac66 (fl : Nat) (od : Int) {s X row : Nat} (hs : s < 512) (hX : X < 512) (hne : s ≠ X) (hrow : row ≤ 8) (x3 : Int) {f l σ : Int} (hfl : (f = 0 ∧ l = 1) ∨ (f = -1 ∧ l = 0) ∨ (f = 1 ∧ l = -1)) (hσ : σ = 1 ∨ σ = -1) {p T : Nat → Int} (hp : ∀ e, e < 10 → -1000000 ≤ p e ∧ p e ≤ 1000000) (hT : ∀ e, e < 10 → -100000000 ≤ T e ∧ T e ≤ 100000000) (rc : Nat → Int) :
    ∀ (r nn i : Nat) (S : Nat → Int), i + r = row + 1 → r < nn → (∀ e, e < 10 → S (10 * s + e) = p e) → (∀ e, e < 10 → S (10 * X + e) = T e + σ * (f * pA p i e + l * pB p i e)) →
    ∃ S', LB_Mi_addColumn_66 fl od nn (s : Int) (row : Int) x3 f l (X : Int) σ ((s : Int) * 10) ((X : Int) * 10) (i : Int) rc S = some (rc, S') ∧ (∀ e, e < 10 → S' (10 * X + e) = T e + σ * (f * pA p (row + 1) e + l * pB p (row + 1) e)) ∧ (∀ q, (q < 10 * X ∨ 10 * X + 10 ≤ q) → S' q = S q) := by
  intro r
  induction r with
  | zero =>
    intro nn i S hr hnn h1 h2
    obtain ⟨nn, rfl⟩ : ∃ r, nn = r + 1 := ⟨nn - 1, by omega⟩
    rw [LB_Mi_addColumn_66, if_pos (by omega)]
    have : i = row + 1 := by omega
    subst this
    exact ⟨S, rfl, h2, fun q _ => rfl⟩
  | succ r ih =>
    intro nn i S hr hnn h1 h2
    obtain ⟨nn, rfl⟩ : ∃ r, nn = r + 1 := ⟨nn - 1, by omega⟩
    have a0 := h1 i (by omega)
    have a1 := h2 i (by omega)
    have a2 := h2 (i + 1) (by omega)
    have bp := hp i (by omega)
    have bT := hT i (by omega)
    have bT' := hT (i + 1) (by omega)
    have z1 : pA p i i = 0 := if_neg (by omega)
    have z2 : pA p i (i + 1) = 0 := if_neg (by omega)
    have z3 : pB p i (i + 1) = 0 := if_neg (by omega)
    have z4 : -1000000 ≤ pB p i i ∧ pB p i i ≤ 1000000 := by
      unfold pB; split
      · exact hp _ (by omega)
      · omega
    rw [z1] at a1
    rw [z2, z3] at a2
    have t1 : Int.toNat ((s : Int) * 10 + (i : Int)) = 10 * s + i := by omega
    have t2 : Int.toNat ((X : Int) * 10 + (i : Int)) = 10 * X + i := by omega
    have t3 : Int.toNat ((X : Int) * 10 + (i : Int) + 1) = 10 * X + (i + 1) := by omega
    rw [LB_Mi_addColumn_66, if_neg (by omega), if_pos (by omega), if_pos (by omega), if_pos (by omega), t1, t2, t3, up_ne _ _ (show 10 * X + (i + 1) ≠ 10 * X + i by omega), a0, show ((i : Int) + 1) = ((i + 1 : Nat) : Int) by omega]
    have key : ∀ (S2 : Nat → Int), S2 = up (up S (10 * X + i) (S (10 * X + i) + f * (σ * p i))) (10 * X + (i + 1)) (S (10 * X + (i + 1)) + l * (σ * p i)) → (∀ e, e < 10 → S2 (10 * s + e) = p e) ∧ (∀ e, e < 10 → S2 (10 * X + e) = T e + σ * (f * pA p (i + 1) e + l * pB p (i + 1) e)) ∧ ∀ q, (q < 10 * X ∨ 10 * X + 10 ≤ q) → S2 q = S q := fun S2 hS2 => by
      refine ⟨fun e he => ?_, fun e he => ?_, fun q hq => ?_⟩
      · rw [hS2, up_ne _ _ (by omega), up_ne _ _ (by omega)]; exact h1 e he
      · rw [hS2]
        by_cases e1 : e = i + 1
        · subst e1
          have y1 : pA p (i + 1) (i + 1) = 0 := if_neg (by omega)
          have y2 : pB p (i + 1) (i + 1) = p i := by unfold pB; rw [if_pos (by omega)]; rfl
          rw [up_eq, a2, y1, y2]; grind
        · rw [up_ne _ _ (by omega)]
          by_cases e2 : e = i
          · subst e2
            have y1 : pA p (e + 1) e = p e := if_pos (by omega)
            have y2 : pB p (e + 1) e = pB p e e := by
              unfold pB
              by_cases c : 0 < e
              · rw [if_pos (by omega), if_pos (by omega)]
              · rw [if_neg (by omega), if_neg (by omega)]
            rw [up_eq, a1, y1, y2]; grind
          · have y1 : pA p (i + 1) e = pA p i e := by
              unfold pA
              by_cases c : e < i
              · rw [if_pos c, if_pos (by omega)]
              · rw [if_neg c, if_neg (by omega)]
            have y2 : pB p (i + 1) e = pB p i e := by
              unfold pB
              by_cases c : 0 < e ∧ e ≤ i
              · rw [if_pos c, if_pos (by omega)]
              · rw [if_neg c, if_neg (by omega)]
            rw [up_ne _ _ (by omega), y1, y2]; exact h2 e he
      · rw [hS2, up_ne _ _ (by omega), up_ne _ _ (by omega)]
    have fin : ∃ S', LB_Mi_addColumn_66 fl od nn (s : Int) (row : Int) x3 f l (X : Int) σ ((s : Int) * 10) ((X : Int) * 10) ((i + 1 : Nat) : Int) rc (up (up S (10 * X + i) (S (10 * X + i) + f * (σ * p i))) (10 * X + (i + 1)) (S (10 * X + (i + 1)) + l * (σ * p i))) = some (rc, S') ∧ (∀ e, e < 10 → S' (10 * X + e) = T e + σ * (f * pA p (row + 1) e + l * pB p (row + 1) e)) ∧ (∀ q, (q < 10 * X ∨ 10 * X + 10 ≤ q) → S' q = S q) := by
      obtain ⟨k1, k2, k3⟩ := key _ rfl
      obtain ⟨S', g1, g2, g3⟩ := ih nn (i + 1) _ (by omega) (by omega) k1 k2
      exact ⟨S', g1, g2, fun q hq => by rw [g3 q hq, k3 q hq]⟩
    rw [if_pos]
    · exact fin
    · rw [a1, a2]
      clear fin key ih h1 h2 hp hT a1 a2
      rcases hfl with ⟨e1, e2⟩ | ⟨e1, e2⟩ | ⟨e1, e2⟩ <;> rcases hσ with e3 | e3 <;> subst e1 e2 e3 <;> omega
/-- reached rows hold the values V; the others have the value 0 -/
def RS (m : Nat) (rc S : Nat → Int) (V : Nat → Nat → Int) : Prop := ∀ X, X < 2 ^ m → (rc X = 0 ∨ rc X = 1) ∧ (rc X = 1 → ∀ e, e < 10 → S (10 * X + e) = V X e) ∧ (rc X = 0 → ∀ e, e < 10 → V X e = 0)
def sgC (s col : Nat) : Int := eps (cntP (fun i => s.testBit i && decide (col < i)) 10)
def adV (m s col : Nat) (f l : Int) (p : Nat → Int) (V : Nat → Nat → Int) : Nat → Nat → Int := fun X e => V X e + (if col < m ∧ s.testBit col = false ∧ X = s ||| 2 ^ col then sgC s col * (f * p e + l * sh p e) else 0)
theorem C_addCol (fl : Nat) (hfl : 100 ≤ fl) {m s col row : Nat} (hm : m ≤ 9) (hs : s < 2 ^ m) (hrow : row ≤ 8) {f l : Int} (hf : (f = 0 ∧ l = 1) ∨ (f = -1 ∧ l = 0) ∨ (f = 1 ∧ l = -1)) {rc S : Nat → Int} {V : Nat → Nat → Int} {p : Nat → Int} (hR : RS m rc S V) (h1 : rc s = 1) (hp : ∀ e, e < 10 → V s e = p e) (hd : ∀ e, row < e → p e = 0) (bp : ∀ e, e < 10 → -1000000 ≤ p e ∧ p e ≤ 1000000) (bV : ∀ X e, X < 2 ^ m → e < 10 → -100000000 ≤ V X e ∧ V X e ≤ 100000000) :
    ∃ rc' S', LM_Mi_addColumn fl (m : Int) (s : Int) (row : Int) (col : Int) f l rc S = some (rc', S') ∧ RS m rc' S' (adV m s col f l p V) ∧ rc' s = 1 ∧ (∀ e, e < 10 → adV m s col f l p V s e = p e) := by
  have m512 : 2 ^ m ≤ 512 := by
    have : 2 ^ m ≤ 2 ^ 9 := Nat.pow_le_pow_right (by omega) hm
    omega
  unfold LM_Mi_addColumn LB_Mi_addColumn_0
  by_cases c : col < m
  · rw [if_neg (by omega), b_test s (by omega) col (by omega)]
    cases t : s.testBit col
    · obtain ⟨X, hXe⟩ : ∃ X, X = s ||| 2 ^ col := ⟨_, rfl⟩
      have hX : X < 2 ^ m := by rw [hXe]; exact or_lt hs c
      have hne : s ≠ X := fun e => by
        have : (s ||| 2 ^ col).testBit col = true := by rw [Nat.testBit_or, Nat.testBit_two_pow]; simp
        rw [← hXe, ← e, t] at this; cases this
      rw [if_pos (by decide), b_or s (by omega) col (by omega), ← hXe]
      obtain ⟨x1, x2, x3⟩ := hR X hX
      obtain ⟨rc1, S1, g1, g2, g3, g4, g5⟩ := C_reach fl hfl (show X < 512 by omega) rc S x1
      rw [g1]
      rw [Option.bind_some]
      rw [show LM_Int_bitCount fl (ishr (s : Int) ((col : Int) % 32)) = LM_Int_bitCount 0 (ishr (s : Int) ((col : Int) % 32)) from rfl, b_gt s (by omega) col (by omega) t]
      rw [Option.bind_some]
      have hS1 : ∀ e, e < 10 → S1 (10 * X + e) = V X e := fun e he => by
        rcases x1 with x1 | x1
        · rw [g3 x1 e he, x3 x1 e he]
        · rw [g4 x1]; exact x2 x1 e he
      have main : ∀ σ : Int, (σ = 1 ∨ σ = -1) → σ = sgC s col → ∃ rc' S', LB_Mi_addColumn_48 fl (m : Int) σ (s : Int) (row : Int) (col : Int) f l (X : Int) rc1 S1 = some (rc', S') ∧ RS m rc' S' (adV m s col f l p V) ∧ rc' s = 1 ∧ (∀ e, e < 10 → adV m s col f l p V s e = p e) := fun σ hσ hσ' => by
        unfold LB_Mi_addColumn_48
        rw [if_pos (by omega)]
        obtain ⟨S', w1, w2, w3⟩ := ac66 fl (m : Int) (show s < 512 by omega) (show X < 512 by omega) hne hrow (col : Int) hf hσ bp (fun e he => bV X e hX he) rc1 (row + 1) fl 0 S1 (by omega) (by omega) (fun e he => by rw [g5 _ (by omega), (hR s hs).2.1 h1 e he, hp e he]) (fun e he => by
          have z1 : pA p 0 e = 0 := if_neg (by omega)
          have z2 : pB p 0 e = 0 := if_neg (by omega)
          rw [hS1 e he, z1, z2]; omega)
        refine ⟨rc1, S', w1, fun Y hY => ?_, ?_, fun e he => ?_⟩
        · by_cases cY : Y = X
          · subst cY
            have r1 : rc1 Y = 1 := by rw [g2, if_pos rfl]
            refine ⟨Or.inr r1, fun _ e he => ?_, fun e => by omega⟩
            rw [w2 e he]
            unfold adV
            rw [if_pos ⟨c, t, hXe⟩, hσ']
            have y1 : pA p (row + 1) e = p e := by
              unfold pA; split
              · rfl
              · rw [hd e (by omega)]
            have y2 : pB p (row + 1) e = sh p e := by
              unfold pB sh
              by_cases e0 : e = 0
              · rw [if_neg (by omega), if_pos e0]
              · rw [if_neg e0]
                by_cases e1 : e ≤ row + 1
                · rw [if_pos (by omega)]
                · rw [if_neg (by omega), hd (e - 1) (by omega)]
            rw [y1, y2]
          · obtain ⟨q1, q2, q3⟩ := hR Y hY
            have r1 : rc1 Y = rc Y := by rw [g2, if_neg cY]
            have av : ∀ e, adV m s col f l p V Y e = V Y e := fun e => by
              unfold adV; rw [if_neg (fun w => cY (by rw [w.2.2, hXe]))]; omega
            rw [r1]
            refine ⟨q1, fun h e he => ?_, fun h e he => ?_⟩
            · rw [w3 _ (by omega), g5 _ (by omega), av]; exact q2 h e he
            · rw [av]; exact q3 h e he
        · rw [g2, if_neg hne]; exact h1
        · unfold adV; rw [if_neg (fun w => hne (by rw [hXe]; exact w.2.2)), hp e he]; omega
      by_cases par : cntP (fun i => s.testBit i && decide (col < i)) 10 % 2 = 1
      · rw [if_neg (by omega)]
        exact main (-1) (Or.inr rfl) (by unfold sgC eps; rw [if_neg (by omega)])
      · rw [if_pos (by omega)]
        exact main 1 (Or.inl rfl) (by unfold sgC eps; rw [if_pos (by omega)])
    · rw [if_neg (by decide)]
      have av : ∀ Y e, adV m s col f l p V Y e = V Y e := fun Y e => by
        unfold adV; rw [if_neg (fun w => by rw [t] at w; cases w.2.1)]; omega
      exact ⟨rc, S, rfl, fun Y hY => ⟨(hR Y hY).1, fun h e he => by rw [av]; exact (hR Y hY).2.1 h e he, fun h e he => by rw [av]; exact (hR Y hY).2.2 h e he⟩, h1, fun e he => by rw [av, hp e he]⟩
  · rw [if_pos (by omega)]
    have av : ∀ Y e, adV m s col f l p V Y e = V Y e := fun Y e => by
      unfold adV; rw [if_neg (fun w => c w.1)]; omega
    exact ⟨rc, S, rfl, fun Y hY => ⟨(hR Y hY).1, fun h e he => by rw [av]; exact (hR Y hY).2.1 h e he, fun h e he => by rw [av]; exact (hR Y hY).2.2 h e he⟩, h1, fun e he => by rw [av, hp e he]⟩
