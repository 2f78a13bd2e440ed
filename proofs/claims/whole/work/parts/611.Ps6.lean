theorem refC_ne (tx : Nat → Int) (sz q : Nat) {code : Int} (h : code ≠ 0) : refC tx sz q code ≠ 0 := by
  unfold refC
  split
  · omega
  · split
    · omega
    · exact h
/-- a number of the reference, with its value -/
def RV (tx : Nat → Int) (sz : Nat) (r : Rs) (X : Option (Int × Int × Int × Int × Int × Int)) : Prop := match r with
  | .inl a => ∃ v at_ tm fr fa pl, X = some (v, at_, tm, fr, fa, pl) ∧ AtM tx sz a.1 at_ tm fr fa pl ∧ a.2 = [v] ∧ (-10000 < v ∧ v < 10000)
  | .inr e => ∃ at_ tm fr, X = some (0, at_, tm, fr, e.1, (e.2 : Int)) ∧ FaM tx sz at_ tm fr ∧ e.1 ≠ 0
theorem M_number (fl : Nat) (hfl : 5000 ≤ fl) {tx ty : Nat → Int} {sz : Nat} (hs : sz ≤ 4000) (ht : TXT tx ty sz) {q : Nat} {at_ tm fr fa pl : Int} (h : AtM tx sz q at_ tm fr fa pl) : RV tx sz (sNum tx sz 1 q) (LM_Md_number fl (sz : Int) ty 0 at_ tm fr fa pl) := by
  have hr := tkK_r tx sz q
  unfold LM_Md_number LB_Md_number_0
  by_cases c : nbP tx sz q
  · have es : sNum tx sz 1 q = .inl (nxt tx sz q, [1 * nv tx sz q]) := if_pos c
    have c3 := c.1
    have hv := nv_b c3
    obtain ⟨a1, t1, f1, g1, p1, n1, n2⟩ := M_next fl hfl hs ht h (by omega)
    have h' := h
    obtain ⟨h1, ⟨h2, h3, h4, h5, h6, h7⟩ | ⟨h2, _⟩⟩ := h'
    · have e := tkM_b hr 2 (by omega)
      have eb := M_bad fl hfl hs ht h1 c3 0
      rw [if_pos ⟨c.2.1, Or.inr c.2.2⟩] at eb
      have hm : tkE tx sz q - q ≤ 18 := by
        by_cases g : 18 < tkE tx sz q - q
        · have : ms tx sz q = 1 := by unfold ms misF; rw [if_pos g]
          have := c.2.1
          omega
        · omega
      rw [es, n1, h3, h5, eb, if_pos (by omega), Option.bind_some, if_pos rfl, M_value fl hfl hs ht h1 c3 hm, Option.bind_some, Option.bind_some]
      exact ⟨_, _, _, _, _, _, rfl, n2, by rw [Int.one_mul], by have := c.2.2; omega⟩
    · omega
  · have es : sNum tx sz 1 q = .inr (refC tx sz q 4, q) := if_neg c
    rw [es]
    refine ⟨at_, tm, fr, ?_, FaM_of h, refC_ne tx sz q (by omega)⟩
    have hw := M_wrong fl hfl hs ht h
    have h' := h
    obtain ⟨h1, ⟨h2, h3, h4, h5, h6, h7⟩ | ⟨h2, h3, h4, h5⟩⟩ := h'
    · have e := tkM_b hr 2 (by omega)
      by_cases c3 : tkK tx sz q = 3
      · have eb := M_bad fl hfl hs ht h1 c3 0
        rw [if_neg (fun g => c ⟨c3, g.1, g.2.resolve_left (fun x => x rfl)⟩)] at eb
        have er : refC tx sz q 4 = 2 := by unfold refC; rw [if_neg h2, if_pos ⟨c3, c⟩]
        unfold LM_Md_fail LB_Md_fail_0
        rw [if_pos (by omega), h3, h5, eb, Option.bind_some, if_neg (by omega), if_pos h6, Option.bind_some, er]
      · rw [if_neg (by omega), hw, Option.bind_some]
    · rw [if_neg (by omega), hw, Option.bind_some]
theorem M_signed (fl : Nat) (hfl : 5000 ≤ fl) {tx ty : Nat → Int} {sz : Nat} (hs : sz ≤ 4000) (ht : TXT tx ty sz) {q : Nat} {at_ tm fr fa pl : Int} (h : AtM tx sz q at_ tm fr fa pl) : RV tx sz (sSgd tx sz q) (LM_Md_signed fl (sz : Int) ty at_ tm fr fa pl) := by
  unfold LM_Md_signed LB_Md_signed_0 LB_Md_signed_15
  rw [M_mark fl hs ht h 45, Option.bind_some]
  by_cases c : mkP tx sz q 45
  · have es : sSgd tx sz q = sNum tx sz (-1) (nxt tx sz q) := if_pos c
    have := c.1
    obtain ⟨a1, t1, f1, g1, p1, n1, n2⟩ := M_next fl hfl hs ht h (by omega)
    have k := M_number fl hfl hs ht n2
    rw [es, if_pos c, if_neg (by omega), n1, Option.bind_some]
    by_cases c2 : nbP tx sz (nxt tx sz q)
    · have e1 : sNum tx sz 1 (nxt tx sz q) = .inl (nxt tx sz (nxt tx sz q), [1 * nv tx sz (nxt tx sz q)]) := if_pos c2
      have e2 : sNum tx sz (-1) (nxt tx sz q) = .inl (nxt tx sz (nxt tx sz q), [-1 * nv tx sz (nxt tx sz q)]) := if_pos c2
      rw [e1] at k
      obtain ⟨v, a2, t2, f2, g2, p2, k1, k2, k3, k4⟩ := k
      have k5 : 1 * nv tx sz (nxt tx sz q) = v := (List.cons.inj k3).1
      rw [e2, k1, Option.bind_some, if_neg (by omega), if_pos (by omega)]
      exact ⟨-v, a2, t2, f2, g2, p2, rfl, k2, by show [-1 * nv tx sz (nxt tx sz q)] = [-v]; congr 1; omega, by omega⟩
    · have e1 : sNum tx sz 1 (nxt tx sz q) = .inr (refC tx sz (nxt tx sz q) 4, nxt tx sz q) := if_neg c2
      have e2 : sNum tx sz (-1) (nxt tx sz q) = .inr (refC tx sz (nxt tx sz q) 4, nxt tx sz q) := if_neg c2
      rw [e1] at k
      obtain ⟨a2, t2, f2, k1, k2, k3⟩ := k
      rw [e2, k1, Option.bind_some, if_neg (by omega), if_pos (by omega)]
      exact ⟨a2, t2, f2, rfl, k2, k3⟩
  · have es : sSgd tx sz q = sNum tx sz 1 q := if_neg c
    have k := M_number fl hfl hs ht h
    rw [es, if_neg c, if_pos rfl]
    by_cases c2 : nbP tx sz q
    · have e1 : sNum tx sz 1 q = .inl (nxt tx sz q, [1 * nv tx sz q]) := if_pos c2
      rw [e1] at k ⊢
      obtain ⟨v, a2, t2, f2, g2, p2, k1, k2, k3, k4⟩ := k
      rw [k1, Option.bind_some, if_pos rfl]
      exact ⟨v, a2, t2, f2, g2, p2, rfl, k2, k3, k4⟩
    · have e1 : sNum tx sz 1 q = .inr (refC tx sz q 4, q) := if_neg c2
      rw [e1] at k ⊢
      obtain ⟨a2, t2, f2, k1, k2, k3⟩ := k
      rw [k1, Option.bind_some, if_pos rfl]
      exact ⟨a2, t2, f2, rfl, k2, k3⟩
theorem FaM_number (fl : Nat) (hfl : 5000 ≤ fl) {tx ty : Nat → Int} {sz : Nat} (hs : sz ≤ 4000) (ht : TXT tx ty sz) {at_ tm fr fa pl : Int} (h : FaM tx sz at_ tm fr) (hf : fa ≠ 0) (x1 : Int) : ∃ v at' tm' fr', LM_Md_number fl (sz : Int) ty x1 at_ tm fr fa pl = some (v, at', tm', fr', fa, pl) ∧ FaM tx sz at' tm' fr' ∧ (0 ≤ v ∧ v < 1000000000000000000) := by
  have hw := FaM_wrong fl hfl hs ht h hf (pl := pl)
  unfold LM_Md_number LB_Md_number_0
  by_cases c0 : tm = 2
  · have h' := h
    rcases h' with h' | ⟨q, h1, h2, h3, h4, h5⟩
    · omega
    · have hr := tkK_r tx sz q
      have e := tkM_b hr 2 (by omega)
      have c3 : tkK tx sz q = 3 := by omega
      have eb := M_bad fl hfl hs ht h1 c3 x1
      rw [if_pos c0, h3, h5, eb, Option.bind_some]
      by_cases g : ms tx sz q = 0 ∧ (x1 ≠ 0 ∨ nv tx sz q ≤ 9999)
      · have hm : tkE tx sz q - q ≤ 18 := by
          by_cases w : 18 < tkE tx sz q - q
          · have : ms tx sz q = 1 := by unfold ms misF; rw [if_pos w]
            have := g.1
            omega
          · omega
        rw [if_pos g, if_pos rfl, M_value fl hfl hs ht h1 c3 hm, Option.bind_some, M_lookF fl ty _ _ _ _ _ hf, Option.bind_some]
        exact ⟨_, _, _, _, rfl, Or.inl rfl, nv_b c3⟩
      · unfold LM_Md_fail LB_Md_fail_0
        rw [if_neg g, if_neg (by omega), if_neg hf, Option.bind_some]
        refine ⟨_, _, _, _, rfl, ?_, by omega⟩
        rw [← h3, ← h5]; exact h
  · rw [if_neg c0, hw, Option.bind_some]
    exact ⟨_, _, _, _, rfl, h, by omega⟩
theorem FaM_signed (fl : Nat) (hfl : 5000 ≤ fl) {tx ty : Nat → Int} {sz : Nat} (hs : sz ≤ 4000) (ht : TXT tx ty sz) {at_ tm fr fa pl : Int} (h : FaM tx sz at_ tm fr) (hf : fa ≠ 0) : ∃ v at' tm' fr', LM_Md_signed fl (sz : Int) ty at_ tm fr fa pl = some (v, at', tm', fr', fa, pl) ∧ FaM tx sz at' tm' fr' := by
  obtain ⟨v0, hv0, e0⟩ := FaM_mark fl (ty := ty) hs h 45
  unfold LM_Md_signed LB_Md_signed_0 LB_Md_signed_15
  rw [e0, Option.bind_some]
  have fin : ∀ at_ tm fr, FaM tx sz at_ tm fr → ∃ v at' tm' fr', ((LM_Md_number fl (sz : Int) ty (0 : Int) at_ tm fr fa pl).bind fun o0 => (if v0 = (0 : Int) then (some (o0.1, o0.2.1, o0.2.2.1, o0.2.2.2.1, o0.2.2.2.2.1, o0.2.2.2.2.2)) else (if (-9223372036854775808 ≤ (-o0.1) ∧ (-o0.1) < 9223372036854775808) then (some ((-o0.1), o0.2.1, o0.2.2.1, o0.2.2.2.1, o0.2.2.2.2.1, o0.2.2.2.2.2)) else none))) = some (v, at', tm', fr', fa, pl) ∧ FaM tx sz at' tm' fr' := by
    intro at_ tm fr h
    obtain ⟨v, a1, t1, f1, k1, k2, k3⟩ := FaM_number fl hfl hs ht h hf 0 (pl := pl)
    rw [k1, Option.bind_some]
    by_cases c : v0 = 0
    · rw [if_pos c]; exact ⟨v, a1, t1, f1, rfl, k2⟩
    · rw [if_neg c, if_pos (by omega)]; exact ⟨-v, a1, t1, f1, rfl, k2⟩
  by_cases c : v0 = 0
  · rw [if_pos c]
    exact fin at_ tm fr h
  · rw [if_neg c, M_lookF fl ty _ _ _ _ _ hf, Option.bind_some]
    exact fin _ _ _ (Or.inl rfl)
theorem FaM_need (fl : Nat) (hfl : 5000 ≤ fl) {tx ty : Nat → Int} {sz : Nat} (hs : sz ≤ 4000) (ht : TXT tx ty sz) {at_ tm fr fa pl : Int} (h : FaM tx sz at_ tm fr) (hf : fa ≠ 0) (m : Int) : ∃ at' tm' fr', LM_Md_need fl (sz : Int) ty m at_ tm fr fa pl = some (at', tm', fr', fa, pl) ∧ FaM tx sz at' tm' fr' := by
  obtain ⟨v0, hv0, e0⟩ := FaM_mark fl (ty := ty) hs h m
  unfold LM_Md_need LB_Md_need_0
  rw [e0, Option.bind_some]
  by_cases c : v0 = 0
  · rw [if_pos c, FaM_wrong fl hfl hs ht h hf, Option.bind_some]
    exact ⟨_, _, _, rfl, h⟩
  · rw [if_neg c, M_lookF fl ty _ _ _ _ _ hf, Option.bind_some]
    exact ⟨_, _, _, rfl, Or.inl rfl⟩
theorem M_need (fl : Nat) (hfl : 5000 ≤ fl) {tx ty : Nat → Int} {sz : Nat} (hs : sz ≤ 4000) (ht : TXT tx ty sz) {q : Nat} {at_ tm fr fa pl : Int} (h : AtM tx sz q at_ tm fr fa pl) (m : Int) :
    match sMark tx sz m q with
    | .inl a => ∃ at' tm' fr' fa' pl', LM_Md_need fl (sz : Int) ty m at_ tm fr fa pl = some (at', tm', fr', fa', pl') ∧ AtM tx sz a.1 at' tm' fr' fa' pl' ∧ a.2 = []
    | .inr e => ∃ at' tm' fr', LM_Md_need fl (sz : Int) ty m at_ tm fr fa pl = some (at', tm', fr', e.1, (e.2 : Int)) ∧ FaM tx sz at' tm' fr' ∧ e.1 ≠ 0 := by
  unfold LM_Md_need LB_Md_need_0
  rw [M_mark fl hs ht h m, Option.bind_some]
  by_cases c : mkP tx sz q m
  · have es : sMark tx sz m q = .inl (nxt tx sz q, []) := if_pos c
    have := c.1
    obtain ⟨a1, t1, f1, g1, p1, n1, n2⟩ := M_next fl hfl hs ht h (by omega)
    rw [es, if_pos c, if_neg (by omega), n1, Option.bind_some]
    exact ⟨a1, t1, f1, g1, p1, rfl, n2, rfl⟩
  · have es : sMark tx sz m q = .inr (refC tx sz q 4, q) := if_neg c
    rw [es, if_neg c, if_pos rfl, M_wrong fl hfl hs ht h, Option.bind_some]
    exact ⟨_, _, _, rfl, FaM_of h, refC_ne tx sz q (by omega)⟩
