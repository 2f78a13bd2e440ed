theorem M_pover (fl : Nat) (hfl : 5000 ≤ fl) {tx ty : Nat → Int} {sz : Nat} (hs : sz ≤ 4000) (ht : TXT tx ty sz) {q : Nat} {at_ tm fr fa pl : Int} (h : AtM tx sz q at_ tm fr fa pl) {nu0 nu : Nat → Int} {b : Nat} {pa : Int} {l : List Int} (hn : NM nu0 b nu pa l) (hb : b + l.length < q) : RM tx sz nu0 b l 4001 (sSide tx sz q) (LM_Md_putOver fl (sz : Int) ty at_ tm fr fa pl pa nu) := by
  have hq := h.1
  have h1 := hn.1
  have e61 : lit 61 = lit 20 := by decide
  have e62 : lit 62 = lit 21 := by decide
  unfold LM_Md_putOver LB_Md_putOver_0 LB_Md_putOver_23 LB_Md_putOver_38
  rw [M_word fl hfl hs ht h (show 61 < 79 by decide), Option.bind_some, M_word fl hfl hs ht h (show 62 < 79 by decide), Option.bind_some, Option.bind_some, e61, e62]
  have fin : ∀ x : Int, tkK tx sz q ≠ 1 → ∃ a1 t1 f1 g1 p1 pa1 nu1, ((LM_Md_put fl x pa nu).bind fun o0 => ((LM_Md_look fl (sz : Int) ty at_ tm fr fa pl).bind fun o1 => (some (o1.1, o1.2.1, o1.2.2.1, o1.2.2.2.1, o1.2.2.2.2, o0.1, o0.2)))) = some (a1, t1, f1, g1, p1, pa1, nu1) ∧ AtM tx sz (nxt tx sz q) a1 t1 f1 g1 p1 ∧ NM nu0 b nu1 pa1 (l ++ [x]) := by
    intro x hk
    obtain ⟨pa1, nu1, k1, k2⟩ := M_put fl hn (by omega) x
    obtain ⟨a1, t1, f1, g1, p1, n1, n2⟩ := M_next fl hfl hs ht h hk
    rw [k1, Option.bind_some, n1, Option.bind_some]
    exact ⟨a1, t1, f1, g1, p1, pa1, nu1, rfl, n2, k2⟩
  by_cases c : wdP tx sz q (lit 20)
  · have es : sSide tx sz q = .inl (nxt tx sz q, [1]) := if_pos c
    rw [es, if_pos c, if_pos (by omega), if_neg (by omega)]
    exact fin 1 (by have := c.1; omega)
  · rw [if_neg c, if_neg (by omega), if_pos rfl]
    by_cases c2 : wdP tx sz q (lit 21)
    · have es : sSide tx sz q = .inl (nxt tx sz q, [0]) := by unfold sSide; rw [if_neg c, if_pos c2]
      rw [es, if_pos c2, if_pos (by omega)]
      exact fin 0 (by have := c2.1; omega)
    · have es : sSide tx sz q = .inr (refC tx sz q 4, q) := by unfold sSide; rw [if_neg c, if_neg c2]
      rw [es, if_neg c2, if_neg (by omega), M_wrong fl hfl hs ht h, Option.bind_some]
      exact ⟨refC_ne tx sz q (by decide), _, _, _, _, _, rfl, FaM_of h, by omega, by omega⟩
theorem F_pover (fl : Nat) (hfl : 5000 ≤ fl) {tx ty : Nat → Int} {sz : Nat} (hs : sz ≤ 4000) (ht : TXT tx ty sz) {at_ tm fr fa pl pa : Int} (h : FaM tx sz at_ tm fr) (hf : fa ≠ 0) (nu : Nat → Int) {B : Nat} (hB : 0 ≤ pa ∧ pa ≤ (B : Int) ∧ B ≤ 8000) : FR tx sz fa pl (B + 1) (LM_Md_putOver fl (sz : Int) ty at_ tm fr fa pl pa nu) := by
  obtain ⟨v, hv, e⟩ := FaM_word fl hfl (ty := ty) hs h (show 61 < 79 by decide)
  obtain ⟨v1, hv1, e1⟩ := FaM_word fl hfl (ty := ty) hs h (show 62 < 79 by decide)
  have fin : ∀ x : Int, FR tx sz fa pl (B + 1) ((LM_Md_put fl x pa nu).bind fun o0 => ((LM_Md_look fl (sz : Int) ty at_ tm fr fa pl).bind fun o1 => (some (o1.1, o1.2.1, o1.2.2.1, o1.2.2.2.1, o1.2.2.2.2, o0.1, o0.2)))) := fun x => by
    rw [M_putF fl (by omega), Option.bind_some, M_lookF fl ty _ _ _ _ _ hf, Option.bind_some]
    exact ⟨_, _, _, _, _, rfl, Or.inl rfl, by omega, by omega⟩
  unfold LM_Md_putOver LB_Md_putOver_0 LB_Md_putOver_23 LB_Md_putOver_38
  rw [e, Option.bind_some, e1, Option.bind_some, Option.bind_some]
  have side : FR tx sz fa pl (B + 1) (if v = (0 : Int) then ((LM_Md_put fl 0 pa nu).bind fun o0 => ((LM_Md_look fl (sz : Int) ty at_ tm fr fa pl).bind fun o1 => (some (o1.1, o1.2.1, o1.2.2.1, o1.2.2.2.1, o1.2.2.2.2, o0.1, o0.2)))) else ((LM_Md_put fl 1 pa nu).bind fun o0 => ((LM_Md_look fl (sz : Int) ty at_ tm fr fa pl).bind fun o1 => (some (o1.1, o1.2.1, o1.2.2.1, o1.2.2.2.1, o1.2.2.2.2, o0.1, o0.2))))) := by
    split
    · exact fin 0
    · exact fin 1
  by_cases c : v = 0
  · rw [if_neg (fun g => g c)]
    by_cases c2 : v1 = 0
    · rw [if_neg (fun g => g c2), FaM_wrong fl hfl hs ht h hf, Option.bind_some]
      exact ⟨_, _, _, _, _, rfl, h, by omega, by omega⟩
    · rw [if_pos c2]; exact side
  · rw [if_pos c]; exact side
/-- a number and its put, what comes behind them -/
theorem RM_num {tx : Nat → Int} {sz : Nat} (fl : Nat) {nu0 nu : Nat → Int} {b : Nat} {pa : Int} {l : List Int} {B' : Nat} {r : Rs} {f : Nat → Rs} {X : Option (Int × Int × Int × Int × Int × Int)} {G : MT → Option MT} (h : RV tx sz r X) (hn : NM nu0 b nu pa l) (hb : b + l.length < 4000)
    (hg : ∀ q1 l1 at_ tm fr fa pl pa nu, r = .inl (q1, l1) → AtM tx sz q1 at_ tm fr fa pl → NM nu0 b nu pa (l ++ l1) → RM tx sz nu0 b (l ++ l1) B' (f q1) (G (at_, tm, fr, fa, pl, pa, nu)))
    (hf : ∀ at_ tm fr fa pl pa nu, FaM tx sz at_ tm fr → fa ≠ 0 → 0 ≤ pa → pa ≤ ((4001 : Nat) : Int) → FR tx sz fa pl B' (G (at_, tm, fr, fa, pl, pa, nu))) :
    RM tx sz nu0 b l B' (sq r f) (X.bind fun o => (LM_Md_put fl o.1 pa nu).bind fun o1 => G (o.2.1, o.2.2.1, o.2.2.2.1, o.2.2.2.2.1, o.2.2.2.2.2, o1.1, o1.2)) := by
  have key : RM tx sz nu0 b l 4001 r (X.bind fun o => (LM_Md_put fl o.1 pa nu).bind fun o1 => some (o.2.1, o.2.2.1, o.2.2.2.1, o.2.2.2.2.1, o.2.2.2.2.2, o1.1, o1.2)) := by
    have h1 := hn.1
    cases r with
    | inr e =>
      obtain ⟨at_, tm, fr, k1, k2, k3⟩ := h
      rw [k1, Option.bind_some, M_putF fl (by omega), Option.bind_some]
      exact ⟨k3, _, _, _, _, _, rfl, k2, by omega, by omega⟩
    | inl a =>
      obtain ⟨v, at_, tm, fr, fa, pl, k1, k2, k3, k4⟩ := h
      obtain ⟨pa1, nu1, k5, k6⟩ := M_put fl hn (by omega) v
      rw [k1, Option.bind_some, k5, Option.bind_some]
      exact ⟨at_, tm, fr, fa, pl, pa1, nu1, rfl, k2, by rw [k3]; exact k6⟩
  have := RM_sq key hg hf
  have e : ((X.bind fun o => (LM_Md_put fl o.1 pa nu).bind fun o1 => some (o.2.1, o.2.2.1, o.2.2.2.1, o.2.2.2.2.1, o.2.2.2.2.2, o1.1, o1.2)).bind G) = (X.bind fun o => (LM_Md_put fl o.1 pa nu).bind fun o1 => G (o.2.1, o.2.2.1, o.2.2.2.1, o.2.2.2.2.1, o.2.2.2.2.2, o1.1, o1.2)) := by
    cases X with
    | none => rfl
    | some o =>
      rw [Option.bind_some, Option.bind_some]
      cases LM_Md_put fl o.1 pa nu with
      | none => rfl
      | some o1 => rw [Option.bind_some, Option.bind_some, Option.bind_some]
  rw [e] at this
  exact this
/-- the same of a faulted run -/
theorem FR_bind {tx : Nat → Int} {sz : Nat} {fa pl : Int} {B B' : Nat} {X : Option MT} {G : MT → Option MT} (h : FR tx sz fa pl B X) (hf : ∀ at_ tm fr pa nu, FaM tx sz at_ tm fr → 0 ≤ pa → pa ≤ (B : Int) → FR tx sz fa pl B' (G (at_, tm, fr, fa, pl, pa, nu))) : FR tx sz fa pl B' (X.bind G) := by
  obtain ⟨at_, tm, fr, pa, nu, h1, h2, h3, h4⟩ := h
  rw [h1, Option.bind_some]
  exact hf at_ tm fr pa nu h2 h3 h4
theorem FR_num (fl : Nat) {tx : Nat → Int} {sz : Nat} {fa pl pa : Int} {B B' : Nat} {X : Option (Int × Int × Int × Int × Int × Int)} {G : MT → Option MT} (h : ∃ v at' tm' fr', X = some (v, at', tm', fr', fa, pl) ∧ FaM tx sz at' tm' fr') {nu : Nat → Int} (hB : 0 ≤ pa ∧ pa ≤ (B : Int) ∧ B ≤ 8000)
    (hf : ∀ at_ tm fr pa nu, FaM tx sz at_ tm fr → 0 ≤ pa → pa ≤ ((B + 1 : Nat) : Int) → FR tx sz fa pl B' (G (at_, tm, fr, fa, pl, pa, nu))) : FR tx sz fa pl B' (X.bind fun o => (LM_Md_put fl o.1 pa nu).bind fun o1 => G (o.2.1, o.2.2.1, o.2.2.2.1, o.2.2.2.2.1, o.2.2.2.2.2, o1.1, o1.2)) := by
  obtain ⟨v, at', tm', fr', h1, h2⟩ := h
  rw [h1, Option.bind_some, M_putF fl (by omega), Option.bind_some]
  exact hf at' tm' fr' _ _ h2 (by omega) (by omega)
