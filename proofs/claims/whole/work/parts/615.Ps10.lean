def sRest (tx : Nat → Int) (sz k q : Nat) : Rs :=
  if k = 1 then sCode tx sz 20 q
  else if k = 2 then sq (sNum tx sz 1 q) (sLet tx sz 32)
  else if k = 3 ∨ k = 4 ∨ k = 9 ∨ k = 10 ∨ k = 11 then sNum tx sz 1 q
  else if k = 5 then sq (sNum tx sz 1 q) fun q => sq (sSign tx sz q) (sSide tx sz)
  else if k = 6 then sq (sSgd tx sz q) fun q => sq (sSide tx sz q) (sSgd tx sz)
  else if k = 16 ∨ k = 17 ∨ k = 18 then (if tkK tx sz q = 0 then .inl (q, []) else sSum tx sz (lit (if k = 18 then 22 else 23)) q)
  else .inl (q, [])
def sEnd (tx : Nat → Int) (sz q : Nat) : Rs := if tkK tx sz q = 0 then .inl (q, []) else .inr (refC tx sz q 4, q)
def sLine (tx : Nat → Int) (sz k q : Nat) : Rs := sq (sRest tx sz k q) (sEnd tx sz)
/-- what the class's line reader answers -/
def RL (tx : Nat → Int) (sz : Nat) (st0 vl0 : Nat → Int) (K b : Nat) (l : List Int) (ff fp : Int) (r : Rs) (X : Option (Int × Int × Int × Int × Int × Int × Int × (Nat → Int) × (Nat → Int))) : Prop := match r with
  | .inl a => ∃ be tk pl va mi st vl, X = some ((a.1 : Int) + 1, tk, pl, va, mi, ff, fp, st, vl) ∧ AtC tx sz a.1 be tk pl va mi ∧ tkK tx sz a.1 = 0 ∧ NC st0 vl0 K b st vl (l ++ a.2)
  | .inr e => ∃ be tk pl va mi st vl, X = some (be, tk, pl, va, mi, e.1, (e.2 : Int), st, vl) ∧ (∀ k, k ≤ K → st k = st0 k)
theorem RL_219 (fl : Nat) {tx : Nat → Int} {sz : Nat} (hs : sz ≤ 4000) {st0 vl0 : Nat → Int} {K b : Nat} {l : List Int} {ff fp : Int} {r : Rs} {X : Option (Int × Int × Int × Int × Int × Int × Int × Int × (Nat → Int) × (Nat → Int))} (h : RC tx sz st0 vl0 K b l ff fp r X) (x1 : Int) :
    RL tx sz st0 vl0 K b l ff fp (sq r (sEnd tx sz)) (X.bind fun o => LB_Rd_readRest_219 fl (sz : Int) ((K : Int) + 1) tx x1 o.1 o.2.1 o.2.2.1 o.2.2.2.1 o.2.2.2.2.1 o.2.2.2.2.2.1 o.2.2.2.2.2.2.1 o.2.2.2.2.2.2.2.1 o.2.2.2.2.2.2.2.2.1 o.2.2.2.2.2.2.2.2.2) := by
  unfold LB_Rd_readRest_219 LB_Rd_readRest_236
  cases r with
  | inr e =>
    obtain ⟨be, tk, pl, va, mi, st, vl, h1, h2, h3, h4⟩ := h
    rw [h1, Option.bind_some]
    show RL tx sz st0 vl0 K b l ff fp (.inr e) (if (0 : Int) = 0 then (if (-2147483648 ≤ (pl + (1 : Int)) ∧ (pl + (1 : Int)) < 2147483648) then _ else none) else _)
    rw [if_pos rfl, if_pos (by omega)]
    exact ⟨_, tk, pl, va, mi, st, vl, rfl, h2⟩
  | inl a =>
    obtain ⟨be, tk, pl, va, mi, st, vl, h1, h2, h3⟩ := h
    have e4 := h2.2.2.2.1
    have e5 := h2.1
    have e6 := h2.2.2.1
    rw [h1, Option.bind_some]
    show RL tx sz st0 vl0 K b l ff fp (match sEnd tx sz a.1 with | .inl b => .inl (b.1, a.2 ++ b.2) | .inr e => .inr e) (if (1 : Int) = 0 then _ else (if tk = 0 then (if (-2147483648 ≤ (pl + (1 : Int)) ∧ (pl + (1 : Int)) < 2147483648) then _ else none) else ((LM_Rd_refuse fl tk pl va mi 4 ff fp).bind _)))
    rw [if_neg (by omega)]
    by_cases c : tkK tx sz a.1 = 0
    · have es : sEnd tx sz a.1 = .inl (a.1, []) := if_pos c
      rw [es, if_pos (by omega), if_pos (by omega)]
      refine ⟨be, tk, pl, va, mi, st, vl, ?_, h2, c, by rw [List.append_nil]; exact h3⟩
      rw [e4]
    · have es : sEnd tx sz a.1 = .inr (refC tx sz a.1 4, a.1) := if_neg c
      rw [es, if_neg (by omega), C_refuse fl h2, Option.bind_some, if_pos (show -2147483648 ≤ pl + 1 ∧ pl + 1 < 2147483648 by omega)]
      exact ⟨_, tk, pl, va, mi, st, vl, rfl, NC_st h3⟩
theorem RC_bindc {tx : Nat → Int} {sz : Nat} {st0 vl0 : Nat → Int} {K b : Nat} {l : List Int} {ff fp : Int} {r : Rs} {X : Option (Int × Int × Int × Int × Int × Int × Int × Int × (Nat → Int) × (Nat → Int))} {P : Option (Int × Int × Int × Int × Int × Int × Int × (Nat → Int) × (Nat → Int)) → Prop} {G H : (Int × Int × Int × Int × Int × Int × Int × Int × (Nat → Int) × (Nat → Int)) → Option (Int × Int × Int × Int × Int × Int × Int × (Nat → Int) × (Nat → Int))}
    (h : RC tx sz st0 vl0 K b l ff fp r X) (e : ∀ o, (o.1 = 0 ∨ o.1 = 1) → G o = H o) (g : P (X.bind H)) : P (X.bind G) := by
  cases r with
  | inr e2 =>
    obtain ⟨be, tk, pl, va, mi, st, vl, h1, h2, h3, h4⟩ := h
    rw [h1, Option.bind_some] at g ⊢
    rw [e _ (Or.inl rfl)]; exact g
  | inl a =>
    obtain ⟨be, tk, pl, va, mi, st, vl, h1, h2, h3⟩ := h
    rw [h1, Option.bind_some] at g ⊢
    rw [e _ (Or.inr rfl)]; exact g
/-- a reader with nothing in it -/
theorem RC_nil {tx : Nat → Int} {sz q : Nat} {st0 vl0 st vl : Nat → Int} {K b : Nat} {l : List Int} (ff fp : Int) {be tk pl va mi : Int} (h : AtC tx sz q be tk pl va mi) (hn : NC st0 vl0 K b st vl l) : RC tx sz st0 vl0 K b l ff fp (.inl (q, [])) (some (1, be, tk, pl, va, mi, ff, fp, st, vl)) := ⟨_, _, _, _, _, _, _, rfl, h, by rw [List.append_nil]; exact hn⟩
theorem RL_fin (fl : Nat) {tx : Nat → Int} {sz : Nat} (hs : sz ≤ 4000) {st0 vl0 : Nat → Int} {K b : Nat} {l : List Int} {ff fp : Int} {r : Rs} {X : Option (Int × Int × Int × Int × Int × Int × Int × Int × (Nat → Int) × (Nat → Int))} (h : RC tx sz st0 vl0 K b l ff fp r X) (x1 : Int) :
    RL tx sz st0 vl0 K b l ff fp (sq r (sEnd tx sz)) (X.bind fun o => if o.1 = (0 : Int) then LB_Rd_readRest_219 fl (sz : Int) ((K : Int) + 1) tx x1 0 o.2.1 o.2.2.1 o.2.2.2.1 o.2.2.2.2.1 o.2.2.2.2.2.1 o.2.2.2.2.2.2.1 o.2.2.2.2.2.2.2.1 o.2.2.2.2.2.2.2.2.1 o.2.2.2.2.2.2.2.2.2 else LB_Rd_readRest_219 fl (sz : Int) ((K : Int) + 1) tx x1 1 o.2.1 o.2.2.1 o.2.2.2.1 o.2.2.2.2.1 o.2.2.2.2.2.1 o.2.2.2.2.2.2.1 o.2.2.2.2.2.2.2.1 o.2.2.2.2.2.2.2.2.1 o.2.2.2.2.2.2.2.2.2) := by
  refine RC_bindc h (fun o ho => ?_) (RL_219 fl hs h x1)
  rcases ho with ho | ho
  · rw [if_pos ho, ho]
  · rw [if_neg (by omega), ho]
theorem RL_sq (fl : Nat) {tx : Nat → Int} {sz : Nat} (hs : sz ≤ 4000) {st0 vl0 : Nat → Int} {K b : Nat} {l : List Int} {ff fp : Int} {r : Rs} {f : Nat → Rs} {X : Option (Int × Int × Int × Int × Int × Int × Int × Int × (Nat → Int) × (Nat → Int))} {x1 : Int} {G : (Int × Int × Int × Int × Int × Int × Int × Int × (Nat → Int) × (Nat → Int)) → Option (Int × Int × Int × Int × Int × Int × Int × (Nat → Int) × (Nat → Int))}
    (h : RC tx sz st0 vl0 K b l ff fp r X) (hg : ∀ q1 l1 be tk pl va mi st vl, r = .inl (q1, l1) → AtC tx sz q1 be tk pl va mi → NC st0 vl0 K b st vl (l ++ l1) → RL tx sz st0 vl0 K b (l ++ l1) ff fp (sq (f q1) (sEnd tx sz)) (G (1, be, tk, pl, va, mi, ff, fp, st, vl))) :
    RL tx sz st0 vl0 K b l ff fp (sq (sq r f) (sEnd tx sz)) (X.bind fun o => if o.1 = (0 : Int) then LB_Rd_readRest_219 fl (sz : Int) ((K : Int) + 1) tx x1 0 o.2.1 o.2.2.1 o.2.2.2.1 o.2.2.2.2.1 o.2.2.2.2.2.1 o.2.2.2.2.2.2.1 o.2.2.2.2.2.2.2.1 o.2.2.2.2.2.2.2.2.1 o.2.2.2.2.2.2.2.2.2 else G o) := by
  cases r with
  | inr e =>
    obtain ⟨be, tk, pl, va, mi, st, vl, h1, h2, h3, h4⟩ := h
    rw [h1, Option.bind_some, if_pos rfl]
    unfold LB_Rd_readRest_219 LB_Rd_readRest_236
    rw [if_pos rfl, if_pos (show -2147483648 ≤ pl + 1 ∧ pl + 1 < 2147483648 by omega)]
    exact ⟨_, tk, pl, va, mi, st, vl, rfl, h2⟩
  | inl a =>
    obtain ⟨be, tk, pl, va, mi, st, vl, h1, h2, h3⟩ := h
    rw [h1, Option.bind_some, if_neg (by show ¬ ((1 : Int) = 0); omega)]
    have := hg a.1 a.2 be tk pl va mi st vl rfl h2 h3
    show RL tx sz st0 vl0 K b l ff fp (sq (match f a.1 with | .inl b => .inl (b.1, a.2 ++ b.2) | .inr e => .inr e) (sEnd tx sz)) _
    cases e : f a.1 with
    | inr e2 => rw [e] at this; exact this
    | inl b2 =>
      rw [e] at this
      have t2 : RL tx sz st0 vl0 K b (l ++ a.2) ff fp (match sEnd tx sz b2.1 with | .inl c => .inl (c.1, b2.2 ++ c.2) | .inr e => .inr e) (G (1, be, tk, pl, va, mi, ff, fp, st, vl)) := this
      show RL tx sz st0 vl0 K b l ff fp (match sEnd tx sz b2.1 with | .inl c => .inl (c.1, (a.2 ++ b2.2) ++ c.2) | .inr e => .inr e) (G (1, be, tk, pl, va, mi, ff, fp, st, vl))
      cases e3 : sEnd tx sz b2.1 with
      | inr e4 => rw [e3] at t2; exact t2
      | inl c =>
        rw [e3] at t2
        obtain ⟨be', tk', pl', va', mi', st', vl', k1, k2, k3, k4⟩ := t2
        refine ⟨be', tk', pl', va', mi', st', vl', k1, k2, k3, ?_⟩
        rw [List.append_assoc] at k4
        rw [List.append_assoc]
        exact k4
theorem C_rest (fl : Nat) (hfl : 5000 ≤ fl) {tx : Nat → Int} {sz : Nat} (hs : sz ≤ 4000) {q : Nat} {be tk pl va mi : Int} (h : AtC tx sz q be tk pl va mi) {st0 vl0 st vl : Nat → Int} {K b : Nat} {l : List Int} (hn : NC st0 vl0 K b st vl l) (hK : K < 64) (hb : b + l.length < q) (ff fp : Int) {k : Nat} (hk : 1 ≤ k ∧ k ≤ 18) :
    RL tx sz st0 vl0 K b l ff fp (sLine tx sz k q) (LM_Rd_readRest fl (sz : Int) ((K : Int) + 1) tx (k : Int) be tk pl va mi ff fp st vl) := by
  have num := C_rnum fl hfl hs h hn hK hb ff fp
  have nil : RL tx sz st0 vl0 K b l ff fp (sq (.inl (q, [])) (sEnd tx sz)) (LB_Rd_readRest_219 fl (sz : Int) ((K : Int) + 1) tx (k : Int) 1 be tk pl va mi ff fp st vl) := by
    have := RL_219 fl hs (RC_nil ff fp h hn) (k : Int)
    rw [Option.bind_some] at this
    exact this
  have sum : ∀ iv, iv < 79 → RL tx sz st0 vl0 K b l ff fp (sq (if tkK tx sz q = 0 then .inl (q, []) else sSum tx sz (lit iv) q) (sEnd tx sz)) (if tk = (0 : Int) then (LB_Rd_readRest_219 fl (sz : Int) ((K : Int) + 1) tx (k : Int) 1 be tk pl va mi ff fp st vl) else ((LM_Rd_readSum fl (sz : Int) ((K : Int) + 1) tx iv be tk pl va mi ff fp st vl).bind fun o => if o.1 = (0 : Int) then LB_Rd_readRest_219 fl (sz : Int) ((K : Int) + 1) tx (k : Int) 0 o.2.1 o.2.2.1 o.2.2.2.1 o.2.2.2.2.1 o.2.2.2.2.2.1 o.2.2.2.2.2.2.1 o.2.2.2.2.2.2.2.1 o.2.2.2.2.2.2.2.2.1 o.2.2.2.2.2.2.2.2.2 else LB_Rd_readRest_219 fl (sz : Int) ((K : Int) + 1) tx (k : Int) 1 o.2.1 o.2.2.1 o.2.2.2.1 o.2.2.2.2.1 o.2.2.2.2.2.1 o.2.2.2.2.2.2.1 o.2.2.2.2.2.2.2.1 o.2.2.2.2.2.2.2.2.1 o.2.2.2.2.2.2.2.2.2)) := by
    intro iv hi
    have ek := h.2.2.1
    by_cases c : tkK tx sz q = 0
    · rw [if_pos c, if_pos (by omega)]; exact nil
    · rw [if_neg c, if_neg (by omega)]
      exact RL_fin fl hs (C_rsum fl hfl hs h hn hK hb ff fp hi) (k : Int)
  have ev : ∀ k : Nat, LM_En_variableOf fl (k : Int) = some (if k = 18 then 22 else 23) := fun k => by
    unfold LM_En_variableOf LB_En_variableOf_0
    by_cases c : k = 18
    · rw [if_neg (by omega), if_pos c]
    · rw [if_pos (by omega), if_neg c]
  unfold LM_Rd_readRest LB_Rd_readRest_0 sLine sRest
  unfold LB_Rd_readRest_115 LB_Rd_readRest_116 LB_Rd_readRest_146 LB_Rd_readRest_147 LB_Rd_readRest_178 LB_Rd_readRest_179 LB_Rd_readRest_210 LB_Rd_readRest_215
  have hc : k = 1 ∨ k = 2 ∨ k = 3 ∨ k = 4 ∨ k = 5 ∨ k = 6 ∨ k = 7 ∨ k = 8 ∨ k = 9 ∨ k = 10 ∨ k = 11 ∨ k = 12 ∨ k = 13 ∨ k = 14 ∨ k = 15 ∨ k = 16 ∨ k = 17 ∨ k = 18 := by omega
  rcases hc with w | w | w | w | w | w | w | w | w | w | w | w | w | w | w | w | w | w <;> subst w
  · exact RL_219 fl hs (C_rcode fl hfl hs hK ff fp 20 fl q be tk pl va mi st vl l (by omega) (by omega) h hn hb) ((1 : Nat) : Int)
  · refine RL_sq fl hs num (fun q1 l1 be1 tk1 pl1 va1 mi1 st1 vl1 e1 h1 n1 => ?_)
    have a1 := sNum_p h.1 e1
    exact RL_fin fl hs (C_rlet fl hfl hs hK ff fp 32 fl q1 be1 tk1 pl1 va1 mi1 st1 vl1 (l ++ l1) (by omega) (by omega) h1 n1 (by rw [List.length_append]; omega)) ((2 : Nat) : Int)
  · exact RL_219 fl hs num ((3 : Nat) : Int)
  · exact RL_219 fl hs num ((4 : Nat) : Int)
  · show RL tx sz st0 vl0 K b l ff fp (sq (sq (sNum tx sz 1 q) (fun q => sq (sSign tx sz q) (sSide tx sz))) (sEnd tx sz)) _
    rw [if_neg (show ¬ ((5 : Nat) : Int) = 1 by omega), if_neg (show ¬ ((5 : Nat) : Int) = 2 by omega), if_neg (show ¬ ((5 : Nat) : Int) = 3 by omega), if_neg (show ¬ ((5 : Nat) : Int) = 4 by omega), if_pos (show ((5 : Nat) : Int) = 5 by omega)]
    refine RL_sq fl hs num (fun q1 l1 be1 tk1 pl1 va1 mi1 st1 vl1 e1 h1 n1 => ?_)
    have a1 := sNum_p h.1 e1
    have b1 : b + (l ++ l1).length < q1 := by rw [List.length_append]; omega
    refine RL_sq fl hs (C_rsign fl hfl hs h1 n1 hK b1 ff fp) (fun q2 l2 be2 tk2 pl2 va2 mi2 st2 vl2 e2 h2 n2 => ?_)
    have a2 := sSign_p h1.1 e2
    have b2 : b + (l ++ l1 ++ l2).length < q2 := by rw [List.length_append]; omega
    exact RL_fin fl hs (C_rside fl hfl hs h2 n2 hK b2 ff fp) ((5 : Nat) : Int)
  · show RL tx sz st0 vl0 K b l ff fp (sq (sq (sSgd tx sz q) (fun q => sq (sSide tx sz q) (sSgd tx sz))) (sEnd tx sz)) _
    rw [if_neg (show ¬ ((6 : Nat) : Int) = 1 by omega), if_neg (show ¬ ((6 : Nat) : Int) = 2 by omega), if_neg (show ¬ ((6 : Nat) : Int) = 3 by omega), if_neg (show ¬ ((6 : Nat) : Int) = 4 by omega), if_neg (show ¬ ((6 : Nat) : Int) = 5 by omega), if_pos (show ((6 : Nat) : Int) = 6 by omega)]
    refine RL_sq fl hs (C_rsgd fl hfl hs h hn hK hb ff fp) (fun q1 l1 be1 tk1 pl1 va1 mi1 st1 vl1 e1 h1 n1 => ?_)
    have a1 := sSgd_p h.1 e1
    have b1 : b + (l ++ l1).length < q1 := by rw [List.length_append]; omega
    refine RL_sq fl hs (C_rside fl hfl hs h1 n1 hK b1 ff fp) (fun q2 l2 be2 tk2 pl2 va2 mi2 st2 vl2 e2 h2 n2 => ?_)
    have a2 := sSide_p h1.1 e2
    have b2 : b + (l ++ l1 ++ l2).length < q2 := by rw [List.length_append]; omega
    exact RL_fin fl hs (C_rsgd fl hfl hs h2 n2 hK b2 ff fp) ((6 : Nat) : Int)
  · exact nil
  · exact nil
  · exact RL_219 fl hs num ((9 : Nat) : Int)
  · exact RL_219 fl hs num ((10 : Nat) : Int)
  · exact RL_219 fl hs num ((11 : Nat) : Int)
  · exact nil
  · exact nil
  · exact nil
  · exact nil
  · have := sum 23 (by decide)
    rw [ev 16, Option.bind_some]
    exact this
  · have := sum 23 (by decide)
    rw [ev 17, Option.bind_some]
    exact this
  · have := sum 22 (by decide)
    rw [ev 18, Option.bind_some]
    exact this
