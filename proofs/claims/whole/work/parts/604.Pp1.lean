/-- a polynomial's text -/
def fB (f : Bool) : Int := if f = true then 1 else 0
theorem fB_t : fB true = 1 := rfl
theorem fB_f : fB false = 0 := rfl
def sgL (f : Bool) (v : Int) : List Int := if f = true then (if 0 ≤ v then [] else [45]) else (if 0 ≤ v then [32, 43, 32] else [32, 45, 32])
def exL (e : Int) : List Int := if e = 1 then [] else 94 :: num e
def vaL (vb e : Int) : List Int := if e = 0 then [] else vb :: exL e
def teL (vb a e : Int) : List Int := (if a = 1 ∧ e ≠ 0 then [] else num a) ++ vaL vb e
def ia (v : Int) : Int := (v.natAbs : Int)
def poL (vb : Int) (c : Int → Int) : Nat → Int → Bool → List Int
  | 0, _, f => (if f = true then [48] else []) ++ [10]
  | d + 1, e, f => if c e = 0 then poL vb c d (e + 1) f else sgL f (c e) ++ (teL vb (ia (c e)) e ++ poL vb c d (e + 1) false)
theorem poL_s (vb : Int) (c : Int → Int) (d : Nat) (e : Int) (f : Bool) : poL vb c (d + 1) e f = if c e = 0 then poL vb c d (e + 1) f else sgL f (c e) ++ (teL vb (ia (c e)) e ++ poL vb c d (e + 1) false) := rfl
theorem poL_lead (vb : Int) (c : Int → Int) (d : Nat) (f : Bool) : ∀ (k : Nat) (e : Int), (∀ x, e ≤ x → x < e + k → c x = 0) → poL vb c (k + d) e f = poL vb c d (e + k) f := by
  intro k
  induction k with
  | zero => intro e h; rw [Nat.zero_add, show e + ((0 : Nat) : Int) = e by omega]
  | succ k ih =>
    intro e h
    rw [show k + 1 + d = (k + d) + 1 by omega, poL_s, if_pos (h e (by omega) (by omega)), ih (e + 1) (fun x h1 h2 => h x (by omega) (by omega)), show e + 1 + (k : Int) = e + ((k + 1 : Nat) : Int) by omega]
theorem poL_tail (vb : Int) (c : Int → Int) (k : Nat) : ∀ (d : Nat) (e : Int) (f : Bool), (∀ x, e + d ≤ x → x < e + d + k → c x = 0) → poL vb c (d + k) e f = poL vb c d e f := by
  intro d
  induction d with
  | zero =>
    intro e f h
    have := poL_lead vb c 0 f k e (fun x h1 h2 => h x (by omega) (by omega))
    rw [Nat.zero_add, ← Nat.add_zero k, this]
    rfl
  | succ d ih =>
    intro e f h
    rw [show d + 1 + k = (d + k) + 1 by omega, poL_s, poL_s, ih (e + 1) f (fun x h1 h2 => h x (by omega) (by omega)), ih (e + 1) false (fun x h1 h2 => h x (by omega) (by omega))]
def poT (vb : Int) (c : Int → Int) : List Int := poL vb c 601 (-300) true
theorem poL_mid (vb : Int) (c : Int → Int) {lo : Int} {m : Nat} (h1 : -300 ≤ lo) (h2 : lo + m ≤ 301) (h : ∀ x, c x ≠ 0 → lo ≤ x ∧ x < lo + m) : poL vb c m lo true = poT vb c := by
  have z : ∀ x, (x < lo ∨ lo + m ≤ x) → c x = 0 := fun x hx => by
    by_cases c0 : c x = 0
    · exact c0
    · have := h x c0; omega
  unfold poT
  have e1 : (601 : Nat) = (lo + 300).toNat + (m + (301 - lo - m).toNat) := by omega
  rw [e1, poL_lead vb c _ true (lo + 300).toNat (-300) (fun x a b => z x (by omega)), show (-300 : Int) + ((lo + 300).toNat : Int) = lo by omega]
  exact (poL_tail vb c _ m lo true (fun x a b => z x (by omega))).symm
theorem poT_C (vb : Int) {ra si : Int} {te : Nat → Int} {c : Int → Int} (h : PolC ra si te c) : poL vb c 161 (ra - 80) true = poT vb c := by
  obtain ⟨h1, h2, h3, h4⟩ := h
  refine poL_mid vb c (by omega) (by omega) (fun x hx => ?_)
  rw [h4 x] at hx
  by_cases c0 : ra - 80 ≤ x ∧ x ≤ ra + 80
  · omega
  · exact absurd (if_neg c0) hx
theorem poT_M (vb : Int) {po : Nat → Int} {c : Int → Int} (h : PolM po c) : poL vb c 201 (-100) true = poT vb c := by
  obtain ⟨h1, h4⟩ := h
  refine poL_mid vb c (by omega) (by omega) (fun x hx => ?_)
  rw [h4 x] at hx
  by_cases c0 : -100 ≤ x ∧ x ≤ 100
  · omega
  · exact absurd (if_neg c0) hx
def vB (x1 : Int) : Int := if x1 = 18 then 116 else 65
def poW (k : Nat) (c : Int → Int) : List Int := lit (k - 1) ++ ([32, 61, 32] ++ poT (vB (k : Int)) c)
theorem C_coef (fl : Nat) {ra si : Int} {te : Nat → Int} {c : Int → Int} (h : PolC ra si te c) {e : Int} : LM_Po_coefficient fl ra si te e = some (c e) := by
  obtain ⟨h1, h2, h3, h4⟩ := h
  unfold LM_Po_coefficient LB_Po_coefficient_0 LM_Po_lowest LB_Po_lowest_0 LM_Po_highest LB_Po_highest_0
  rw [if_pos (by omega), Option.bind_some, h4 e]
  by_cases c1 : e < ra - 80
  · rw [if_pos c1, if_neg (by omega)]
  · rw [if_neg c1, if_pos (by omega), Option.bind_some]
    by_cases c2 : e ≤ ra + 80
    · have := h3 (e - ra + 80).toNat (by omega)
      rw [if_pos c2, if_pos (by omega), if_pos (by omega), if_pos (by rcases h1 with w | w <;> rw [w] <;> omega), if_pos ⟨by omega, c2⟩]
    · rw [if_neg c2, if_neg (by omega)]
theorem C_bnd {ra si : Int} {te : Nat → Int} {c : Int → Int} (h : PolC ra si te c) (e : Int) : -1000000000000000 ≤ c e ∧ c e ≤ 1000000000000000 := by
  obtain ⟨h1, h2, h3, h4⟩ := h
  rw [h4 e]
  split
  · have := h3 (e - ra + 80).toNat (by omega)
    rcases h1 with w | w <;> rw [w] <;> omega
  · omega
theorem M_bnd {po : Nat → Int} {c : Int → Int} (h : PolM po c) (e : Int) : -1000000000000000 ≤ c e ∧ c e ≤ 1000000000000000 := by
  obtain ⟨h3, h4⟩ := h
  rw [h4 e]
  split
  · exact h3 (e + 100).toNat (by omega)
  · omega
theorem P_num' (fl : Nat) (hfl : 100 ≤ fl) (v : Int) (hv : v.natAbs < 10 ^ 18) (s : Pap) (hs : pok s) (di : Nat → Int) :
    ∃ di', LM_Pa_putNumber fl v s.1 s.2.1 s.2.2 di = some ((pp (num v) s).1, (pp (num v) s).2.1, (pp (num v) s).2.2, di') := P_num fl hfl v hv s hs di
theorem P_term (fl : Nat) (hfl : 2000 ≤ fl) {a e : Int} (ha : 0 ≤ a ∧ a ≤ 1000000000000000) (he : -400 ≤ e ∧ e ≤ 400) {i : Nat} (hi : i < 79) {vb : Int} (hv : lit i = [vb]) (s : Pap) (hs : pok s) (di : Nat → Int) :
    ∃ di', LM_Pa_putTerm fl a e i s.1 s.2.1 s.2.2 di = some ((pp (teL vb a e) s).1, (pp (teL vb a e) s).2.1, (pp (teL vb a e) s).2.2, di') := by
  have h25 : ∀ (t : Pap) (di : Nat → Int), pok t → ∃ di', LB_Pa_putTerm_15 fl a e i t.1 t.2.1 t.2.2 di = some ((pp (vaL vb e) t).1, (pp (vaL vb e) t).2.1, (pp (vaL vb e) t).2.2, di') := by
    intro t di ht
    unfold LB_Pa_putTerm_15 LB_Pa_putTerm_25 vaL
    by_cases c0 : e = 0
    · rw [if_pos c0, if_pos c0, if_pos c0]; exact ⟨di, rfl⟩
    · rw [if_neg c0, if_neg c0, P_text fl hfl hi t ht, Option.bind_some, if_neg c0, hv]
      unfold exL
      by_cases c1 : e = 1
      · rw [if_pos c1, if_pos c1]; exact ⟨di, rfl⟩
      · rw [if_neg c1, if_neg c1, P_put fl 94 _ (pok_pp _ _ ht), Option.bind_some]
        obtain ⟨di', h⟩ := P_num fl (by omega) e (by have : (10 : Nat) ^ 18 = 1000000000000000000 := by decide
                                                     omega) (pp [94] (pp [vb] t)) (pok_pp _ _ (pok_pp _ _ ht)) di
        rw [h, Option.bind_some]
        exact ⟨di', rfl⟩
  have h10 : ∃ di', LB_Pa_putTerm_10 fl a e i s.1 s.2.1 s.2.2 di = some ((pp (num a ++ vaL vb e) s).1, (pp (num a ++ vaL vb e) s).2.1, (pp (num a ++ vaL vb e) s).2.2, di') := by
    unfold LB_Pa_putTerm_10
    obtain ⟨di1, h⟩ := P_num fl (by omega) a (by have : (10 : Nat) ^ 18 = 1000000000000000000 := by decide
                                                 omega) s hs di
    rw [h, Option.bind_some, pp_app]
    exact h25 _ di1 (pok_pp _ _ hs)
  unfold LM_Pa_putTerm LB_Pa_putTerm_0 teL
  by_cases c1 : a = 1
  · rw [if_neg (by omega)]
    by_cases c0 : e = 0
    · rw [if_neg (by omega), if_neg (by omega)]; exact h10
    · rw [if_pos c0, if_pos ⟨c1, c0⟩, List.nil_append]; exact h25 s di hs
  · rw [if_pos c1, if_neg (by omega)]; exact h10
theorem P_sgn (fl : Nat) (hfl : 2000 ≤ fl) (v : Int) (f : Bool) (s : Pap) (hs : pok s) : LM_Pa_putTermSign fl (if 0 ≤ v then 0 else 1) (fB f) s.1 s.2.1 s.2.2 = some (pp (sgL f v) s) := by
  unfold LM_Pa_putTermSign LB_Pa_putTermSign_0 LB_Pa_putTermSign_34 LB_Pa_putTermSign_16 sgL
  have e37 : lit 37 = [45] := by decide
  have e38 : lit 38 = [] := by decide
  have e39 : lit 39 = [32, 45, 32] := by decide
  have e40 : lit 40 = [32, 43, 32] := by decide
  have p : ∀ i, i < 79 → ((LM_Pa_putText fl i s.1 s.2.1 s.2.2).bind fun o0 => (some (o0.1, o0.2.1, o0.2.2))) = some (pp (lit i) s) := fun i hi => by rw [P_text fl hfl hi s hs, Option.bind_some]
  cases f
  · by_cases c : 0 ≤ v
    · rw [if_pos c, fB_f, if_pos rfl, if_pos rfl, if_neg Bool.false_ne_true, if_pos c, p 40 (by decide), e40]
    · rw [if_neg c, fB_f, if_pos rfl, if_neg (by omega), if_neg Bool.false_ne_true, if_neg c, p 39 (by decide), e39]
  · by_cases c : 0 ≤ v
    · rw [if_pos c, fB_t, if_neg (by omega), if_pos rfl, if_pos rfl, if_pos c, p 38 (by decide), e38]
    · rw [if_neg c, fB_t, if_neg (by omega), if_neg (by omega), if_pos rfl, if_neg c, p 37 (by decide), e37]
theorem P_poly22 (fl : Nat) (hfl : 2000 ≤ fl) {ra si : Int} {te : Nat → Int} {c : Int → Int} (h : PolC ra si te c) {x1 : Int} {iv : Nat} (hi : iv < 79) (hx : LM_En_variableOf fl x1 = some iv) (hv : lit iv = [vB x1]) :
    ∀ (d nn : Nat) (e : Int) (f : Bool) (s : Pap) (di : Nat → Int), e + d = ra + 81 → ra - 80 ≤ e → d < nn → pok s → ∃ di', LB_Pa_putPolynomial_22 fl ra si te nn x1 (fB f) e s.1 s.2.1 s.2.2 di = some ((pp (poL (vB x1) c d e f) s).1, (pp (poL (vB x1) c d e f) s).2.1, (pp (poL (vB x1) c d e f) s).2.2, di') := by
  have hra := h.2.1
  have hh : LM_Po_highest fl ra = some (ra + 80) := by
    unfold LM_Po_highest LB_Po_highest_0
    rw [if_pos (by omega)]
  intro d
  induction d with
  | zero =>
    intro nn e f s di hd he hnn hs
    obtain ⟨nn, rfl⟩ : ∃ r, nn = r + 1 := ⟨nn - 1, by omega⟩
    rw [LB_Pa_putPolynomial_22, hh, Option.bind_some, if_pos (by omega)]
    unfold LB_Pa_putPolynomial_96 poL
    refine ⟨di, ?_⟩
    cases f
    · rw [fB_f, if_pos rfl, P_end fl s hs, Option.bind_some, if_neg Bool.false_ne_true, List.nil_append]
    · rw [fB_t, if_neg (by omega), P_put fl 48 s hs, Option.bind_some, P_end fl _ (pok_pp _ _ hs), Option.bind_some, if_pos rfl, pp_app]
  | succ d ih =>
    intro nn e f s di hd he hnn hs
    obtain ⟨nn, rfl⟩ : ∃ r, nn = r + 1 := ⟨nn - 1, by omega⟩
    have hb := C_bnd h e
    rw [LB_Pa_putPolynomial_22, hh, Option.bind_some, if_neg (by omega), C_coef fl h, Option.bind_some, poL_s]
    by_cases c0 : c e = 0
    · rw [if_pos c0, if_pos c0]
      unfold LB_Pa_putPolynomial_80
      rw [if_pos (by omega)]
      exact ih nn (e + 1) f s di (by omega) (by omega) (by omega) hs
    · rw [if_neg c0, if_neg c0]
      have e1 : (if (0 : Int) ≤ c e then (LB_Pa_putPolynomial_59 fl ra si te (LB_Pa_putPolynomial_22 fl ra si te nn) (0 : Int) x1 (fB f) e (c e) s.1 s.2.1 s.2.2 di) else (LB_Pa_putPolynomial_59 fl ra si te (LB_Pa_putPolynomial_22 fl ra si te nn) (1 : Int) x1 (fB f) e (c e) s.1 s.2.1 s.2.2 di)) = LB_Pa_putPolynomial_59 fl ra si te (LB_Pa_putPolynomial_22 fl ra si te nn) (if 0 ≤ c e then 0 else 1) x1 (fB f) e (c e) s.1 s.2.1 s.2.2 di := by split <;> rfl
      rw [e1]
      unfold LB_Pa_putPolynomial_59
      have e2 : (if (0 : Int) < c e then c e else (-(c e))) = ia (c e) := by unfold ia; split <;> omega
      rw [P_sgn fl hfl (c e) f s hs, Option.bind_some, hx, Option.bind_some, if_pos (by omega), e2]
      obtain ⟨d1, h1⟩ := P_term fl hfl (a := ia (c e)) (e := e) (by unfold ia; omega) (by omega) hi hv (pp (sgL f (c e)) s) (pok_pp _ _ hs) di
      rw [h1, Option.bind_some]
      unfold LB_Pa_putPolynomial_80
      rw [if_pos (by omega)]
      obtain ⟨d2, h2⟩ := ih nn (e + 1) false _ d1 (by omega) (by omega) (by omega) (pok_pp (teL (vB x1) (ia (c e)) e) _ (pok_pp (sgL f (c e)) _ hs))
      refine ⟨d2, ?_⟩
      rw [pp_app, pp_app]
      exact h2
theorem word_C (fl : Nat) {k : Nat} (h : 1 ≤ k ∧ k ≤ 18) : LM_En_wordOf fl (k : Int) = some (k - 1) := by
  have : k = 1 ∨ k = 2 ∨ k = 3 ∨ k = 4 ∨ k = 5 ∨ k = 6 ∨ k = 7 ∨ k = 8 ∨ k = 9 ∨ k = 10 ∨ k = 11 ∨ k = 12 ∨ k = 13 ∨ k = 14 ∨ k = 15 ∨ k = 16 ∨ k = 17 ∨ k = 18 := by omega
  rcases this with w | w | w | w | w | w | w | w | w | w | w | w | w | w | w | w | w | w <;> rw [w] <;> rfl
theorem word_M (fl : Nat) {k : Nat} (h : 1 ≤ k ∧ k ≤ 18) : LM_Md_name fl (k : Int) = some (k + 41) := by
  have : k = 1 ∨ k = 2 ∨ k = 3 ∨ k = 4 ∨ k = 5 ∨ k = 6 ∨ k = 7 ∨ k = 8 ∨ k = 9 ∨ k = 10 ∨ k = 11 ∨ k = 12 ∨ k = 13 ∨ k = 14 ∨ k = 15 ∨ k = 16 ∨ k = 17 ∨ k = 18 := by omega
  rcases this with w | w | w | w | w | w | w | w | w | w | w | w | w | w | w | w | w | w <;> rw [w] <;> rfl
theorem word_eq : ∀ k, k < 18 → lit (k + 42) = lit k := by decide
theorem P_poly (fl : Nat) (hfl : 2000 ≤ fl) {ra si : Int} {te : Nat → Int} {c : Int → Int} (h : PolC ra si te c) {k : Nat} (hk : 1 ≤ k ∧ k ≤ 18) (s : Pap) (hs : pok s) (di : Nat → Int) :
    ∃ di', LM_Pa_putPolynomial fl ra si te (k : Int) s.1 s.2.1 s.2.2 di = some ((pp (poW k c) s).1, (pp (poW k c) s).2.1, (pp (poW k c) s).2.2, di') := by
  have hra := h.2.1
  have e36 : lit 36 = [32, 61, 32] := by decide
  unfold LM_Pa_putPolynomial LB_Pa_putPolynomial_0
  rw [word_C fl hk, Option.bind_some, P_text fl hfl (by omega) s hs, Option.bind_some, P_text fl hfl (by decide) _ (pok_pp _ _ hs), Option.bind_some]
  unfold LM_Po_lowest LB_Po_lowest_0
  rw [if_pos (by omega), Option.bind_some, e36]
  have hx : LM_En_variableOf fl (k : Int) = some (if (k : Int) = 18 then 22 else 23) := by
    unfold LM_En_variableOf LB_En_variableOf_0
    by_cases c0 : (k : Int) = 18
    · rw [if_neg (by omega), if_pos c0]
    · rw [if_pos c0, if_neg c0]
  obtain ⟨di', h1⟩ := P_poly22 fl hfl h (x1 := (k : Int)) (iv := if (k : Int) = 18 then 22 else 23) (by split <;> decide) hx (by unfold vB; split <;> decide) 161 fl (ra - 80) true (pp [32, 61, 32] (pp (lit (k - 1)) s)) di (by omega) (by omega) (by omega) (pok_pp _ _ (pok_pp _ _ hs))
  refine ⟨di', ?_⟩
  unfold poW
  rw [fB_t] at h1
  rw [h1, pp_app, pp_app, poT_C _ h]
