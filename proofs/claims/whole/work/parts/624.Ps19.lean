def sgv (x1 : Int) : Int := if x1 = 0 then 1 else -1
/-- two puts at a term's end -/
theorem M98 (fl : Nat) {tx : Nat → Int} {ty : Nat → Int} {sz q : Nat} {at_ tm fr fa pl : Int} (h : AtM tx sz q at_ tm fr fa pl) {nu0 nu : Nat → Int} {b : Nat} {pa : Int} {l : List Int} (hn : NM nu0 b nu pa l) (hb : b + l.length + 1 < 8000) {x1 x2 x3 x5 x6 x7 : Int} (h3 : 0 ≤ x3 ∧ x3 < 1000000000000000000) (B : Nat) : RM tx sz nu0 b l B (.inl (q, [sgv x1 * x3, x7])) (LB_Md_readTerm_98 fl (sz : Int) ty x1 x2 x3 x5 x6 x7 at_ tm fr fa pl pa nu) := by
  have fin : ∀ x : Int, x = sgv x1 * x3 → RM tx sz nu0 b l B (.inl (q, [sgv x1 * x3, x7])) (LB_Md_readTerm_109 fl (sz : Int) ty x x1 x2 x3 x5 x6 x7 at_ tm fr fa pl pa nu) := by
    intro x hx
    obtain ⟨pa1, nu1, k1, k2⟩ := M_put fl hn (by omega) x
    obtain ⟨pa2, nu2, k3, k4⟩ := M_put fl k2 (by rw [List.length_append]; show b + (l.length + 1) < 9000; omega) x7
    unfold LB_Md_readTerm_109
    rw [k1, Option.bind_some, k3, Option.bind_some]
    rw [List.append_assoc, hx] at k4
    exact ⟨_, _, _, _, _, _, _, rfl, h, k4⟩
  unfold LB_Md_readTerm_98
  by_cases c : x1 = 0
  · rw [if_pos c]; exact fin x3 (by unfold sgv; rw [if_pos c, Int.one_mul])
  · rw [if_neg c, if_pos (by omega)]; exact fin (-x3) (by unfold sgv; rw [if_neg c]; omega)
theorem F98 (fl : Nat) {tx : Nat → Int} {ty : Nat → Int} {sz : Nat} {at_ tm fr fa pl pa : Int} (h : FaM tx sz at_ tm fr) (nu : Nat → Int) {x1 x2 x3 x5 x6 x7 : Int} (h3 : 0 ≤ x3 ∧ x3 < 1000000000000000000) {B : Nat} (hB : 0 ≤ pa ∧ pa ≤ (B : Int) ∧ B ≤ 8000) : FR tx sz fa pl (B + 2) (LB_Md_readTerm_98 fl (sz : Int) ty x1 x2 x3 x5 x6 x7 at_ tm fr fa pl pa nu) := by
  have fin : ∀ x : Int, FR tx sz fa pl (B + 2) (LB_Md_readTerm_109 fl (sz : Int) ty x x1 x2 x3 x5 x6 x7 at_ tm fr fa pl pa nu) := by
    intro x
    unfold LB_Md_readTerm_109
    rw [M_putF fl (by omega), Option.bind_some, M_putF fl (by omega), Option.bind_some]
    exact ⟨_, _, _, _, _, rfl, h, by omega, by omega⟩
  unfold LB_Md_readTerm_98
  by_cases c : x1 = 0
  · rw [if_pos c]; exact fin x3
  · rw [if_neg c, if_pos (by omega)]; exact fin (-x3)
theorem F44t (fl : Nat) (hfl : 5000 ≤ fl) {tx ty : Nat → Int} {sz : Nat} (hs : sz ≤ 4000) (ht : TXT tx ty sz) {at_ tm fr fa pl pa : Int} (h : FaM tx sz at_ tm fr) (hf : fa ≠ 0) (nu : Nat → Int) {i : Nat} (hi : i < 79) {x1 x2 x3 x5 : Int} (h3 : 0 ≤ x3 ∧ x3 < 1000000000000000000) {B : Nat} (hB : 0 ≤ pa ∧ pa ≤ (B : Int) ∧ B ≤ 8000) : FR tx sz fa pl (B + 2) (LB_Md_readTerm_44 fl (sz : Int) ty i x1 x2 x3 x5 at_ tm fr fa pl pa nu) := by
  have f64 : ∀ x6 : Int, FR tx sz fa pl (B + 2) (LB_Md_readTerm_64 fl (sz : Int) ty x1 x2 x3 x5 x6 at_ tm fr fa pl pa nu) := by
    intro x6
    unfold LB_Md_readTerm_64
    by_cases c : x6 = 0
    · rw [if_pos c]; exact F98 fl h nu h3 hB
    · obtain ⟨v, hv, e⟩ := FaM_mark fl (ty := ty) hs (show FaM tx sz at_ 0 fr from Or.inl rfl) 94
      rw [if_neg c, M_lookF fl ty _ _ _ _ _ hf, Option.bind_some, e, Option.bind_some]
      by_cases c2 : v = 0
      · rw [if_pos c2]; exact F98 fl (Or.inl rfl) nu h3 hB
      · rw [if_neg c2, M_lookF fl ty _ _ _ _ _ hf, Option.bind_some]
        obtain ⟨w, a1, t1, f1, k1, k2⟩ := FaM_signed fl hfl hs ht (show FaM tx sz at_ 0 fr from Or.inl rfl) hf (pl := pl)
        rw [k1, Option.bind_some]
        exact F98 fl k2 nu h3 hB
  obtain ⟨v, hv, e⟩ := FaM_word fl hfl (ty := ty) hs h hi
  unfold LB_Md_readTerm_44
  rw [e, Option.bind_some]
  by_cases c : x5 = 0
  · rw [if_neg (fun g => g c)]
    by_cases c2 : v = 0
    · rw [if_neg (fun g => g c2), FaM_wrong fl hfl hs ht h hf, Option.bind_some]
      exact ⟨_, _, _, _, _, rfl, h, by omega, by omega⟩
    · rw [if_pos c2]; exact f64 v
  · rw [if_pos c]; exact f64 v
theorem M44t (fl : Nat) (hfl : 5000 ≤ fl) {tx ty : Nat → Int} {sz : Nat} (hs : sz ≤ 4000) (ht : TXT tx ty sz) {q : Nat} {at_ tm fr fa pl : Int} (h : AtM tx sz q at_ tm fr fa pl) {nu0 nu : Nat → Int} {b : Nat} {pa : Int} {l : List Int} (hn : NM nu0 b nu pa l) (hb : b + l.length + 1 < q) {i : Nat} (hi : i < 79) {x1 x2 x3 x5 : Int} (h3 : 0 ≤ x3 ∧ x3 < 1000000000000000000) {has : Bool} (h5 : has = true ↔ ¬ (x5 = 0)) :
    RM tx sz nu0 b l 4020 (sTm tx sz (sgv x1 * x3) (lit i) has q) (LB_Md_readTerm_44 fl (sz : Int) ty i x1 x2 x3 x5 at_ tm fr fa pl pa nu) := by
  have hq := h.1
  have h1 := hn.1
  unfold LB_Md_readTerm_44
  rw [M_word fl hfl hs ht h hi, Option.bind_some]
  by_cases c : wdP tx sz q (lit i)
  · have w64 : RM tx sz nu0 b l 4020 (sTm tx sz (sgv x1 * x3) (lit i) has q) (LB_Md_readTerm_64 fl (sz : Int) ty x1 x2 x3 x5 1 at_ tm fr fa pl pa nu) := by
      obtain ⟨a1, t1, f1, g1, p1, n1, n2⟩ := M_next fl hfl hs ht h (by have := c.1; omega)
      unfold LB_Md_readTerm_64
      rw [if_neg (by omega), n1, Option.bind_some, M_mark fl hs ht n2 94, Option.bind_some]
      by_cases c2 : mkP tx sz (nxt tx sz q) 94
      · have es : sTm tx sz (sgv x1 * x3) (lit i) has q = sq (.inl (nxt tx sz (nxt tx sz q), [sgv x1 * x3])) (sSgd tx sz) := by unfold sTm; rw [if_pos c, if_pos c2]
        obtain ⟨a2, t2, f2, g2, p2, n3, n4⟩ := M_next fl hfl hs ht n2 (by have := c2.1; omega)
        have k := M_signed fl hfl hs ht n4
        rw [es, if_pos c2, if_neg (by omega), n3, Option.bind_some]
        show RM tx sz nu0 b l 4020 (match sSgd tx sz (nxt tx sz (nxt tx sz q)) with | .inl b => .inl (b.1, [sgv x1 * x3] ++ b.2) | .inr e => .inr e) _
        cases er : sSgd tx sz (nxt tx sz (nxt tx sz q)) with
        | inr e =>
          rw [er] at k
          obtain ⟨a3, t3, f3, k1, k2, k3⟩ := k
          rw [k1, Option.bind_some]
          exact ⟨k3, FR_mono (F98 fl k2 nu h3 (B := 4001) ⟨by omega, by omega, by omega⟩) (by omega)⟩
        | inl a =>
          rw [er] at k
          obtain ⟨v, a3, t3, f3, g3, p3, k1, k2, k3, k4⟩ := k
          rw [k1, Option.bind_some]
          show RM tx sz nu0 b l 4020 (.inl (a.1, [sgv x1 * x3] ++ a.2)) _
          rw [k3]
          exact M98 fl k2 hn (by omega) h3 4020
      · have es : sTm tx sz (sgv x1 * x3) (lit i) has q = .inl (nxt tx sz q, [sgv x1 * x3, 1]) := by unfold sTm; rw [if_pos c, if_neg c2]
        rw [es, if_neg c2, if_pos rfl]
        exact M98 fl n2 hn (by omega) h3 4020
    rw [if_pos c, if_pos (show ¬ ((1 : Int) = 0) by omega)]
    by_cases c5 : x5 = 0
    · rw [if_neg (fun g => g c5)]; exact w64
    · rw [if_pos c5]; exact w64
  · rw [if_neg c, if_neg (show ¬ ¬ ((0 : Int) = 0) by omega)]
    by_cases c5 : x5 = 0
    · have es : sTm tx sz (sgv x1 * x3) (lit i) has q = .inr (refC tx sz q 4, q) := by unfold sTm; rw [if_neg c, if_neg (fun g => h5.1 g c5)]
      rw [es, if_neg (fun g => g c5), M_wrong fl hfl hs ht h, Option.bind_some]
      exact ⟨refC_ne tx sz q (by decide), _, _, _, _, _, rfl, FaM_of h, by omega, by omega⟩
    · have es : sTm tx sz (sgv x1 * x3) (lit i) has q = .inl (q, [sgv x1 * x3, 0]) := by unfold sTm; rw [if_neg c, if_pos (h5.2 c5)]
      rw [es, if_pos c5]
      unfold LB_Md_readTerm_64
      rw [if_pos rfl]
      exact M98 fl h hn (by omega) h3 4020
