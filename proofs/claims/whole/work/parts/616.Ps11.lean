theorem inl_nil {n q1 : Nat} {l1 : List Int} (h : (.inl (n, []) : Rs) = .inl (q1, l1)) : n = q1 ∧ l1.length = 0 := by
  have e := Sum.inl.inj h
  have e1 : n = q1 := congrArg Prod.fst e
  have e2 : [] = l1 := congrArg Prod.snd e
  exact ⟨e1, by rw [← e2]; rfl⟩
/-- sq_p with some room more behind -/
theorem sq_q {sz c : Nat} {r : Rs} {f : Nat → Rs} {q q2 : Nat} {l2 : List Int} (h1 : ∀ q1 l1, r = .inl (q1, l1) → q + l1.length ≤ q1 ∧ q1 ≤ sz) (h2 : ∀ q1 q2 l2, q1 ≤ sz → f q1 = .inl (q2, l2) → q1 + l2.length ≤ q2 + c ∧ q2 ≤ sz) (h : sq r f = .inl (q2, l2)) : q + l2.length ≤ q2 + c ∧ q2 ≤ sz := by
  unfold sq at h
  cases r with
  | inr e => cases h
  | inl a =>
    have g1 := h1 a.1 a.2 rfl
    have h' : (match f a.1 with | .inl b => (.inl (b.1, a.2 ++ b.2) : Rs) | .inr e => .inr e) = .inl (q2, l2) := h
    cases e : f a.1 with
    | inr e2 => rw [e] at h'; cases h'
    | inl b =>
      rw [e] at h'
      have e3 := Sum.inl.inj h'
      have g2 := h2 a.1 b.1 b.2 g1.2 e
      have e4 : b.1 = q2 := congrArg Prod.fst e3
      have e5 : a.2 ++ b.2 = l2 := congrArg Prod.snd e3
      rw [← e5, List.length_append]
      omega
theorem sTail_p {tx : Nat → Int} {sz : Nat} {q q1 : Nat} {l1 : List Int} (hq : q ≤ sz) (h : sTail tx sz q = .inl (q1, l1)) : q + l1.length ≤ q1 + 1 ∧ q1 ≤ sz := by
  have hx := nxt_b (tx := tx) hq
  unfold sTail at h
  by_cases c : wdP tx sz q (lit 19)
  · rw [if_pos c] at h
    have := sNum_p hx.2.1 h
    omega
  · rw [if_neg c] at h
    have := inl_len h
    omega
theorem sCode_p {tx : Nat → Int} {sz : Nat} : ∀ (d q q1 : Nat) (l1 : List Int), q ≤ sz → sCode tx sz d q = .inl (q1, l1) → q + l1.length ≤ q1 + 1 ∧ q1 ≤ sz := by
  intro d
  induction d with
  | zero =>
    intro q q1 l1 hq h
    unfold sCode at h
    by_cases c : sgP tx sz q
    · rw [if_pos c] at h; cases h
    · rw [if_neg c] at h; exact sTail_p hq h
  | succ d ih =>
    intro q q1 l1 hq h
    unfold sCode at h
    by_cases c : sgP tx sz q
    · rw [if_pos c] at h
      exact sq_q (fun q1 l1 e => sCross_p hq e) (fun q1 q2 l2 hq1 e => ih q1 q2 l2 hq1 e) h
    · rw [if_neg c] at h; exact sTail_p hq h
theorem sLet_p {tx : Nat → Int} {sz : Nat} : ∀ (d q q1 : Nat) (l1 : List Int), q ≤ sz → sLet tx sz d q = .inl (q1, l1) → q + l1.length ≤ q1 ∧ q1 ≤ sz := by
  intro d
  induction d with
  | zero =>
    intro q q1 l1 hq h
    unfold sLet at h
    by_cases c : ltP tx sz q
    · rw [if_pos c] at h; cases h
    · rw [if_neg c] at h
      have := inl_nil h
      omega
  | succ d ih =>
    intro q q1 l1 hq h
    unfold sLet at h
    by_cases c : ltP tx sz q
    · rw [if_pos c] at h
      exact sq_p (fun q1 l1 e => sSgd_p hq e) (fun q1 q2 l2 hq1 e => ih q1 q2 l2 hq1 e) h
    · rw [if_neg c] at h
      have := inl_nil h
      omega
theorem sSumL_p {tx : Nat → Int} {sz : Nat} {lv : List Int} : ∀ (d q q1 : Nat) (l1 : List Int), q ≤ sz → sSumL tx sz lv d q = .inl (q1, l1) → q + l1.length ≤ q1 ∧ q1 ≤ sz := by
  intro d
  induction d with
  | zero =>
    intro q q1 l1 hq h
    unfold sSumL at h
    by_cases c : sgP tx sz q
    · rw [if_pos c] at h; cases h
    · rw [if_neg c] at h
      have := inl_nil h
      omega
  | succ d ih =>
    intro q q1 l1 hq h
    unfold sSumL at h
    have hx := nxt_b (tx := tx) hq
    by_cases c : sgP tx sz q
    · rw [if_pos c] at h
      have hx1 := hx.2.2 (by rcases c with c | c <;> have := c.1 <;> omega)
      exact sq_p (fun q1 l1 e => by have := sTerm_p hx.2.1 e; omega) (fun q1 q2 l2 hq1 e => ih q1 q2 l2 hq1 e) h
    · rw [if_neg c] at h
      have := inl_nil h
      omega
theorem sSum2_p {tx : Nat → Int} {sz : Nat} {lv : List Int} {sg : Int} {q q1 : Nat} {l1 : List Int} (hq : q ≤ sz) (h : sSum2 tx sz lv sg q = .inl (q1, l1)) : q + l1.length ≤ q1 + 1 ∧ q1 ≤ sz := by
  unfold sSum2 sq at h
  cases e0 : sTerm tx sz sg lv q with
  | inr e => rw [e0] at h; cases h
  | inl a =>
    rw [e0] at h
    have g1 := sTerm_p hq (show sTerm tx sz sg lv q = .inl (a.1, a.2) from e0)
    have h' : (match sSumL tx sz lv 63 a.1 with | .inl b => (.inl (b.1, a.2 ++ b.2) : Rs) | .inr e => .inr e) = .inl (q1, l1) := h
    cases e : sSumL tx sz lv 63 a.1 with
    | inr e2 => rw [e] at h'; cases h'
    | inl b =>
      rw [e] at h'
      have e3 := Sum.inl.inj h'
      have g2 := sSumL_p 63 a.1 b.1 b.2 g1.2.2 e
      have e4 : b.1 = q1 := congrArg Prod.fst e3
      have e5 : a.2 ++ b.2 = l1 := congrArg Prod.snd e3
      rw [← e5, List.length_append]
      omega
theorem sSum_p {tx : Nat → Int} {sz : Nat} {lv : List Int} {q q1 : Nat} {l1 : List Int} (hq : q ≤ sz) (h : sSum tx sz lv q = .inl (q1, l1)) : q + l1.length ≤ q1 ∧ q1 ≤ sz := by
  have hx := nxt_b (tx := tx) hq
  unfold sSum sq at h
  cases e0 : sMark tx sz 61 q with
  | inr e => rw [e0] at h; cases h
  | inl a =>
    rw [e0] at h
    have g1 := sMark_p hq (show sMark tx sz 61 q = .inl (a.1, a.2) from e0)
    have hx1 := nxt_b (tx := tx) g1.2.1
    have h' : (match (if mkP tx sz a.1 45 then sSum2 tx sz lv (-1) (nxt tx sz a.1) else sSum2 tx sz lv 1 a.1) with | .inl b => (.inl (b.1, a.2 ++ b.2) : Rs) | .inr e => .inr e) = .inl (q1, l1) := h
    cases e : (if mkP tx sz a.1 45 then sSum2 tx sz lv (-1) (nxt tx sz a.1) else sSum2 tx sz lv 1 a.1) with
    | inr e2 => rw [e] at h'; cases h'
    | inl b =>
      rw [e] at h'
      have e3 := Sum.inl.inj h'
      have e4 : b.1 = q1 := congrArg Prod.fst e3
      have e5 : a.2 ++ b.2 = l1 := congrArg Prod.snd e3
      have g2 : a.1 + b.2.length ≤ b.1 + 1 ∧ b.1 ≤ sz := by
        by_cases c : mkP tx sz a.1 45
        · rw [if_pos c] at e
          have := sSum2_p hx1.2.1 (show sSum2 tx sz lv (-1) (nxt tx sz a.1) = .inl (b.1, b.2) from e)
          omega
        · rw [if_neg c] at e
          exact sSum2_p g1.2.1 (show sSum2 tx sz lv 1 a.1 = .inl (b.1, b.2) from e)
      rw [← e5, g1.2.2, List.nil_append]
      omega
theorem sRest_p {tx : Nat → Int} {sz k : Nat} {q q1 : Nat} {l1 : List Int} (hq : q ≤ sz) (h : sRest tx sz k q = .inl (q1, l1)) : q + l1.length ≤ q1 + 1 ∧ q1 ≤ sz := by
  have w : ∀ {l : List Int}, q + l.length ≤ q1 ∧ q1 ≤ sz → q + l.length ≤ q1 + 1 ∧ q1 ≤ sz := fun h => by omega
  unfold sRest at h
  split at h
  · exact sCode_p 20 q q1 l1 hq h
  · split at h
    · exact w (sq_p (fun q1 l1 e => sNum_p hq e) (fun q1 q2 l2 hq1 e => sLet_p 32 q1 q2 l2 hq1 e) h)
    · split at h
      · exact w (sNum_p hq h)
      · split at h
        · exact w (sq_p (fun q1 l1 e => sNum_p hq e) (fun q1 q2 l2 hq1 e => sq_p (fun q2 l2 e => sSign_p hq1 e) (fun q1 q2 l2 hq1 e => sSide_p hq1 e) e) h)
        · split at h
          · exact w (sq_p (fun q1 l1 e => sSgd_p hq e) (fun q1 q2 l2 hq1 e => sq_p (fun q2 l2 e => sSide_p hq1 e) (fun q1 q2 l2 hq1 e => sSgd_p hq1 e) e) h)
          · split at h
            · split at h
              · have := inl_nil h
                omega
              · exact w (sSum_p hq h)
            · have := inl_nil h
              omega
theorem sLine_p {tx : Nat → Int} {sz k : Nat} {q q1 : Nat} {l1 : List Int} (hq : q ≤ sz) (h : sLine tx sz k q = .inl (q1, l1)) : q + l1.length ≤ q1 + 1 ∧ q1 ≤ sz ∧ tkK tx sz q1 = 0 := by
  unfold sLine sq at h
  cases e0 : sRest tx sz k q with
  | inr e => rw [e0] at h; cases h
  | inl a =>
    rw [e0] at h
    have g1 := sRest_p hq (show sRest tx sz k q = .inl (a.1, a.2) from e0)
    have h' : (match sEnd tx sz a.1 with | .inl b => (.inl (b.1, a.2 ++ b.2) : Rs) | .inr e => .inr e) = .inl (q1, l1) := h
    by_cases c : tkK tx sz a.1 = 0
    · have es : sEnd tx sz a.1 = .inl (a.1, []) := if_pos c
      rw [es] at h'
      have e3 := Sum.inl.inj h'
      have e4 : a.1 = q1 := congrArg Prod.fst e3
      have e5 : a.2 ++ [] = l1 := congrArg Prod.snd e3
      rw [← e5, List.append_nil, ← e4]
      exact ⟨g1.1, g1.2, c⟩
    · have es : sEnd tx sz a.1 = .inr (refC tx sz a.1 4, a.1) := if_neg c
      rw [es] at h'; cases h'
/-- the kind of a line's word, from kind k on -/
def kwF (tx : Nat → Int) (sz q : Nat) : Nat → Nat → Nat
  | 0, _ => 0
  | d + 1, k => if wdP tx sz q (lit (k - 1)) then k else kwF tx sz q d (k + 1)
def kw (tx : Nat → Int) (sz q : Nat) : Nat := kwF tx sz q 18 1
theorem kwF_r (tx : Nat → Int) (sz q : Nat) : ∀ d k, k + d ≤ 19 → 1 ≤ k → kwF tx sz q d k ≤ 18 := by
  intro d
  induction d with
  | zero => intro k h1 h2; show 0 ≤ 18; omega
  | succ d ih =>
    intro k h1 h2
    unfold kwF
    split
    · omega
    · exact ih (k + 1) (by omega) (by omega)
theorem C_kind (fl : Nat) (hfl : 5000 ≤ fl) {tx : Nat → Int} {sz : Nat} (hs : sz ≤ 4000) {q : Nat} {be tk pl va mi : Int} (h : AtC tx sz q be tk pl va mi) :
    ∀ (d nn k : Nat), k + d = 19 → 1 ≤ k → d < nn → LB_Rd_kindOfWord_2 fl be tk pl tx nn (k : Int) = some ((kwF tx sz q d k : Nat) : Int) := by
  intro d
  induction d with
  | zero =>
    intro nn k hk h1 hnn
    obtain ⟨nn, rfl⟩ : ∃ r, nn = r + 1 := ⟨nn - 1, by omega⟩
    rw [LB_Rd_kindOfWord_2, if_pos (by omega)]
    rfl
  | succ d ih =>
    intro nn k hk h1 hnn
    obtain ⟨nn, rfl⟩ : ∃ r, nn = r + 1 := ⟨nn - 1, by omega⟩
    rw [LB_Rd_kindOfWord_2, if_neg (by omega), word_C fl ⟨h1, by omega⟩, Option.bind_some, C_word fl hfl hs h (by omega), Option.bind_some]
    unfold kwF
    by_cases c : wdP tx sz q (lit (k - 1))
    · rw [if_pos c, if_neg (by omega), if_pos c]
    · rw [if_neg c, if_pos rfl, if_pos (by omega), if_neg c, show ((k : Int) + 1) = ((k + 1 : Nat) : Int) by omega]
      exact ih nn (k + 1) (by omega) (by omega) (by omega)
theorem M_kind (fl : Nat) (hfl : 5000 ≤ fl) {tx ty : Nat → Int} {sz : Nat} (hs : sz ≤ 4000) (ht : TXT tx ty sz) {q : Nat} {at_ tm fr fa pl : Int} (h : AtM tx sz q at_ tm fr fa pl) :
    ∀ (d nn k : Nat), k + d = 19 → 1 ≤ k → d < nn → LB_Md_kindHere_2 fl at_ tm fr ty nn (k : Int) = some ((kwF tx sz q d k : Nat) : Int) := by
  intro d
  induction d with
  | zero =>
    intro nn k hk h1 hnn
    obtain ⟨nn, rfl⟩ : ∃ r, nn = r + 1 := ⟨nn - 1, by omega⟩
    rw [LB_Md_kindHere_2, if_pos (by omega)]
    rfl
  | succ d ih =>
    intro nn k hk h1 hnn
    obtain ⟨nn, rfl⟩ : ∃ r, nn = r + 1 := ⟨nn - 1, by omega⟩
    have ew : lit (k + 41) = lit (k - 1) := by rw [show k + 41 = (k - 1) + 42 by omega]; exact word_eq _ (by omega)
    rw [LB_Md_kindHere_2, if_neg (by omega), word_M fl ⟨h1, by omega⟩, Option.bind_some, M_word fl hfl hs ht h (by omega), Option.bind_some, ew]
    unfold kwF
    by_cases c : wdP tx sz q (lit (k - 1))
    · rw [if_pos c, if_neg (by omega), if_pos c]
    · rw [if_neg c, if_pos rfl, if_pos (by omega), if_neg c, show ((k : Int) + 1) = ((k + 1 : Nat) : Int) by omega]
      exact ih nn (k + 1) (by omega) (by omega) (by omega)
