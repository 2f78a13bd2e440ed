/-- the same, its branches the other way round -/
theorem RC_sq' {tx : Nat → Int} {sz : Nat} {st0 vl0 : Nat → Int} {K b : Nat} {l : List Int} {ff fp : Int} {r : Rs} {f : Nat → Rs} {X : Option (Int × Int × Int × Int × Int × Int × Int × Int × (Nat → Int) × (Nat → Int))} {G : (Int × Int × Int × Int × Int × Int × Int × Int × (Nat → Int) × (Nat → Int)) → Option (Int × Int × Int × Int × Int × Int × Int × Int × (Nat → Int) × (Nat → Int))}
    (h : RC tx sz st0 vl0 K b l ff fp r X) (hg : ∀ q1 l1 be tk pl va mi st vl, r = .inl (q1, l1) → AtC tx sz q1 be tk pl va mi → NC st0 vl0 K b st vl (l ++ l1) → RC tx sz st0 vl0 K b (l ++ l1) ff fp (f q1) (G (1, be, tk, pl, va, mi, ff, fp, st, vl))) :
    RC tx sz st0 vl0 K b l ff fp (sq r f) (X.bind fun o => if ¬ (o.1 = (0 : Int)) then G o else some ((0 : Int), o.2.1, o.2.2.1, o.2.2.2.1, o.2.2.2.2.1, o.2.2.2.2.2.1, o.2.2.2.2.2.2.1, o.2.2.2.2.2.2.2.1, o.2.2.2.2.2.2.2.2.1, o.2.2.2.2.2.2.2.2.2)) := by
  have k := RC_sq h hg
  have e : (fun (o : Int × Int × Int × Int × Int × Int × Int × Int × (Nat → Int) × (Nat → Int)) => if ¬ (o.1 = (0 : Int)) then G o else some ((0 : Int), o.2.1, o.2.2.1, o.2.2.2.1, o.2.2.2.2.1, o.2.2.2.2.2.1, o.2.2.2.2.2.2.1, o.2.2.2.2.2.2.2.1, o.2.2.2.2.2.2.2.2.1, o.2.2.2.2.2.2.2.2.2)) = (fun o => if o.1 = (0 : Int) then some ((0 : Int), o.2.1, o.2.2.1, o.2.2.2.1, o.2.2.2.2.1, o.2.2.2.2.2.1, o.2.2.2.2.2.2.1, o.2.2.2.2.2.2.2.1, o.2.2.2.2.2.2.2.2.1, o.2.2.2.2.2.2.2.2.2) else G o) := by
    funext o
    by_cases c : o.1 = 0
    · rw [if_neg (fun g => g c), if_pos c]
    · rw [if_pos c, if_neg c]
  rw [e]
  exact k
/-- a reader's answer handed on -/
theorem RC_id {tx : Nat → Int} {sz : Nat} {st0 vl0 : Nat → Int} {K b : Nat} {l : List Int} {ff fp : Int} {r : Rs} {X : Option (Int × Int × Int × Int × Int × Int × Int × Int × (Nat → Int) × (Nat → Int))} (h : RC tx sz st0 vl0 K b l ff fp r X) :
    RC tx sz st0 vl0 K b l ff fp r (X.bind fun o => if (o.1 = (0 : Int)) ∨ (o.1 = (1 : Int)) then some (o.1, o.2.1, o.2.2.1, o.2.2.2.1, o.2.2.2.2.1, o.2.2.2.2.2.1, o.2.2.2.2.2.2.1, o.2.2.2.2.2.2.2.1, o.2.2.2.2.2.2.2.2.1, o.2.2.2.2.2.2.2.2.2) else none) := by
  cases r with
  | inr e =>
    obtain ⟨be, tk, pl, va, mi, st, vl, h1, h2⟩ := h
    rw [h1, Option.bind_some, if_pos (Or.inl rfl)]
    exact ⟨be, tk, pl, va, mi, st, vl, rfl, h2⟩
  | inl a =>
    obtain ⟨be, tk, pl, va, mi, st, vl, h1, h2, h3⟩ := h
    rw [h1, Option.bind_some, if_pos (Or.inr rfl)]
    exact ⟨be, tk, pl, va, mi, st, vl, rfl, h2, h3⟩
theorem sCross_p {tx : Nat → Int} {sz : Nat} {q q1 : Nat} {l1 : List Int} (hq : q ≤ sz) (h : sCross tx sz q = .inl (q1, l1)) : q + l1.length ≤ q1 ∧ q1 ≤ sz := by
  have mkz : ∀ (m : Int) (q : Nat), q ≤ sz → ∀ q1 l1, sMark tx sz m q = .inl (q1, l1) → q + l1.length ≤ q1 ∧ q1 ≤ sz := fun m q hq q1 l1 e => by
    have := sMark_p hq e
    rw [this.2.2]
    exact ⟨by show q + 0 ≤ q1; omega, this.2.1⟩
  unfold sCross at h
  refine sq_p (fun q1 l1 e => sSign_p hq e) (fun q1 q2 l2 hq1 e => ?_) h
  refine sq_p (mkz 91 q1 hq1) (fun q1 q2 l2 hq1 e => ?_) e
  refine sq_p (fun q2 l2 e => sNum_p hq1 e) (fun q1 q2 l2 hq1 e => ?_) e
  refine sq_p (mkz 44 q1 hq1) (fun q1 q2 l2 hq1 e => ?_) e
  refine sq_p (fun q2 l2 e => sNum_p hq1 e) (fun q1 q2 l2 hq1 e => ?_) e
  refine sq_p (mkz 44 q1 hq1) (fun q1 q2 l2 hq1 e => ?_) e
  refine sq_p (fun q2 l2 e => sNum_p hq1 e) (fun q1 q2 l2 hq1 e => ?_) e
  refine sq_p (mkz 44 q1 hq1) (fun q1 q2 l2 hq1 e => ?_) e
  refine sq_p (fun q2 l2 e => sNum_p hq1 e) (fun q1 q2 l2 hq1 e => ?_) e
  refine sq_p (mkz 93 q1 hq1) (fun q1 q2 l2 hq1 e => ?_) e
  have e := Sum.inl.inj e
  have e1 : q1 = q2 := congrArg Prod.fst e
  have e2 : [] = l2 := congrArg Prod.snd e
  rw [← e2, ← e1]
  exact ⟨Nat.le_refl _, hq1⟩
abbrev sgP (tx : Nat → Int) (sz q : Nat) : Prop := mkP tx sz q 43 ∨ mkP tx sz q 45
def sTail (tx : Nat → Int) (sz : Nat) (q : Nat) : Rs := if wdP tx sz q (lit 19) then sNum tx sz 1 (nxt tx sz q) else .inl (q, [0])
def sCode (tx : Nat → Int) (sz : Nat) : Nat → Nat → Rs
  | 0, q => if sgP tx sz q then .inr (refC tx sz q 5, q) else sTail tx sz q
  | d + 1, q => if sgP tx sz q then sq (sCross tx sz q) (sCode tx sz d) else sTail tx sz q
theorem C_rcode (fl : Nat) (hfl : 5000 ≤ fl) {tx : Nat → Int} {sz : Nat} (hs : sz ≤ 4000) {st0 vl0 : Nat → Int} {K b : Nat} (hK : K < 64) (ff fp : Int) :
    ∀ (d nn q : Nat) (be tk pl va mi : Int) (st vl : Nat → Int) (l : List Int), d < nn → d ≤ 20 → AtC tx sz q be tk pl va mi → NC st0 vl0 K b st vl l → b + l.length < q →
    RC tx sz st0 vl0 K b l ff fp (sCode tx sz d q) (LB_Rd_readCode_2 fl (sz : Int) ((K : Int) + 1) tx nn (20 - (d : Int)) be tk pl va mi ff fp st vl) := by
  have tail : ∀ (x1 : Int) (q : Nat) (be tk pl va mi : Int) (st vl : Nat → Int) (l : List Int), AtC tx sz q be tk pl va mi → NC st0 vl0 K b st vl l → b + l.length < q → RC tx sz st0 vl0 K b l ff fp (sTail tx sz q) (LB_Rd_readCode_42 fl (sz : Int) ((K : Int) + 1) tx x1 be tk pl va mi ff fp st vl) := by
    intro x1 q be tk pl va mi st vl l h hn hb
    have hq := h.1
    unfold LB_Rd_readCode_42
    rw [C_word fl hfl hs h (by decide), Option.bind_some]
    by_cases c : wdP tx sz q (lit 19)
    · have es : sTail tx sz q = sNum tx sz 1 (nxt tx sz q) := if_pos c
      obtain ⟨b1, t1, p1, v1, m1, g1, g2⟩ := C_next fl hfl hs h
      have hx := nxt_b (tx := tx) hq
      rw [es, if_pos c, if_neg (by omega), g1, Option.bind_some]
      exact RC_id (C_rnum fl hfl hs g2 hn hK (by omega) ff fp)
    · have es : sTail tx sz q = .inl (q, [0]) := if_neg c
      obtain ⟨s1, v1, a1, a2⟩ := C_ladd fl hn hK (by omega) 0
      rw [es, if_neg c, if_pos rfl, a1, Option.bind_some]
      exact ⟨_, _, _, _, _, _, _, rfl, h, a2⟩
  intro d
  induction d with
  | zero =>
    intro nn q be tk pl va mi st vl l hnn hd h hn hb
    obtain ⟨nn, rfl⟩ : ∃ r, nn = r + 1 := ⟨nn - 1, by omega⟩
    rw [LB_Rd_readCode_2, if_neg (by omega), C_issign fl h, Option.bind_some]
    by_cases c : sgP tx sz q
    · have es : sCode tx sz 0 q = .inr (refC tx sz q 5, q) := if_pos c
      rw [es, if_pos c, if_neg (by omega), if_neg (by omega), C_refuse fl h, Option.bind_some, if_pos (Or.inl rfl)]
      exact ⟨_, _, _, _, _, _, _, rfl, NC_st hn, h.2.2.2.1, h.1⟩
    · have es : sCode tx sz 0 q = sTail tx sz q := if_neg c
      rw [es, if_neg c, if_pos rfl]
      exact tail _ q be tk pl va mi st vl l h hn hb
  | succ d ih =>
    intro nn q be tk pl va mi st vl l hnn hd h hn hb
    obtain ⟨nn, rfl⟩ : ∃ r, nn = r + 1 := ⟨nn - 1, by omega⟩
    rw [LB_Rd_readCode_2, if_neg (by omega), C_issign fl h, Option.bind_some]
    by_cases c : sgP tx sz q
    · have es : sCode tx sz (d + 1) q = sq (sCross tx sz q) (sCode tx sz d) := if_pos c
      rw [es, if_pos c, if_neg (by omega), if_pos (by omega)]
      refine RC_sq' (C_rcross fl hfl hs h hn hK hb ff fp) (fun q1 l1 be1 tk1 pl1 va1 mi1 st1 vl1 e1 h1 n1 => ?_)
      have a1 := sCross_p h.1 e1
      rw [if_pos (by omega), show (20 - ((d + 1 : Nat) : Int) + 1) = 20 - (d : Int) by omega]
      exact ih nn q1 be1 tk1 pl1 va1 mi1 st1 vl1 (l ++ l1) (by omega) (by omega) h1 n1 (by rw [List.length_append]; omega)
    · have es : sCode tx sz (d + 1) q = sTail tx sz q := if_neg c
      rw [es, if_neg c, if_pos rfl]
      exact tail _ q be tk pl va mi st vl l h hn hb
abbrev ltP (tx : Nat → Int) (sz q : Nat) : Prop := tkK tx sz q = 3 ∨ mkP tx sz q 45
def sLet (tx : Nat → Int) (sz : Nat) : Nat → Nat → Rs
  | 0, q => if ltP tx sz q then .inr (refC tx sz q 5, q) else .inl (q, [])
  | d + 1, q => if ltP tx sz q then sq (sSgd tx sz q) (sLet tx sz d) else .inl (q, [])
theorem C_rlet (fl : Nat) (hfl : 5000 ≤ fl) {tx : Nat → Int} {sz : Nat} (hs : sz ≤ 4000) {st0 vl0 : Nat → Int} {K b : Nat} (hK : K < 64) (ff fp : Int) :
    ∀ (d nn q : Nat) (be tk pl va mi : Int) (st vl : Nat → Int) (l : List Int), d < nn → d ≤ 32 → AtC tx sz q be tk pl va mi → NC st0 vl0 K b st vl l → b + l.length < q →
    RC tx sz st0 vl0 K b l ff fp (sLet tx sz d q) (LB_Rd_readLetters_2 fl (sz : Int) ((K : Int) + 1) tx nn (32 - (d : Int)) be tk pl va mi ff fp st vl) := by
  intro d
  induction d with
  | zero =>
    intro nn q be tk pl va mi st vl l hnn hd h hn hb
    obtain ⟨nn, rfl⟩ : ∃ r, nn = r + 1 := ⟨nn - 1, by omega⟩
    have ek := h.2.2.1
    have go : RC tx sz st0 vl0 K b l ff fp (.inr (refC tx sz q 5, q)) (LB_Rd_readLetters_25 fl (sz : Int) ((K : Int) + 1) tx (LB_Rd_readLetters_2 fl (sz : Int) ((K : Int) + 1) tx nn) (32 - ((0 : Nat) : Int)) be tk pl va mi ff fp st vl) := by
      unfold LB_Rd_readLetters_25
      rw [if_neg (by omega), C_refuse fl h, Option.bind_some, if_pos (Or.inl rfl)]
      exact ⟨_, _, _, _, _, _, _, rfl, NC_st hn, h.2.2.2.1, h.1⟩
    rw [LB_Rd_readLetters_2, if_neg (by omega), C_mark fl h, Option.bind_some]
    by_cases c : tkK tx sz q = 3
    · have es : sLet tx sz 0 q = .inr (refC tx sz q 5, q) := if_pos (Or.inl c)
      rw [es, if_pos (by omega)]
      exact go
    · rw [if_neg (by omega)]
      by_cases c2 : mkP tx sz q 45
      · have es : sLet tx sz 0 q = .inr (refC tx sz q 5, q) := if_pos (Or.inr c2)
        rw [es, if_pos c2, if_neg (by omega)]
        exact go
      · have es : sLet tx sz 0 q = .inl (q, []) := if_neg (fun g => g.elim c c2)
        rw [es, if_neg c2, if_pos rfl]
        exact ⟨_, _, _, _, _, _, _, rfl, h, by rw [List.append_nil]; exact hn⟩
  | succ d ih =>
    intro nn q be tk pl va mi st vl l hnn hd h hn hb
    obtain ⟨nn, rfl⟩ : ∃ r, nn = r + 1 := ⟨nn - 1, by omega⟩
    have ek := h.2.2.1
    have go : RC tx sz st0 vl0 K b l ff fp (sq (sSgd tx sz q) (sLet tx sz d)) (LB_Rd_readLetters_25 fl (sz : Int) ((K : Int) + 1) tx (LB_Rd_readLetters_2 fl (sz : Int) ((K : Int) + 1) tx nn) (32 - ((d + 1 : Nat) : Int)) be tk pl va mi ff fp st vl) := by
      unfold LB_Rd_readLetters_25
      rw [if_pos (by omega)]
      refine RC_sq' (C_rsgd fl hfl hs h hn hK hb ff fp) (fun q1 l1 be1 tk1 pl1 va1 mi1 st1 vl1 e1 h1 n1 => ?_)
      have a1 := sSgd_p h.1 e1
      rw [if_pos (by omega), show (32 - ((d + 1 : Nat) : Int) + 1) = 32 - (d : Int) by omega]
      exact ih nn q1 be1 tk1 pl1 va1 mi1 st1 vl1 (l ++ l1) (by omega) (by omega) h1 n1 (by rw [List.length_append]; omega)
    rw [LB_Rd_readLetters_2, if_neg (by omega), C_mark fl h, Option.bind_some]
    by_cases c : tkK tx sz q = 3
    · have es : sLet tx sz (d + 1) q = sq (sSgd tx sz q) (sLet tx sz d) := if_pos (Or.inl c)
      rw [es, if_pos (by omega)]
      exact go
    · rw [if_neg (by omega)]
      by_cases c2 : mkP tx sz q 45
      · have es : sLet tx sz (d + 1) q = sq (sSgd tx sz q) (sLet tx sz d) := if_pos (Or.inr c2)
        rw [es, if_pos c2, if_neg (by omega)]
        exact go
      · have es : sLet tx sz (d + 1) q = .inl (q, []) := if_neg (fun g => g.elim c c2)
        rw [es, if_neg c2, if_pos rfl]
        exact ⟨_, _, _, _, _, _, _, rfl, h, by rw [List.append_nil]; exact hn⟩
