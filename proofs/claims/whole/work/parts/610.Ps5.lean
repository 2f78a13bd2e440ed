/-- what reading a piece gives: the next token and the numbers read, or a fault and its place -/
abbrev Rs := (Nat × List Int) ⊕ (Int × Nat)
def sMark (tx : Nat → Int) (sz : Nat) (m : Int) (q : Nat) : Rs := if mkP tx sz q m then .inl (nxt tx sz q, []) else .inr (refC tx sz q 4, q)
def sNum (tx : Nat → Int) (sz : Nat) (sg : Int) (q : Nat) : Rs := if nbP tx sz q then .inl (nxt tx sz q, [sg * nv tx sz q]) else .inr (refC tx sz q 4, q)
def sSgd (tx : Nat → Int) (sz : Nat) (q : Nat) : Rs := if mkP tx sz q 45 then sNum tx sz (-1) (nxt tx sz q) else sNum tx sz 1 q
def sSign (tx : Nat → Int) (sz : Nat) (q : Nat) : Rs := if mkP tx sz q 43 then .inl (nxt tx sz q, [1]) else if mkP tx sz q 45 then .inl (nxt tx sz q, [-1]) else .inr (refC tx sz q 4, q)
def sSide (tx : Nat → Int) (sz : Nat) (q : Nat) : Rs := if wdP tx sz q (lit 20) then .inl (nxt tx sz q, [1]) else if wdP tx sz q (lit 21) then .inl (nxt tx sz q, [0]) else .inr (refC tx sz q 4, q)
def sq (r : Rs) (f : Nat → Rs) : Rs := match r with
  | .inl a => (match f a.1 with
    | .inl b => .inl (b.1, a.2 ++ b.2)
    | .inr e => .inr e)
  | .inr e => .inr e
/-- the class's numbers of line K, from b on -/
def NC (st0 vl0 : Nat → Int) (K b : Nat) (st vl : Nat → Int) (l : List Int) : Prop := (∀ k, k ≤ K → st k = st0 k) ∧ (∀ i, i < b → vl i = vl0 i) ∧ st (K + 1) = ((b + l.length : Nat) : Int) ∧ ∀ i, i < l.length → vl (b + i) = l.getD i 0
theorem getD_app1 (l : List Int) (x : Int) {i : Nat} (h : i < l.length) : (l ++ [x]).getD i 0 = l.getD i 0 := by
  rw [List.getD_eq_getElem?_getD, List.getD_eq_getElem?_getD, List.getElem?_append_left h]
theorem getD_app2 (l : List Int) (x : Int) : (l ++ [x]).getD l.length 0 = x := by
  rw [List.getD_eq_getElem?_getD, List.getElem?_append_right (Nat.le_refl _), Nat.sub_self]
  rfl
theorem C_ladd (fl : Nat) {st0 vl0 st vl : Nat → Int} {K b : Nat} {l : List Int} (h : NC st0 vl0 K b st vl l) (hK : K < 64) (hb : b + l.length < 4000) (x : Int) : ∃ st' vl', LM_Li_add fl ((K : Int) + 1) x st vl = some (st', vl') ∧ NC st0 vl0 K b st' vl' (l ++ [x]) := by
  obtain ⟨h1, h2, h3, h4⟩ := h
  unfold LM_Li_add LB_Li_add_0
  rw [if_pos (by omega), if_neg (by omega), show Int.toNat ((K : Int) + 1) = K + 1 by omega, h3, if_neg (by omega), if_pos (by omega), if_pos (by omega), Int.toNat_natCast]
  refine ⟨_, _, rfl, fun k hk => ?_, fun i hi => ?_, ?_, fun i hi => ?_⟩
  · rw [up_ne _ _ (by omega)]; exact h1 k hk
  · rw [up_ne _ _ (by omega)]; exact h2 i hi
  · rw [up_eq, List.length_append]
    show ((b + l.length : Nat) : Int) + 1 = ((b + (l.length + 1) : Nat) : Int)
    omega
  · rw [List.length_append] at hi
    have hi2 : i < l.length + 1 := hi
    by_cases c : i = l.length
    · rw [c, up_eq, getD_app2]
    · rw [up_ne _ _ (by omega), getD_app1 _ _ (by omega)]
      exact h4 i (by omega)
/-- what a reader of the class answers -/
def RC (tx : Nat → Int) (sz : Nat) (st0 vl0 : Nat → Int) (K b : Nat) (l : List Int) (ff fp : Int) (r : Rs) (X : Option (Int × Int × Int × Int × Int × Int × Int × Int × (Nat → Int) × (Nat → Int))) : Prop := match r with
  | .inl a => ∃ be tk pl va mi st vl, X = some (1, be, tk, pl, va, mi, ff, fp, st, vl) ∧ AtC tx sz a.1 be tk pl va mi ∧ NC st0 vl0 K b st vl (l ++ a.2)
  | .inr e => ∃ be tk pl va mi st vl, X = some (0, be, tk, pl, va, mi, e.1, (e.2 : Int), st, vl) ∧ (∀ k, k ≤ K → st k = st0 k) ∧ pl = (e.2 : Int) ∧ e.2 ≤ sz
theorem NC_st {st0 vl0 st vl : Nat → Int} {K b : Nat} {l : List Int} (h : NC st0 vl0 K b st vl l) : ∀ k, k ≤ K → st k = st0 k := h.1
theorem C_rmark (fl : Nat) (hfl : 5000 ≤ fl) {tx : Nat → Int} {sz : Nat} (hs : sz ≤ 4000) {q : Nat} {be tk pl va mi : Int} (h : AtC tx sz q be tk pl va mi) (m ff fp : Int) :
    match sMark tx sz m q with
    | .inl a => ∃ be' tk' pl' va' mi', LM_Rd_readMark fl (sz : Int) tx m be tk pl va mi ff fp = some (1, be', tk', pl', va', mi', ff, fp) ∧ AtC tx sz a.1 be' tk' pl' va' mi' ∧ a.2 = []
    | .inr e => LM_Rd_readMark fl (sz : Int) tx m be tk pl va mi ff fp = some (0, be, tk, pl, va, mi, e.1, (e.2 : Int)) := by
  unfold LM_Rd_readMark LB_Rd_readMark_0
  rw [C_mark fl h m, Option.bind_some]
  by_cases c : mkP tx sz q m
  · have es : sMark tx sz m q = .inl (nxt tx sz q, []) := if_pos c
    rw [es, if_pos c, if_pos (by omega)]
    obtain ⟨b1, t1, p1, v1, m1, g1, g2⟩ := C_next fl hfl hs h
    rw [g1, Option.bind_some]
    exact ⟨b1, t1, p1, v1, m1, rfl, g2, rfl⟩
  · have es : sMark tx sz m q = .inr (refC tx sz q 4, q) := if_neg c
    rw [es, if_neg c, if_neg (by omega), C_refuse fl h, Option.bind_some, if_pos (Or.inl rfl)]
theorem C_num21 (fl : Nat) (hfl : 5000 ≤ fl) {tx : Nat → Int} {sz : Nat} (hs : sz ≤ 4000) {q : Nat} {be tk pl va mi : Int} (h : AtC tx sz q be tk pl va mi) {st0 vl0 st vl : Nat → Int} {K b : Nat} {l : List Int} (hn : NC st0 vl0 K b st vl l) (hK : K < 64) (hb : b + l.length < q) (x1 ff fp : Int) {sg : Int} (hg : sg = 1 ∨ sg = -1) :
    RC tx sz st0 vl0 K b l ff fp (sNum tx sz sg q) (LB_Rd_readNumber_21 fl (sz : Int) ((K : Int) + 1) tx x1 sg be tk pl va mi ff fp st vl) := by
  have h' := h
  obtain ⟨h1, h2, h3, h4, h5⟩ := h'
  unfold LB_Rd_readNumber_21 LB_Rd_readNumber_47
  have eb : ¬ nbP tx sz q → sNum tx sz sg q = .inr (refC tx sz q 4, q) := fun g => if_neg g
  by_cases c : tkK tx sz q = 3
  · have e1 : va = nv tx sz q := (h5.1 c).1
    have e2 : mi = ms tx sz q := (h5.1 c).2
    have hv := nv_b c
    by_cases c4 : ms tx sz q = 0
    · by_cases c5 : nv tx sz q ≤ 9999
      · have es : sNum tx sz sg q = .inl (nxt tx sz q, [sg * nv tx sz q]) := if_pos ⟨c, c4, c5⟩
        rw [es, if_neg (by omega), if_neg (by omega)]
        obtain ⟨s1, v1, a1, a2⟩ := C_ladd fl hn hK (by omega) (sg * nv tx sz q)
        obtain ⟨b1, t1, p1, v2, m1, g1, g2⟩ := C_next fl hfl hs h
        rw [if_pos (by omega), if_pos (by rcases hg with w | w <;> rw [w, e1] <;> omega), g1, e1, a1, Option.bind_some, Option.bind_some]
        exact ⟨b1, t1, p1, v2, m1, s1, v1, rfl, g2, a2⟩
      · rw [eb (fun g => c5 g.2.2), if_neg (by omega), if_neg (by omega), if_neg (by omega), C_refuse fl h, Option.bind_some, if_pos (Or.inl rfl)]
        exact ⟨_, _, _, _, _, _, _, rfl, NC_st hn, h.2.2.2.1, h.1⟩
    · rw [eb (fun g => c4 g.2.1), if_neg (by omega), if_pos (by omega), C_refuse fl h, Option.bind_some, if_pos (Or.inl rfl)]
      exact ⟨_, _, _, _, _, _, _, rfl, NC_st hn, h.2.2.2.1, h.1⟩
  · rw [eb (fun g => c g.1), if_pos (by omega), C_refuse fl h, Option.bind_some, if_pos (Or.inl rfl)]
    exact ⟨_, _, _, _, _, _, _, rfl, NC_st hn, h.2.2.2.1, h.1⟩
theorem C_rnum (fl : Nat) (hfl : 5000 ≤ fl) {tx : Nat → Int} {sz : Nat} (hs : sz ≤ 4000) {q : Nat} {be tk pl va mi : Int} (h : AtC tx sz q be tk pl va mi) {st0 vl0 st vl : Nat → Int} {K b : Nat} {l : List Int} (hn : NC st0 vl0 K b st vl l) (hK : K < 64) (hb : b + l.length < q) (ff fp : Int) :
    RC tx sz st0 vl0 K b l ff fp (sNum tx sz 1 q) (LM_Rd_readNumber fl (sz : Int) ((K : Int) + 1) tx 0 be tk pl va mi ff fp st vl) := by
  unfold LM_Rd_readNumber LB_Rd_readNumber_0
  rw [if_pos rfl]
  exact C_num21 fl hfl hs h hn hK hb 0 ff fp (Or.inl rfl)
theorem C_rsgd (fl : Nat) (hfl : 5000 ≤ fl) {tx : Nat → Int} {sz : Nat} (hs : sz ≤ 4000) {q : Nat} {be tk pl va mi : Int} (h : AtC tx sz q be tk pl va mi) {st0 vl0 st vl : Nat → Int} {K b : Nat} {l : List Int} (hn : NC st0 vl0 K b st vl l) (hK : K < 64) (hb : b + l.length < q) (ff fp : Int) :
    RC tx sz st0 vl0 K b l ff fp (sSgd tx sz q) (LM_Rd_readNumber fl (sz : Int) ((K : Int) + 1) tx 1 be tk pl va mi ff fp st vl) := by
  unfold LM_Rd_readNumber LB_Rd_readNumber_0
  by_cases c : mkP tx sz q 45
  · have es : sSgd tx sz q = sNum tx sz (-1) (nxt tx sz q) := if_pos c
    rw [es, if_neg (by omega), C_mark fl h 45, Option.bind_some]
    obtain ⟨b1, t1, p1, v2, m1, g1, g2⟩ := C_next fl hfl hs h
    have := nxt_b (tx := tx) h.1
    rw [if_pos c, if_neg (by omega), g1, Option.bind_some]
    exact C_num21 fl hfl hs g2 hn hK (by omega) 1 ff fp (Or.inr rfl)
  · have es : sSgd tx sz q = sNum tx sz 1 q := if_neg c
    rw [es, if_neg (by omega), C_mark fl h 45, Option.bind_some, if_neg c, if_pos rfl]
    exact C_num21 fl hfl hs h hn hK hb 1 ff fp (Or.inl rfl)
theorem C_issign (fl : Nat) {tx : Nat → Int} {sz q : Nat} {be tk pl va mi : Int} (h : AtC tx sz q be tk pl va mi) : LM_Rd_isSign fl tk va = some (if mkP tx sz q 43 ∨ mkP tx sz q 45 then 1 else 0) := by
  unfold LM_Rd_isSign LB_Rd_isSign_0 LB_Rd_isSign_18
  rw [C_mark fl h 43, Option.bind_some, C_mark fl h 45, Option.bind_some]
  by_cases c : mkP tx sz q 43
  · rw [if_pos c, if_pos (by omega), if_pos (Or.inl c)]
  · rw [if_neg c, if_neg (by omega)]
    by_cases c2 : mkP tx sz q 45
    · rw [if_pos c2, if_neg (by omega), if_pos (Or.inr c2)]
    · rw [if_neg c2, if_pos rfl, if_neg (fun g => g.elim c c2)]
theorem C_rsign (fl : Nat) (hfl : 5000 ≤ fl) {tx : Nat → Int} {sz : Nat} (hs : sz ≤ 4000) {q : Nat} {be tk pl va mi : Int} (h : AtC tx sz q be tk pl va mi) {st0 vl0 st vl : Nat → Int} {K b : Nat} {l : List Int} (hn : NC st0 vl0 K b st vl l) (hK : K < 64) (hb : b + l.length < q) (ff fp : Int) :
    RC tx sz st0 vl0 K b l ff fp (sSign tx sz q) (LM_Rd_readSign fl (sz : Int) ((K : Int) + 1) tx be tk pl va mi ff fp st vl) := by
  have hq := h.1
  unfold LM_Rd_readSign LB_Rd_readSign_0 LB_Rd_readSign_33
  rw [C_issign fl h, Option.bind_some]
  by_cases c : mkP tx sz q 43 ∨ mkP tx sz q 45
  · rw [if_pos c, if_pos (by omega), C_mark fl h 45, Option.bind_some]
    have fin : ∀ x : Int, ∃ b1 t1 p1 v2 m1 s1 v1, ((LM_Li_add fl ((K : Int) + 1) x st vl).bind fun o0 => ((LM_Rd_advance fl (sz : Int) tx be tk pl va mi).bind fun o1 => (some ((1 : Int), o1.1, o1.2.1, o1.2.2.1, o1.2.2.2.1, o1.2.2.2.2, ff, fp, o0.1, o0.2)))) = some (1, b1, t1, p1, v2, m1, ff, fp, s1, v1) ∧ AtC tx sz (nxt tx sz q) b1 t1 p1 v2 m1 ∧ NC st0 vl0 K b s1 v1 (l ++ [x]) := by
      intro x
      obtain ⟨s1, v1, a1, a2⟩ := C_ladd fl hn hK (by omega) x
      obtain ⟨b1, t1, p1, v2, m1, g1, g2⟩ := C_next fl hfl hs h
      rw [a1, Option.bind_some, g1, Option.bind_some]
      exact ⟨b1, t1, p1, v2, m1, s1, v1, rfl, g2, a2⟩
    by_cases c2 : mkP tx sz q 43
    · have es : sSign tx sz q = .inl (nxt tx sz q, [1]) := if_pos c2
      have n45 : ¬ mkP tx sz q 45 := fun g => by have := g.2; have := c2.2; omega
      rw [es, if_neg n45, if_pos rfl]
      exact fin 1
    · have c3 := c.resolve_left c2
      have es : sSign tx sz q = .inl (nxt tx sz q, [-1]) := by unfold sSign; rw [if_neg c2, if_pos c3]
      rw [es, if_pos c3, if_neg (by omega)]
      exact fin (-1)
  · have es : sSign tx sz q = .inr (refC tx sz q 4, q) := by unfold sSign; rw [if_neg (fun g => c (Or.inl g)), if_neg (fun g => c (Or.inr g))]
    rw [es, if_neg c, if_neg (by omega), C_refuse fl h, Option.bind_some, if_pos (Or.inl rfl)]
    exact ⟨_, _, _, _, _, _, _, rfl, NC_st hn, h.2.2.2.1, h.1⟩
theorem C_rside (fl : Nat) (hfl : 5000 ≤ fl) {tx : Nat → Int} {sz : Nat} (hs : sz ≤ 4000) {q : Nat} {be tk pl va mi : Int} (h : AtC tx sz q be tk pl va mi) {st0 vl0 st vl : Nat → Int} {K b : Nat} {l : List Int} (hn : NC st0 vl0 K b st vl l) (hK : K < 64) (hb : b + l.length < q) (ff fp : Int) :
    RC tx sz st0 vl0 K b l ff fp (sSide tx sz q) (LM_Rd_readSide fl (sz : Int) ((K : Int) + 1) tx be tk pl va mi ff fp st vl) := by
  have hq := h.1
  unfold LM_Rd_readSide LB_Rd_readSide_0 LB_Rd_readSide_26 LB_Rd_readSide_39
  have fin : ∀ x : Int, ∃ b1 t1 p1 v2 m1 s1 v1, ((LM_Li_add fl ((K : Int) + 1) x st vl).bind fun o0 => ((LM_Rd_advance fl (sz : Int) tx be tk pl va mi).bind fun o1 => (some ((1 : Int), o1.1, o1.2.1, o1.2.2.1, o1.2.2.2.1, o1.2.2.2.2, ff, fp, o0.1, o0.2)))) = some (1, b1, t1, p1, v2, m1, ff, fp, s1, v1) ∧ AtC tx sz (nxt tx sz q) b1 t1 p1 v2 m1 ∧ NC st0 vl0 K b s1 v1 (l ++ [x]) := by
    intro x
    obtain ⟨s1, v1, a1, a2⟩ := C_ladd fl hn hK (by omega) x
    obtain ⟨b1, t1, p1, v2, m1, g1, g2⟩ := C_next fl hfl hs h
    rw [a1, Option.bind_some, g1, Option.bind_some]
    exact ⟨b1, t1, p1, v2, m1, s1, v1, rfl, g2, a2⟩
  rw [C_word fl hfl hs h (by decide), Option.bind_some]
  by_cases c : wdP tx sz q (lit 20)
  · have es : sSide tx sz q = .inl (nxt tx sz q, [1]) := if_pos c
    rw [es, if_pos c, if_pos (by omega), if_neg (by omega)]
    exact fin 1
  · rw [if_neg c, if_neg (by omega), C_word fl hfl hs h (by decide), Option.bind_some]
    by_cases c2 : wdP tx sz q (lit 21)
    · have es : sSide tx sz q = .inl (nxt tx sz q, [0]) := by unfold sSide; rw [if_neg c, if_pos c2]
      rw [es, if_pos c2, if_pos (by omega), if_pos rfl]
      exact fin 0
    · have es : sSide tx sz q = .inr (refC tx sz q 4, q) := by unfold sSide; rw [if_neg c, if_neg c2]
      rw [es, if_neg c2, if_neg (by omega), C_refuse fl h, Option.bind_some, if_pos (Or.inl rfl)]
      exact ⟨_, _, _, _, _, _, _, rfl, NC_st hn, h.2.2.2.1, h.1⟩
