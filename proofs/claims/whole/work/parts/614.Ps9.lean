theorem C_lany (fl : Nat) {st0 vl0 st vl : Nat → Int} {K b : Nat} {l : List Int} (h : NC st0 vl0 K b st vl l) (hK : K < 64) (x : Int) : ∃ st' vl', LM_Li_add fl ((K : Int) + 1) x st vl = some (st', vl') ∧ (∀ k, k ≤ K → st' k = st0 k) ∧ 0 ≤ st' (K + 1) := by
  obtain ⟨h1, h2, h3, h4⟩ := h
  unfold LM_Li_add LB_Li_add_0
  rw [if_pos (by omega), if_neg (by omega), show Int.toNat ((K : Int) + 1) = K + 1 by omega, h3]
  by_cases c : b + l.length < 4000
  · rw [if_neg (by omega), if_pos (by omega), if_pos (by omega)]
    exact ⟨_, _, rfl, fun k hk => by rw [up_ne _ _ (by omega)]; exact h1 k hk, by rw [up_eq]; omega⟩
  · rw [if_pos (by omega)]
    exact ⟨_, _, rfl, h1, by rw [h3]; omega⟩
theorem C_lany2 (fl : Nat) {st vl : Nat → Int} {K : Nat} (hK : K < 64) (h : 0 ≤ st (K + 1)) (hu : st (K + 1) ≤ 4001) (x : Int) : ∃ st' vl', LM_Li_add fl ((K : Int) + 1) x st vl = some (st', vl') ∧ (∀ k, k ≤ K → st' k = st k) := by
  unfold LM_Li_add LB_Li_add_0
  rw [if_pos (by omega), if_neg (by omega), show Int.toNat ((K : Int) + 1) = K + 1 by omega]
  by_cases c : st (K + 1) < 4000
  · rw [if_neg (by omega), if_pos (by omega), if_pos (by omega)]
    exact ⟨_, _, rfl, fun k hk => by rw [up_ne _ _ (by omega)]⟩
  · rw [if_pos (by omega)]
    exact ⟨_, _, rfl, fun k hk => rfl⟩
def sTm (tx : Nat → Int) (sz : Nat) (c : Int) (lv : List Int) (has : Bool) (q : Nat) : Rs :=
  if wdP tx sz q lv then (if mkP tx sz (nxt tx sz q) 94 then sq (.inl (nxt tx sz (nxt tx sz q), [c])) (sSgd tx sz) else .inl (nxt tx sz q, [c, 1]))
  else if has = true then .inl (q, [c, 0]) else .inr (refC tx sz q 4, q)
def sTerm (tx : Nat → Int) (sz : Nat) (sg : Int) (lv : List Int) (q : Nat) : Rs :=
  if tkK tx sz q = 3 then (if ms tx sz q = 0 then sTm tx sz (sg * nv tx sz q) lv true (nxt tx sz q) else .inr (2, q)) else sTm tx sz (sg * 1) lv false q
theorem RC_pre {tx : Nat → Int} {sz : Nat} {st0 vl0 : Nat → Int} {K b : Nat} {l l1 : List Int} {ff fp : Int} {q1 : Nat} {f : Nat → Rs} {X : Option (Int × Int × Int × Int × Int × Int × Int × Int × (Nat → Int) × (Nat → Int))} (h : RC tx sz st0 vl0 K b (l ++ l1) ff fp (f q1) X) : RC tx sz st0 vl0 K b l ff fp (sq (.inl (q1, l1)) f) X := by
  show RC tx sz st0 vl0 K b l ff fp (match f q1 with | .inl b => .inl (b.1, l1 ++ b.2) | .inr e => .inr e) X
  cases e : f q1 with
  | inr e2 => rw [e] at h; exact h
  | inl b2 =>
    rw [e] at h
    obtain ⟨be, tk, pl, va, mi, st, vl, k1, k2, k3⟩ := h
    rw [List.append_assoc] at k3
    exact ⟨be, tk, pl, va, mi, st, vl, k1, k2, k3⟩
theorem C_tm44 (fl : Nat) (hfl : 5000 ≤ fl) {tx : Nat → Int} {sz : Nat} (hs : sz ≤ 4000) {q : Nat} {be tk pl va mi : Int} (h : AtC tx sz q be tk pl va mi) {st0 vl0 st vl : Nat → Int} {K b : Nat} {l : List Int} (hn : NC st0 vl0 K b st vl l) (hK : K < 64) (hb : b + l.length + 1 < q) (ff fp : Int) {x1 x3 x5 : Int} {iv : Nat} (hi : iv < 79) {has : Bool} (h5 : has = true ↔ ¬ (x5 = 0)) (h13 : -9223372036854775808 ≤ x1 * x3 ∧ x1 * x3 < 9223372036854775808) :
    RC tx sz st0 vl0 K b l ff fp (sTm tx sz (x1 * x3) (lit iv) has q) (LB_Rd_readTerm_44 fl (sz : Int) ((K : Int) + 1) tx x1 iv x3 x5 be tk pl va mi ff fp st vl) := by
  have hq := h.1
  have hx := nxt_b (tx := tx) hq
  unfold LB_Rd_readTerm_44
  obtain ⟨s1, v1, a1, a2⟩ := C_ladd fl hn hK (by omega) (x1 * x3)
  rw [if_pos h13, a1, Option.bind_some, C_word fl hfl hs h hi, Option.bind_some]
  have ln1 : (l ++ [x1 * x3]).length = l.length + 1 := by rw [List.length_append]; rfl
  by_cases c : wdP tx sz q (lit iv)
  · obtain ⟨b1, t1, p1, w1, m1, g1, g2⟩ := C_next fl hfl hs h
    have hx1 := hx.2.2 (by have := c.1; omega)
    rw [if_pos c, if_pos (by omega), g1, Option.bind_some]
    rw [C_mark fl g2 94, Option.bind_some]
    by_cases c2 : mkP tx sz (nxt tx sz q) 94
    · have es : sTm tx sz (x1 * x3) (lit iv) has q = sq (.inl (nxt tx sz (nxt tx sz q), [x1 * x3])) (sSgd tx sz) := by unfold sTm; rw [if_pos c, if_pos c2]
      obtain ⟨b2, t2, p2, w2, m2, g3, g4⟩ := C_next fl hfl hs g2
      have hx2 := nxt_b (tx := tx) g2.1
      rw [es, if_pos c2, if_pos (by omega), g3, Option.bind_some]
      exact RC_pre (RC_id (C_rsgd fl hfl hs g4 a2 hK (by omega) ff fp))
    · have es : sTm tx sz (x1 * x3) (lit iv) has q = .inl (nxt tx sz q, [x1 * x3, 1]) := by unfold sTm; rw [if_pos c, if_neg c2]
      obtain ⟨s2, v2, a3, a4⟩ := C_ladd fl a2 hK (by omega) 1
      rw [es, if_neg c2, if_neg (by omega), a3, Option.bind_some]
      rw [List.append_assoc] at a4
      exact ⟨_, _, _, _, _, _, _, rfl, g2, a4⟩
  · obtain ⟨s2, v2, a3, a4⟩ := C_ladd fl a2 hK (by omega) 0
    rw [if_neg c, if_neg (by omega), a3, Option.bind_some]
    unfold LB_Rd_readTerm_84
    by_cases c5 : x5 = 0
    · have es : sTm tx sz (x1 * x3) (lit iv) has q = .inr (refC tx sz q 4, q) := by unfold sTm; rw [if_neg c, if_neg (fun g => h5.1 g c5)]
      rw [es, if_neg (fun g => g c5), C_refuse fl h, Option.bind_some, if_pos rfl]
      exact ⟨_, _, _, _, _, _, _, rfl, NC_st a4, h.2.2.2.1, h.1⟩
    · have es : sTm tx sz (x1 * x3) (lit iv) has q = .inl (q, [x1 * x3, 0]) := by unfold sTm; rw [if_neg c, if_pos (h5.2 c5)]
      rw [es, if_pos c5]
      rw [List.append_assoc] at a4
      exact ⟨_, _, _, _, _, _, _, rfl, h, a4⟩
theorem C_rterm (fl : Nat) (hfl : 5000 ≤ fl) {tx : Nat → Int} {sz : Nat} (hs : sz ≤ 4000) {q : Nat} {be tk pl va mi : Int} (h : AtC tx sz q be tk pl va mi) {st0 vl0 st vl : Nat → Int} {K b : Nat} {l : List Int} (hn : NC st0 vl0 K b st vl l) (hK : K < 64) (hb : b + l.length + 1 < q) (ff fp : Int) {sg : Int} (hg : sg = 1 ∨ sg = -1) {iv : Nat} (hi : iv < 79) :
    RC tx sz st0 vl0 K b l ff fp (sTerm tx sz sg (lit iv) q) (LM_Rd_readTerm fl (sz : Int) ((K : Int) + 1) tx sg iv be tk pl va mi ff fp st vl) := by
  have h' := h
  obtain ⟨h1, h2, h3, h4, h5⟩ := h'
  have hx := nxt_b (tx := tx) h1
  unfold LM_Rd_readTerm LB_Rd_readTerm_0 LB_Rd_readTerm_15
  by_cases c : tkK tx sz q = 3
  · have e1 : va = nv tx sz q := (h5.1 c).1
    have e2 : mi = ms tx sz q := (h5.1 c).2
    have hv := nv_b c
    by_cases c4 : ms tx sz q = 0
    · have es : sTerm tx sz sg (lit iv) q = sTm tx sz (sg * nv tx sz q) (lit iv) true (nxt tx sz q) := by unfold sTerm; rw [if_pos c, if_pos c4]
      obtain ⟨b1, t1, p1, w1, m1, g1, g2⟩ := C_next fl hfl hs h
      rw [es, if_neg (by omega), if_neg (by omega), if_pos (by omega), g1, Option.bind_some, e1]
      exact C_tm44 fl hfl hs g2 hn hK (by omega) ff fp hi (by constructor <;> intro _ <;> first | omega | rfl) (by rcases hg with w | w <;> rw [w] <;> omega)
    · have es : sTerm tx sz sg (lit iv) q = .inr (2, q) := by unfold sTerm; rw [if_pos c, if_neg c4]
      have er : refC tx sz q 2 = 2 := by unfold refC; rw [if_neg (by omega)]; split <;> rfl
      rw [es, if_neg (by omega), if_neg (by omega), if_neg (by omega), C_refuse fl h, Option.bind_some, if_pos (Or.inl rfl), er]
      exact ⟨_, _, _, _, _, _, _, rfl, NC_st hn, h.2.2.2.1, h.1⟩
  · have es : sTerm tx sz sg (lit iv) q = sTm tx sz (sg * 1) (lit iv) false q := by unfold sTerm; rw [if_neg c]
    rw [es, if_pos (by omega), if_pos rfl]
    exact C_tm44 fl hfl hs h hn hK hb ff fp hi (by constructor <;> intro g <;> first | exact absurd g (by decide) | exact absurd rfl g) (by rcases hg with w | w <;> rw [w] <;> omega)
theorem sTm_p {tx : Nat → Int} {sz : Nat} {c : Int} {lv : List Int} {has : Bool} {q q1 : Nat} {l1 : List Int} (hq : q ≤ sz) (h : sTm tx sz c lv has q = .inl (q1, l1)) : l1.length = 2 ∧ q ≤ q1 ∧ q1 ≤ sz ∧ (has = false → q < q1) := by
  have hx := nxt_b (tx := tx) hq
  unfold sTm at h
  by_cases c1 : wdP tx sz q lv
  · rw [if_pos c1] at h
    have hx1 := hx.2.2 (by have := c1.1; omega)
    by_cases c2 : mkP tx sz (nxt tx sz q) 94
    · rw [if_pos c2] at h
      have hx2 := nxt_b (tx := tx) hx.2.1
      have h' : (match sSgd tx sz (nxt tx sz (nxt tx sz q)) with | .inl b => (.inl (b.1, [c] ++ b.2) : Rs) | .inr e => .inr e) = .inl (q1, l1) := h
      cases e : sSgd tx sz (nxt tx sz (nxt tx sz q)) with
      | inr e2 => rw [e] at h'; cases h'
      | inl b =>
        rw [e] at h'
        have e3 := Sum.inl.inj h'
        have e4 : b.1 = q1 := congrArg Prod.fst e3
        have e5 : [c] ++ b.2 = l1 := congrArg Prod.snd e3
        have g := sSgd_p hx2.2.1 (show sSgd tx sz (nxt tx sz (nxt tx sz q)) = .inl (b.1, b.2) from e)
        have gl : b.2.length = 1 := by
          unfold sSgd sNum at e
          split at e
          · split at e
            · exact (inl_len (l1 := b.2) (q1 := b.1) e).2
            · cases e
          · split at e
            · exact (inl_len (l1 := b.2) (q1 := b.1) e).2
            · cases e
        rw [← e5, List.length_append, gl]
        exact ⟨rfl, by omega, by omega, fun _ => by omega⟩
    · rw [if_neg c2] at h
      have e := Sum.inl.inj h
      have e1 : nxt tx sz q = q1 := congrArg Prod.fst e
      have e2 : [c, 1] = l1 := congrArg Prod.snd e
      rw [← e2]
      exact ⟨rfl, by omega, by omega, fun _ => by omega⟩
  · rw [if_neg c1] at h
    by_cases c2 : has = true
    · rw [if_pos c2] at h
      have e := Sum.inl.inj h
      have e1 : q = q1 := congrArg Prod.fst e
      have e2 : [c, 0] = l1 := congrArg Prod.snd e
      rw [← e2]
      exact ⟨rfl, by omega, by omega, fun g => by rw [g] at c2; cases c2⟩
    · rw [if_neg c2] at h; cases h
theorem sTerm_p {tx : Nat → Int} {sz : Nat} {sg : Int} {lv : List Int} {q q1 : Nat} {l1 : List Int} (hq : q ≤ sz) (h : sTerm tx sz sg lv q = .inl (q1, l1)) : l1.length = 2 ∧ q < q1 ∧ q1 ≤ sz := by
  have hx := nxt_b (tx := tx) hq
  unfold sTerm at h
  by_cases c : tkK tx sz q = 3
  · rw [if_pos c] at h
    have := hx.2.2 (by omega)
    by_cases c4 : ms tx sz q = 0
    · rw [if_pos c4] at h
      have := sTm_p hx.2.1 h
      exact ⟨this.1, by omega, by omega⟩
    · rw [if_neg c4] at h; cases h
  · rw [if_neg c] at h
    have := sTm_p hq h
    have := this.2.2.2 rfl
    exact ⟨by omega, by omega, by omega⟩
def sSumL (tx : Nat → Int) (sz : Nat) (lv : List Int) : Nat → Nat → Rs
  | 0, q => if sgP tx sz q then .inr (refC tx sz q 5, q) else .inl (q, [])
  | d + 1, q => if sgP tx sz q then sq (sTerm tx sz (if mkP tx sz q 45 then -1 else 1) lv (nxt tx sz q)) (sSumL tx sz lv d) else .inl (q, [])
def sSum2 (tx : Nat → Int) (sz : Nat) (lv : List Int) (sg : Int) (q : Nat) : Rs := sq (sTerm tx sz sg lv q) (sSumL tx sz lv 63)
def sSum (tx : Nat → Int) (sz : Nat) (lv : List Int) (q : Nat) : Rs := sq (sMark tx sz 61 q) fun q => if mkP tx sz q 45 then sSum2 tx sz lv (-1) (nxt tx sz q) else sSum2 tx sz lv 1 q
theorem C_rsumL (fl : Nat) (hfl : 5000 ≤ fl) {tx : Nat → Int} {sz : Nat} (hs : sz ≤ 4000) {st0 vl0 : Nat → Int} {K b : Nat} (hK : K < 64) (ff fp : Int) {iv : Nat} (hi : iv < 79) :
    ∀ (d nn q : Nat) (x2 be tk pl va mi : Int) (st vl : Nat → Int) (l : List Int), d < nn → d ≤ 63 → AtC tx sz q be tk pl va mi → NC st0 vl0 K b st vl l → b + l.length < q →
    RC tx sz st0 vl0 K b l ff fp (sSumL tx sz (lit iv) d q) (LB_Rd_readSum_41 fl (sz : Int) ((K : Int) + 1) tx nn iv x2 (64 - (d : Int)) be tk pl va mi ff fp st vl) := by
  intro d
  induction d with
  | zero =>
    intro nn q x2 be tk pl va mi st vl l hnn hd h hn hb
    obtain ⟨nn, rfl⟩ : ∃ r, nn = r + 1 := ⟨nn - 1, by omega⟩
    rw [LB_Rd_readSum_41, if_neg (by omega), C_issign fl h, Option.bind_some]
    by_cases c : sgP tx sz q
    · have es : sSumL tx sz (lit iv) 0 q = .inr (refC tx sz q 5, q) := if_pos c
      rw [es, if_pos c, if_neg (by omega), if_neg (by omega), C_refuse fl h, Option.bind_some, if_pos (Or.inl rfl)]
      exact ⟨_, _, _, _, _, _, _, rfl, NC_st hn, h.2.2.2.1, h.1⟩
    · have es : sSumL tx sz (lit iv) 0 q = .inl (q, []) := if_neg c
      rw [es, if_neg c, if_pos rfl]
      exact ⟨_, _, _, _, _, _, _, rfl, h, by rw [List.append_nil]; exact hn⟩
  | succ d ih =>
    intro nn q x2 be tk pl va mi st vl l hnn hd h hn hb
    obtain ⟨nn, rfl⟩ : ∃ r, nn = r + 1 := ⟨nn - 1, by omega⟩
    have hx := nxt_b (tx := tx) h.1
    rw [LB_Rd_readSum_41, if_neg (by omega), C_issign fl h, Option.bind_some]
    by_cases c : sgP tx sz q
    · have es : sSumL tx sz (lit iv) (d + 1) q = sq (sTerm tx sz (if mkP tx sz q 45 then -1 else 1) (lit iv) (nxt tx sz q)) (sSumL tx sz (lit iv) d) := if_pos c
      have hx1 := hx.2.2 (by rcases c with c | c <;> have := c.1 <;> omega)
      have go : ∀ sg : Int, (sg = 1 ∨ sg = -1) → RC tx sz st0 vl0 K b l ff fp (sq (sTerm tx sz sg (lit iv) (nxt tx sz q)) (sSumL tx sz (lit iv) d)) (LB_Rd_readSum_80 fl (sz : Int) ((K : Int) + 1) tx (LB_Rd_readSum_41 fl (sz : Int) ((K : Int) + 1) tx nn) sg iv x2 (64 - ((d + 1 : Nat) : Int)) be tk pl va mi ff fp st vl) := by
        intro sg hg
        unfold LB_Rd_readSum_80
        obtain ⟨b1, t1, p1, w1, m1, g1, g2⟩ := C_next fl hfl hs h
        rw [g1, Option.bind_some]
        refine RC_sq' (C_rterm fl hfl hs g2 hn hK (by omega) ff fp hg hi) (fun q1 l1 be1 tk1 pl1 va1 mi1 st1 vl1 e1 h1 n1 => ?_)
        have a1 := sTerm_p hx.2.1 e1
        rw [if_pos (by omega), show (64 - ((d + 1 : Nat) : Int) + 1) = 64 - (d : Int) by omega]
        exact ih nn q1 sg be1 tk1 pl1 va1 mi1 st1 vl1 (l ++ l1) (by omega) (by omega) h1 n1 (by rw [List.length_append]; omega)
      by_cases c2 : mkP tx sz q 45
      · rw [if_pos c2] at es
        rw [es, if_pos c, if_neg (by omega), if_pos (by omega), C_mark fl h 45, Option.bind_some, if_pos c2, if_neg (by omega)]
        exact go (-1) (Or.inr rfl)
      · rw [if_neg c2] at es
        rw [es, if_pos c, if_neg (by omega), if_pos (by omega), C_mark fl h 45, Option.bind_some, if_neg c2, if_pos rfl]
        exact go 1 (Or.inl rfl)
    · have es : sSumL tx sz (lit iv) (d + 1) q = .inl (q, []) := if_neg c
      rw [es, if_neg c, if_pos rfl]
      exact ⟨_, _, _, _, _, _, _, rfl, h, by rw [List.append_nil]; exact hn⟩
theorem C_rsum (fl : Nat) (hfl : 5000 ≤ fl) {tx : Nat → Int} {sz : Nat} (hs : sz ≤ 4000) {q : Nat} {be tk pl va mi : Int} (h : AtC tx sz q be tk pl va mi) {st0 vl0 st vl : Nat → Int} {K b : Nat} {l : List Int} (hn : NC st0 vl0 K b st vl l) (hK : K < 64) (hb : b + l.length < q) (ff fp : Int) {iv : Nat} (hi : iv < 79) :
    RC tx sz st0 vl0 K b l ff fp (sSum tx sz (lit iv) q) (LM_Rd_readSum fl (sz : Int) ((K : Int) + 1) tx iv be tk pl va mi ff fp st vl) := by
  unfold LM_Rd_readSum LB_Rd_readSum_0 sSum
  have sm2 : ∀ (sg : Int) (q : Nat) (be tk pl va mi : Int), (sg = 1 ∨ sg = -1) → AtC tx sz q be tk pl va mi → b + l.length + 1 < q → RC tx sz st0 vl0 K b l ff fp (sSum2 tx sz (lit iv) sg q) (LB_Rd_readSum_28 fl (sz : Int) ((K : Int) + 1) tx iv sg be tk pl va mi ff fp st vl) := by
    intro sg q be tk pl va mi hg h hb
    unfold LB_Rd_readSum_28 sSum2
    refine RC_sq' (C_rterm fl hfl hs h hn hK hb ff fp hg hi) (fun q1 l1 be1 tk1 pl1 va1 mi1 st1 vl1 e1 h1 n1 => ?_)
    have a1 := sTerm_p h.1 e1
    exact C_rsumL fl hfl hs hK ff fp hi 63 fl q1 sg be1 tk1 pl1 va1 mi1 st1 vl1 (l ++ l1) (by omega) (by omega) h1 n1 (by rw [List.length_append]; omega)
  have e : (fun (o0 : Int × Int × Int × Int × Int × Int × Int × Int) => (if ¬ (o0.1 = (0 : Int)) then ((LM_Rd_isMark fl o0.2.2.1 o0.2.2.2.2.1 (45 : Int)).bind fun o1 => (if o1 = (0 : Int) then (LB_Rd_readSum_28 fl (sz : Int) ((K : Int) + 1) tx iv (1 : Int) o0.2.1 o0.2.2.1 o0.2.2.2.1 o0.2.2.2.2.1 o0.2.2.2.2.2.1 o0.2.2.2.2.2.2.1 o0.2.2.2.2.2.2.2 st vl) else ((LM_Rd_advance fl (sz : Int) tx o0.2.1 o0.2.2.1 o0.2.2.2.1 o0.2.2.2.2.1 o0.2.2.2.2.2.1).bind fun o2 => (LB_Rd_readSum_28 fl (sz : Int) ((K : Int) + 1) tx iv (-1 : Int) o2.1 o2.2.1 o2.2.2.1 o2.2.2.2.1 o2.2.2.2.2 o0.2.2.2.2.2.2.1 o0.2.2.2.2.2.2.2 st vl)))) else (some ((0 : Int), o0.2.1, o0.2.2.1, o0.2.2.2.1, o0.2.2.2.2.1, o0.2.2.2.2.2.1, o0.2.2.2.2.2.2.1, o0.2.2.2.2.2.2.2, st, vl)))) = (fun o0 => if o0.1 = (0 : Int) then (some ((0 : Int), o0.2.1, o0.2.2.1, o0.2.2.2.1, o0.2.2.2.2.1, o0.2.2.2.2.2.1, o0.2.2.2.2.2.2.1, o0.2.2.2.2.2.2.2, st, vl)) else ((LM_Rd_isMark fl o0.2.2.1 o0.2.2.2.2.1 (45 : Int)).bind fun o1 => (if o1 = (0 : Int) then (LB_Rd_readSum_28 fl (sz : Int) ((K : Int) + 1) tx iv (1 : Int) o0.2.1 o0.2.2.1 o0.2.2.2.1 o0.2.2.2.2.1 o0.2.2.2.2.2.1 o0.2.2.2.2.2.2.1 o0.2.2.2.2.2.2.2 st vl) else ((LM_Rd_advance fl (sz : Int) tx o0.2.1 o0.2.2.1 o0.2.2.2.1 o0.2.2.2.2.1 o0.2.2.2.2.2.1).bind fun o2 => (LB_Rd_readSum_28 fl (sz : Int) ((K : Int) + 1) tx iv (-1 : Int) o2.1 o2.2.1 o2.2.2.1 o2.2.2.2.1 o2.2.2.2.2 o0.2.2.2.2.2.2.1 o0.2.2.2.2.2.2.2 st vl))))) := by
    funext o
    by_cases c : o.1 = 0
    · rw [if_neg (fun g => g c), if_pos c]
    · rw [if_pos c, if_neg c]
  rw [e]
  refine RC_mk fl hfl hs h hn (fun q2 be2 tk2 pl2 va2 mi2 p2 h2 => ?_)
  show RC tx sz st0 vl0 K b l ff fp _ ((LM_Rd_isMark fl tk2 va2 45).bind _)
  rw [C_mark fl h2 45, Option.bind_some]
  by_cases c2 : mkP tx sz q2 45
  · obtain ⟨b1, t1, p1, w1, m1, g1, g2⟩ := C_next fl hfl hs h2
    have hx := nxt_b (tx := tx) h2.1
    rw [if_pos c2, if_pos c2, if_neg (by omega)]
    show RC tx sz st0 vl0 K b l ff fp _ ((LM_Rd_advance fl (sz : Int) tx be2 tk2 pl2 va2 mi2).bind _)
    rw [g1, Option.bind_some]
    exact sm2 (-1) _ b1 t1 p1 w1 m1 (Or.inr rfl) g2 (by omega)
  · rw [if_neg c2, if_neg c2, if_pos rfl]
    exact sm2 1 _ be2 tk2 pl2 va2 mi2 (Or.inl rfl) h2 (by omega)
