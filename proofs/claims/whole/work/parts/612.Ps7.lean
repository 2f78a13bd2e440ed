theorem inl_len {n q1 : Nat} {x : Int} {l1 : List Int} (h : (.inl (n, [x]) : Rs) = .inl (q1, l1)) : n = q1 ∧ l1.length = 1 := by
  have e := Sum.inl.inj h
  have e1 : n = q1 := congrArg Prod.fst e
  have e2 : [x] = l1 := congrArg Prod.snd e
  exact ⟨e1, by rw [← e2]; rfl⟩
theorem sNum_p {tx : Nat → Int} {sz : Nat} {sg : Int} {q q1 : Nat} {l1 : List Int} (hq : q ≤ sz) (h : sNum tx sz sg q = .inl (q1, l1)) : q + l1.length ≤ q1 ∧ q1 ≤ sz := by
  unfold sNum at h
  have hb := nxt_b (tx := tx) hq
  by_cases c : nbP tx sz q
  · rw [if_pos c] at h
    have e := inl_len h
    have := hb.2.2 (by have := c.1; omega)
    omega
  · rw [if_neg c] at h; cases h
theorem sSgd_p {tx : Nat → Int} {sz : Nat} {q q1 : Nat} {l1 : List Int} (hq : q ≤ sz) (h : sSgd tx sz q = .inl (q1, l1)) : q + l1.length ≤ q1 ∧ q1 ≤ sz := by
  unfold sSgd at h
  have hb := nxt_b (tx := tx) hq
  by_cases c : mkP tx sz q 45
  · rw [if_pos c] at h
    have := sNum_p hb.2.1 h
    omega
  · rw [if_neg c] at h; exact sNum_p hq h
theorem sSign_p {tx : Nat → Int} {sz : Nat} {q q1 : Nat} {l1 : List Int} (hq : q ≤ sz) (h : sSign tx sz q = .inl (q1, l1)) : q + l1.length ≤ q1 ∧ q1 ≤ sz := by
  unfold sSign at h
  have hb := nxt_b (tx := tx) hq
  by_cases c : mkP tx sz q 43
  · rw [if_pos c] at h
    have e := inl_len h
    have := hb.2.2 (by have := c.1; omega)
    omega
  · rw [if_neg c] at h
    by_cases c : mkP tx sz q 45
    · rw [if_pos c] at h
      have e := inl_len h
      have := hb.2.2 (by have := c.1; omega)
      omega
    · rw [if_neg c] at h; cases h
theorem sSide_p {tx : Nat → Int} {sz : Nat} {q q1 : Nat} {l1 : List Int} (hq : q ≤ sz) (h : sSide tx sz q = .inl (q1, l1)) : q + l1.length ≤ q1 ∧ q1 ≤ sz := by
  unfold sSide at h
  have hb := nxt_b (tx := tx) hq
  by_cases c : wdP tx sz q (lit 20)
  · rw [if_pos c] at h
    have e := inl_len h
    have := hb.2.2 (by have := c.1; omega)
    omega
  · rw [if_neg c] at h
    by_cases c : wdP tx sz q (lit 21)
    · rw [if_pos c] at h
      have e := inl_len h
      have := hb.2.2 (by have := c.1; omega)
      omega
    · rw [if_neg c] at h; cases h
theorem sMark_p {tx : Nat → Int} {sz : Nat} {m : Int} {q q1 : Nat} {l1 : List Int} (hq : q ≤ sz) (h : sMark tx sz m q = .inl (q1, l1)) : q + 1 ≤ q1 ∧ q1 ≤ sz ∧ l1 = [] := by
  unfold sMark at h
  have hb := nxt_b (tx := tx) hq
  by_cases c : mkP tx sz q m
  · rw [if_pos c] at h
    have e := Sum.inl.inj h
    have e1 : nxt tx sz q = q1 := congrArg Prod.fst e
    have e2 : ([] : List Int) = l1 := congrArg Prod.snd e
    have := hb.2.2 (by have := c.1; omega)
    exact ⟨by omega, by omega, e2.symm⟩
  · rw [if_neg c] at h; cases h
theorem sq_p {sz : Nat} {r : Rs} {f : Nat → Rs} {q q2 : Nat} {l2 : List Int} (h1 : ∀ q1 l1, r = .inl (q1, l1) → q + l1.length ≤ q1 ∧ q1 ≤ sz) (h2 : ∀ q1 q2 l2, q1 ≤ sz → f q1 = .inl (q2, l2) → q1 + l2.length ≤ q2 ∧ q2 ≤ sz) (h : sq r f = .inl (q2, l2)) : q + l2.length ≤ q2 ∧ q2 ≤ sz := by
  unfold sq at h
  cases r with
  | inr e => cases h
  | inl a =>
    have g1 := h1 a.1 a.2 rfl
    have h' : (match f a.1 with | .inl b => (.inl (b.1, a.2 ++ b.2) : Rs) | .inr e => .inr e) = .inl (q2, l2) := h
    cases e : f a.1 with
    | inr e2 => rw [e] at h'; cases h'
    | inl b =>
      rw [e] at h'
      have e3 := Sum.inl.inj h'
      have g2 := h2 a.1 b.1 b.2 g1.2 e
      have e4 : b.1 = q2 := congrArg Prod.fst e3
      have e5 : a.2 ++ b.2 = l2 := congrArg Prod.snd e3
      rw [← e5, List.length_append]
      omega
/-- one reader of the class behind another -/
theorem RC_sq {tx : Nat → Int} {sz : Nat} {st0 vl0 : Nat → Int} {K b : Nat} {l : List Int} {ff fp : Int} {r : Rs} {f : Nat → Rs} {X : Option (Int × Int × Int × Int × Int × Int × Int × Int × (Nat → Int) × (Nat → Int))} {G : (Int × Int × Int × Int × Int × Int × Int × Int × (Nat → Int) × (Nat → Int)) → Option (Int × Int × Int × Int × Int × Int × Int × Int × (Nat → Int) × (Nat → Int))}
    (h : RC tx sz st0 vl0 K b l ff fp r X) (hg : ∀ q1 l1 be tk pl va mi st vl, r = .inl (q1, l1) → AtC tx sz q1 be tk pl va mi → NC st0 vl0 K b st vl (l ++ l1) → RC tx sz st0 vl0 K b (l ++ l1) ff fp (f q1) (G (1, be, tk, pl, va, mi, ff, fp, st, vl))) :
    RC tx sz st0 vl0 K b l ff fp (sq r f) (X.bind fun o => if o.1 = (0 : Int) then some ((0 : Int), o.2.1, o.2.2.1, o.2.2.2.1, o.2.2.2.2.1, o.2.2.2.2.2.1, o.2.2.2.2.2.2.1, o.2.2.2.2.2.2.2.1, o.2.2.2.2.2.2.2.2.1, o.2.2.2.2.2.2.2.2.2) else G o) := by
  cases r with
  | inr e =>
    obtain ⟨be, tk, pl, va, mi, st, vl, h1, h2⟩ := h
    rw [h1, Option.bind_some, if_pos rfl]
    exact ⟨be, tk, pl, va, mi, st, vl, rfl, h2⟩
  | inl a =>
    obtain ⟨be, tk, pl, va, mi, st, vl, h1, h2, h3⟩ := h
    rw [h1, Option.bind_some, if_neg (by show ¬ ((1 : Int) = 0); omega)]
    have := hg a.1 a.2 be tk pl va mi st vl rfl h2 h3
    show RC tx sz st0 vl0 K b l ff fp (match f a.1 with | .inl b => .inl (b.1, a.2 ++ b.2) | .inr e => .inr e) _
    cases e : f a.1 with
    | inr e2 => rw [e] at this; exact this
    | inl b2 =>
      rw [e] at this
      obtain ⟨be', tk', pl', va', mi', st', vl', k1, k2, k3⟩ := this
      rw [List.append_assoc] at k3
      exact ⟨be', tk', pl', va', mi', st', vl', k1, k2, k3⟩
theorem RC_mk (fl : Nat) (hfl : 5000 ≤ fl) {tx : Nat → Int} {sz : Nat} (hs : sz ≤ 4000) {st0 vl0 : Nat → Int} {K b : Nat} {l : List Int} {ff fp : Int} {f : Nat → Rs} {q : Nat} {be tk pl va mi : Int} (h : AtC tx sz q be tk pl va mi) {st vl : Nat → Int} (hn : NC st0 vl0 K b st vl l) {m : Int} {G : (Int × Int × Int × Int × Int × Int × Int × Int) → Option (Int × Int × Int × Int × Int × Int × Int × Int × (Nat → Int) × (Nat → Int))}
    (hg : ∀ q1 be tk pl va mi, q + 1 ≤ q1 → AtC tx sz q1 be tk pl va mi → RC tx sz st0 vl0 K b l ff fp (f q1) (G (1, be, tk, pl, va, mi, ff, fp))) :
    RC tx sz st0 vl0 K b l ff fp (sq (sMark tx sz m q) f) ((LM_Rd_readMark fl (sz : Int) tx m be tk pl va mi ff fp).bind fun o => if o.1 = (0 : Int) then some ((0 : Int), o.2.1, o.2.2.1, o.2.2.2.1, o.2.2.2.2.1, o.2.2.2.2.2.1, o.2.2.2.2.2.2.1, o.2.2.2.2.2.2.2, st, vl) else G o) := by
  have k := C_rmark fl hfl hs h m ff fp
  cases e : sMark tx sz m q with
  | inr e2 =>
    rw [e] at k
    have k2 : LM_Rd_readMark fl (sz : Int) tx m be tk pl va mi ff fp = some (0, be, tk, pl, va, mi, e2.1, (e2.2 : Int)) := k
    have e3 : e2.2 = q := by
      unfold sMark at e
      split at e
      · cases e
      · exact (congrArg Prod.snd (Sum.inr.inj e)).symm
    rw [k2, Option.bind_some, if_pos rfl]
    exact ⟨_, _, _, _, _, _, _, rfl, NC_st hn, by rw [e3]; exact h.2.2.2.1, by rw [e3]; exact h.1⟩
  | inl a =>
    rw [e] at k
    obtain ⟨b1, t1, p1, v1, m1, k1, k2, k3⟩ := k
    rw [k1, Option.bind_some, if_neg (by show ¬ ((1 : Int) = 0); omega)]
    have g := hg a.1 b1 t1 p1 v1 m1 (sMark_p h.1 (show sMark tx sz m q = .inl (a.1, a.2) from e)).1 k2
    show RC tx sz st0 vl0 K b l ff fp (match f a.1 with | .inl b => .inl (b.1, a.2 ++ b.2) | .inr e => .inr e) _
    cases e2 : f a.1 with
    | inr e3 => rw [e2] at g; exact g
    | inl b2 =>
      rw [e2] at g
      obtain ⟨be', tk', pl', va', mi', st', vl', g1, g2, g3⟩ := g
      refine ⟨be', tk', pl', va', mi', st', vl', g1, g2, ?_⟩
      rw [k3, List.nil_append]; exact g3
def sCross (tx : Nat → Int) (sz : Nat) (q : Nat) : Rs := sq (sSign tx sz q) fun q => sq (sMark tx sz 91 q) fun q => sq (sNum tx sz 1 q) fun q => sq (sMark tx sz 44 q) fun q => sq (sNum tx sz 1 q) fun q => sq (sMark tx sz 44 q) fun q => sq (sNum tx sz 1 q) fun q => sq (sMark tx sz 44 q) fun q => sq (sNum tx sz 1 q) fun q => sq (sMark tx sz 93 q) fun q => .inl (q, [])
theorem C_rcross (fl : Nat) (hfl : 5000 ≤ fl) {tx : Nat → Int} {sz : Nat} (hs : sz ≤ 4000) {q : Nat} {be tk pl va mi : Int} (h : AtC tx sz q be tk pl va mi) {st0 vl0 st vl : Nat → Int} {K b : Nat} {l : List Int} (hn : NC st0 vl0 K b st vl l) (hK : K < 64) (hb : b + l.length < q) (ff fp : Int) :
    RC tx sz st0 vl0 K b l ff fp (sCross tx sz q) (LM_Rd_readCrossing fl (sz : Int) ((K : Int) + 1) tx be tk pl va mi ff fp st vl) := by
  unfold LM_Rd_readCrossing LB_Rd_readCrossing_0 sCross
  refine RC_sq (C_rsign fl hfl hs h hn hK hb ff fp) (fun q1 l1 be1 tk1 pl1 va1 mi1 st1 vl1 e1 h1 n1 => ?_)
  have a1 := sSign_p h.1 e1
  have b1 : b + (l ++ l1).length < q1 := by rw [List.length_append]; omega
  refine RC_mk fl hfl hs h1 n1 (fun q2 be2 tk2 pl2 va2 mi2 p2 h2 => ?_)
  refine RC_sq (C_rnum fl hfl hs h2 n1 hK (by omega) ff fp) (fun q3 l3 be3 tk3 pl3 va3 mi3 st3 vl3 e3 h3 n3 => ?_)
  have a3 := sNum_p h2.1 e3
  have b3 : b + (l ++ l1 ++ l3).length < q3 := by rw [List.length_append]; omega
  refine RC_mk fl hfl hs h3 n3 (fun q4 be4 tk4 pl4 va4 mi4 p4 h4 => ?_)
  refine RC_sq (C_rnum fl hfl hs h4 n3 hK (by omega) ff fp) (fun q5 l5 be5 tk5 pl5 va5 mi5 st5 vl5 e5 h5 n5 => ?_)
  have a5 := sNum_p h4.1 e5
  have b5 : b + (l ++ l1 ++ l3 ++ l5).length < q5 := by rw [List.length_append]; omega
  refine RC_mk fl hfl hs h5 n5 (fun q6 be6 tk6 pl6 va6 mi6 p6 h6 => ?_)
  refine RC_sq (C_rnum fl hfl hs h6 n5 hK (by omega) ff fp) (fun q7 l7 be7 tk7 pl7 va7 mi7 st7 vl7 e7 h7 n7 => ?_)
  have a7 := sNum_p h6.1 e7
  have b7 : b + (l ++ l1 ++ l3 ++ l5 ++ l7).length < q7 := by rw [List.length_append]; omega
  refine RC_mk fl hfl hs h7 n7 (fun q8 be8 tk8 pl8 va8 mi8 p8 h8 => ?_)
  refine RC_sq (C_rnum fl hfl hs h8 n7 hK (by omega) ff fp) (fun q9 l9 be9 tk9 pl9 va9 mi9 st9 vl9 e9 h9 n9 => ?_)
  refine RC_mk fl hfl hs h9 n9 (fun qa bea tka pla vaa mia pa ha => ?_)
  refine ⟨_, _, _, _, _, _, _, rfl, ha, ?_⟩
  rw [List.append_nil]
  exact n9
