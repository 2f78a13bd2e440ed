theorem M_line6 (fl : Nat) (hfl : 5000 ≤ fl) {tx ty : Nat → Int} {sz : Nat} (hs : sz ≤ 4000) (ht : TXT tx ty sz) {nu0 nu : Nat → Int} {b q : Nat} {l : List Int} {at_ tm fr fa pl pa : Int} (h : AtM tx sz q at_ tm fr fa pl) (hn : NM nu0 b nu pa l) (hb : b + l.length < q) (x1 : Int) : RM tx sz nu0 b l 4020 (sq (sSgd tx sz q) fun q => sq (sSide tx sz q) fun q => sq (sSgd tx sz q) (sEnd tx sz)) ((LM_Md_signed fl (sz : Int) ty at_ tm fr fa pl).bind fun o11 => ((LM_Md_put fl o11.1 pa nu).bind fun o12 => ((LM_Md_putOver fl (sz : Int) ty o11.2.1 o11.2.2.1 o11.2.2.2.1 o11.2.2.2.2.1 o11.2.2.2.2.2 o12.1 o12.2).bind fun o13 => ((LM_Md_signed fl (sz : Int) ty o13.1 o13.2.1 o13.2.2.1 o13.2.2.2.1 o13.2.2.2.2.1).bind fun o14 => ((LM_Md_put fl o14.1 o13.2.2.2.2.2.1 o13.2.2.2.2.2.2).bind fun o15 => (LB_Md_readLine_169 fl (sz : Int) ty x1 o14.2.1 o14.2.2.1 o14.2.2.2.1 o14.2.2.2.2.1 o14.2.2.2.2.2 o15.1 o15.2)))))) := by
  have hq := h.1
  refine RM_num fl (M_signed fl hfl hs ht h) hn (by omega) (G := fun o => ((LM_Md_putOver fl (sz : Int) ty o.1 o.2.1 o.2.2.1 o.2.2.2.1 o.2.2.2.2.1 o.2.2.2.2.2.1 o.2.2.2.2.2.2).bind fun o13 => ((LM_Md_signed fl (sz : Int) ty o13.1 o13.2.1 o13.2.2.1 o13.2.2.2.1 o13.2.2.2.2.1).bind fun o14 => ((LM_Md_put fl o14.1 o13.2.2.2.2.2.1 o13.2.2.2.2.2.2).bind fun o15 => (LB_Md_readLine_169 fl (sz : Int) ty x1 o14.2.1 o14.2.2.1 o14.2.2.2.1 o14.2.2.2.2.1 o14.2.2.2.2.2 o15.1 o15.2))))) (fun q1 l1 a1 t1 f1 g1 p1 pa1 nu1 e1 h1 n1 => ?_) (fun a1 t1 f1 g1 p1 pa1 nu1 k1 k2 k3 k4 => ?_)
  · have a1' := sSgd_p hq e1
    have hb1 : b + (l ++ l1).length < q1 := by rw [List.length_append]; omega
    have hq1 := h1.1
    refine RM_sq (M_pover fl hfl hs ht h1 n1 hb1) (fun q2 l2 a2 t2 f2 g2 p2 pa2 nu2 e2 h2 n2 => ?_) (fun a2 t2 f2 g2 p2 pa2 nu2 k1 k2 k3 k4 => ?_)
    · have a2' := sSide_p hq1 e2
      have hb2 : b + (l ++ l1 ++ l2).length < q2 := by rw [List.length_append]; omega
      have hq2 := h2.1
      refine RM_num fl (M_signed fl hfl hs ht h2) n2 (by omega) (G := fun o => LB_Md_readLine_169 fl (sz : Int) ty x1 o.1 o.2.1 o.2.2.1 o.2.2.2.1 o.2.2.2.2.1 o.2.2.2.2.2.1 o.2.2.2.2.2.2) (fun q3 l3 a3 t3 f3 g3 p3 pa3 nu3 e3 h3 n3 => ?_) (fun a3 t3 f3 g3 p3 pa3 nu3 k1 k2 k3 k4 => ?_)
      · have a3' := sSgd_p hq2 e3
        exact e169 fl hfl hs ht h3 n3 (by rw [List.length_append]; omega) x1
      · exact f169 fl hfl hs ht k1 k2 k3 (by omega) x1
    · exact FR_num fl (FaM_signed fl hfl hs ht k1 k2) ⟨k3, k4, by omega⟩ (G := fun o => LB_Md_readLine_169 fl (sz : Int) ty x1 o.1 o.2.1 o.2.2.1 o.2.2.2.1 o.2.2.2.2.1 o.2.2.2.2.2.1 o.2.2.2.2.2.2) (fun a3 t3 f3 pa3 nu3 w1 w2 w3 => f169 fl hfl hs ht w1 k2 w2 (by omega) x1)
  · refine FR_bind (F_pover fl hfl hs ht k1 k2 nu1 ⟨k3, k4, by omega⟩) (fun a2 t2 f2 pa2 nu2 w1 w2 w3 => ?_)
    exact FR_num fl (FaM_signed fl hfl hs ht w1 k2) ⟨w2, w3, by omega⟩ (G := fun o => LB_Md_readLine_169 fl (sz : Int) ty x1 o.1 o.2.1 o.2.2.1 o.2.2.2.1 o.2.2.2.2.1 o.2.2.2.2.2.1 o.2.2.2.2.2.2) (fun a3 t3 f3 pa3 nu3 w1 w2 w3 => f169 fl hfl hs ht w1 k2 w2 (by omega) x1)
/-- a line with a polynomial -/
theorem M_lineP (fl : Nat) (hfl : 5000 ≤ fl) {tx ty : Nat → Int} {sz : Nat} (hs : sz ≤ 4000) (ht : TXT tx ty sz) {nu0 nu : Nat → Int} {b q : Nat} {l : List Int} {at_ tm fr fa pl pa : Int} (h : AtM tx sz q at_ tm fr fa pl) (hn : NM nu0 b nu pa l) (hb : b + l.length < q) (k : Nat) {lv : List Int} (hlv : lit (if k = 18 then 22 else 23) = lv) : RM tx sz nu0 b l 4020 (sq (if tkK tx sz q = 0 then .inl (q, []) else sSum tx sz lv q) (sEnd tx sz)) ((LM_Md_readTerms fl (sz : Int) ty (k : Int) at_ tm fr fa pl pa nu).bind fun o => (LB_Md_readLine_169 fl (sz : Int) ty (k : Int) o.1 o.2.1 o.2.2.1 o.2.2.2.1 o.2.2.2.2.1 o.2.2.2.2.2.1 o.2.2.2.2.2.2)) := by
  have hq := h.1
  have h1 := hn.1
  by_cases c : mkP tx sz q 61
  · have c0 := c.1
    have hx := nxt_b (tx := tx) hq
    have hx1 := hx.2.2 (by omega)
    rw [if_neg (by omega)]
    have es : sSum tx sz lv q = (if mkP tx sz (nxt tx sz q) 45 then sSum2 tx sz lv (-1) (nxt tx sz (nxt tx sz q)) else sSum2 tx sz lv 1 (nxt tx sz q)) := by
      unfold sSum
      have e1 : sMark tx sz 61 q = .inl (nxt tx sz q, []) := if_pos c
      rw [e1, sq_nil]
    refine M169 fl hfl hs ht ?_ (fun q1 l1 e => by have := sSum_p hq e; omega) _
    unfold LM_Md_readTerms LB_Md_readTerms_0 LB_Md_readTerms_29
    obtain ⟨a1, t1, f1, g1, p1, n1, n2⟩ := M_next fl hfl hs ht h (by omega)
    rw [M_mark fl hs ht h 61, Option.bind_some, if_pos c, if_pos (show ¬ (1 : Int) = 0 by omega), n1, Option.bind_some, M_mark fl hs ht n2 45, Option.bind_some, es]
    by_cases c2 : mkP tx sz (nxt tx sz q) 45
    · obtain ⟨a2, t2, f2, g2, p2, n3, n4⟩ := M_next fl hfl hs ht n2 (by have := c2.1; omega)
      have hx2 := nxt_b (tx := tx) hx.2.1
      rw [if_pos c2, if_pos c2, if_neg (show ¬ (1 : Int) = 0 by omega), n3, Option.bind_some]
      have := M_rterms fl hfl hs ht k hlv 63 fl (nxt tx sz (nxt tx sz q)) 1 a2 t2 f2 g2 p2 pa nu l (by omega) (by omega) n4 hn (by omega)
      rw [show (63 - ((63 : Nat) : Int)) = 0 from rfl, show sgv 1 = -1 from rfl] at this
      exact this
    · rw [if_neg c2, if_neg c2, if_pos rfl]
      have := M_rterms fl hfl hs ht k hlv 63 fl (nxt tx sz q) 0 a1 t1 f1 g1 p1 pa nu l (by omega) (by omega) n2 hn (by omega)
      rw [show (63 - ((63 : Nat) : Int)) = 0 from rfl, show sgv 0 = 1 from rfl] at this
      exact this
  · have es : sq (if tkK tx sz q = 0 then .inl (q, []) else sSum tx sz lv q) (sEnd tx sz) = sEnd tx sz q := by
      by_cases c0 : tkK tx sz q = 0
      · rw [if_pos c0, sq_nil]
      · rw [if_neg c0]
        have e1 : sMark tx sz 61 q = .inr (refC tx sz q 4, q) := if_neg c
        have e2 : sEnd tx sz q = .inr (refC tx sz q 4, q) := if_neg c0
        unfold sSum
        rw [e1, e2]
        rfl
    unfold LM_Md_readTerms LB_Md_readTerms_0
    rw [es, M_mark fl hs ht h 61, Option.bind_some, if_neg c, if_neg (show ¬ ¬ ((0 : Int) = 0) by omega), Option.bind_some]
    exact e169 fl hfl hs ht h hn (by omega) _
