theorem AtM_stray {tx : Nat → Int} {sz q : Nat} {at_ tm fr fa pl : Int} (h : AtM tx sz q at_ tm fr fa pl) (c : tkK tx sz q = 1) : tm = 0 ∧ fa = 1 ∧ pl = (q : Int) := by
  obtain ⟨h1, ⟨h2, _⟩ | ⟨h2, h3, h4, h5⟩⟩ := h
  · exact absurd c h2
  · exact ⟨h3, h4, h5⟩
theorem M_rterms (fl : Nat) (hfl : 5000 ≤ fl) {tx ty : Nat → Int} {sz : Nat} (hs : sz ≤ 4000) (ht : TXT tx ty sz) {nu0 : Nat → Int} {b : Nat} (k : Nat) {lv : List Int} (hlv : lit (if k = 18 then 22 else 23) = lv) :
    ∀ (d nn q : Nat) (x2 at_ tm fr fa pl pa : Int) (nu : Nat → Int) (l : List Int), d ≤ 63 → d + 2 < nn → AtM tx sz q at_ tm fr fa pl → NM nu0 b nu pa l → b + l.length + 1 < q →
    RM tx sz nu0 b l 4020 (sq (sTerm tx sz (sgv x2) lv q) (sSumL tx sz lv d)) (LB_Md_readTerms_34 fl (sz : Int) ty nn (k : Int) x2 (63 - (d : Int)) 1 at_ tm fr fa pl pa nu) := by
  have stop : ∀ (nn : Nat) (x2 x3 at_ tm fr fa pl pa : Int) (nu : Nat → Int), 1 ≤ nn → LB_Md_readTerms_34 fl (sz : Int) ty nn (k : Int) x2 x3 0 at_ tm fr fa pl pa nu = some (at_, tm, fr, fa, pl, pa, nu) := by
    intro nn x2 x3 at_ tm fr fa pl pa nu hn
    obtain ⟨nn, rfl⟩ : ∃ r, nn = r + 1 := ⟨nn - 1, by omega⟩
    rw [LB_Md_readTerms_34, if_pos rfl]
  intro d
  induction d with
  | zero =>
    intro nn q x2 at_ tm fr fa pl pa nu l hd hnn h hn hb
    obtain ⟨nn, rfl⟩ : ∃ r, nn = r + 1 := ⟨nn - 1, by omega⟩
    have hq := h.1
    have h1 := hn.1
    rw [LB_Md_readTerms_34, if_neg (show ¬ (1 : Int) = 0 by omega)]
    rcases AtM_fa h with ⟨w1, w2⟩ | ⟨w1, w2, w3⟩
    · obtain ⟨s1, s2, s3⟩ := AtM_stray h w1
      have es : sTerm tx sz (sgv x2) lv q = .inr (1, q) := by
        show (if tkK tx sz q = 3 then _ else _) = _
        rw [if_neg (by omega)]
        unfold sTm
        rw [if_neg (fun g => by have := g.1; omega), if_neg (by decide)]
        unfold refC
        rw [if_pos w1]
      rw [es, if_pos (by omega)]
      refine ⟨by show (1 : Int) ≠ 0; decide, at_, tm, fr, pa, nu, ?_, FaM_of h, by omega, by omega⟩
      rw [w2, s3]
    · rw [if_neg (fun g => g w2)]
      refine RM_sq (show RM tx sz nu0 b l 4020 (sTerm tx sz (sgv x2) lv q) _ from hlv ▸ M_rterm fl hfl hs ht h hn hb x2 k) (fun q1 l1 a1 t1 f1 g1 p1 pa1 nu1 e1 h1 n1 => ?_) (fun a1 t1 f1 g1 p1 pa1 nu1 k1 k2 k3 k4 => ?_)
      · have hq1 := h1.1
        have n11 := n1.1
        have a1' := sTerm_p hq e1
        have hl1 : (l ++ l1).length = l.length + 2 := by rw [List.length_append]; omega
        show RM tx sz nu0 b (l ++ l1) 4020 (sSumL tx sz lv 0 q1) (if ¬ (g1 = (0 : Int)) then (if (-2147483648 ≤ ((63 - ((0 : Nat) : Int)) + (1 : Int)) ∧ ((63 - ((0 : Nat) : Int)) + (1 : Int)) < 2147483648) then _ else none) else _)
        unfold LB_Md_readTerms_73 LB_Md_readTerms_74
        rcases AtM_fa h1 with ⟨u1, u2⟩ | ⟨u1, u2, u3⟩
        · have es : sSumL tx sz lv 0 q1 = .inl (q1, []) := if_neg (fun c => by rcases c with c | c <;> have := c.1 <;> omega)
          rw [es, if_pos (by omega), if_pos (by omega), if_neg (show ¬ ¬ ((0 : Int) = 0) by omega), stop nn _ _ _ _ _ _ _ _ _ (by omega)]
          exact RM_nil _ h1 n1
        · rw [if_neg (fun g => g u2), M_pm fl hs ht h1, Option.bind_some]
          by_cases c : sgP tx sz q1
          · have es : sSumL tx sz lv 0 q1 = .inr (refC tx sz q1 5, q1) := if_pos c
            unfold LM_Md_fail LB_Md_fail_0
            rw [es, if_pos c, if_neg (show ¬ (1 : Int) = 0 by omega), if_pos (by omega), if_pos (show ¬ (1 : Int) = 0 by omega), if_neg (by omega), if_pos u2, Option.bind_some, sg_refC c]
            exact ⟨by show (5 : Int) ≠ 0; decide, a1, t1, f1, pa1, nu1, by rw [u3], FaM_of h1, by omega, by omega⟩
          · have es : sSumL tx sz lv 0 q1 = .inl (q1, []) := if_neg c
            rw [es, if_neg c, if_pos rfl, if_pos (by omega), if_neg (show ¬ ¬ ((0 : Int) = 0) by omega), stop nn _ _ _ _ _ _ _ _ _ (by omega)]
            exact RM_nil _ h1 n1
      · show FR tx sz g1 p1 4020 (if ¬ (g1 = (0 : Int)) then (if (-2147483648 ≤ ((63 - ((0 : Nat) : Int)) + (1 : Int)) ∧ ((63 - ((0 : Nat) : Int)) + (1 : Int)) < 2147483648) then _ else none) else _)
        unfold LB_Md_readTerms_73 LB_Md_readTerms_74
        rw [if_pos k2, if_pos (by omega), if_neg (show ¬ ¬ ((0 : Int) = 0) by omega), stop nn _ _ _ _ _ _ _ _ _ (by omega)]
        exact ⟨_, _, _, _, _, rfl, k1, k3, k4⟩
  | succ d ih =>
    intro nn q x2 at_ tm fr fa pl pa nu l hd hnn h hn hb
    obtain ⟨nn, rfl⟩ : ∃ r, nn = r + 1 := ⟨nn - 1, by omega⟩
    have hq := h.1
    have h1 := hn.1
    rw [LB_Md_readTerms_34, if_neg (show ¬ (1 : Int) = 0 by omega)]
    rcases AtM_fa h with ⟨w1, w2⟩ | ⟨w1, w2, w3⟩
    · obtain ⟨s1, s2, s3⟩ := AtM_stray h w1
      have es : sTerm tx sz (sgv x2) lv q = .inr (1, q) := by
        show (if tkK tx sz q = 3 then _ else _) = _
        rw [if_neg (by omega)]
        unfold sTm
        rw [if_neg (fun g => by have := g.1; omega), if_neg (by decide)]
        unfold refC
        rw [if_pos w1]
      rw [es, if_pos (by omega)]
      refine ⟨by show (1 : Int) ≠ 0; decide, at_, tm, fr, pa, nu, ?_, FaM_of h, by omega, by omega⟩
      rw [w2, s3]
    · rw [if_neg (fun g => g w2)]
      refine RM_sq (show RM tx sz nu0 b l 4020 (sTerm tx sz (sgv x2) lv q) _ from hlv ▸ M_rterm fl hfl hs ht h hn hb x2 k) (fun q1 l1 a1 t1 f1 g1 p1 pa1 nu1 e1 h1 n1 => ?_) (fun a1 t1 f1 g1 p1 pa1 nu1 k1 k2 k3 k4 => ?_)
      · have hq1 := h1.1
        have n11 := n1.1
        have a1' := sTerm_p hq e1
        have hl1 : (l ++ l1).length = l.length + 2 := by rw [List.length_append]; omega
        have hx := nxt_b (tx := tx) hq1
        show RM tx sz nu0 b (l ++ l1) 4020 (sSumL tx sz lv (d + 1) q1) (if ¬ (g1 = (0 : Int)) then (if (-2147483648 ≤ ((63 - ((d + 1 : Nat) : Int)) + (1 : Int)) ∧ ((63 - ((d + 1 : Nat) : Int)) + (1 : Int)) < 2147483648) then _ else none) else _)
        unfold LB_Md_readTerms_73 LB_Md_readTerms_74
        rcases AtM_fa h1 with ⟨u1, u2⟩ | ⟨u1, u2, u3⟩
        · have es : sSumL tx sz lv (d + 1) q1 = .inl (q1, []) := if_neg (fun c => by rcases c with c | c <;> have := c.1 <;> omega)
          rw [es, if_pos (by omega), if_pos (by omega), if_neg (show ¬ ¬ ((0 : Int) = 0) by omega), stop nn _ _ _ _ _ _ _ _ _ (by omega)]
          exact RM_nil _ h1 n1
        · rw [if_neg (fun g => g u2), M_pm fl hs ht h1, Option.bind_some]
          by_cases c : sgP tx sz q1
          · have es : sSumL tx sz lv (d + 1) q1 = sq (sTerm tx sz (if mkP tx sz q1 45 then -1 else 1) lv (nxt tx sz q1)) (sSumL tx sz lv d) := if_pos c
            have e45 : (if mkP tx sz q1 45 then (-1 : Int) else 1) = sgv (if mkP tx sz q1 45 then 1 else 0) := by
              unfold sgv
              by_cases g : mkP tx sz q1 45
              · rw [if_pos g, if_pos g, if_neg (by omega)]
              · rw [if_neg g, if_neg g, if_pos rfl]
            have hx1 := hx.2.2 (by rcases c with c | c <;> have := c.1 <;> omega)
            obtain ⟨a2, t2, f2, g2, p2, m1, m2⟩ := M_next fl hfl hs ht h1 u1
            rw [es, e45, if_pos c, if_neg (show ¬ (1 : Int) = 0 by omega), if_pos (show -2147483648 ≤ ((63 - ((d + 1 : Nat) : Int)) + (1 : Int)) ∧ ((63 - ((d + 1 : Nat) : Int)) + (1 : Int)) < 2147483648 by omega), if_pos (show ¬ (1 : Int) = 0 by omega), if_pos (show ¬ ((63 - ((d + 1 : Nat) : Int)) + (1 : Int)) = 64 by omega), M_mark fl hs ht h1 45, Option.bind_some, m1, Option.bind_some, show (63 - ((d + 1 : Nat) : Int)) + (1 : Int) = 63 - (d : Int) by omega]
            exact ih nn (nxt tx sz q1) _ a2 t2 f2 g2 p2 pa1 nu1 (l ++ l1) (by omega) (by omega) m2 n1 (by omega)
          · have es : sSumL tx sz lv (d + 1) q1 = .inl (q1, []) := if_neg c
            rw [es, if_neg c, if_pos rfl, if_pos (by omega), if_neg (show ¬ ¬ ((0 : Int) = 0) by omega), stop nn _ _ _ _ _ _ _ _ _ (by omega)]
            exact RM_nil _ h1 n1
      · show FR tx sz g1 p1 4020 (if ¬ (g1 = (0 : Int)) then (if (-2147483648 ≤ ((63 - ((d + 1 : Nat) : Int)) + (1 : Int)) ∧ ((63 - ((d + 1 : Nat) : Int)) + (1 : Int)) < 2147483648) then _ else none) else _)
        unfold LB_Md_readTerms_73 LB_Md_readTerms_74
        rw [if_pos k2, if_pos (by omega), if_neg (show ¬ ¬ ((0 : Int) = 0) by omega), stop nn _ _ _ _ _ _ _ _ _ (by omega)]
        exact ⟨_, _, _, _, _, rfl, k1, k3, k4⟩
theorem M169 (fl : Nat) (hfl : 5000 ≤ fl) {tx ty : Nat → Int} {sz : Nat} (hs : sz ≤ 4000) (ht : TXT tx ty sz) {nu0 : Nat → Int} {b : Nat} {l : List Int} {r : Rs} {X : Option MT} (h : RM tx sz nu0 b l 4020 r X) (hl : ∀ q1 l1, r = .inl (q1, l1) → b + l.length + l1.length ≤ 4010) (x1 : Int) :
    RM tx sz nu0 b l 4020 (sq r (sEnd tx sz)) (X.bind fun o => LB_Md_readLine_169 fl (sz : Int) ty x1 o.1 o.2.1 o.2.2.1 o.2.2.2.1 o.2.2.2.2.1 o.2.2.2.2.2.1 o.2.2.2.2.2.2) := by
  refine RM_sq h (fun q1 l1 a1 t1 f1 g1 p1 pa1 nu1 e1 h1 n1 => ?_) (fun a1 t1 f1 g1 p1 pa1 nu1 k1 k2 k3 k4 => ?_)
  · show RM tx sz nu0 b (l ++ l1) 4020 (sEnd tx sz q1) (LB_Md_readLine_169 fl (sz : Int) ty x1 a1 t1 f1 g1 p1 pa1 nu1)
    have hw := M_wrong fl hfl hs ht h1
    have hr := tkK_r tx sz q1
    have hll := hl q1 l1 e1
    have n11 := n1.1
    rw [List.length_append] at n11
    unfold LB_Md_readLine_169
    have h1' := h1
    obtain ⟨_, ⟨h2, h3, h4, h5, h6, h7⟩ | ⟨h2, h3, h4, h5⟩⟩ := h1'
    · by_cases c : tkK tx sz q1 = 0
      · have es : sEnd tx sz q1 = .inl (q1, []) := if_pos c
        have : t1 = 0 := by rw [h4, c]; rfl
        rw [es, if_pos this]
        exact RM_nil _ h1 n1
      · have es : sEnd tx sz q1 = .inr (refC tx sz q1 4, q1) := if_neg c
        have : ¬ t1 = 0 := by rw [h4]; unfold tkM; split <;> omega
        rw [es, if_neg this, hw, Option.bind_some]
        exact ⟨refC_ne tx sz q1 (by decide), a1, t1, f1, pa1, nu1, rfl, FaM_of h1, by omega, by omega⟩
    · have es : sEnd tx sz q1 = .inr (refC tx sz q1 4, q1) := if_neg (by omega)
      have er : refC tx sz q1 4 = 1 := by unfold refC; rw [if_pos h2]
      rw [es, if_pos h3, er]
      exact ⟨by show (1 : Int) ≠ 0; decide, a1, t1, f1, pa1, nu1, by rw [h4, h5], FaM_of h1, by omega, by omega⟩
  · show FR tx sz g1 p1 4020 (LB_Md_readLine_169 fl (sz : Int) ty x1 a1 t1 f1 g1 p1 pa1 nu1)
    unfold LB_Md_readLine_169
    by_cases c : t1 = 0
    · rw [if_pos c]; exact ⟨_, _, _, _, _, rfl, k1, k3, k4⟩
    · rw [if_neg c, FaM_wrong fl hfl hs ht k1 k2, Option.bind_some]; exact ⟨_, _, _, _, _, rfl, k1, k3, k4⟩
