theorem F86 (fl : Nat) (hfl : 5000 ≤ fl) {tx ty : Nat → Int} {sz : Nat} (hs : sz ≤ 4000) (ht : TXT tx ty sz) {at_ tm fr fa pl pa : Int} (h : FaM tx sz at_ tm fr) (hf : fa ≠ 0) (nu : Nat → Int) (x1 : Int) (hB : 0 ≤ pa ∧ pa ≤ ((4010 : Nat) : Int)) : FR tx sz fa pl 4011 (LB_Md_readCode_86 fl (sz : Int) ty x1 at_ tm fr fa pl pa nu) := by
  obtain ⟨v, hv, e⟩ := FaM_word fl hfl (ty := ty) hs h (show 60 < 79 by decide)
  unfold LB_Md_readCode_86
  rw [e, Option.bind_some]
  by_cases c : v = 0
  · rw [if_pos c, M_putF fl (by omega), Option.bind_some]
    exact ⟨_, _, _, _, _, rfl, h, by omega, by omega⟩
  · rw [if_neg c, M_lookF fl ty _ _ _ _ _ hf, Option.bind_some]
    obtain ⟨w, a1, t1, f1, k1, k2, k3⟩ := FaM_number fl hfl hs ht (at_ := at_) (fr := fr) (Or.inl rfl) hf 0 (pl := pl)
    rw [k1, Option.bind_some, M_putF fl (by omega), Option.bind_some]
    exact ⟨_, _, _, _, _, rfl, k2, by omega, by omega⟩
theorem M86 (fl : Nat) (hfl : 5000 ≤ fl) {tx ty : Nat → Int} {sz : Nat} (hs : sz ≤ 4000) (ht : TXT tx ty sz) {q : Nat} {at_ tm fr fa pl : Int} (h : AtM tx sz q at_ tm fr fa pl) {nu0 nu : Nat → Int} {b : Nat} {pa : Int} {l : List Int} (hn : NM nu0 b nu pa l) (hb : b + l.length < q) (x1 : Int) : RM tx sz nu0 b l 4020 (sTail tx sz q) (LB_Md_readCode_86 fl (sz : Int) ty x1 at_ tm fr fa pl pa nu) := by
  have hq := h.1
  have h1 := hn.1
  have e60 : lit 60 = lit 19 := by decide
  unfold LB_Md_readCode_86
  rw [M_word fl hfl hs ht h (show 60 < 79 by decide), Option.bind_some, e60]
  by_cases c : wdP tx sz q (lit 19)
  · have es : sTail tx sz q = sNum tx sz 1 (nxt tx sz q) := if_pos c
    have hx := nxt_b (tx := tx) hq
    obtain ⟨a1, t1, f1, g1, p1, n1, n2⟩ := M_next fl hfl hs ht h (by have := c.1; omega)
    rw [es, if_pos c, if_neg (by omega), n1, Option.bind_some]
    have k := M_number fl hfl hs ht n2
    cases er : sNum tx sz 1 (nxt tx sz q) with
    | inr e =>
      rw [er] at k
      obtain ⟨a2, t2, f2, k1, k2, k3⟩ := k
      rw [k1, Option.bind_some, M_putF fl (by omega), Option.bind_some]
      exact ⟨k3, _, _, _, _, _, rfl, k2, by omega, by omega⟩
    | inl a =>
      rw [er] at k
      obtain ⟨v, a2, t2, f2, g2, p2, k1, k2, k3, k4⟩ := k
      obtain ⟨pa1, nu1, k5, k6⟩ := M_put fl hn (by omega) v
      rw [k1, Option.bind_some, k5, Option.bind_some]
      exact ⟨a2, t2, f2, g2, p2, pa1, nu1, rfl, k2, by rw [k3]; exact k6⟩
  · have es : sTail tx sz q = .inl (q, [0]) := if_neg c
    obtain ⟨pa1, nu1, k5, k6⟩ := M_put fl hn (by omega) 0
    rw [es, if_neg c, if_pos rfl, k5, Option.bind_some]
    exact ⟨_, _, _, _, _, _, _, rfl, h, k6⟩
theorem AtM_fa {tx : Nat → Int} {sz q : Nat} {at_ tm fr fa pl : Int} (h : AtM tx sz q at_ tm fr fa pl) : (tkK tx sz q = 1 ∧ fa = 1) ∨ (tkK tx sz q ≠ 1 ∧ fa = 0 ∧ fr = (q : Int)) := by
  obtain ⟨h1, ⟨h2, h3, h4, h5, h6, h7⟩ | ⟨h2, h3, h4, h5⟩⟩ := h
  · exact Or.inr ⟨h2, h6, h5⟩
  · exact Or.inl ⟨h2, h4⟩
theorem sg_refC {tx : Nat → Int} {sz q : Nat} (c : sgP tx sz q) (code : Int) : refC tx sz q code = code := by
  have : tkK tx sz q = 4 := by rcases c with c | c <;> exact c.1
  unfold refC
  rw [if_neg (by omega), if_neg (fun g => by have := g.1; omega)]
theorem M_rcode (fl : Nat) (hfl : 5000 ≤ fl) {tx ty : Nat → Int} {sz : Nat} (hs : sz ≤ 4000) (ht : TXT tx ty sz) {nu0 : Nat → Int} {b : Nat} :
    ∀ (d nn q : Nat) (at_ tm fr fa pl pa : Int) (nu : Nat → Int) (l : List Int), d ≤ 20 → d + 1 < nn → AtM tx sz q at_ tm fr fa pl → NM nu0 b nu pa l → b + l.length < q →
    RM tx sz nu0 b l 4020 (sCode tx sz d q) (LB_Md_readCode_2 fl (sz : Int) ty nn (20 - (d : Int)) at_ tm fr fa pl pa nu) := by
  intro d
  induction d with
  | zero =>
    intro nn q at_ tm fr fa pl pa nu l hd hnn h hn hb
    obtain ⟨nn, rfl⟩ : ∃ r, nn = r + 1 := ⟨nn - 1, by omega⟩
    have hq := h.1
    have h1 := hn.1
    rcases AtM_fa h with ⟨w1, w2⟩ | ⟨w1, w2, w3⟩
    · have es : sCode tx sz 0 q = sTail tx sz q := if_neg (fun c => by rcases c with c | c <;> have := c.1 <;> omega)
      rw [es, LB_Md_readCode_2, if_pos (by omega)]
      exact M86 fl hfl hs ht h hn hb _
    · rw [LB_Md_readCode_2, if_neg (fun g => g w2), M_pm fl hs ht h, Option.bind_some]
      by_cases c : sgP tx sz q
      · have es : sCode tx sz 0 q = .inr (refC tx sz q 5, q) := if_pos c
        unfold LM_Md_fail LB_Md_fail_0
        rw [es, if_pos c, if_neg (by omega), if_neg (by omega), if_pos w2, Option.bind_some, sg_refC c]
        exact ⟨by show (5 : Int) ≠ 0; decide, _, _, _, _, _, by rw [w3], FaM_of h, by omega, by omega⟩
      · have es : sCode tx sz 0 q = sTail tx sz q := if_neg c
        rw [es, if_neg c, if_pos rfl]
        exact M86 fl hfl hs ht h hn hb _
  | succ d ih =>
    intro nn q at_ tm fr fa pl pa nu l hd hnn h hn hb
    obtain ⟨nn, rfl⟩ : ∃ r, nn = r + 1 := ⟨nn - 1, by omega⟩
    have hq := h.1
    have h1 := hn.1
    rcases AtM_fa h with ⟨w1, w2⟩ | ⟨w1, w2, w3⟩
    · have es : sCode tx sz (d + 1) q = sTail tx sz q := if_neg (fun c => by rcases c with c | c <;> have := c.1 <;> omega)
      rw [es, LB_Md_readCode_2, if_pos (by omega)]
      exact M86 fl hfl hs ht h hn hb _
    · rw [LB_Md_readCode_2, if_neg (fun g => g w2), M_pm fl hs ht h, Option.bind_some]
      by_cases c : sgP tx sz q
      · have es : sCode tx sz (d + 1) q = sq (sCross tx sz q) (sCode tx sz d) := if_pos c
        rw [es, if_pos c, if_neg (by omega), if_pos (by omega), sCross_f]
        have hF : ∀ at_ tm fr fa pl pa nu, FaM tx sz at_ tm fr → fa ≠ 0 → 0 ≤ pa → pa ≤ ((4010 : Nat) : Int) → FR tx sz fa pl 4020 (LB_Md_readCode_2 fl (sz : Int) ty nn (20 - ((d + 1 : Nat) : Int) + 1) at_ tm fr fa pl pa nu) := by
          intro at_ tm fr fa pl pa nu k1 k2 k3 k4
          obtain ⟨mm, rfl⟩ : ∃ r, nn = r + 1 := ⟨nn - 1, by omega⟩
          rw [LB_Md_readCode_2, if_pos k2]
          exact FR_mono (F86 fl hfl hs ht k1 k2 nu _ ⟨k3, k4⟩) (by omega)
        have hG : ∀ q1 l1 at_ tm fr fa pl pa nu, b + l1.length < q1 → AtM tx sz q1 at_ tm fr fa pl → NM nu0 b nu pa l1 → RM tx sz nu0 b l1 4020 (sCode tx sz d q1) (LB_Md_readCode_2 fl (sz : Int) ty nn (20 - ((d + 1 : Nat) : Int) + 1) at_ tm fr fa pl pa nu) := by
          intro q1 l1 at_ tm fr fa pl pa nu k1 k2 k3
          rw [show 20 - ((d + 1 : Nat) : Int) + 1 = 20 - (d : Int) by omega]
          exact ih nn q1 at_ tm fr fa pl pa nu l1 (by omega) (by omega) k2 k3 k1
        refine RM_sq (M_psign fl hfl hs ht h hn hb) (fun q1 l1 a1 t1 f1 g1 p1 pa1 nu1 e1 h1 n1 => ?_) (fun a1 t1 f1 g1 p1 pa1 nu1 k1 k2 k3 k4 => ?_)
        · have a1' := sSign_p hq e1
          have hl : b + (l ++ l1).length < q1 := by rw [List.length_append]; omega
          have hq1 := h1.1
          refine RM_need fl hfl hs ht h1 (f := fun q => sq (sNum tx sz 1 q) (sLab tx sz (sCode tx sz d) 3)) (G := fun o => LB_Md_readCode_44 fl (sz : Int) ty (LB_Md_readCode_2 fl (sz : Int) ty nn) fl (20 - ((d + 1 : Nat) : Int)) 0 o.1 o.2.1 o.2.2.1 o.2.2.2.1 o.2.2.2.2.1 o.2.2.2.2.2.1 o.2.2.2.2.2.2) n1 (by omega) (fun q2 a2 t2 f2 g2 p2 e2 h2 => ?_) (fun a2 t2 f2 g2 p2 k1 k2 k3 k4 => ?_)
          · have := M44 fl hfl hs ht (LB_Md_readCode_2 fl (sz : Int) ty nn) (x1 := 20 - ((d + 1 : Nat) : Int)) (by omega) (B' := 4020) hF hG 4 fl q2 a2 t2 f2 g2 p2 pa1 nu1 (l ++ l1) (by omega) (by omega) h2 n1 (by omega)
            rw [if_pos rfl, show (4 - ((4 : Nat) : Int)) = 0 from rfl] at this
            exact this
          · have := F44 fl hfl hs ht k2 (LB_Md_readCode_2 fl (sz : Int) ty nn) (x1 := 20 - ((d + 1 : Nat) : Int)) (by omega) (B' := 4020) 4 fl a2 t2 f2 pa1 nu1 4001 (by omega) (by omega) k1 k3 k4 (by omega) (fun a t f p n w1 w2 w3 => hF a t f g2 p2 p n w1 k2 w2 (by omega))
            rw [show (4 - ((4 : Nat) : Int)) = 0 from rfl] at this
            exact this
        · refine FR_need fl hfl hs ht k1 k2 91 (G := fun o => LB_Md_readCode_44 fl (sz : Int) ty (LB_Md_readCode_2 fl (sz : Int) ty nn) fl (20 - ((d + 1 : Nat) : Int)) 0 o.1 o.2.1 o.2.2.1 o.2.2.2.1 o.2.2.2.2.1 o.2.2.2.2.2.1 o.2.2.2.2.2.2) (fun a2 t2 f2 k5 => ?_)
          have := F44 fl hfl hs ht k2 (LB_Md_readCode_2 fl (sz : Int) ty nn) (x1 := 20 - ((d + 1 : Nat) : Int)) (by omega) (B' := 4020) 4 fl a2 t2 f2 pa1 nu1 4001 (by omega) (by omega) k5 k3 k4 (by omega) (fun a t f p n w1 w2 w3 => hF a t f g1 p1 p n w1 k2 w2 (by omega))
          rw [show (4 - ((4 : Nat) : Int)) = 0 from rfl] at this
          exact this
      · have es : sCode tx sz (d + 1) q = sTail tx sz q := if_neg c
        rw [es, if_neg c, if_pos rfl]
        exact M86 fl hfl hs ht h hn hb _
