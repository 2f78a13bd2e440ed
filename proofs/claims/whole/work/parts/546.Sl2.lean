section
variable {nm fr to at_ : Nat → Int}
theorem C_slideEdge (fl : Nat) {n : Nat} (hn : n ≤ 20) {sg lb : Nat → Int} (hE : EdgA n sg lb nm fr to at_) {e : Nat} (he : e < 2 * n) (A : Nat → Int) : LM_Mo_slideEdge fl at_ fr nm to (e : Int) A = some (sl1z fr to nm e lb A) := by
  obtain ⟨p1, p2, q1, q2, q3, q4, p3, p4⟩ := fr_ok hE he
  unfold LM_Mo_slideEdge LB_Mo_slideEdge_0
  have xp : ixor (fr e) 2 = ((opp (fr e).toNat : Nat) : Int) := by
    have := ixor2 (fr e).toNat (by omega)
    rw [← p1] at this; exact this
  have xq : ixor (to e) 2 = ((opp (to e).toNat : Nat) : Int) := by
    have := ixor2 (to e).toNat (by omega)
    rw [← q1] at this; exact this
  obtain ⟨f, hf, a1, a2, _⟩ := Edg_at hE (opp_lt p2)
  obtain ⟨g, hg, b1, b2, _⟩ := Edg_at hE (opp_lt q2)
  have lp := opp_lt p2
  have lq := opp_lt q2
  rw [Int.toNat_natCast, xp, xq, Int.toNat_natCast, Int.toNat_natCast, a1, b1, Int.toNat_natCast, Int.toNat_natCast, if_pos (by omega), if_pos (by omega), if_pos (by omega), if_pos (by omega), if_pos (by omega), if_pos (by omega), if_pos (by omega), ← a2, ← b2]
  rfl
theorem C_slide (fl : Nat) (hfl : 200 ≤ fl) {d : Dg} (h : okD d) (hE : EdgA d.1 d.2.2.2 d.2.2.1 nm fr to at_) (sz st : Nat → Int) {F f s k : Nat} (hF : F ≤ 80) (hf : f < F) (hs : st f = (s : Int)) (hz : sz f = (k : Int)) (hs4 : s < 4 * d.1) (hk : 1 ≤ k) (A : Nat → Int) :
    LM_Mo_slide fl (F : Int) at_ sz st fr nm to (f : Int) A = some (if deedS fr to at_ s k = 3 then (1, sl1z fr to nm (tnz fr to at_ (tnz fr to at_ s) / 2) d.2.2.1 (sl1z fr to nm (tnz fr to at_ s / 2) d.2.2.1 (sl1z fr to nm (s / 2) d.2.2.1 A))) else (0, A)) := by
  have hn := h.1
  have h2 := (tn_closed hE).1 s hs4
  have h22 := (tn_closed hE).1 _ h2
  have h222 := (tn_closed hE).1 _ h22
  unfold LM_Mo_slide LB_Mo_slide_0
  rw [if_neg (by omega), if_neg (by omega), C_deed fl hfl hn hE sz st (by omega) hs hz hs4 hk, Option.bind_some]
  by_cases c : deedS fr to at_ s k = 3
  · rw [if_pos c, if_pos (by omega), if_pos c, Int.toNat_natCast, hs]
    obtain ⟨fl, rfl⟩ : ∃ r, fl = r + 4 := ⟨fl - 4, by omega⟩
    rw [LB_Mo_slide_34, if_neg (by omega), show ((s : Int) / 2) = ((s / 2 : Nat) : Int) by omega, C_slideEdge _ hn hE (by omega), Option.bind_some, C_nextDart _ hn hE hs4, Option.bind_some, if_pos (by omega)]
    rw [LB_Mo_slide_34, if_neg (by omega), show (((tnz fr to at_ s : Nat) : Int) / 2) = ((tnz fr to at_ s / 2 : Nat) : Int) by omega, C_slideEdge _ hn hE (by omega), Option.bind_some, C_nextDart _ hn hE h2, Option.bind_some, if_pos (by omega)]
    rw [LB_Mo_slide_34, if_neg (by omega), show (((tnz fr to at_ (tnz fr to at_ s) : Nat) : Int) / 2) = ((tnz fr to at_ (tnz fr to at_ s) / 2 : Nat) : Int) by omega, C_slideEdge _ hn hE (by omega), Option.bind_some, C_nextDart _ hn hE h22, Option.bind_some, if_pos (by omega)]
    rw [LB_Mo_slide_34, if_pos (by omega)]
  · rw [if_neg c, if_neg c]
theorem C_slide0 (fl : Nat) (F f : Int) (h : F ≤ f) (h0 : 0 ≤ f) (sz st A : Nat → Int) : LM_Mo_slide fl F at_ sz st fr nm to f A = some (0, A) := by
  unfold LM_Mo_slide LB_Mo_slide_0
  rw [if_neg (by omega), if_pos h]
theorem M_slide_s (fl : Nat) (hfl : 200 ≤ fl) {d : Dg} (h : okD d) (hE : EdgA d.1 d.2.2.2 d.2.2.1 nm fr to at_) {n ci : Int} {S : Nat → Int} (st : Nat → Int) {x2 : Nat} (hx : x2 < 4 * d.1) (nn : Nat) (x1 : Int) {x3 : Int} (h3 : 0 ≤ x3 ∧ x3 < 3) (A : Nat → Int) {n0 c0 : Int} {A0 S0 : Nat → Int} (hO : like (4 * d.1) A0 d.2.2.1) :
    LB_Md_slide_20 fl fr n ci S to st nm at_ (nn + 1) x1 (x2 : Int) x3 A n0 c0 A0 S0 = LB_Md_slide_20 fl fr n ci S to st nm at_ nn x1 ((tnz fr to at_ x2 : Nat) : Int) (x3 + 1) (sl1z fr to nm (x2 / 2) d.2.2.1 A) n0 c0 A0 S0 := by
  have hn := h.1
  obtain ⟨e, he⟩ : ∃ e, e = x2 / 2 := ⟨_, rfl⟩
  obtain ⟨p1, p2, q1, q2, q3, q4, p3, p4⟩ := fr_ok hE (show e < 2 * d.1 by omega)
  have xp : ixor (fr e) 2 = ((opp (fr e).toNat : Nat) : Int) := by
    have := ixor2 (fr e).toNat (by omega)
    rw [← p1] at this; exact this
  have xq : ixor (to e) 2 = ((opp (to e).toNat : Nat) : Int) := by
    have := ixor2 (to e).toNat (by omega)
    rw [← q1] at this; exact this
  have lp := opp_lt p2
  have lq := opp_lt q2
  rw [LB_Md_slide_20, if_neg (by omega), show ((x2 : Int) / 2) = ((e : Nat) : Int) by omega, Int.toNat_natCast, xp, xq, Int.toNat_natCast, Int.toNat_natCast, if_pos (by omega), if_pos (by omega), if_pos (by omega), if_pos (by omega), if_pos (by omega), M_turn _ hn hE hx, Option.bind_some, if_pos (by omega), hO _ lp, hO _ lq, ← he]
  rfl
theorem M_slideAt (fl : Nat) (hfl : 200 ≤ fl) {d : Dg} (h : okD d) (hE : EdgA d.1 d.2.2.2 d.2.2.1 nm fr to at_) {n ci : Int} {A S : Nat → Int} (hD : DA d n ci A S) (st : Nat → Int) {F f s k : Nat} (hF : F ≤ 80) (hf : f < F) (hs : st f = (s : Int)) (hs4 : s < 4 * d.1) (hk : 1 ≤ k) (hk8 : k ≤ 80) (hit : it (tnz fr to at_) k s = s) (hne : ∀ j, 0 < j → j < k → it (tnz fr to at_) j s ≠ s) (n0 c0 : Int) (A0 S0 : Nat → Int) :
    ∃ n0' c0' A0' S0', LM_Md_slideAt fl (F : Int) fr n ci S to st nm at_ (f : Int) A n0 c0 A0 S0 = some (if deedS fr to at_ s k = 3 then (1, sl1z fr to nm (tnz fr to at_ (tnz fr to at_ s) / 2) d.2.2.1 (sl1z fr to nm (tnz fr to at_ s / 2) d.2.2.1 (sl1z fr to nm (s / 2) d.2.2.1 A)), n0', c0', A0', S0') else (0, A, n0', c0', A0', S0')) := by
  have hn := h.1
  have h2 := (tn_closed hE).1 s hs4
  have h22 := (tn_closed hE).1 _ h2
  have h222 := (tn_closed hE).1 _ h22
  unfold LM_Md_slideAt LB_Md_slideAt_0
  rw [if_neg (by omega), M_what fl hfl hn hE st (by omega) hs hs4 hk8 hk hit hne, Option.bind_some]
  by_cases c : deedS fr to at_ s k = 3
  · rw [if_pos c]
    simp only [if_pos c]
    unfold LM_Md_slide LB_Md_slide_0
    obtain ⟨A1, S1, b1, b2⟩ := M_become fl hfl h.1 hD n0 c0 A0 S0
    rw [b1, Option.bind_some]
    dsimp only
    rw [if_pos (by omega), Int.toNat_natCast, hs]
    obtain ⟨fl', hf'⟩ : ∃ r, fl = r + 4 := ⟨fl - 4, by omega⟩
    have e4 : ∀ x1 x2 x3 A n0 c0 A0 S0, LB_Md_slide_20 fl fr n ci S to st nm at_ fl x1 x2 x3 A n0 c0 A0 S0 = LB_Md_slide_20 fl fr n ci S to st nm at_ (fl' + 1 + 1 + 1 + 1) x1 x2 x3 A n0 c0 A0 S0 := fun x1 x2 x3 A n0 c0 A0 S0 => by
      exact congrArg (fun z => LB_Md_slide_20 fl fr n ci S to st nm at_ z x1 x2 x3 A n0 c0 A0 S0) hf'
    rw [e4, M_slide_s fl hfl h hE st hs4 _ _ (by omega) _ b2.2.2.1, M_slide_s fl hfl h hE st h2 _ _ (by omega) _ b2.2.2.1, M_slide_s fl hfl h hE st h22 _ _ (by omega) _ b2.2.2.1, LB_Md_slide_20, if_pos (by omega), Option.bind_some]
    exact ⟨_, _, _, _, rfl⟩
  · rw [if_neg c]
    simp only [if_neg c]
    exact ⟨_, _, _, _, rfl⟩
theorem M_slideAt0 (fl : Nat) (F f n ci : Int) (h : F ≤ f) (A S st A0 S0 : Nat → Int) (n0 c0 : Int) : LM_Md_slideAt fl F fr n ci S to st nm at_ f A n0 c0 A0 S0 = some (0, A, n0, c0, A0, S0) := by
  unfold LM_Md_slideAt LB_Md_slideAt_0
  rw [if_pos h]
end
