def opp (q : Nat) : Nat := if q % 4 < 2 then q + 2 else q - 2
theorem ixor2 : ∀ q : Nat, q < 96 → ixor (q : Int) 2 = ((opp q : Nat) : Int) := by decide +kernel
theorem opp_lt {q n : Nat} (h : q < 4 * n) : opp q < 4 * n := by unfold opp; split <;> omega
theorem opp_opp (q : Nat) : opp (opp q) = q := by unfold opp; (repeat' split) <;> omega
theorem opp_div (q : Nat) : opp q / 4 = q / 4 := by unfold opp; split <;> omega
theorem opp_out (sg : Nat → Int) (q : Nat) : outQ sg (opp q) = !outQ sg q := by
  unfold outQ
  rw [opp_div]
  have c4 : q % 4 = 0 ∨ q % 4 = 1 ∨ q % 4 = 2 ∨ q % 4 = 3 := by omega
  rcases c4 with c | c | c | c
  · have : opp q % 4 = 2 := by unfold opp; split <;> omega
    rw [this, c]; simp
  · have : opp q % 4 = 3 := by unfold opp; split <;> omega
    rw [this, c]; simp
    by_cases s : 0 < sg (q / 4)
    · simp [s] <;> omega
    · simp [s] <;> omega
  · have : opp q % 4 = 0 := by unfold opp; split <;> omega
    rw [this, c]; simp
  · have : opp q % 4 = 1 := by unfold opp; split <;> omega
    rw [this, c]; simp
    by_cases s : 0 < sg (q / 4)
    · simp [s] <;> omega
    · simp [s] <;> omega
theorem Sr2_inj {sg lb : Nat → Int} {m E : Nat} {be la : Nat → Int} (h : Sr2 sg lb m E be la) {i j : Nat} (hi : i < E) (hj : j < E) (e : la i = la j) : i = j := by
  rcases Nat.lt_trichotomy i j with w | w | w
  · have := h.1 i j w hj; omega
  · exact w
  · have := h.1 j i w hi; omega
theorem fe134 (fl : Nat) (hfl : 100 ≤ fl) {n : Nat} (hn : n ≤ 20) {sg lb nm fr to at_ : Nat → Int} (hs : ∀ c, c < n → sg c = 1 ∨ sg c = -1) (hE : EdgA n sg lb nm fr to at_) (fo pl : Nat → Int) {be la : Nat → Int} (hB : Sr2 sg lb (4 * n) (2 * n) be la) :
    ∀ (d nn m : Nat) (fi : Nat → Int), m + d = 4 * n → d < nn → (∀ q, q < m → outQ sg q = false → ∃ i, i < 2 * n ∧ fi i = (q : Int) ∧ la i = lb q) →
    ∃ fi', LB_Md_findEdges_134 fl (n : Int) lb sg nn (m : Int) ((2 * n : Nat) : Int) be fi fo la pl = LB_Md_findEdges_182 fl (n : Int) lb sg fl 0 ((2 * n : Nat) : Int) be fi' fo la pl ∧ (∀ q, q < 4 * n → outQ sg q = false → ∃ i, i < 2 * n ∧ fi' i = (q : Int) ∧ la i = lb q) := by
  intro d
  induction d with
  | zero =>
    intro nn m fi hd hnn h
    obtain ⟨nn, rfl⟩ : ∃ r, nn = r + 1 := ⟨nn - 1, by omega⟩
    rw [LB_Md_findEdges_134, if_pos (by omega), if_pos (by omega)]
    exact ⟨fi, rfl, fun q hq => h q (by omega)⟩
  | succ d ih =>
    intro nn m fi hd hnn h
    obtain ⟨nn, rfl⟩ : ∃ r, nn = r + 1 := ⟨nn - 1, by omega⟩
    rw [LB_Md_findEdges_134, if_pos (by omega), if_neg (by omega), M_isIn fl hn sg hs (show m < 4 * n by omega), Option.bind_some]
    unfold LB_Md_findEdges_174
    cases o : outQ sg m
    · rw [if_neg (by decide), if_pos (by omega), Int.toNat_natCast]
      -- the edge with its label
      obtain ⟨e, he, _, a2, _, _⟩ := Edg_at hE (show m < 4 * n by omega)
      obtain ⟨p, r, b1, b2, b3, b4, b5, b6, b7, b8⟩ := hE.1 e he
      obtain ⟨i, hi, bi⟩ := hB.2.2 p b1 b5
      have li : la i = lb m := by
        obtain ⟨q, q1, q2, q3, q4⟩ := hB.2.1 i hi
        have : q = p := by omega
        rw [q4, this, b7, a2]
      rw [M_find fl hfl (show 2 * n ≤ 48 by omega) la (lb m) hi li (fun f hf w => Sr2_inj hB hf hi (by rw [w, li])), Option.bind_some, if_pos (by omega), if_pos (by omega), Int.toNat_natCast, show ((m : Int) + 1) = ((m + 1 : Nat) : Int) by omega]
      refine ih nn (m + 1) _ (by omega) (by omega) (fun q hq oq => ?_)
      by_cases w : q = m
      · exact ⟨i, hi, by rw [up_eq, w], by rw [w]; exact li⟩
      · obtain ⟨j, hj, j1, j2⟩ := h q (by omega) oq
        refine ⟨j, hj, ?_, j2⟩
        rw [up_ne _ _ (fun w2 => w ?_)]
        · exact j1
        · exact Edg_inj hE (by omega) (by omega) (by rw [← j2, w2, li]) (by rw [oq, o])
    · rw [if_pos (by decide), if_pos (by omega), show ((m : Int) + 1) = ((m + 1 : Nat) : Int) by omega]
      refine ih nn (m + 1) fi (by omega) (by omega) (fun q hq oq => ?_)
      by_cases w : q = m
      · rw [w, o] at oq; cases oq
      · exact h q (by omega) oq
theorem fe182 (fl : Nat) {n : Nat} (hn : n ≤ 20) (sg lb fo la be fi : Nat → Int) (hbe : ∀ e, e < 2 * n → ∃ p q : Nat, p < 4 * n ∧ q < 4 * n ∧ be e = (p : Int) ∧ fi e = (q : Int)) (hne : ∀ e f, e < f → f < 2 * n → be e ≠ be f ∧ be e ≠ fi f ∧ fi e ≠ be f ∧ fi e ≠ fi f) :
    ∀ (d nn e : Nat) (pl : Nat → Int), e + d = 2 * n → d < nn → (∀ f, f < e → pl (be f).toNat = (f : Int) ∧ pl (fi f).toNat = (f : Int)) →
    ∃ pl', LB_Md_findEdges_182 fl (n : Int) lb sg nn (e : Int) ((2 * n : Nat) : Int) be fi fo la pl = LB_Md_findEdges_222 fl (n : Int) lb sg fl 0 ((2 * n : Nat) : Int) be fi fo la pl' ∧ (∀ f, f < 2 * n → pl' (be f).toNat = (f : Int) ∧ pl' (fi f).toNat = (f : Int)) := by
  intro d
  induction d with
  | zero =>
    intro nn e pl hd hnn h
    obtain ⟨nn, rfl⟩ : ∃ r, nn = r + 1 := ⟨nn - 1, by omega⟩
    rw [LB_Md_findEdges_182, if_pos (by omega)]
    exact ⟨pl, rfl, fun f hf => h f (by omega)⟩
  | succ d ih =>
    intro nn e pl hd hnn h
    obtain ⟨nn, rfl⟩ : ∃ r, nn = r + 1 := ⟨nn - 1, by omega⟩
    obtain ⟨p, q, a1, a2, a3, a4⟩ := hbe e (by omega)
    rw [LB_Md_findEdges_182, if_neg (by omega), if_pos (by omega), Int.toNat_natCast, if_pos (by omega), if_pos (by omega), if_pos (by omega), show ((e : Int) + 1) = ((e + 1 : Nat) : Int) by omega]
    refine ih nn (e + 1) _ (by omega) (by omega) (fun f hf => ?_)
    by_cases w : f = e
    · subst w
      refine ⟨?_, up_eq _ _ _⟩
      by_cases w2 : (be f).toNat = (fi f).toNat
      · rw [w2, up_eq]
      · rw [up_ne _ _ w2, up_eq]
    · obtain ⟨h1, h2⟩ := h f (by omega)
      obtain ⟨p', q', b1, b2, b3, b4⟩ := hbe f (by omega)
      obtain ⟨n1, n2, n3, n4⟩ := hne f e (by omega) (by omega)
      exact ⟨by rw [up_ne _ _ (by omega), up_ne _ _ (by omega)]; exact h1, by rw [up_ne _ _ (by omega), up_ne _ _ (by omega)]; exact h2⟩
theorem fe222 (fl : Nat) {n : Nat} (hn : n ≤ 20) (sg lb la be fi pl : Nat → Int) (hfi : ∀ e, e < 2 * n → ∃ q : Nat, q < 4 * n ∧ fi e = (q : Int)) :
    ∀ (d nn e : Nat) (fo : Nat → Int), e + d = 2 * n → d < nn → (∀ f, f < e → fo f = pl (opp (fi f).toNat)) →
    ∃ fo', LB_Md_findEdges_222 fl (n : Int) lb sg nn (e : Int) ((2 * n : Nat) : Int) be fi fo la pl = some (((2 * n : Nat) : Int), be, fi, fo', la, pl) ∧ (∀ f, f < 2 * n → fo' f = pl (opp (fi f).toNat)) := by
  intro d
  induction d with
  | zero =>
    intro nn e fo hd hnn h
    obtain ⟨nn, rfl⟩ : ∃ r, nn = r + 1 := ⟨nn - 1, by omega⟩
    rw [LB_Md_findEdges_222, if_pos (by omega)]
    exact ⟨fo, rfl, fun f hf => h f (by omega)⟩
  | succ d ih =>
    intro nn e fo hd hnn h
    obtain ⟨nn, rfl⟩ : ∃ r, nn = r + 1 := ⟨nn - 1, by omega⟩
    obtain ⟨q, a1, a2⟩ := hfi e (by omega)
    have x := ixor2 q (by omega)
    have y := opp_lt a1
    rw [LB_Md_findEdges_222, if_neg (by omega), if_pos (by omega), Int.toNat_natCast, a2, x, if_pos (by omega), if_pos (by omega), Int.toNat_natCast, show ((e : Int) + 1) = ((e + 1 : Nat) : Int) by omega]
    refine ih nn (e + 1) _ (by omega) (by omega) (fun f hf => ?_)
    by_cases w : f = e
    · subst w; rw [up_eq, a2, Int.toNat_natCast]
    · rw [up_ne _ _ w]; exact h f (by omega)
theorem M_findEdges (fl : Nat) (hfl : 100 ≤ fl) {n : Nat} (hn : n ≤ 20) {sg lb nm fr to at_ : Nat → Int} (hs : ∀ c, c < n → sg c = 1 ∨ sg c = -1) (hE : EdgA n sg lb nm fr to at_) (ed : Int) (be fi fo la pl : Nat → Int) :
    ∃ be' fi' fo' la' pl', LM_Md_findEdges fl (n : Int) lb sg ed be fi fo la pl = some (((2 * n : Nat) : Int), be', fi', fo', la', pl') ∧ EdgA n sg lb la' be' fi' pl' ∧ (∀ e, e < 2 * n → fo' e = pl' (opp (fi' e).toNat)) := by
  unfold LM_Md_findEdges LB_Md_findEdges_0
  obtain ⟨be1, la1, h1, hB⟩ := fe7 fl hfl hn hs hE fi fo pl (4 * n) fl 0 be la (by omega) (by omega) ⟨fun i j _ hj => by exact absurd hj (Nat.not_lt_zero j), fun i hi => absurd hi (Nat.not_lt_zero i), fun q hq => by omega⟩
  have e0 : ((outs sg 0 : Nat) : Int) = 0 := rfl
  rw [e0, show ((0 : Nat) : Int) = 0 from rfl] at h1
  rw [h1]
  obtain ⟨fi1, h2, hF⟩ := fe134 fl hfl hn hs hE fo pl hB (4 * n) fl 0 fi (by omega) (by omega) (fun q hq => by omega)
  rw [show ((0 : Nat) : Int) = 0 from rfl] at h2
  rw [h2]
  -- each edge has its end
  have full : ∀ e, e < 2 * n → ∃ p q : Nat, p < 4 * n ∧ q < 4 * n ∧ be1 e = (p : Int) ∧ fi1 e = (q : Int) ∧ outQ sg p = true ∧ outQ sg q = false ∧ lb p = la1 e ∧ lb q = la1 e := by
    intro e he
    obtain ⟨p, p1, p2, p3, p4⟩ := hB.2.1 e he
    obtain ⟨f, hf, _, a2, _, _⟩ := Edg_at hE p1
    obtain ⟨p', r, b1, b2, b3, b4, b5, b6, b7, b8⟩ := hE.1 f hf
    obtain ⟨i, hi, i1, i2⟩ := hF r b2 b6
    have : i = e := Sr2_inj hB hi he (by rw [i2, b8, p4, a2])
    subst this
    exact ⟨p, r, p1, b2, p3, i1, p2, b6, p4.symm, i2.symm⟩
  have hne : ∀ e f, e < f → f < 2 * n → be1 e ≠ be1 f ∧ be1 e ≠ fi1 f ∧ fi1 e ≠ be1 f ∧ fi1 e ≠ fi1 f := by
    intro e f hef hf
    obtain ⟨p, q, a1, a2, a3, a4, a5, a6, a7, a8⟩ := full e (by omega)
    obtain ⟨p', q', b1, b2, b3, b4, b5, b6, b7, b8⟩ := full f hf
    have hlt := hB.1 e f hef hf
    refine ⟨fun w => ?_, fun w => ?_, fun w => ?_, fun w => ?_⟩
    · have : p = p' := by omega
      subst this; omega
    · have : p = q' := by omega
      subst this; rw [a5] at b6; cases b6
    · have : q = p' := by omega
      subst this; rw [a6] at b5; cases b5
    · have : q = q' := by omega
      subst this; omega
  obtain ⟨pl1, h3, hP⟩ := fe182 fl hn sg lb fo la1 be1 fi1 (fun e he => by
    obtain ⟨p, q, a1, a2, a3, a4, _⟩ := full e he
    exact ⟨p, q, a1, a2, a3, a4⟩) hne (2 * n) fl 0 pl (by omega) (by omega) (fun f hf => by omega)
  rw [show ((0 : Nat) : Int) = 0 from rfl] at h3
  rw [h3]
  obtain ⟨fo1, h4, hO⟩ := fe222 fl hn sg lb la1 be1 fi1 pl1 (fun e he => by
    obtain ⟨p, q, a1, a2, a3, a4, _⟩ := full e he
    exact ⟨q, a2, a4⟩) (2 * n) fl 0 fo (by omega) (by omega) (fun f hf => by omega)
  rw [show ((0 : Nat) : Int) = 0 from rfl] at h4
  rw [h4]
  refine ⟨be1, fi1, fo1, la1, pl1, rfl, ⟨full, hB.1, fun q hq => ?_⟩, hO⟩
  cases o : outQ sg q
  · obtain ⟨i, hi, i1, i2⟩ := hF q hq o
    have := (hP i hi).2
    rw [i1, Int.toNat_natCast] at this
    exact ⟨i, hi, this, Or.inr i1⟩
  · obtain ⟨i, hi, i1⟩ := hB.2.2 q hq o
    have := (hP i hi).1
    rw [i1, Int.toNat_natCast] at this
    exact ⟨i, hi, this, Or.inl i1⟩
