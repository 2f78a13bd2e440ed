section
variable {nm fr to at_ : Nat → Int}
def coR (n : Nat) (to at_ : Nat → Int) : Nat → Int := (rndz (nx to at_) (2 * n) (2 * n)).1
def cmR (n : Nat) (to at_ : Nat → Int) : Nat := (rndz (nx to at_) (2 * n) (2 * n)).2.1
def rvS (to at_ : Nat → Int) (k : Nat) (d : Dg) : Int × Dg := if (k : Int) < (cmR d.1 to at_ : Int) + d.2.1 then (1, revD (lowK (coR d.1 to at_) at_ k) (uppK (coR d.1 to at_) at_ k) d) else (0, d)
theorem low_like {n : Nat} {sg lb : Nat → Int} (h : EdgA n sg lb nm fr to at_) {co : Nat → Int} (hco : like (2 * n) co (coR n to at_)) (k : Int) : ∀ c, c < n → lowK co at_ k c = lowK (coR n to at_) at_ k c ∧ uppK co at_ k c = uppK (coR n to at_) at_ k c := fun c hc => by
  obtain ⟨e, e1, e2, _⟩ := h.2.2 (4 * c) (by omega)
  obtain ⟨f, f1, f2, _⟩ := h.2.2 (4 * c + 1) (by omega)
  unfold lowK uppK
  rw [e2, f2, Int.toNat_natCast, Int.toNat_natCast, hco e e1, hco f f1]
  exact ⟨rfl, rfl⟩
theorem C_reverse (fl : Nat) (hfl : 200 ≤ fl) {d : Dg} (h : okD d) (hE : EdgA d.1 d.2.2.2 d.2.2.1 nm fr to at_) {co : Nat → Int} (hco : like (2 * d.1) co (coR d.1 to at_)) {n ci : Int} {A S : Nat → Int} (hD : DA d n ci A S) (k : Nat) (kn : Int) :
    ∃ kn' A' S', LM_Mo_reverse fl (cmR d.1 to at_ : Int) co at_ n ci (k : Int) kn A S = some ((rvS to at_ k d).1, kn', A', S') ∧ DA (rvS to at_ k d).2 n ci A' S' ∧ (kn' = kn ∨ kn' = 0) := by
  obtain ⟨e1, e2, hA, hS⟩ := hD
  have hn := h.1
  have hci := h.2.1
  have r4 : cmR d.1 to at_ ≤ 2 * d.1 := (rnd_ok (nx_closed hE) (2 * d.1) (Nat.le_refl _)).2.2.2.1
  unfold LM_Mo_reverse LB_Mo_reverse_0 rvS
  rw [if_neg (by omega), if_pos (by omega), ← e2]
  by_cases c : (k : Int) < (cmR d.1 to at_ : Int) + ci
  · rw [if_pos c, if_pos c, e1]
    obtain ⟨kn', A', S', g1, g2, g3, g4⟩ := cr22 (co := co) fl (by omega) hn (Edg_like hS hA hE) (fun c hc => by rw [hS c hc]; exact h.2.2.1 c hc) (cmR d.1 to at_ : Int) ci (k : Int) d.1 fl 0 kn A S (by omega) (by omega) (fun q hq => by unfold revL; rw [if_neg (by omega)]) (fun c hc => by unfold revS; rw [if_neg (by omega)])
    refine ⟨kn', A', S', g1, ⟨rfl, e2, ?_, ?_⟩, g4⟩
    · exact like_tr g2 (rev_like (low_like hE hco k) hA hS).1
    · exact like_tr g3 (rev_like (low_like hE hco k) hA hS).2
  · rw [if_neg c, if_neg c]
    exact ⟨kn, A, S, rfl, ⟨e1, e2, hA, hS⟩, Or.inl rfl⟩
theorem M_reverseAt (fl : Nat) (hfl : 200 ≤ fl) {d : Dg} (h : okD d) (hE : EdgA d.1 d.2.2.2 d.2.2.1 nm fr to at_) {co : Nat → Int} (hco : like (2 * d.1) co (coR d.1 to at_)) {n ci : Int} {A S : Nat → Int} (hD : DA d n ci A S) (k : Nat) :
    ∃ A' S', LM_Md_reverseAt fl (cmR d.1 to at_ : Int) co n ci at_ (k : Int) A S = some ((rvS to at_ k d).1, A', S') ∧ DA (rvS to at_ k d).2 n ci A' S' := by
  obtain ⟨e1, e2, hA, hS⟩ := hD
  have hn := h.1
  have hci := h.2.1
  have R := rnd_ok (nx_closed hE) (2 * d.1) (Nat.le_refl _)
  have r4 : cmR d.1 to at_ ≤ 2 * d.1 := R.2.2.2.1
  unfold LM_Md_reverseAt LB_Md_reverseAt_0 rvS
  rw [if_pos (by omega), ← e2]
  by_cases c : (k : Int) < (cmR d.1 to at_ : Int) + ci
  · rw [if_pos c, if_pos c]
    by_cases c2 : (cmR d.1 to at_ : Int) ≤ (k : Int)
    · rw [if_pos c2]
      have none : ∀ e, e < 2 * d.1 → coR d.1 to at_ e ≠ (k : Int) := fun e he w => by
        have : coR d.1 to at_ e < (cmR d.1 to at_ : Int) := (R.2.1 e he).2
        omega
      refine ⟨A, S, rfl, e1, e2, fun q hq => ?_, fun c hc => ?_⟩
      · have hq : q < 4 * d.1 := hq
        rw [hA q hq]
        show _ = revL _ d.1 d.2.2.1 q
        unfold revL
        obtain ⟨e, x1, x2, _⟩ := hE.2.2 (4 * (q / 4)) (by omega)
        rw [if_neg (fun w => by
          have := w.2
          unfold lowK at this
          rw [x2, Int.toNat_natCast] at this
          exact none e x1 (by simpa using this))]
      · have hc : c < d.1 := hc
        rw [hS c hc]
        show _ = revS _ _ d.1 d.2.2.2 c
        unfold revS
        obtain ⟨e, x1, x2, _⟩ := hE.2.2 (4 * c) (by omega)
        obtain ⟨f, y1, y2, _⟩ := hE.2.2 (4 * c + 1) (by omega)
        have z1 : lowK (coR d.1 to at_) at_ k c = false := by unfold lowK; rw [x2, Int.toNat_natCast]; simp [none e x1]
        have z2 : uppK (coR d.1 to at_) at_ k c = false := by unfold uppK; rw [y2, Int.toNat_natCast]; simp [none f y1]
        rw [if_neg (fun w => w.2 (by rw [z1, z2]))]
    · rw [if_neg c2, e1]
      unfold LM_Md_reverse LB_Md_reverse_0
      obtain ⟨A', S', g1, g2, g3⟩ := mr2 (co := co) fl (by omega) hn (Edg_like hS hA hE) (fun c hc => by rw [hS c hc]; exact h.2.2.1 c hc) (k : Int) d.1 fl 0 A S (by omega) (by omega) (fun q hq => by unfold revL; rw [if_neg (by omega)]) (fun c hc => by unfold revS; rw [if_neg (by omega)])
      rw [show ((0 : Nat) : Int) = 0 from rfl] at g1
      rw [g1, Option.bind_some]
      refine ⟨A', S', rfl, rfl, e2, ?_, ?_⟩
      · exact like_tr g2 (rev_like (low_like hE hco k) hA hS).1
      · exact like_tr g3 (rev_like (low_like hE hco k) hA hS).2
  · rw [if_neg c, if_neg c]
    exact ⟨A, S, rfl, e1, e2, hA, hS⟩
theorem rv_ok {d : Dg} (h : okD d) (hE : EdgA d.1 d.2.2.2 d.2.2.1 nm fr to at_) (k : Nat) : okD (rvS to at_ k d).2 := by
  unfold rvS
  split
  · obtain ⟨φ, hφ⟩ := phi_ok hE (co := coR d.1 to at_) (like_refl _ _) (k : Int)
    exact okD_rev h _ _ φ hφ
  · exact h
def chS (c : Nat) (d : Dg) : Int × Dg := if c < d.1 then (1, chD c d) else (0, d)
theorem C_changeS (fl : Nat) (hfl : 200 ≤ fl) {d : Dg} (h : okD d) {n ci : Int} {A S : Nat → Int} (hD : DA d n ci A S) (c : Nat) (kn : Int) : ∃ kn' A' S', LM_Di_change fl n (c : Int) kn A S = some ((chS c d).1, kn', A', S') ∧ DA (chS c d).2 n ci A' S' ∧ (kn' = kn ∨ kn' = 0) := by
  unfold chS
  by_cases w : c < d.1
  · rw [if_pos w]
    obtain ⟨A', S', g1, g2⟩ := C_change fl (by omega) h hD w kn
    exact ⟨0, A', S', g1, g2, Or.inr rfl⟩
  · rw [if_neg w]
    unfold LM_Di_change LB_Di_change_0
    rw [if_neg (by omega), if_neg (by have := hD.1; omega)]
    exact ⟨kn, A, S, rfl, hD, Or.inl rfl⟩
theorem M_changeS (fl : Nat) (hfl : 200 ≤ fl) {d : Dg} (h : okD d) {n ci : Int} {A S : Nat → Int} (hD : DA d n ci A S) (c : Nat) : ∃ A' S', LM_Md_changeAt fl n (c : Int) A S = some ((chS c d).1, A', S') ∧ DA (chS c d).2 n ci A' S' := by
  unfold chS LM_Md_changeAt LB_Md_changeAt_0
  have := hD.1
  by_cases w : c < d.1
  · rw [if_pos w, if_pos (by omega)]
    obtain ⟨A', S', g1, g2⟩ := M_change fl (by omega) h hD w
    rw [g1, Option.bind_some]
    exact ⟨A', S', rfl, g2⟩
  · rw [if_neg w, if_neg (by omega)]
    exact ⟨A, S, rfl, hD⟩
theorem ch_ok {d : Dg} (h : okD d) (c : Nat) : okD (chS c d).2 := by
  unfold chS
  split
  · exact okD_ch h (by assumption)
  · exact h
def smS (c : Nat) (d : Dg) : Int × Dg := if c < d.1 then (if (smooD c d).2.1 ≤ 20 then (1, smooD c d) else (0, d)) else (0, d)
theorem C_smoothS (fl : Nat) (hfl : 200 ≤ fl) {d : Dg} (h : okD d) {n ci : Int} {A S : Nat → Int} (hD : DA d n ci A S) (c : Nat) (kn : Int) : ∃ n' ci' kn' A' S', LM_Di_smooth fl (c : Int) n ci kn A S = some ((smS c d).1, n', ci', kn', A', S') ∧ ((smS c d).1 = 1 → DA (smS c d).2 n' ci' A' S') ∧ (kn' = kn ∨ kn' = 0) := by
  obtain ⟨e1, e2, hA, hS⟩ := hD
  have hci := h.2.1
  unfold smS
  by_cases w : c < d.1
  · rw [if_pos w, e1, e2]
    obtain ⟨B, T, g1, g2, g3⟩ := C_smooth fl hfl h.1 w d.2.1 (by omega) kn A S
    have D := DA_smoo w hA hS g2 g3
    have ec : goC A (4 * c) (upO S c) (upI S c) (4 * c + 2) d.2.1 = (smooD c d).2.1 := D.2.1
    rw [ec] at g1 D
    rw [g1]
    by_cases z : (smooD c d).2.1 ≤ 20
    · rw [if_pos z, if_pos z]; exact ⟨_, _, _, _, _, rfl, fun _ => D, Or.inr rfl⟩
    · rw [if_neg z, if_neg z]; exact ⟨_, _, _, _, _, rfl, fun x => absurd (show (0 : Int) = 1 from x) (by decide), Or.inr rfl⟩
  · rw [if_neg w]
    unfold LM_Di_smooth LB_Di_smooth_0
    rw [if_neg (by omega), if_neg (by omega)]
    exact ⟨_, _, _, _, _, rfl, fun x => absurd (show (0 : Int) = 1 from x) (by decide), Or.inl rfl⟩
theorem M_smoothS (fl : Nat) (hfl : 200 ≤ fl) {d : Dg} (h : okD d) {n ci : Int} {A S : Nat → Int} (hD : DA d n ci A S) (c : Nat) (n0 c0 : Int) (A0 S0 : Nat → Int) : ∃ n' ci' A' S' n0' c0' A0' S0', LM_Md_smoothAt fl (c : Int) n ci A S n0 c0 A0 S0 = some ((smS c d).1, n', ci', A', S', n0', c0', A0', S0') ∧ DA (smS c d).2 n' ci' A' S' := by
  have hci := h.2.1
  have e1 := hD.1
  have e2 := hD.2.1
  unfold smS LM_Md_smoothAt LB_Md_smoothAt_0
  by_cases w : c < d.1
  · obtain ⟨A1, S1, b1, b2⟩ := M_become fl hfl h.1 hD n0 c0 A0 S0
    obtain ⟨B, T, g1, g2, g3⟩ := M_smooth fl hfl h.1 w d.2.1 (by omega) A S (by rw [hD.2.2.2 c w]; exact h.2.2.1 c w)
    have D := DA_smoo w hD.2.2.1 hD.2.2.2 g2 g3
    obtain ⟨n', ci', A', S', s1, s2⟩ := M_stands fl hfl h.1 D b2
    rw [if_pos (by omega), if_pos w, b1, Option.bind_some]
    dsimp only
    rw [show LM_Md_smooth fl (c : Int) n ci A S = LM_Md_smooth fl (c : Int) (d.1 : Int) d.2.1 A S by rw [e1, e2], g1, Option.bind_some]
    dsimp only
    rw [s1, Option.bind_some]
    dsimp only
    by_cases z : (smooD c d).2.1 ≤ 20
    · rw [if_pos z] at s2
      simp only [if_pos z]
      rw [if_pos (by simp)]
      exact ⟨_, _, _, _, _, _, _, _, rfl, s2⟩
    · rw [if_neg z] at s2
      simp only [if_neg z]
      rw [if_pos (by simp)]
      exact ⟨_, _, _, _, _, _, _, _, rfl, s2⟩
  · rw [if_neg w, if_neg (by omega)]
    exact ⟨_, _, _, _, _, _, _, _, rfl, hD⟩
theorem sm_ok {d : Dg} (h : okD d) (c : Nat) : okD (smS c d).2 := by
  have hci := h.2.1
  unfold smS
  by_cases w : c < d.1
  · rw [if_pos w]
    by_cases z : (smooD c d).2.1 ≤ 20
    · rw [if_pos z]; exact okC_D (okC_smoo (okD_C h) (by omega) w) z
    · rw [if_neg z]; exact h
  · rw [if_neg w]; exact h
end
