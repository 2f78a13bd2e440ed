/-- REVERSE -/
def revD (lo up : Nat → Bool) (d : Dg) : Dg := (d.1, d.2.1, revL lo d.1 d.2.2.1, revS lo up d.1 d.2.2.2)
def pRev (lo : Nat → Bool) (q : Nat) : Nat := if lo (q / 4) = true then 4 * (q / 4) + (q + 2) % 4 else q
theorem okD_rev {d : Dg} (h : okD d) (lo up : Nat → Bool) (φ : Int → Bool) (hφ : ∀ q, q < 4 * d.1 → φ (d.2.2.1 q) = if q % 2 = 0 then lo (q / 4) else up (q / 4)) : okD (revD lo up d) := by
  obtain ⟨h1, h2, h3, h4, h5⟩ := h
  have pl : ∀ q, q < 4 * d.1 → pRev lo q < 4 * d.1 := fun q hq => by unfold pRev; split <;> omega
  have pd : ∀ q, pRev lo q / 4 = q / 4 := fun q => by unfold pRev; split <;> omega
  have pp : ∀ q, pRev lo (pRev lo q) = q := fun q => by
    have e := pd q
    by_cases w : lo (q / 4) = true
    · have e1 : pRev lo q = 4 * (q / 4) + (q + 2) % 4 := by unfold pRev; rw [if_pos w]
      rw [e1]; unfold pRev
      rw [show (4 * (q / 4) + (q + 2) % 4) / 4 = q / 4 by omega, if_pos w]; omega
    · have e1 : pRev lo q = q := by unfold pRev; rw [if_neg w]
      rw [e1, e1]
  have el : ∀ q, q < 4 * d.1 → revL lo d.1 d.2.2.1 q = d.2.2.1 (pRev lo q) := fun q hq => by
    unfold revL pRev
    by_cases w : lo (q / 4) = true
    · rw [if_pos ⟨by omega, w⟩, if_pos w]
    · rw [if_neg (fun x => w x.2), if_neg w]
  refine ⟨h1, h2, fun c hc => ?_, fun q hq => ?_, ?_⟩
  · show revS lo up d.1 d.2.2.2 c = 1 ∨ revS lo up d.1 d.2.2.2 c = -1
    have := h3 c hc
    unfold revS
    split <;> omega
  · show 1 ≤ revL _ _ _ q ∧ revL _ _ _ q ≤ 9999
    rw [el q hq]; exact h4 _ (pl q hq)
  · refine WF_perm h5 (pRev lo) (pRev lo) φ pl (fun q hq => ⟨pl q hq, pp q⟩) (fun p q hp hq e => by rw [← pp p, e, pp]) el (fun q hq => ?_)
    have hq : q < 4 * d.1 := hq
    show outQ (revS lo up d.1 d.2.2.2) q = _
    rw [hφ _ (pl q hq), pd]
    have hc : q / 4 < d.1 := by omega
    have hs := h3 (q / 4) hc
    have sv : revS lo up d.1 d.2.2.2 (q / 4) = if lo (q / 4) ≠ up (q / 4) then -(d.2.2.2 (q / 4)) else d.2.2.2 (q / 4) := by
      unfold revS
      by_cases w : lo (q / 4) ≠ up (q / 4)
      · rw [if_pos ⟨hc, w⟩, if_pos w]
      · rw [if_neg (fun x => w x.2), if_neg w]
    have pm : pRev lo q % 4 = if lo (q / 4) = true then (q + 2) % 4 else q % 4 := by unfold pRev; split <;> omega
    have pm2 : pRev lo q % 2 = q % 2 := by unfold pRev; split <;> omega
    unfold outQ
    rw [sv, pd, pm, pm2]
    generalize lo (q / 4) = a
    generalize up (q / 4) = b
    generalize d.2.2.2 (q / 4) = s at *
    have c4 : q % 4 = 0 ∨ q % 4 = 1 ∨ q % 4 = 2 ∨ q % 4 = 3 := by omega
    rcases c4 with m | m | m | m
    · rw [m, show (q + 2) % 4 = 2 by omega, show q % 2 = 0 by omega]
      rcases hs with s1 | s1 <;> rw [s1] <;> cases a <;> cases b <;> decide
    · rw [m, show (q + 2) % 4 = 3 by omega, show q % 2 = 1 by omega]
      rcases hs with s1 | s1 <;> rw [s1] <;> cases a <;> cases b <;> decide
    · rw [m, show (q + 2) % 4 = 0 by omega, show q % 2 = 0 by omega]
      rcases hs with s1 | s1 <;> rw [s1] <;> cases a <;> cases b <;> decide
    · rw [m, show (q + 2) % 4 = 1 by omega, show q % 2 = 1 by omega]
      rcases hs with s1 | s1 <;> rw [s1] <;> cases a <;> cases b <;> decide
section
variable {n : Nat} {sg lb nm fr to at_ : Nat → Int}
/-- the edges of a strand at a crossing are of one component -/
theorem co_opp (h : EdgA n sg lb nm fr to at_) {co : Nat → Int} (hco : like (2 * n) co (rndz (nx to at_) (2 * n) (2 * n)).1) {q : Nat} (hq : q < 4 * n) : co (at_ (opp q)).toNat = co (at_ q).toNat := by
  have R := rnd_ok (nx_closed h) (2 * n) (Nat.le_refl _)
  have key : ∀ q, q < 4 * n → outQ sg q = false → co (at_ (opp q)).toNat = co (at_ q).toNat := fun q hq o => by
    obtain ⟨e, he, a1, a2, a3, a4⟩ := Edg_at h hq
    have x := nx_ok h he
    rw [a4 o, Int.toNat_natCast] at x
    rw [a1, Int.toNat_natCast, x.2.1, Int.toNat_natCast, hco _ x.1, hco e he, R.1 e he]
  cases o : outQ sg q
  · exact key q hq o
  · have := key (opp q) (opp_lt hq) (by rw [opp_out, o]; rfl)
    rw [opp_opp] at this
    exact this.symm
theorem phi_ok (h : EdgA n sg lb nm fr to at_) {co : Nat → Int} (hco : like (2 * n) co (rndz (nx to at_) (2 * n) (2 * n)).1) (k : Int) : ∃ φ : Int → Bool, ∀ q, q < 4 * n → φ (lb q) = if q % 2 = 0 then lowK co at_ k (q / 4) else uppK co at_ k (q / 4) := by
  refine ⟨fun l => decide (∃ q, q < 4 * n ∧ (lb q = l ∧ co (at_ q).toNat = k)), fun q hq => ?_⟩
  have e1 : (decide (∃ p, p < 4 * n ∧ (lb p = lb q ∧ co (at_ p).toNat = k))) = decide (co (at_ q).toNat = k) := by
    rw [decide_eq_decide]
    constructor
    · intro ⟨p, p1, p2, p3⟩
      obtain ⟨e, he, a1, a2, _⟩ := Edg_at h p1
      obtain ⟨f, hf, b1, b2, _⟩ := Edg_at h hq
      have := Edg_nm h he hf (by rw [← a2, ← b2, p2])
      subst this
      rw [b1, ← a1]; exact p3
    · intro w; exact ⟨q, hq, rfl, w⟩
  show decide (∃ p, p < 4 * n ∧ (lb p = lb q ∧ co (at_ p).toNat = k)) = _
  rw [e1]
  unfold lowK uppK
  have c4 : q % 4 = 0 ∨ q % 4 = 1 ∨ q % 4 = 2 ∨ q % 4 = 3 := by omega
  rcases c4 with m | m | m | m
  · rw [if_pos (by omega), show 4 * (q / 4) = q by omega]
  · rw [if_neg (by omega), show 4 * (q / 4) + 1 = q by omega]
  · rw [if_pos (by omega), ← co_opp h hco hq, show opp q = 4 * (q / 4) by unfold opp; split <;> omega]
  · rw [if_neg (by omega), ← co_opp h hco hq, show opp q = 4 * (q / 4) + 1 by unfold opp; split <;> omega]
end
theorem rev_like {n : Nat} {lo up lo' up' : Nat → Bool} {lb sg A S : Nat → Int} (h1 : ∀ c, c < n → lo' c = lo c ∧ up' c = up c) (hA : like (4 * n) A lb) (hS : like n S sg) : like (4 * n) (revL lo' n A) (revL lo n lb) ∧ like n (revS lo' up' n S) (revS lo up n sg) := by
  refine ⟨fun q hq => ?_, fun c hc => ?_⟩
  · unfold revL
    rw [(h1 (q / 4) (by omega)).1, hA q hq, hA _ (by omega)]
  · unfold revS
    rw [(h1 c hc).1, (h1 c hc).2, hS c hc]
/-- MIRROR: all crossings changed, one after the other -/
def mirD : Nat → Dg → Dg
  | 0, d => d
  | k + 1, d => chD k (mirD k d)
theorem mir_ok {d : Dg} (h : okD d) : ∀ k, k ≤ d.1 → okD (mirD k d) ∧ (mirD k d).1 = d.1 ∧ (mirD k d).2.1 = d.2.1 := by
  intro k
  induction k with
  | zero => intro _; exact ⟨h, rfl, rfl⟩
  | succ k ih =>
    intro hk
    obtain ⟨a, b, c⟩ := ih (by omega)
    exact ⟨okD_ch a (by omega), b, c⟩
theorem cm2 (fl : Nat) (hfl : 10 ≤ fl) {d : Dg} (h : okD d) {n ci : Int} :
    ∀ (r nn k : Nat) (kn : Int) (A S : Nat → Int), k + r = d.1 → r < nn → DA (mirD k d) n ci A S → ∃ kn' A' S', LB_Di_mirror_2 fl n nn (k : Int) kn A S = some (1, kn', A', S') ∧ DA (mirD d.1 d) n ci A' S' ∧ (kn' = kn ∨ kn' = 0) := by
  intro r
  induction r with
  | zero =>
    intro nn k kn A S hr hnn hD
    obtain ⟨nn, rfl⟩ : ∃ r, nn = r + 1 := ⟨nn - 1, by omega⟩
    have m := mir_ok h k (by omega)
    have := hD.1
    rw [LB_Di_mirror_2, if_pos (by omega)]
    rw [show k = d.1 by omega] at hD
    exact ⟨kn, A, S, rfl, hD, Or.inl rfl⟩
  | succ r ih =>
    intro nn k kn A S hr hnn hD
    obtain ⟨nn, rfl⟩ : ∃ r, nn = r + 1 := ⟨nn - 1, by omega⟩
    have m := mir_ok h k (by omega)
    have := hD.1
    have h20 := h.1
    obtain ⟨A1, S1, g1, g2⟩ := C_change fl hfl m.1 hD (show k < (mirD k d).1 by omega) kn
    rw [LB_Di_mirror_2, if_neg (by omega), g1, Option.bind_some, if_pos (by omega), show ((k : Int) + 1) = ((k + 1 : Nat) : Int) by omega]
    obtain ⟨kn', A', S', f1, f2, f3⟩ := ih nn (k + 1) 0 A1 S1 (by omega) (by omega) g2
    exact ⟨kn', A', S', f1, f2, Or.inr (by omega)⟩
theorem C_mirror (fl : Nat) (hfl : 200 ≤ fl) {d : Dg} (h : okD d) {n ci : Int} {A S : Nat → Int} (hD : DA d n ci A S) (kn : Int) : ∃ kn' A' S', LM_Di_mirror fl n kn A S = some (1, kn', A', S') ∧ DA (mirD d.1 d) n ci A' S' ∧ (kn' = kn ∨ kn' = 0) := by
  unfold LM_Di_mirror LB_Di_mirror_0
  have h20 := h.1
  exact cm2 fl (by omega) h d.1 fl 0 kn A S (by omega) (by omega) hD
