/-- a crossing's places begin with what was place f -/
def rotL (c f : Nat) (lb : Nat → Int) : Nat → Int := fun q => if q / 4 = c then lb (4 * c + (q + f) % 4) else lb q
theorem rot_0 (c : Nat) (lb : Nat → Int) (q : Nat) : rotL c 0 lb q = lb q := by
  unfold rotL; split
  · congr 1; omega
  · rfl
theorem tp7 (fl : Nat) {c f : Nat} (hc : c < 20) (hf : f ≤ 3) (kn : Int) (lb : Nat → Int) :
    ∀ (d nn i : Nat) (A : Nat → Int), i + d = f → d < nn → (∀ q, A q = rotL c i lb q) → ∃ A', LB_Di_turnPlaces_7 fl nn (c : Int) (f : Int) (i : Int) kn A = some (kn, A') ∧ (∀ q, A' q = rotL c f lb q) := by
  intro d
  induction d with
  | zero =>
    intro nn i A hd hnn hA
    obtain ⟨nn, rfl⟩ : ∃ r, nn = r + 1 := ⟨nn - 1, by omega⟩
    rw [LB_Di_turnPlaces_7, if_pos (by omega)]
    exact ⟨A, rfl, fun q => by rw [hA q, show i = f by omega]⟩
  | succ d ih =>
    intro nn i A hd hnn hA
    obtain ⟨nn, rfl⟩ : ∃ r, nn = r + 1 := ⟨nn - 1, by omega⟩
    have e0 : Int.toNat (4 * (c : Int)) = 4 * c := by omega
    have e1 : Int.toNat (4 * (c : Int) + 1) = 4 * c + 1 := by omega
    have e2 : Int.toNat (4 * (c : Int) + 2) = 4 * c + 2 := by omega
    have e3 : Int.toNat (4 * (c : Int) + 3) = 4 * c + 3 := by omega
    rw [LB_Di_turnPlaces_7, if_neg (by omega), if_neg (by omega), if_pos (by omega), if_pos (by omega), if_pos (by omega), if_pos (by omega), if_pos (by omega), e0, e1, e2, e3, show ((i : Int) + 1) = ((i + 1 : Nat) : Int) by omega]
    refine ih nn (i + 1) _ (by omega) (by omega) (fun q => ?_)
    have a0 := hA (4 * c); have a1 := hA (4 * c + 1); have a2 := hA (4 * c + 2); have a3 := hA (4 * c + 3)
    unfold rotL at a0 a1 a2 a3 ⊢
    rw [if_pos (by omega)] at a0 a1 a2 a3
    by_cases w : q / 4 = c
    · rw [if_pos w]
      have hq : q = 4 * c ∨ q = 4 * c + 1 ∨ q = 4 * c + 2 ∨ q = 4 * c + 3 := by omega
      rcases hq with r | r | r | r
      · subst r; rw [up_ne _ _ (by omega), up_ne _ _ (by omega), up_ne _ _ (by omega), up_eq, a1]; congr 1; omega
      · subst r; rw [up_ne _ _ (by omega), up_ne _ _ (by omega), up_eq, up_ne _ _ (by omega), a2]; congr 1; omega
      · subst r; rw [up_ne _ _ (by omega), up_eq, up_ne _ _ (by omega), up_ne _ _ (by omega), a3]; congr 1; omega
      · subst r; rw [up_eq, a0]; congr 1; omega
    · rw [if_neg w, up_ne _ _ (by omega), up_ne _ _ (by omega), up_ne _ _ (by omega), up_ne _ _ (by omega), hA q]
      unfold rotL; rw [if_neg w]
theorem C_turnP (fl : Nat) (hfl : 10 ≤ fl) {c f : Nat} (hc : c < 20) (hf : f ≤ 3) (kn : Int) (lb : Nat → Int) : ∃ A', LM_Di_turnPlaces fl (c : Int) (f : Int) kn lb = some (0, A') ∧ (∀ q, A' q = rotL c f lb q) := by
  unfold LM_Di_turnPlaces LB_Di_turnPlaces_0
  exact tp7 fl hc hf 0 lb f fl 0 lb (by omega) (by omega) (fun q => (rot_0 c lb q).symm)
theorem ro60 (fl : Nat) {c f : Nat} (hc : c < 20) (hf : f ≤ 3) (lb : Nat → Int) :
    ∀ (d nn i : Nat) (A : Nat → Int), i + d = 4 → d < nn → (∀ q, A q = if q < 4 * c + i then rotL c f lb q else lb q) → ∃ A', LB_Md_rotate_60 fl nn (c : Int) (f : Int) (lb (4 * c)) (lb (4 * c + 1)) (lb (4 * c + 2)) (lb (4 * c + 3)) (i : Int) A = some A' ∧ (∀ q, A' q = rotL c f lb q) := by
  intro d
  induction d with
  | zero =>
    intro nn i A hd hnn hA
    obtain ⟨nn, rfl⟩ : ∃ r, nn = r + 1 := ⟨nn - 1, by omega⟩
    rw [LB_Md_rotate_60, if_pos (by omega)]
    refine ⟨A, rfl, fun q => ?_⟩
    rw [hA q]
    split
    · rfl
    · unfold rotL; rw [if_neg (by omega)]
  | succ d ih =>
    intro nn i A hd hnn hA
    obtain ⟨nn, rfl⟩ : ∃ r, nn = r + 1 := ⟨nn - 1, by omega⟩
    have e0 : Int.toNat (4 * (c : Int) + (i : Int)) = 4 * c + i := by omega
    have fin : ∀ v, v = lb (4 * c + (4 * c + i + f) % 4) → ∃ A', LB_Md_rotate_60 fl nn (c : Int) (f : Int) (lb (4 * c)) (lb (4 * c + 1)) (lb (4 * c + 2)) (lb (4 * c + 3)) ((i : Int) + 1) (up A (4 * c + i) v) = some A' ∧ (∀ q, A' q = rotL c f lb q) := fun v hv => by
      rw [show ((i : Int) + 1) = ((i + 1 : Nat) : Int) by omega]
      refine ih nn (i + 1) _ (by omega) (by omega) (fun q => ?_)
      by_cases w : q = 4 * c + i
      · rw [w, up_eq, if_pos (by omega), hv]; unfold rotL; rw [if_pos (by omega)]
      · rw [up_ne _ _ w, hA q]
        by_cases w2 : q < 4 * c + i
        · rw [if_pos w2, if_pos (by omega)]
        · rw [if_neg w2, if_neg (by omega)]
    rw [LB_Md_rotate_60, if_neg (by omega), if_pos (by omega)]
    unfold LB_Md_rotate_120
    have hm : (i + f) % 4 = 0 ∨ (i + f) % 4 = 1 ∨ (i + f) % 4 = 2 ∨ (i + f) % 4 = 3 := by omega
    rcases hm with m | m | m | m
    · rw [if_neg (by omega), if_pos (by omega), if_pos (by omega), if_pos (by omega), e0]
      exact fin _ (by congr 1; omega)
    · rw [if_pos (by omega), if_neg (by omega), if_pos (by omega), if_pos (by omega), if_pos (by omega), e0]
      exact fin _ (by congr 1; omega)
    · rw [if_pos (by omega), if_pos (by omega), if_neg (by omega), if_pos (by omega), if_pos (by omega), if_pos (by omega), e0]
      exact fin _ (by congr 1; omega)
    · rw [if_pos (by omega), if_pos (by omega), if_pos (by omega), if_pos (by omega), if_pos (by omega), if_pos (by omega), e0]
      exact fin _ (by congr 1; omega)
theorem M_rot (fl : Nat) (hfl : 10 ≤ fl) {c f : Nat} (hc : c < 20) (hf : f ≤ 3) (lb : Nat → Int) : ∃ A', LM_Md_rotate fl (c : Int) (f : Int) lb = some A' ∧ (∀ q, A' q = rotL c f lb q) := by
  unfold LM_Md_rotate LB_Md_rotate_0
  have e0 : Int.toNat (4 * (c : Int)) = 4 * c := by omega
  have e1 : Int.toNat (4 * (c : Int) + 1) = 4 * c + 1 := by omega
  have e2 : Int.toNat (4 * (c : Int) + 2) = 4 * c + 2 := by omega
  have e3 : Int.toNat (4 * (c : Int) + 3) = 4 * c + 3 := by omega
  rw [if_pos (by omega), if_pos (by omega), if_pos (by omega), if_pos (by omega), e0, e1, e2, e3]
  exact ro60 fl hc hf lb 4 fl 0 lb (by omega) (by omega) (fun q => by
    split
    · unfold rotL; rw [if_neg (by omega)]
    · rfl)
theorem rot_like {n c f : Nat} (hc : c < n) {A lb : Nat → Int} (h : like (4 * n) A lb) : like (4 * n) (rotL c f A) (rotL c f lb) := fun q hq => by
  unfold rotL
  split
  · exact h _ (by omega)
  · exact h q hq
/-- CHANGE -/
def chD (c : Nat) (d : Dg) : Dg := (d.1, d.2.1, rotL c (if d.2.2.2 c ≤ 0 then 1 else 3) d.2.2.1, up d.2.2.2 c (-(d.2.2.2 c)))
theorem C_change (fl : Nat) (hfl : 10 ≤ fl) {d : Dg} (h : okD d) {n ci : Int} {A S : Nat → Int} (hD : DA d n ci A S) {c : Nat} (hc : c < d.1) (kn : Int) :
    ∃ A' S', LM_Di_change fl n (c : Int) kn A S = some (1, 0, A', S') ∧ DA (chD c d) n ci A' S' := by
  obtain ⟨e1, e2, hA, hS⟩ := hD
  have hn := h.1
  have hs := h.2.2.1 c hc
  have hSc := hS c hc
  unfold LM_Di_change LB_Di_change_0
  obtain ⟨a, a1, a2, a3, a4⟩ := upI_lt S c
  have ea : a = if d.2.2.2 c ≤ 0 then 1 else 3 := by
    unfold upI at a2; rw [hSc] at a2; split at a2 <;> split <;> omega
  rw [if_neg (by omega), if_pos (by omega), C_upI fl hn hc S, Option.bind_some, a2, show (((4 * c + a : Nat) : Int) % 4) = (a : Int) by omega]
  obtain ⟨B, g1, g2⟩ := C_turnP fl hfl (show c < 20 by omega) (show a ≤ 3 by omega) kn A
  rw [g1, Option.bind_some, if_pos (by omega), Int.toNat_natCast, hSc, if_pos (by omega)]
  refine ⟨B, _, rfl, e1, e2, fun q hq => ?_, fun k hk => ?_⟩
  · rw [g2 q, rot_like hc hA q hq, ea]; rfl
  · show up S c (-(d.2.2.2 c)) k = up d.2.2.2 c (-(d.2.2.2 c)) k
    by_cases w : k = c
    · rw [w, up_eq, up_eq]
    · rw [up_ne _ _ w, up_ne _ _ w]; exact hS k hk
theorem M_change (fl : Nat) (hfl : 10 ≤ fl) {d : Dg} (h : okD d) {n ci : Int} {A S : Nat → Int} (hD : DA d n ci A S) {c : Nat} (hc : c < d.1) :
    ∃ A' S', LM_Md_change fl (c : Int) A S = some (A', S') ∧ DA (chD c d) n ci A' S' := by
  obtain ⟨e1, e2, hA, hS⟩ := hD
  have hn := h.1
  have hs := h.2.2.1 c hc
  have hSc := hS c hc
  unfold LM_Md_change LB_Md_change_0 LB_Md_change_18
  have fin : ∀ f : Nat, f = (if d.2.2.2 c ≤ 0 then 1 else 3) → ∃ A' S', (if (0 ≤ (c : Int) ∧ (c : Int) < 24) then ((LM_Md_rotate fl (c : Int) (f : Int) A).bind fun o0 => (if (-2147483648 ≤ (-(S (Int.toNat (c : Int)))) ∧ (-(S (Int.toNat (c : Int)))) < 2147483648) then (some (o0, (up S (Int.toNat (c : Int)) (-(S (Int.toNat (c : Int))))))) else none)) else none) = some (A', S') ∧ DA (chD c d) n ci A' S' := fun f hf => by
    obtain ⟨B, g1, g2⟩ := M_rot fl hfl (show c < 20 by omega) (show f ≤ 3 by split at hf <;> omega) A
    rw [if_pos (by omega), g1, Option.bind_some, Int.toNat_natCast, hSc, if_pos (by omega)]
    refine ⟨B, _, rfl, e1, e2, fun q hq => ?_, fun k hk => ?_⟩
    · rw [g2 q, rot_like hc hA q hq, hf]; rfl
    · show up S c (-(d.2.2.2 c)) k = up d.2.2.2 c (-(d.2.2.2 c)) k
      by_cases w : k = c
      · rw [w, up_eq, up_eq]
      · rw [up_ne _ _ w, up_ne _ _ w]; exact hS k hk
  have eS : S (Int.toNat (c : Int)) = d.2.2.2 c := by rw [Int.toNat_natCast, hSc]
  rw [if_pos (by omega)]
  rcases hs with s | s
  · rw [if_neg (show ¬ ¬ S (Int.toNat (c : Int)) = 1 by omega)]
    exact fin 3 (by rw [if_neg (by omega)])
  · rw [if_pos (show ¬ S (Int.toNat (c : Int)) = 1 by omega)]
    exact fin 1 (by rw [if_pos (by omega)])
/-- places exchanged, directions turned label by label: still a diagram -/
theorem WF_perm {n : Nat} {sg lb sg' lb' : Nat → Int} (h : WF0 n sg lb) (π ρ : Nat → Nat) (φ : Int → Bool) (h1 : ∀ q, q < 4 * n → π q < 4 * n) (h2 : ∀ q, q < 4 * n → ρ q < 4 * n ∧ π (ρ q) = q) (h3 : ∀ p q, p < 4 * n → q < 4 * n → π p = π q → p = q) (h4 : ∀ q, q < 4 * n → lb' q = lb (π q)) (h5 : ∀ q, q < 4 * n → outQ sg' q = (outQ sg (π q) != φ (lb (π q)))) : WF0 n sg' lb' := by
  intro q hq
  have hq : q < 4 * n := hq
  obtain ⟨m, m1, m2, m3, m4⟩ := h (π q) (h1 q hq)
  obtain ⟨r1, r2⟩ := h2 m m1
  refine ⟨ρ m, r1, by rw [h4 _ r1, h4 q hq, r2, m2], ?_, fun p hp hl => ?_⟩
  · rw [h5 _ r1, h5 q hq, r2, m2, m3]
    cases outQ sg (π q) <;> cases φ (lb (π q)) <;> rfl
  · have hp : p < 4 * n := hp
    rw [h4 p hp, h4 q hq] at hl
    rcases m4 (π p) (h1 p hp) hl with w | w
    · exact Or.inl (h3 p q hp hq w)
    · exact Or.inr (h3 p _ hp r1 (by rw [r2, w]))
theorem rot_pm {c f q : Nat} (hq : q / 4 = c) : (4 * c + (q + f) % 4) / 4 = c ∧ 4 * c + (4 * c + (q + f) % 4 + (4 - f % 4)) % 4 = q ∧ (4 * c + (q + f) % 4) % 4 = (q + f) % 4 := by omega
theorem okD_ch {d : Dg} (h : okD d) {c : Nat} (hc : c < d.1) : okD (chD c d) := by
  obtain ⟨h1, h2, h3, h4, h5⟩ := h
  refine ⟨h1, h2, fun k hk => ?_, fun q hq => ?_, ?_⟩
  · show up d.2.2.2 c (-(d.2.2.2 c)) k = 1 ∨ up d.2.2.2 c (-(d.2.2.2 c)) k = -1
    by_cases w : k = c
    · rw [w, up_eq]; have := h3 c hc; omega
    · rw [up_ne _ _ w]; exact h3 k hk
  · show 1 ≤ rotL _ _ _ q ∧ rotL _ _ _ q ≤ 9999
    unfold rotL
    split
    · exact h4 _ (by have hq : q < 4 * d.1 := hq; omega)
    · exact h4 q hq
  · generalize hf : (if d.2.2.2 c ≤ 0 then 1 else 3) = f
    have hf2 : f = 1 ∨ f = 3 := by split at hf <;> omega
    show WF0 d.1 (up d.2.2.2 c (-(d.2.2.2 c))) (rotL c (if d.2.2.2 c ≤ 0 then 1 else 3) d.2.2.1)
    rw [hf]
    refine WF_perm h5 (fun q => if q / 4 = c then 4 * c + (q + f) % 4 else q) (fun q => if q / 4 = c then 4 * c + (q + (4 - f)) % 4 else q) (fun _ => false) (fun q hq => ?_) (fun q hq => ⟨?_, ?_⟩) (fun p q hp hq e => ?_) (fun q hq => ?_) (fun q hq => ?_)
    · show (if q / 4 = c then 4 * c + (q + f) % 4 else q) < 4 * d.1
      split <;> omega
    · show (if q / 4 = c then 4 * c + (q + (4 - f)) % 4 else q) < 4 * d.1
      split <;> omega
    · show (if (if q / 4 = c then 4 * c + (q + (4 - f)) % 4 else q) / 4 = c then 4 * c + ((if q / 4 = c then 4 * c + (q + (4 - f)) % 4 else q) + f) % 4 else (if q / 4 = c then 4 * c + (q + (4 - f)) % 4 else q)) = q
      by_cases w : q / 4 = c
      · rw [if_pos w, if_pos (by omega)]; omega
      · rw [if_neg w, if_neg w]
    · have e : (if p / 4 = c then 4 * c + (p + f) % 4 else p) = (if q / 4 = c then 4 * c + (q + f) % 4 else q) := e
      split at e <;> split at e <;> omega
    · show rotL c f d.2.2.1 q = d.2.2.1 (if q / 4 = c then 4 * c + (q + f) % 4 else q)
      unfold rotL
      split <;> rfl
    · show outQ (up d.2.2.2 c (-(d.2.2.2 c))) q = (outQ d.2.2.2 (if q / 4 = c then 4 * c + (q + f) % 4 else q) != false)
      have hsc := h3 c hc
      by_cases w : q / 4 = c
      · rw [if_pos w]
        unfold outQ
        rw [w, up_eq, show (4 * c + (q + f) % 4) % 4 = (q + f) % 4 by omega, show (4 * c + (q + f) % 4) / 4 = c by omega]
        have c4 : q % 4 = 0 ∨ q % 4 = 1 ∨ q % 4 = 2 ∨ q % 4 = 3 := by omega
        rcases hsc with s | s
        · rw [if_neg (by omega)] at hf
          rw [s]
          rcases c4 with m | m | m | m
          · rw [m, show (q + f) % 4 = 3 by omega]; decide
          · rw [m, show (q + f) % 4 = 0 by omega]; decide
          · rw [m, show (q + f) % 4 = 1 by omega]; decide
          · rw [m, show (q + f) % 4 = 2 by omega]; decide
        · rw [if_pos (by omega)] at hf
          rw [s]
          rcases c4 with m | m | m | m
          · rw [m, show (q + f) % 4 = 1 by omega]; decide
          · rw [m, show (q + f) % 4 = 2 by omega]; decide
          · rw [m, show (q + f) % 4 = 3 by omega]; decide
          · rw [m, show (q + f) % 4 = 0 by omega]; decide
      · rw [if_neg w]
        have e : outQ (up d.2.2.2 c (-(d.2.2.2 c))) q = outQ d.2.2.2 q := by unfold outQ; rw [up_ne _ _ w]
        rw [e]; cases outQ d.2.2.2 q <;> rfl
