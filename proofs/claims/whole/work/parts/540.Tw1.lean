def usedL (n : Nat) (lb : Nat → Int) (l : Int) : Prop := ∃ q, q < 4 * n ∧ lb q = l
/-- the least free label behind b -/
def IsFree (n : Nat) (lb : Nat → Int) (b l : Int) : Prop := b < l ∧ ¬ usedL n lb l ∧ ∀ m, b < m → m < l → usedL n lb m
section
variable {n : Nat} {sg lb nm fr to at_ : Nat → Int}
theorem used_nm (h : EdgA n sg lb nm fr to at_) (l : Int) : usedL n lb l ↔ ∃ e, e < 2 * n ∧ nm e = l := by
  constructor
  · intro ⟨q, q1, q2⟩
    obtain ⟨e, he, _, a2, _⟩ := Edg_at h q1
    exact ⟨e, he, by rw [← a2, q2]⟩
  · intro ⟨e, he, w⟩
    obtain ⟨p, q, a1, a2, a3, a4, a5, a6, a7, a8⟩ := h.1 e he
    exact ⟨p, a1, by rw [a7, w]⟩
theorem nm_pos (h : EdgA n sg lb nm fr to at_) (hl : ∀ q, q < 4 * n → 1 ≤ lb q) {e : Nat} (he : e < 2 * n) : 1 ≤ nm e := by
  obtain ⟨p, q, a1, a2, a3, a4, a5, a6, a7, a8⟩ := h.1 e he
  rw [← a7]; exact hl p a1
/-- frees found so far, up to l -/
def FrC (n : Nat) (lb : Nat → Int) (f : Nat → Int) (k : Nat) (l : Int) : Prop := (∀ i, i < k → IsFree n lb (if i = 0 then 0 else f (i - 1)) (f i)) ∧ (∀ m, (if k = 0 then 0 else f (k - 1)) < m → m < l → usedL n lb m) ∧ (if k = 0 then 0 else f (k - 1)) < l
theorem ff7 (fl : Nat) (hn : n ≤ 20) (h : EdgA n sg lb nm fr to at_) (hl : ∀ q, q < 4 * n → 1 ≤ lb q) :
    ∀ (d nn e k : Nat) (f : Nat → Int), e + k + d = 44 → d < nn → k ≤ 4 → e ≤ 2 * n → FrC n lb f k ((e + k + 1 : Nat) : Int) → (∀ i, i < e → nm i < ((e + k + 1 : Nat) : Int)) → (∀ i, e ≤ i → i < 2 * n → ((e + k + 1 : Nat) : Int) ≤ nm i) →
    ∃ f', LB_Sh_findFree_7 fl ((2 * n : Nat) : Int) nm nn (e : Int) (k : Int) ((e + k + 1 : Nat) : Int) f = some f' ∧ (∀ i, i < 4 → IsFree n lb (if i = 0 then 0 else f' (i - 1)) (f' i) ∧ f' i ≤ 44) ∧ (∀ i, i < k → f' i = f i) := by
  intro d
  induction d with
  | zero =>
    intro nn e k f hd hnn hk he hF h1 h2
    obtain ⟨nn, rfl⟩ : ∃ r, nn = r + 1 := ⟨nn - 1, by omega⟩
    have : k = 4 := by omega
    subst this
    rw [LB_Sh_findFree_7, if_pos (by omega)]
    refine ⟨f, rfl, fun i hi => ⟨hF.1 i hi, ?_⟩, fun i _ => rfl⟩
    have l4 := hF.2.2
    rw [if_neg (by omega)] at l4
    have m1 := (hF.1 1 (by omega)).1
    have m2 := (hF.1 2 (by omega)).1
    have m3 := (hF.1 3 (by omega)).1
    rw [if_neg (by omega)] at m1 m2 m3
    have : i = 0 ∨ i = 1 ∨ i = 2 ∨ i = 3 := by omega
    rcases this with w | w | w | w <;> rw [w] <;> simp only [Nat.reduceSub] at m1 m2 m3 l4 <;> omega
  | succ d ih =>
    intro nn e k f hd hnn hk he hF h1 h2
    obtain ⟨nn, rfl⟩ : ∃ r, nn = r + 1 := ⟨nn - 1, by omega⟩
    rw [LB_Sh_findFree_7]
    by_cases k4 : k = 4
    · subst k4
      rw [if_pos (by omega)]
      refine ⟨f, rfl, fun i hi => ⟨hF.1 i hi, ?_⟩, fun i _ => rfl⟩
      have l4 := hF.2.2
      rw [if_neg (by omega)] at l4
      have m1 := (hF.1 1 (by omega)).1
      have m2 := (hF.1 2 (by omega)).1
      have m3 := (hF.1 3 (by omega)).1
      rw [if_neg (by omega)] at m1 m2 m3
      have : i = 0 ∨ i = 1 ∨ i = 2 ∨ i = 3 := by omega
      rcases this with w | w | w | w <;> rw [w] <;> simp only [Nat.reduceSub] at m1 m2 m3 l4 <;> omega
    · rw [if_neg (by omega), if_pos (by decide), if_neg (by omega)]
      unfold LB_Sh_findFree_48 LB_Sh_findFree_56
      -- a free one
      have free : (∀ i, e ≤ i → i < 2 * n → ((e + k + 1 : Nat) : Int) + 1 ≤ nm i) → ∃ f', LB_Sh_findFree_7 fl ((2 * n : Nat) : Int) nm nn (e : Int) ((k : Int) + 1) (((e + k + 1 : Nat) : Int) + 1) (up f k ((e + k + 1 : Nat) : Int)) = some f' ∧ (∀ i, i < 4 → IsFree n lb (if i = 0 then 0 else f' (i - 1)) (f' i) ∧ f' i ≤ 44) ∧ (∀ i, i < k → f' i = f i) := fun hne => by
        rw [show ((k : Int) + 1) = ((k + 1 : Nat) : Int) by omega, show (((e + k + 1 : Nat) : Int) + 1) = ((e + (k + 1) + 1 : Nat) : Int) by omega]
        have hF2 : FrC n lb (up f k ((e + k + 1 : Nat) : Int)) (k + 1) ((e + (k + 1) + 1 : Nat) : Int) := by
          refine ⟨fun i hi => ?_, fun m m1 m2 => ?_, ?_⟩
          · by_cases w : i = k
            · subst w
              rw [up_eq]
              have hpre : (if i = 0 then 0 else up f i ((e + i + 1 : Nat) : Int) (i - 1)) = (if i = 0 then 0 else f (i - 1)) := by
                by_cases z : i = 0
                · rw [if_pos z, if_pos z]
                · rw [if_neg z, if_neg z, up_ne _ _ (by omega)]
              rw [hpre]
              refine ⟨hF.2.2, fun u => ?_, hF.2.1⟩
              obtain ⟨x, x1, x2⟩ := (used_nm h _).1 u
              by_cases xe : x < e
              · have := h1 x xe; omega
              · have := hne x (by omega) x1; omega
            · rw [up_ne _ _ w]
              have hpre : (if i = 0 then 0 else up f k ((e + k + 1 : Nat) : Int) (i - 1)) = (if i = 0 then 0 else f (i - 1)) := by
                by_cases z : i = 0
                · rw [if_pos z, if_pos z]
                · rw [if_neg z, if_neg z, up_ne _ _ (by omega)]
              rw [hpre]
              exact hF.1 i (by omega)
          · rw [if_neg (by omega), show k + 1 - 1 = k by omega, up_eq] at m1
            omega
          · rw [if_neg (by omega), show k + 1 - 1 = k by omega, up_eq]; omega
        obtain ⟨f', g1, g2, g3⟩ := ih nn e (k + 1) (up f k ((e + k + 1 : Nat) : Int)) (by omega) (by omega) (by omega) he hF2 (fun i hi => by have := h1 i hi; omega) (fun i i1 i2 => by have := hne i i1 i2; omega)
        exact ⟨f', g1, g2, fun i hi => by rw [g3 i (by omega), up_ne _ _ (by omega)]⟩
      by_cases he2 : e = 2 * n
      · rw [if_pos (by omega), if_pos (by omega), if_pos (by omega), if_pos (by omega), Int.toNat_natCast]
        exact free (fun i i1 i2 => by omega)
      · rw [if_neg (by omega), if_pos (by omega), Int.toNat_natCast]
        have hge := h2 e (Nat.le_refl _) (by omega)
        by_cases w : nm e = ((e + k + 1 : Nat) : Int)
        · rw [if_neg (fun x => x w), if_pos (by omega), if_pos (by omega), show ((e : Int) + 1) = ((e + 1 : Nat) : Int) by omega, show (((e + k + 1 : Nat) : Int) + 1) = ((e + 1 + k + 1 : Nat) : Int) by omega]
          refine ih nn (e + 1) k f (by omega) (by omega) hk (by omega) ⟨hF.1, fun m m1 m2 => ?_, ?_⟩ (fun i hi => ?_) (fun i i1 i2 => ?_)
          · by_cases x : m = ((e + k + 1 : Nat) : Int)
            · exact (used_nm h m).2 ⟨e, by omega, by rw [w, x]⟩
            · exact hF.2.1 m m1 (by omega)
          · have := hF.2.2; omega
          · by_cases x : i = e
            · rw [x]; omega
            · have := h1 i (by omega); omega
          · have := h.2.1 e i (by omega) i2; omega
        · rw [if_pos w, if_pos (by omega), if_pos (by omega), if_pos (by omega), Int.toNat_natCast]
          refine free (fun i i1 i2 => ?_)
          by_cases x : i = e
          · rw [x]; omega
          · have := h.2.1 e i (by omega) i2; omega
theorem C_free (fl : Nat) (hfl : 200 ≤ fl) (hn : n ≤ 20) (h : EdgA n sg lb nm fr to at_) (hl : ∀ q, q < 4 * n → 1 ≤ lb q) (f : Nat → Int) :
    ∃ f', LM_Sh_findFree fl ((2 * n : Nat) : Int) nm f = some f' ∧ (∀ i, i < 4 → IsFree n lb (if i = 0 then 0 else f' (i - 1)) (f' i) ∧ f' i ≤ 44) := by
  unfold LM_Sh_findFree LB_Sh_findFree_0
  obtain ⟨f', g1, g2, _⟩ := ff7 fl hn h hl 44 fl 0 0 f (by omega) (by omega) (by omega) (by omega) ⟨fun i hi => by omega, fun m m1 m2 => by rw [if_pos rfl] at m1; omega, by rw [if_pos rfl]; decide⟩ (fun i hi => by omega) (fun i _ i2 => nm_pos h hl i2)
  exact ⟨f', g1, g2⟩
theorem fr4 (fl : Nat) (hfl : 200 ≤ fl) (hn : n ≤ 20) (b : Int) {u : Nat} (hu : u ≤ 44) (hnu : ¬ usedL n lb (u : Int)) :
    ∀ (d nn l : Nat), l + d = u → d < nn → (∀ m : Int, (l : Int) ≤ m → m < (u : Int) → usedL n lb m) → LB_Md_free_4 fl (n : Int) lb nn b (l : Int) = some (u : Int) := by
  have pos : ∀ l : Int, usedL n lb l ↔ 1 ≤ cntL n lb l := fun l => by
    constructor
    · intro ⟨q, q1, q2⟩; exact cnt_pos q1 (by simp [q2])
    · intro w
      refine Classical.byContradiction (fun nu => ?_)
      have : cntL n lb l = 0 := cnt_zero (fun q hq => by
        have : lb q ≠ l := fun e => nu ⟨q, hq, e⟩
        simp [this])
      omega
  intro d
  induction d with
  | zero =>
    intro nn l hd hnn hU
    obtain ⟨nn, rfl⟩ : ∃ r, nn = r + 1 := ⟨nn - 1, by omega⟩
    have : l = u := by omega
    subst this
    have : ¬ 1 ≤ cntL n lb (l : Int) := fun w => hnu ((pos _).2 w)
    rw [LB_Md_free_4, M_places fl (by omega) hn, Option.bind_some, if_pos (by omega)]
  | succ d ih =>
    intro nn l hd hnn hU
    obtain ⟨nn, rfl⟩ : ∃ r, nn = r + 1 := ⟨nn - 1, by omega⟩
    have := (pos _).1 (hU (l : Int) (by omega) (by omega))
    rw [LB_Md_free_4, M_places fl (by omega) hn, Option.bind_some, if_neg (by omega), if_pos (by omega), show ((l : Int) + 1) = ((l + 1 : Nat) : Int) by omega]
    exact ih nn (l + 1) (by omega) (by omega) (fun m m1 m2 => hU m (by omega) m2)
theorem M_free (fl : Nat) (hfl : 200 ≤ fl) (hn : n ≤ 20) {b u : Int} (hb : 0 ≤ b) (hu : u ≤ 44) (h : IsFree n lb b u) : LM_Md_free fl (n : Int) lb b = some u := by
  unfold LM_Md_free LB_Md_free_0
  obtain ⟨h1, h2, h3⟩ := h
  rw [if_pos (by omega)]
  have := fr4 fl hfl hn b (u := u.toNat) (by omega) (by rw [show ((u.toNat : Nat) : Int) = u by omega]; exact h2) (u.toNat - (b + 1).toNat) fl (b + 1).toNat (by omega) (by omega) (fun m m1 m2 => h3 m (by omega) (by omega))
  rw [show ((u.toNat : Nat) : Int) = u by omega, show (((b + 1).toNat : Nat) : Int) = b + 1 by omega] at this
  exact this
theorem en2 (fl : Nat) (hn : n ≤ 20) (l : Int) :
    ∀ (d nn e : Nat), e + d = 2 * n → d < nn → (∀ f, f < e → nm f ≠ l) → (∃ x : Nat, x < 2 * n ∧ nm x = l ∧ (∀ f, f < x → nm f ≠ l) ∧ LB_Sh_edgeNamed_2 fl ((2 * n : Nat) : Int) nm nn l (e : Int) = some (x : Int)) ∨ ((∀ f, f < 2 * n → nm f ≠ l) ∧ LB_Sh_edgeNamed_2 fl ((2 * n : Nat) : Int) nm nn l (e : Int) = some (-1)) := by
  intro d
  induction d with
  | zero =>
    intro nn e hd hnn hN
    obtain ⟨nn, rfl⟩ : ∃ r, nn = r + 1 := ⟨nn - 1, by omega⟩
    rw [LB_Sh_edgeNamed_2, if_pos (by omega)]
    exact Or.inr ⟨fun f hf => hN f (by omega), rfl⟩
  | succ d ih =>
    intro nn e hd hnn hN
    obtain ⟨nn, rfl⟩ : ∃ r, nn = r + 1 := ⟨nn - 1, by omega⟩
    rw [LB_Sh_edgeNamed_2, if_neg (by omega), if_pos (by omega), Int.toNat_natCast]
    by_cases w : nm e = l
    · rw [if_neg (fun x => x w)]
      exact Or.inl ⟨e, by omega, w, hN, rfl⟩
    · rw [if_pos w, if_pos (by omega), show ((e : Int) + 1) = ((e + 1 : Nat) : Int) by omega]
      exact ih nn (e + 1) (by omega) (by omega) (fun f hf => by
        by_cases x : f = e
        · rw [x]; exact w
        · exact hN f (by omega))
theorem C_named (fl : Nat) (hfl : 200 ≤ fl) (hn : n ≤ 20) (l : Int) : (∃ x : Nat, x < 2 * n ∧ nm x = l ∧ LM_Sh_edgeNamed fl ((2 * n : Nat) : Int) nm l = some (x : Int)) ∨ ((∀ f, f < 2 * n → nm f ≠ l) ∧ LM_Sh_edgeNamed fl ((2 * n : Nat) : Int) nm l = some (-1)) := by
  unfold LM_Sh_edgeNamed LB_Sh_edgeNamed_0
  rcases en2 (nm := nm) fl hn l (2 * n) fl 0 (by omega) (by omega) (fun f hf => by omega) with ⟨x, x1, x2, _, x4⟩ | w
  · exact Or.inl ⟨x, x1, x2, x4⟩
  · exact Or.inr w
end
/-- a crossing behind the others -/
def crL4 (n : Nat) (s li lo ui uo : Int) (lb : Nat → Int) : Nat → Int := fun q => if q = 4 * n then li else if q = 4 * n + 2 then lo else if q = 4 * n + (if s ≤ 0 then 1 else 3) then ui else if q = 4 * n + (if s ≤ 0 then 3 else 1) then uo else lb q
def crD (s li lo ui uo : Int) (d : Dg) : Dg := (d.1 + 1, d.2.1, crL4 d.1 s li lo ui uo d.2.2.1, up d.2.2.2 d.1 s)
theorem C_add (fl : Nat) {d : Dg} (hd : d.1 < 20) {n ci : Int} {A S : Nat → Int} (hD : DA d n ci A S) (s : Int) (ab i1 o1 i2 o2 kn : Int) :
    ∃ n' A' S', LM_Di_addCrossing fl s ab i1 o1 i2 o2 n kn A S = some (n', 0, A', S') ∧ DA (crD s (if ab = 0 then i1 else i2) (if ab = 0 then o1 else o2) (if ab = 0 then i2 else i1) (if ab = 0 then o2 else o1) d) n' ci A' S' := by
  obtain ⟨e1, e2, hA, hS⟩ := hD
  subst e1
  unfold LM_Di_addCrossing LB_Di_addCrossing_0 LB_Di_addCrossing_57 LB_Di_addCrossing_79 LB_Di_addCrossing_100
  have t0 : Int.toNat (4 * (d.1 : Int)) = 4 * d.1 := by omega
  have t2 : Int.toNat (4 * (d.1 : Int) + 2) = 4 * d.1 + 2 := by omega
  have eI : upI (up S d.1 s) d.1 = 4 * d.1 + (if s ≤ 0 then 1 else 3) := by unfold upI; rw [up_eq]
  have eO : upO (up S d.1 s) d.1 = 4 * d.1 + (if s ≤ 0 then 3 else 1) := by unfold upO; rw [up_eq]
  have bI : upI (up S d.1 s) d.1 < 80 := by rw [eI]; split <;> omega
  have bO : upO (up S d.1 s) d.1 < 80 := by rw [eO]; split <;> omega
  have fin : ∀ v1 v2 v3 v4 : Int, DA (crD s v1 v2 v3 v4 d) ((d.1 : Int) + 1) ci (up (up (up (up A (4 * d.1) v1) (4 * d.1 + 2) v2) (upI (up S d.1 s) d.1) v3) (upO (up S d.1 s) d.1) v4) (up S d.1 s) := fun v1 v2 v3 v4 => by
    refine ⟨by show _ = ((d.1 + 1 : Nat) : Int); omega, e2, fun q hq => ?_, fun k hk => ?_⟩
    · have hq : q < 4 * (d.1 + 1) := hq
      show _ = crL4 d.1 s v1 v2 v3 v4 d.2.2.1 q
      unfold crL4
      rw [eI, eO]
      by_cases q0 : q = 4 * d.1
      · rw [if_pos q0, up_ne _ _ (by split <;> omega), up_ne _ _ (by split <;> omega), up_ne _ _ (by omega), q0, up_eq]
      · rw [if_neg q0]
        by_cases q2 : q = 4 * d.1 + 2
        · rw [if_pos q2, up_ne _ _ (by split <;> omega), up_ne _ _ (by split <;> omega), q2, up_eq]
        · rw [if_neg q2]
          by_cases qi : q = 4 * d.1 + (if s ≤ 0 then 1 else 3)
          · rw [if_pos qi, up_ne _ _ (by split at qi <;> split <;> omega), qi, up_eq]
          · rw [if_neg qi]
            by_cases qo : q = 4 * d.1 + (if s ≤ 0 then 3 else 1)
            · rw [if_pos qo, qo, up_eq]
            · rw [if_neg qo, up_ne _ _ qo, up_ne _ _ qi, up_ne _ _ q2, up_ne _ _ q0]
              exact hA q (by split at qi <;> split at qo <;> omega)
    · have hk : k < d.1 + 1 := hk
      show up S d.1 s k = up d.2.2.2 d.1 s k
      by_cases w : k = d.1
      · rw [w, up_eq, up_eq]
      · rw [up_ne _ _ w, up_ne _ _ w]; exact hS k (by omega)
  have uI := C_upI fl (show d.1 + 1 ≤ 20 by omega) (show d.1 < d.1 + 1 by omega) (up S d.1 s)
  have uO := C_upO fl (show d.1 + 1 ≤ 20 by omega) (show d.1 < d.1 + 1 by omega) (up S d.1 s)
  rw [if_pos (by omega), if_pos (by omega), Int.toNat_natCast]
  by_cases c : ab = 0
  · simp only [if_pos c]
    rw [if_pos (by omega), if_pos (by omega), if_pos (by omega), t0, if_pos (by omega), t2, uI, Option.bind_some, if_pos (by omega), uO, Option.bind_some, if_pos (by omega), Int.toNat_natCast, Int.toNat_natCast]
    exact ⟨_, _, _, rfl, fin _ _ _ _⟩
  · simp only [if_neg c]
    rw [if_pos (by omega), if_pos (by omega), if_pos (by omega), t0, if_pos (by omega), t2, uI, Option.bind_some, if_pos (by omega), uO, Option.bind_some, if_pos (by omega), Int.toNat_natCast, Int.toNat_natCast]
    exact ⟨_, _, _, rfl, fin _ _ _ _⟩
theorem M_cross (fl : Nat) {d : Dg} (hd : d.1 < 22) {n ci : Int} {A S : Nat → Int} (hD : DA d n ci A S) {s : Int} (hs : s = 1 ∨ s = -1) (li lo ui uo : Int) :
    ∃ n' A' S', LM_Md_cross fl s li lo ui uo n A S = some (n', A', S') ∧ DA (crD s li lo ui uo d) n' ci A' S' := by
  obtain ⟨e1, e2, hA, hS⟩ := hD
  subst e1
  unfold LM_Md_cross LB_Md_cross_0 LB_Md_cross_82
  have t0 : Int.toNat (4 * (d.1 : Int)) = 4 * d.1 := by omega
  have t2 : Int.toNat (4 * (d.1 : Int) + 2) = 4 * d.1 + 2 := by omega
  have t1 : Int.toNat (4 * (d.1 : Int) + 1) = 4 * d.1 + 1 := by omega
  have t3 : Int.toNat (4 * (d.1 : Int) + 3) = 4 * d.1 + 3 := by omega
  have fin : ∀ a b : Nat, (a = if s ≤ 0 then 1 else 3) → (b = if s ≤ 0 then 3 else 1) → DA (crD s li lo ui uo d) ((d.1 : Int) + 1) ci (up (up (up (up A (4 * d.1) li) (4 * d.1 + 2) lo) (4 * d.1 + a) ui) (4 * d.1 + b) uo) (up S d.1 s) := fun a b ea eb => by
    have ab : a = 1 ∧ b = 3 ∨ a = 3 ∧ b = 1 := by split at ea <;> split at eb <;> omega
    refine ⟨by show _ = ((d.1 + 1 : Nat) : Int); omega, e2, fun q hq => ?_, fun k hk => ?_⟩
    · have hq : q < 4 * (d.1 + 1) := hq
      show _ = crL4 d.1 s li lo ui uo d.2.2.1 q
      unfold crL4
      rw [← ea, ← eb]
      by_cases q0 : q = 4 * d.1
      · rw [if_pos q0, up_ne _ _ (by omega), up_ne _ _ (by omega), up_ne _ _ (by omega), q0, up_eq]
      · rw [if_neg q0]
        by_cases q2 : q = 4 * d.1 + 2
        · rw [if_pos q2, up_ne _ _ (by omega), up_ne _ _ (by omega), q2, up_eq]
        · rw [if_neg q2]
          by_cases qi : q = 4 * d.1 + a
          · rw [if_pos qi, up_ne _ _ (by omega), qi, up_eq]
          · rw [if_neg qi]
            by_cases qo : q = 4 * d.1 + b
            · rw [if_pos qo, qo, up_eq]
            · rw [if_neg qo, up_ne _ _ qo, up_ne _ _ qi, up_ne _ _ q2, up_ne _ _ q0]
              exact hA q (by omega)
    · have hk : k < d.1 + 1 := hk
      show up S d.1 s k = up d.2.2.2 d.1 s k
      by_cases w : k = d.1
      · rw [w, up_eq, up_eq]
      · rw [up_ne _ _ w, up_ne _ _ w]; exact hS k (by omega)
  rw [if_pos (by omega), if_pos (by omega), if_pos (by omega), t0, t2, Int.toNat_natCast]
  rcases hs with w | w
  · have f := fin 3 1 (by rw [if_neg (by omega)]) (by rw [if_neg (by omega)])
    rw [if_neg (fun x => x w), if_pos (by omega), if_pos (by omega), if_neg (fun x => x w), if_pos (by omega), if_pos (by omega), t3, t1]
    exact ⟨_, _, _, rfl, f⟩
  · have f := fin 1 3 (by rw [if_pos (by omega)]) (by rw [if_pos (by omega)])
    rw [if_pos (by omega), if_pos (by omega), if_pos (by omega), if_pos (by omega), if_pos (by omega), if_pos (by omega), t1, t3]
    exact ⟨_, _, _, rfl, f⟩
