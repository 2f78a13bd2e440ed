/-- a strand goes out at the place -/
def outQ (sg : Nat → Int) (q : Nat) : Bool := decide (q % 4 = 2 ∨ q % 4 = 1 ∧ 0 < sg (q / 4) ∨ q % 4 = 3 ∧ sg (q / 4) ≤ 0)
theorem D_out (fl : Nat) {n : Nat} (hn : n ≤ 20) (sg : Nat → Int) {q : Nat} (hq : q < 4 * n) : LM_Di_isOut fl sg (q : Int) = some (if outQ sg q then 1 else 0) := by
  unfold LM_Di_isOut LB_Di_isOut_0 LB_Di_isOut_18 LM_Di_upperOut LB_Di_upperOut_0 outQ
  by_cases c : q % 4 = 2
  · rw [if_pos (by omega), if_pos (by simp; omega)]
  · have e : Int.toNat ((q : Int) / 4) = q / 4 := by omega
    rw [if_neg (by omega), if_pos (by omega), e]
    by_cases s : sg (q / 4) ≤ 0
    · rw [if_pos s, if_pos (by omega), Option.bind_some]
      by_cases c2 : q % 4 = 3
      · rw [if_neg (by omega), if_pos (by simp; omega)]
      · rw [if_pos (by omega), if_neg (by simp; omega)]
    · rw [if_neg s, if_pos (by omega), Option.bind_some]
      by_cases c2 : q % 4 = 1
      · rw [if_neg (by omega), if_pos (by simp; omega)]
      · rw [if_pos (by omega), if_neg (by simp; omega)]
def insL (n : Nat) (sg lb : Nat → Int) (l : Int) : Nat := cntP (fun q => lb q == l && !outQ sg q) (4 * n)
/-- the least label bothz of whose places are endsz of one kind -/
def Bad2 (n : Nat) (sg lb : Nat → Int) (l : Int) : Prop := (∃ q, q < 4 * n ∧ lb q = l) ∧ insL n sg lb l ≠ 1 ∧ ∀ q, q < 4 * n → lb q < l → insL n sg lb (lb q) = 1
/-- edges in the order of their labels: name, from, to; and which one is at a place -/
def EdgA (n : Nat) (sg lb nm fr to at_ : Nat → Int) : Prop :=
  (∀ e, e < 2 * n → ∃ p q : Nat, p < 4 * n ∧ q < 4 * n ∧ fr e = (p : Int) ∧ to e = (q : Int) ∧ outQ sg p = true ∧ outQ sg q = false ∧ lb p = nm e ∧ lb q = nm e) ∧
  (∀ e f, e < f → f < 2 * n → nm e < nm f) ∧
  (∀ q : Nat, q < 4 * n → ∃ e : Nat, e < 2 * n ∧ at_ q = (e : Int) ∧ (fr e = (q : Int) ∨ to e = (q : Int)))
theorem pairs_only {n : Nat} (hn : n ≤ 20) {lb A : Nat → Int} (h : Srt (Keyz lb) (4 * n) A) (hp : PairsTo n A (2 * n)) {b q : Nat} (hb : b < 2 * n) (hq : q < 4 * n) (hl : lb q = A (2 * b) / 128) : q = (A (2 * b) % 128).toNat ∨ q = (A (2 * b + 1) % 128).toNat := by
  obtain ⟨p1, p2⟩ := hp b hb
  obtain ⟨i, hi, e1, e2⟩ := Srt_find hn h hq
  have c1 : ¬ i < 2 * b := fun w => by
    have m1 := Srt_mono h (show i ≤ 2 * b - 1 by omega) (show 2 * b - 1 < 4 * n by omega)
    have m2 := Srt_mono h (show 2 * b - 1 ≤ 2 * b by omega) (show 2 * b < 4 * n by omega)
    obtain ⟨q1, q2⟩ := hp (b - 1) (by omega)
    have q3 := q2 (by omega)
    rw [show 2 * (b - 1) + 1 = 2 * b - 1 by omega] at q1
    rw [show 2 * (b - 1) + 2 = 2 * b by omega] at q3
    omega
  have c2 : ¬ 2 * b + 1 < i := fun w => by
    have m1 := Srt_mono h (show 2 * b + 2 ≤ i by omega) hi
    have m2 := Srt_mono h (show 2 * b + 1 ≤ 2 * b + 2 by omega) (show 2 * b + 2 < 4 * n by omega)
    have q3 := p2 (by omega)
    omega
  have c3 : i = 2 * b ∨ i = 2 * b + 1 := by omega
  rcases c3 with w | w
  · left; rw [← e1, w]
  · right; rw [← e1, w]
theorem ins_val {n : Nat} (hn : n ≤ 20) {sg lb A : Nat → Int} (h : Srt (Keyz lb) (4 * n) A) (hp : PairsTo n A (2 * n)) {b : Nat} (hb : b < 2 * n) : (insL n sg lb (A (2 * b) / 128) = 1 ↔ outQ sg (A (2 * b) % 128).toNat ≠ outQ sg (A (2 * b + 1) % 128).toNat) := by
  obtain ⟨p1, p2⟩ := hp b hb
  have s1 := Srt_at hn h (show 2 * b < 4 * n by omega)
  have s2 := Srt_at hn h (show 2 * b + 1 < 4 * n by omega)
  have ne : (A (2 * b) % 128).toNat ≠ (A (2 * b + 1) % 128).toNat := fun w => by
    have := h.1 (2 * b) (2 * b + 1) (by omega) (by omega)
    omega
  have only := fun q hq hl => pairs_only hn h hp hb (q := q) hq hl
  generalize (A (2 * b) % 128).toNat = x at *
  generalize (A (2 * b + 1) % 128).toNat = y at *
  have lx : lb x = A (2 * b) / 128 := by omega
  have ly : lb y = A (2 * b) / 128 := by omega
  unfold insL
  cases ox : outQ sg x <;> cases oy : outQ sg y
  · rw [cnt_two s1.1 s2.1 ne (by simp [lx, ox]) (by simp [ly, oy]) (fun q hq hl => only q hq (by simp at hl; exact hl.1))]
    decide
  · rw [cnt_one s1.1 (by simp [lx, ox]) (fun q hq hl => by
      simp at hl
      rcases only q hq hl.1 with w | w
      · exact w
      · rw [w, oy] at hl; exact absurd hl.2 (by decide))]
    decide
  · rw [cnt_one s2.1 (by simp [ly, oy]) (fun q hq hl => by
      simp at hl
      rcases only q hq hl.1 with w | w
      · rw [w, ox] at hl; exact absurd hl.2 (by decide)
      · exact w)]
    decide
  · rw [cnt_zero (fun q hq => by
      by_cases hl : lb q = A (2 * b) / 128
      · rcases only q hq hl with w | w
        · rw [w]; simp [ox]
        · rw [w]; simp [oy]
      · simp [hl])]
    decide
theorem ed2 (fl : Nat) {n : Nat} (hn : n ≤ 20) {sg lb A : Nat → Int} (hl : ∀ q, q < 4 * n → 0 ≤ lb q ∧ lb q ≤ 9999) (h : Srt (Keyz lb) (4 * n) A) (hp : PairsTo n A (2 * n)) (ed br cu : Int) :
    ∀ (d nn e : Nat) (at_ fr nm to : Nat → Int), e + d = 2 * n → d < nn →
      (∀ b, b < e → outQ sg (A (2 * b) % 128).toNat ≠ outQ sg (A (2 * b + 1) % 128).toNat ∧ nm b = A (2 * b) / 128 ∧ fr b = (if outQ sg (A (2 * b) % 128).toNat then A (2 * b) % 128 else A (2 * b + 1) % 128) ∧ to b = (if outQ sg (A (2 * b) % 128).toNat then A (2 * b + 1) % 128 else A (2 * b) % 128) ∧ at_ (A (2 * b) % 128).toNat = (b : Int) ∧ at_ (A (2 * b + 1) % 128).toNat = (b : Int)) →
    (∃ at' fr' nm' to', LB_Sh_edgesHaveDirections_2 fl A (n : Int) sg nn (e : Int) ed br cu at_ fr nm to = some (1, ((2 * n : Nat) : Int), br, cu, at', fr', nm', to') ∧ EdgA n sg lb nm' fr' to' at') ∨
    (∃ l at' fr' nm' to', LB_Sh_edgesHaveDirections_2 fl A (n : Int) sg nn (e : Int) ed br cu at_ fr nm to = some (0, ed, 2, l, at', fr', nm', to') ∧ Bad2 n sg lb l) := by
  intro d
  induction d with
  | zero =>
    intro nn e at_ fr nm to hd hnn hI
    obtain ⟨nn, rfl⟩ : ∃ r, nn = r + 1 := ⟨nn - 1, by omega⟩
    rw [LB_Sh_edgesHaveDirections_2, if_pos (by omega), if_pos (by omega), show (2 * (n : Int)) = ((2 * n : Nat) : Int) by omega]
    refine Or.inl ⟨_, _, _, _, rfl, ?_, ?_, ?_⟩
    · intro b hb
      obtain ⟨i1, i2, i3, i4, i5, i6⟩ := hI b (by omega)
      have s1 := Srt_at hn h (show 2 * b < 4 * n by omega)
      have s2 := Srt_at hn h (show 2 * b + 1 < 4 * n by omega)
      have p1 := (hp b hb).1
      cases ox : outQ sg (A (2 * b) % 128).toNat
      · rw [ox] at i1 i3 i4
        have oy : outQ sg (A (2 * b + 1) % 128).toNat = true := by
          cases oy : outQ sg (A (2 * b + 1) % 128).toNat
          · rw [oy] at i1; exact absurd rfl i1
          · rfl
        exact ⟨_, _, s2.1, s1.1, by rw [i3]; exact s2.2.2.2, by rw [i4]; exact s1.2.2.2, oy, ox, by rw [i2, p1]; exact s2.2.2.1.symm, by rw [i2]; exact s1.2.2.1.symm⟩
      · rw [ox] at i1 i3 i4
        have oy : outQ sg (A (2 * b + 1) % 128).toNat = false := by
          cases oy : outQ sg (A (2 * b + 1) % 128).toNat
          · rfl
          · rw [oy] at i1; exact absurd rfl i1
        exact ⟨_, _, s1.1, s2.1, by rw [i3]; exact s1.2.2.2, by rw [i4]; exact s2.2.2.2, ox, oy, by rw [i2]; exact s1.2.2.1.symm, by rw [i2, p1]; exact s2.2.2.1.symm⟩
    · intro b f hbf hf
      rw [(hI b (by omega)).2.1, (hI f (by omega)).2.1]
      have := (hp b (by omega)).2 (by omega)
      have m1 := Srt_mono h (show 2 * b ≤ 2 * b + 2 by omega) (show 2 * b + 2 < 4 * n by omega)
      have m2 := Srt_mono h (show 2 * b + 2 ≤ 2 * f by omega) (show 2 * f < 4 * n by omega)
      omega
    · intro q hq
      obtain ⟨i, hi, e1, e2⟩ := Srt_find hn h hq
      obtain ⟨i1, i2, i3, i4, i5, i6⟩ := hI (i / 2) (by omega)
      have s := Srt_at hn h hi
      have c : i = 2 * (i / 2) ∨ i = 2 * (i / 2) + 1 := by omega
      refine ⟨i / 2, by omega, ?_, ?_⟩
      · rcases c with w | w
        · rw [← w, e1] at i5; exact i5
        · rw [← w, e1] at i6; exact i6
      · rw [i3, i4]
        have e3 : A i % 128 = (q : Int) := by rw [s.2.2.2, e1]
        rcases c with w | w
        · rw [← w]
          split
          · exact Or.inl e3
          · exact Or.inr e3
        · rw [← w]
          split
          · exact Or.inr e3
          · exact Or.inl e3
  | succ d ih =>
    intro nn e at_ fr nm to hd hnn hI
    obtain ⟨nn, rfl⟩ : ∃ r, nn = r + 1 := ⟨nn - 1, by omega⟩
    have s1 := Srt_at hn h (show 2 * e < 4 * n by omega)
    have s2 := Srt_at hn h (show 2 * e + 1 < 4 * n by omega)
    have iv := ins_val (sg := sg) hn h hp (show e < 2 * n by omega)
    rw [LB_Sh_edgesHaveDirections_2, if_pos (by omega), if_neg (by omega), if_pos (by omega), show (2 * (e : Int)) = ((2 * e : Nat) : Int) by omega, plc fl hn (show 2 * e < 4 * n by omega), Option.bind_some, if_pos (by omega), show (((2 * e : Nat) : Int) + 1) = ((2 * e + 1 : Nat) : Int) by omega, plc fl hn (show 2 * e + 1 < 4 * n by omega), Option.bind_some, lab fl hn hl h (show 2 * e < 4 * n by omega), Option.bind_some, if_pos (by omega)]
    unfold LB_Sh_edgesHaveDirections_89 LB_Sh_edgesHaveDirections_109
    rw [s1.2.2.2, s2.2.2.2, D_out fl hn sg s1.1, D_out fl hn sg s2.1, Option.bind_some, Option.bind_some, Option.bind_some, Int.toNat_natCast, up_eq]
    -- the next edge
    have step : ∀ (fr' to' : Nat → Int), outQ sg (A (2 * e) % 128).toNat ≠ outQ sg (A (2 * e + 1) % 128).toNat → fr' = up fr e (if outQ sg (A (2 * e) % 128).toNat then A (2 * e) % 128 else A (2 * e + 1) % 128) → to' = up to e (if outQ sg (A (2 * e) % 128).toNat then A (2 * e + 1) % 128 else A (2 * e) % 128) →
      (∃ a1 a2 a3 a4, LB_Sh_edgesHaveDirections_2 fl A (n : Int) sg nn ((e : Int) + 1) ed br cu (up (up at_ (A (2 * e) % 128).toNat (e : Int)) (A (2 * e + 1) % 128).toNat (e : Int)) fr' (up nm e (A (2 * e) / 128)) to' = some (1, ((2 * n : Nat) : Int), br, cu, a1, a2, a3, a4) ∧ EdgA n sg lb a3 a2 a4 a1) ∨
      (∃ l a1 a2 a3 a4, LB_Sh_edgesHaveDirections_2 fl A (n : Int) sg nn ((e : Int) + 1) ed br cu (up (up at_ (A (2 * e) % 128).toNat (e : Int)) (A (2 * e + 1) % 128).toNat (e : Int)) fr' (up nm e (A (2 * e) / 128)) to' = some (0, ed, 2, l, a1, a2, a3, a4) ∧ Bad2 n sg lb l) := by
      intro fr' to' hne h1 h2
      rw [show ((e : Int) + 1) = ((e + 1 : Nat) : Int) by omega]
      refine ih nn (e + 1) _ _ _ _ (by omega) (by omega) (fun b hb => ?_)
      by_cases w : b = e
      · subst w
        refine ⟨hne, up_eq _ _ _, by rw [h1, up_eq], by rw [h2, up_eq], ?_, up_eq _ _ _⟩
        by_cases w2 : (A (2 * b) % 128).toNat = (A (2 * b + 1) % 128).toNat
        · rw [w2, up_eq]
        · rw [up_ne _ _ w2, up_eq]
      · obtain ⟨i1, i2, i3, i4, i5, i6⟩ := hI b (by omega)
        have t1 := Srt_at hn h (show 2 * b < 4 * n by omega)
        have t2 := Srt_at hn h (show 2 * b + 1 < 4 * n by omega)
        have l1 := h.1 (2 * b) (2 * e) (by omega) (by omega)
        have l2 := h.1 (2 * b) (2 * e + 1) (by omega) (by omega)
        have l3 := h.1 (2 * b + 1) (2 * e) (by omega) (by omega)
        have l4 := h.1 (2 * b + 1) (2 * e + 1) (by omega) (by omega)
        have pi := (hp b (by omega)).1
        have pj := (hp b (by omega)).2 (by omega)
        have m1 := Srt_mono h (show 2 * b ≤ 2 * b + 2 by omega) (show 2 * b + 2 < 4 * n by omega)
        have m2 := Srt_mono h (show 2 * b + 2 ≤ 2 * e by omega) (show 2 * e < 4 * n by omega)
        have m3 := (hp e (by omega)).1
        have pl : ∀ i j, i < 4 * n → j < 4 * n → A i / 128 ≠ A j / 128 → (A i % 128).toNat ≠ (A j % 128).toNat := fun i j hi hj hne w => by
          have a := (Srt_at hn h hi).2.2.1
          have b := (Srt_at hn h hj).2.2.1
          rw [w] at a
          omega
        refine ⟨i1, by rw [up_ne _ _ w]; exact i2, by rw [h1, up_ne _ _ w]; exact i3, by rw [h2, up_ne _ _ w]; exact i4, ?_, ?_⟩
        · rw [up_ne _ _ (pl _ _ (by omega) (by omega) (by omega)), up_ne _ _ (pl _ _ (by omega) (by omega) (by omega))]; exact i5
        · rw [up_ne _ _ (pl _ _ (by omega) (by omega) (by omega)), up_ne _ _ (pl _ _ (by omega) (by omega) (by omega))]; exact i6
    have r1 := s1.2.2.2
    have r2 := s2.2.2.2
    cases ox : outQ sg (A (2 * e) % 128).toNat <;> cases oy : outQ sg (A (2 * e + 1) % 128).toNat
    · -- bothz in
      rw [ox, oy] at iv
      rw [if_neg (by decide)]
      have brk : LM_Sh_breaks fl 2 (A (2 * e) / 128) br cu = some (0, 2, A (2 * e) / 128) := rfl
      rw [brk, Option.bind_some, if_pos (Or.inl rfl)]
      refine Or.inr ⟨_, _, _, _, _, rfl, ⟨_, s1.1, s1.2.2.1.symm⟩, fun w => (iv.1 w) rfl, fun q hq hlt => ?_⟩
      have hlt : lb q < A (2 * e) / 128 := hlt
      obtain ⟨i, hi, e1, e2⟩ := Srt_find hn h hq
      have ci : i < 2 * e := by
        rcases Nat.lt_or_ge i (2 * e) with w | w
        · exact w
        · have := Srt_mono h w hi; omega
      have e3 : A i / 128 = A (2 * (i / 2)) / 128 := by
        have q1 := (hp (i / 2) (by omega)).1
        have : i = 2 * (i / 2) ∨ i = 2 * (i / 2) + 1 := by omega
        rcases this with w | w
        · rw [← w]
        · rw [q1, ← w]
      rw [← e2, e3]
      exact (ins_val hn h hp (by omega)).2 (hI (i / 2) (by omega)).1
    · rw [if_neg (show ¬ (false = true) by decide), if_pos (show (true = true) by rfl), if_pos (by decide), Option.bind_some, if_pos rfl, if_pos (by omega), if_pos rfl, if_pos (by omega), if_pos (by omega), if_pos (by omega), if_pos (by omega), Int.toNat_natCast, Int.toNat_natCast, ← r1, ← r2]
      exact step _ _ (by rw [ox, oy]; decide) (by rw [ox]; rfl) (by rw [ox]; rfl)
    · rw [if_pos (show (true = true) by rfl), if_neg (show ¬ (false = true) by decide), if_pos (by decide), Option.bind_some]
      repeat first | rw [if_neg (show ¬ (1 : Int) = 0 by decide)] | rw [if_pos (by omega)]
      simp only [Int.toNat_natCast]
      rw [← r1, ← r2]
      exact step _ _ (by rw [ox, oy]; decide) (by rw [ox]; rfl) (by rw [ox]; rfl)
    · rw [ox, oy] at iv
      rw [if_neg (by decide)]
      have brk : LM_Sh_breaks fl 2 (A (2 * e) / 128) br cu = some (0, 2, A (2 * e) / 128) := rfl
      rw [brk, Option.bind_some, if_pos (Or.inl rfl)]
      refine Or.inr ⟨_, _, _, _, _, rfl, ⟨_, s1.1, s1.2.2.1.symm⟩, fun w => (iv.1 w) rfl, fun q hq hlt => ?_⟩
      have hlt : lb q < A (2 * e) / 128 := hlt
      obtain ⟨i, hi, e1, e2⟩ := Srt_find hn h hq
      have ci : i < 2 * e := by
        rcases Nat.lt_or_ge i (2 * e) with w | w
        · exact w
        · have := Srt_mono h w hi; omega
      have e3 : A i / 128 = A (2 * (i / 2)) / 128 := by
        have q1 := (hp (i / 2) (by omega)).1
        have : i = 2 * (i / 2) ∨ i = 2 * (i / 2) + 1 := by omega
        rcases this with w | w
        · rw [← w]
        · rw [q1, ← w]
      rw [← e2, e3]
      exact (ins_val hn h hp (by omega)).2 (hI (i / 2) (by omega)).1
theorem dirs (fl : Nat) (hfl : 100 ≤ fl) {n : Nat} (hn : n ≤ 20) {sg lb A : Nat → Int} (hl : ∀ q, q < 4 * n → 0 ≤ lb q ∧ lb q ≤ 9999) (h : Srt (Keyz lb) (4 * n) A) (hp : PairsTo n A (2 * n)) (ed br cu : Int) (at_ fr nm to : Nat → Int) :
    (∃ at' fr' nm' to', LM_Sh_edgesHaveDirections fl A (n : Int) sg ed br cu at_ fr nm to = some (1, ((2 * n : Nat) : Int), br, cu, at', fr', nm', to') ∧ EdgA n sg lb nm' fr' to' at') ∨
    (∃ l at' fr' nm' to', LM_Sh_edgesHaveDirections fl A (n : Int) sg ed br cu at_ fr nm to = some (0, ed, 2, l, at', fr', nm', to') ∧ Bad2 n sg lb l) := by
  unfold LM_Sh_edgesHaveDirections LB_Sh_edgesHaveDirections_0
  exact ed2 fl hn hl h hp ed br cu (2 * n) fl 0 at_ fr nm to (by omega) (by omega) (fun b hb => by omega)
