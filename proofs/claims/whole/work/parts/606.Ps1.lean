/-- the first place from b on where p endsz -/
def scF (p : Nat → Prop) [DecidablePred p] : Nat → Nat → Nat
  | 0, b => b
  | d + 1, b => if p b then scF p d (b + 1) else b
def sc (p : Nat → Prop) [DecidablePred p] (sz b : Nat) : Nat := scF p (sz - b) b
theorem sc_t {p : Nat → Prop} [DecidablePred p] {sz : Nat} {b : Nat} (h : b < sz) (hp : p b) : sc p sz b = sc p sz (b + 1) := by
  unfold sc
  rw [show sz - b = (sz - (b + 1)) + 1 by omega]
  show (if p b then scF p (sz - (b + 1)) (b + 1) else b) = _
  rw [if_pos hp]
theorem sc_f {p : Nat → Prop} [DecidablePred p] {sz : Nat} {b : Nat} (h : sz ≤ b ∨ ¬ p b) : sc p sz b = b := by
  unfold sc
  by_cases c : sz ≤ b
  · rw [show sz - b = 0 by omega]; rfl
  · rw [show sz - b = (sz - (b + 1)) + 1 by omega]
    show (if p b then scF p (sz - (b + 1)) (b + 1) else b) = _
    rw [if_neg (h.resolve_left c)]
theorem sc_facts {p : Nat → Prop} [DecidablePred p] {sz : Nat} : ∀ (d b : Nat), b + d = sz → b ≤ sc p sz b ∧ sc p sz b ≤ sz ∧ (∀ j, b ≤ j → j < sc p sz b → p j) ∧ (sc p sz b < sz → ¬ p (sc p sz b)) := by
  intro d
  induction d with
  | zero =>
    intro b h
    rw [sc_f (Or.inl (by omega))]
    exact ⟨by omega, by omega, fun j h1 h2 => by omega, fun h1 => by omega⟩
  | succ d ih =>
    intro b h
    by_cases c : p b
    · rw [sc_t (by omega) c]
      obtain ⟨h1, h2, h3, h4⟩ := ih (b + 1) (by omega)
      refine ⟨by omega, h2, fun j g1 g2 => ?_, h4⟩
      by_cases e : j = b
      · rw [e]; exact c
      · exact h3 j (by omega) g2
    · rw [sc_f (Or.inr c)]
      exact ⟨by omega, by omega, fun j h1 h2 => by omega, fun _ => c⟩
theorem sc_ge {p : Nat → Prop} [DecidablePred p] {sz : Nat} {b : Nat} (h : b ≤ sz) : b ≤ sc p sz b := (sc_facts (sz - b) b (by omega)).1
theorem sc_le {p : Nat → Prop} [DecidablePred p] {sz : Nat} {b : Nat} (h : b ≤ sz) : sc p sz b ≤ sz := (sc_facts (sz - b) b (by omega)).2.1
theorem sc_all {p : Nat → Prop} [DecidablePred p] {sz : Nat} {b : Nat} (h : b ≤ sz) : ∀ j, b ≤ j → j < sc p sz b → p j := (sc_facts (sz - b) b (by omega)).2.2.1
theorem sc_stop {p : Nat → Prop} [DecidablePred p] {sz : Nat} {b : Nat} (h : b ≤ sz) : sc p sz b < sz → ¬ p (sc p sz b) := (sc_facts (sz - b) b (by omega)).2.2.2
abbrev isPr (x : Int) : Prop := 32 ≤ x ∧ x ≤ 126
abbrev isLe (x : Int) : Prop := (97 ≤ x ∧ x ≤ 122) ∨ (65 ≤ x ∧ x ≤ 90)
abbrev isDi (x : Int) : Prop := 48 ≤ x ∧ x ≤ 57
/-- behind spaces and a remark -/
def idl (tx : Nat → Int) (sz b : Nat) : Nat :=
  if sc (fun i => tx i = 32) sz b < sz ∧ tx (sc (fun i => tx i = 32) sz b) = 35 then sc (fun i => isPr (tx i)) sz (sc (fun i => tx i = 32) sz b) else sc (fun i => tx i = 32) sz b
theorem idl_le {tx : Nat → Int} {sz b : Nat} (h : b ≤ sz) : b ≤ idl tx sz b ∧ idl tx sz b ≤ sz := by
  have h1 := sc_ge (p := fun i => tx i = 32) h
  have h2 := sc_le (p := fun i => tx i = 32) h
  have h3 := sc_ge (p := fun i => isPr (tx i)) h2
  have h4 := sc_le (p := fun i => isPr (tx i)) h2
  unfold idl
  split <;> omega
theorem rd63 (fl : Nat) (tx : Nat → Int) {sz : Nat} (hs : sz ≤ 4000) : ∀ (d nn b : Nat), b + d = sz → d < nn → LB_Rd_skipIdle_63 fl (sz : Int) tx nn (b : Int) = some ((sc (fun i => isPr (tx i)) sz b : Nat) : Int) := by
  intro d
  induction d with
  | zero =>
    intro nn b hd hnn
    obtain ⟨nn, rfl⟩ : ∃ r, nn = r + 1 := ⟨nn - 1, by omega⟩
    rw [LB_Rd_skipIdle_63, if_pos (by omega), sc_f (Or.inl (by omega))]
  | succ d ih =>
    intro nn b hd hnn
    obtain ⟨nn, rfl⟩ : ∃ r, nn = r + 1 := ⟨nn - 1, by omega⟩
    rw [LB_Rd_skipIdle_63, if_neg (by omega), if_pos (by omega), Int.toNat_natCast]
    by_cases c1 : tx b < 32
    · rw [if_pos c1, sc_f (Or.inr (fun g => by have := g.1; omega))]
    · rw [if_neg c1]
      by_cases c2 : 126 < tx b
      · rw [if_pos c2, sc_f (Or.inr (fun g => by have := g.2; omega))]
      · rw [if_neg c2, if_pos (by omega), show ((b : Int) + 1) = ((b + 1 : Nat) : Int) by omega, ih nn (b + 1) (by omega) (by omega), ← sc_t (p := fun i => isPr (tx i)) (show b < sz by omega) ⟨by omega, by omega⟩]
theorem rd38 (fl : Nat) (hfl : 5000 ≤ fl) (tx : Nat → Int) {sz : Nat} (hs : sz ≤ 4000) {b : Nat} (hb : b ≤ sz) : LB_Rd_skipIdle_38 fl (sz : Int) tx (b : Int) = some ((if b < sz ∧ tx b = 35 then sc (fun i => isPr (tx i)) sz b else b : Nat) : Int) := by
  unfold LB_Rd_skipIdle_38
  by_cases c1 : sz ≤ b
  · rw [if_pos (by omega), if_neg (by omega)]
  · rw [if_neg (by omega), if_pos (by omega), Int.toNat_natCast]
    by_cases c2 : tx b = 35
    · rw [if_neg (fun g => g c2), rd63 fl tx hs (sz - b) fl b (by omega) (by omega), if_pos ⟨by omega, c2⟩]
    · rw [if_pos c2, if_neg (fun g => c2 g.2)]
theorem rd0 (fl : Nat) (hfl : 5000 ≤ fl) (tx : Nat → Int) {sz : Nat} (hs : sz ≤ 4000) : ∀ (d nn b : Nat), b + d = sz → d < nn → LB_Rd_skipIdle_0 fl (sz : Int) tx nn (b : Int) = some ((idl tx sz b : Nat) : Int) := by
  intro d
  have stop : ∀ b, b ≤ sz → sc (fun i => tx i = 32) sz b = b → LB_Rd_skipIdle_38 fl (sz : Int) tx (b : Int) = some ((idl tx sz b : Nat) : Int) := by
    intro b hb h
    rw [rd38 fl hfl tx hs hb]
    unfold idl
    rw [h]
  induction d with
  | zero =>
    intro nn b hd hnn
    obtain ⟨nn, rfl⟩ : ∃ r, nn = r + 1 := ⟨nn - 1, by omega⟩
    rw [LB_Rd_skipIdle_0, if_pos (by omega)]
    exact stop b (by omega) (sc_f (Or.inl (by omega)))
  | succ d ih =>
    intro nn b hd hnn
    obtain ⟨nn, rfl⟩ : ∃ r, nn = r + 1 := ⟨nn - 1, by omega⟩
    rw [LB_Rd_skipIdle_0, if_neg (by omega), if_pos (by omega), Int.toNat_natCast]
    by_cases c1 : tx b = 32
    · rw [if_neg (fun g => g c1), if_pos (by omega), show ((b : Int) + 1) = ((b + 1 : Nat) : Int) by omega, ih nn (b + 1) (by omega) (by omega)]
      unfold idl
      rw [sc_t (p := fun i => tx i = 32) (show b < sz by omega) c1]
    · rw [if_pos c1]
      exact stop b (by omega) (sc_f (Or.inr c1))
theorem C_idle (fl : Nat) (hfl : 5000 ≤ fl) (tx : Nat → Int) {sz : Nat} (hs : sz ≤ 4000) {b : Nat} (hb : b ≤ sz) : LM_Rd_skipIdle fl (sz : Int) tx (b : Int) = some ((idl tx sz b : Nat) : Int) := rd0 fl hfl tx hs (sz - b) fl b (by omega) (by omega)
theorem C_letter (fl : Nat) (x : Int) : LM_Rd_isLetter fl x = some (if isLe x then 1 else 0) := by
  unfold LM_Rd_isLetter LB_Rd_isLetter_0 LB_Rd_isLetter_12 LB_Rd_isLetter_24 isLe
  by_cases a1 : x < 97
  · rw [if_pos a1]
    by_cases a2 : x < 65
    · rw [if_pos a2, if_neg (by omega)]
    · rw [if_neg a2]
      by_cases a3 : 90 < x
      · rw [if_pos a3, if_neg (by omega)]
      · rw [if_neg a3, if_pos (by omega)]
  · rw [if_neg a1]
    by_cases a2 : x ≤ 122
    · rw [if_pos a2, if_pos (by omega)]
    · rw [if_neg a2, if_neg (by omega), if_pos (by omega), if_neg (by omega)]
theorem M_letter (fl : Nat) (x : Int) : LM_Md_isLetter fl x = some (if isLe x then 1 else 0) := by
  unfold LM_Md_isLetter LB_Md_isLetter_0 LB_Md_isLetter_12 LB_Md_isLetter_24 isLe
  by_cases a1 : x < 97
  · rw [if_pos a1]
    by_cases a2 : x < 65
    · rw [if_pos a2, if_neg (by omega)]
    · rw [if_neg a2]
      by_cases a3 : 90 < x
      · rw [if_pos a3, if_neg (by omega)]
      · rw [if_neg a3, if_pos (by omega)]
  · rw [if_neg a1]
    by_cases a2 : x ≤ 122
    · rw [if_pos a2, if_pos (by omega)]
    · rw [if_neg a2, if_neg (by omega), if_pos (by omega), if_neg (by omega)]
theorem M_digit (fl : Nat) (x : Int) : LM_Md_isDigit fl x = some (if isDi x then 1 else 0) := by
  unfold LM_Md_isDigit LB_Md_isDigit_0 isDi
  by_cases a1 : x < 48
  · rw [if_pos a1, if_neg (by omega)]
  · rw [if_neg a1]
    by_cases a2 : 57 < x
    · rw [if_pos a2, if_neg (by omega)]
    · rw [if_neg a2, if_pos (by omega)]
/-- the value of digits from p on -/
def dvl (tx : Nat → Int) (p : Nat) : Nat → Int
  | 0 => 0
  | k + 1 => 10 * dvl tx p k + (tx (p + k) - 48)
theorem dvl_b {tx : Nat → Int} {p : Nat} : ∀ k, (∀ j, j < k → isDi (tx (p + j))) → 0 ≤ dvl tx p k ∧ dvl tx p k < ((10 ^ k : Nat) : Int) := by
  intro k
  induction k with
  | zero => intro _; exact ⟨by show (0 : Int) ≤ 0; omega, by show (0 : Int) < 1; omega⟩
  | succ k ih =>
    intro h
    have h1 := ih (fun j hj => h j (by omega))
    have h2 := h k (by omega)
    have e : ((10 ^ (k + 1) : Nat) : Int) = 10 * ((10 ^ k : Nat) : Int) := by rw [Nat.pow_succ]; omega
    show 0 ≤ 10 * dvl tx p k + (tx (p + k) - 48) ∧ 10 * dvl tx p k + (tx (p + k) - 48) < _
    rw [e]
    unfold isDi at h2
    omega
theorem pow18 {k : Nat} (h : k ≤ 18) : ((10 ^ k : Nat) : Int) ≤ 1000000000000000000 := by
  have : 10 ^ k ≤ 10 ^ 18 := Nat.pow_le_pow_right (by omega) h
  have e : (10 : Nat) ^ 18 = 1000000000000000000 := by decide
  omega
/-- whether a number has a bad form -/
def misF (tx : Nat → Int) (p b : Nat) : Int := if 18 < b - p then 1 else if 1 < b - p ∧ tx p = 48 then 1 else 0
theorem td98 (fl : Nat) (tx : Nat → Int) {sz p b : Nat} (hb : p < b ∧ b ≤ 4000) (va mi : Int) : LB_Rd_takeDigits_98 fl (sz : Int) (p : Int) tx (tx p - 48) (b : Int) va mi = some ((b : Int), va, misF tx p b) := by
  unfold LB_Rd_takeDigits_98 LB_Rd_takeDigits_124 LB_Rd_takeDigits_128 LB_Rd_takeDigits_129 misF
  rw [if_pos (by omega)]
  by_cases c1 : 18 < b - p
  · rw [if_pos (by omega), if_pos (by omega), if_pos c1]
  · rw [if_neg (by omega), if_neg c1]
    by_cases c2 : b - p ≤ 1
    · rw [if_pos (by omega), if_pos (by omega), if_neg (by omega)]
    · rw [if_neg (by omega)]
      by_cases c3 : tx p = 48
      · rw [if_neg (by omega), if_pos (by omega), if_pos (by omega)]
      · rw [if_pos (by omega), if_pos (by omega), if_neg (by omega)]
theorem td6 (fl : Nat) (tx : Nat → Int) {sz p : Nat} (hs : sz ≤ 4000) : ∀ (d nn b : Nat) (mi : Int), b + d = sz → d < nn → p < b → (∀ j, p ≤ j → j < b → isDi (tx j)) →
    LB_Rd_takeDigits_6 fl (sz : Int) (p : Int) tx nn (tx p - 48) (b : Int) (dvl tx p (min (b - p) 18)) mi = some (((sc (fun i => isDi (tx i)) sz b : Nat) : Int), dvl tx p (min (sc (fun i => isDi (tx i)) sz b - p) 18), misF tx p (sc (fun i => isDi (tx i)) sz b)) := by
  intro d
  have stop : ∀ b mi, p < b → b ≤ sz → sc (fun i => isDi (tx i)) sz b = b → LB_Rd_takeDigits_98 fl (sz : Int) (p : Int) tx (tx p - 48) (b : Int) (dvl tx p (min (b - p) 18)) mi = some (((sc (fun i => isDi (tx i)) sz b : Nat) : Int), dvl tx p (min (sc (fun i => isDi (tx i)) sz b - p) 18), misF tx p (sc (fun i => isDi (tx i)) sz b)) := by
    intro b mi h1 h2 h
    rw [h]
    exact td98 fl tx ⟨h1, by omega⟩ _ _
  induction d with
  | zero =>
    intro nn b mi hd hnn hp hall
    obtain ⟨nn, rfl⟩ : ∃ r, nn = r + 1 := ⟨nn - 1, by omega⟩
    rw [LB_Rd_takeDigits_6, if_pos (by omega)]
    exact stop b mi hp (by omega) (sc_f (Or.inl (by omega)))
  | succ d ih =>
    intro nn b mi hd hnn hp hall
    obtain ⟨nn, rfl⟩ : ∃ r, nn = r + 1 := ⟨nn - 1, by omega⟩
    rw [LB_Rd_takeDigits_6, if_neg (by omega), if_pos (by omega), Int.toNat_natCast]
    by_cases c1 : tx b < 48
    · rw [if_pos c1]
      exact stop b mi hp (by omega) (sc_f (Or.inr (fun g => by have := g.1; omega)))
    · rw [if_neg c1]
      by_cases c2 : 57 < tx b
      · rw [if_pos c2]
        exact stop b mi hp (by omega) (sc_f (Or.inr (fun g => by have := g.2; omega)))
      · rw [if_neg c2, if_pos (by omega)]
        have step : ∀ va, va = dvl tx p (min (b + 1 - p) 18) → LB_Rd_takeDigits_85 fl (sz : Int) (p : Int) tx (LB_Rd_takeDigits_6 fl (sz : Int) (p : Int) tx nn) (tx p - 48) (b : Int) va mi = some (((sc (fun i => isDi (tx i)) sz b : Nat) : Int), dvl tx p (min (sc (fun i => isDi (tx i)) sz b - p) 18), misF tx p (sc (fun i => isDi (tx i)) sz b)) := by
          intro va hva
          unfold LB_Rd_takeDigits_85
          rw [if_pos (by omega), hva, show ((b : Int) + 1) = ((b + 1 : Nat) : Int) by omega, ih nn (b + 1) mi (by omega) (by omega) (by omega) (fun j h1 h2 => by
            by_cases e : j = b
            · rw [e]; exact ⟨by omega, by omega⟩
            · exact hall j h1 (by omega)), ← sc_t (p := fun i => isDi (tx i)) (show b < sz by omega) ⟨by omega, by omega⟩]
        by_cases c3 : 18 ≤ b - p
        · rw [if_pos (by omega)]
          exact step _ (by rw [show min (b - p) 18 = min (b + 1 - p) 18 by omega])
        · have e1 : min (b - p) 18 = b - p := by omega
          have e2 : min (b + 1 - p) 18 = (b - p) + 1 := by omega
          have hb1 := dvl_b (tx := tx) (p := p) (b - p) (fun j hj => hall (p + j) (by omega) (by omega))
          have hb2 := pow18 (k := b - p) (by omega)
          have hb3 : ((10 ^ (b - p) : Nat) : Int) ≤ 100000000000000000 := by
            have : 10 ^ (b - p) ≤ 10 ^ 17 := Nat.pow_le_pow_right (by omega) (by omega)
            have e : (10 : Nat) ^ 17 = 100000000000000000 := by decide
            omega
          rw [if_neg (by omega), e1, if_pos (by omega)]
          refine step _ ?_
          rw [e2]
          show _ = 10 * dvl tx p (b - p) + (tx (p + (b - p)) - 48)
          rw [show p + (b - p) = b by omega]
theorem adv70 (fl : Nat) (tx : Nat → Int) {sz : Nat} (hs : sz ≤ 4000) (x1 tk pl va mi : Int) : ∀ (d nn b : Nat), b + d = sz → d < nn → LB_Rd_advance_70 fl (sz : Int) tx nn x1 (b : Int) tk pl va mi = some (((sc (fun i => isLe (tx i)) sz b : Nat) : Int), tk, pl, va, mi) := by
  intro d
  induction d with
  | zero =>
    intro nn b hd hnn
    obtain ⟨nn, rfl⟩ : ∃ r, nn = r + 1 := ⟨nn - 1, by omega⟩
    rw [LB_Rd_advance_70, if_pos (by omega), sc_f (Or.inl (by omega))]
  | succ d ih =>
    intro nn b hd hnn
    obtain ⟨nn, rfl⟩ : ∃ r, nn = r + 1 := ⟨nn - 1, by omega⟩
    rw [LB_Rd_advance_70, if_neg (by omega), if_pos (by omega), Int.toNat_natCast, C_letter fl, Option.bind_some]
    by_cases c : isLe (tx b)
    · rw [if_pos c, if_neg (by omega), if_pos (by omega), show ((b : Int) + 1) = ((b + 1 : Nat) : Int) by omega, ih nn (b + 1) (by omega) (by omega), ← sc_t (p := fun i => isLe (tx i)) (show b < sz by omega) c]
    · rw [if_neg c, if_pos rfl, sc_f (Or.inr c)]
/-- what kind a token is: 0 end, 1 stray, 2 word, 3 digits, 4 mark -/
def tkK (tx : Nat → Int) (sz p : Nat) : Int := if sz ≤ p then 0 else if tx p = 10 then 0 else if ¬ isPr (tx p) then 1 else if isLe (tx p) then 2 else if isDi (tx p) then 3 else 4
def tkE (tx : Nat → Int) (sz p : Nat) : Nat := if tkK tx sz p = 0 then p else if tkK tx sz p = 2 then sc (fun i => isLe (tx i)) sz (p + 1) else if tkK tx sz p = 3 then sc (fun i => isDi (tx i)) sz (p + 1) else p + 1
def tkV (tx : Nat → Int) (sz p : Nat) (va mi : Int) : Prop := (tkK tx sz p = 3 → va = dvl tx p (min (tkE tx sz p - p) 18) ∧ mi = misF tx p (tkE tx sz p)) ∧ (tkK tx sz p = 4 → va = tx p)
theorem C_adv (fl : Nat) (hfl : 5000 ≤ fl) (tx : Nat → Int) {sz : Nat} (hs : sz ≤ 4000) {b : Nat} (hb : b ≤ sz) (tk pl va mi : Int) :
    ∃ va' mi', LM_Rd_advance fl (sz : Int) tx (b : Int) tk pl va mi = some (((tkE tx sz (idl tx sz b) : Nat) : Int), tkK tx sz (idl tx sz b), ((idl tx sz b : Nat) : Int), va', mi') ∧ tkV tx sz (idl tx sz b) va' mi' := by
  have hi := idl_le (tx := tx) hb
  unfold LM_Rd_advance LB_Rd_advance_0
  rw [C_idle fl hfl tx hs hb, Option.bind_some]
  obtain ⟨q, hq⟩ : ∃ q, idl tx sz b = q := ⟨_, rfl⟩
  rw [hq] at hi ⊢
  unfold LM_Rd_byteAt LB_Rd_byteAt_0
  rw [if_neg (by omega)]
  by_cases c0 : sz ≤ q
  · have ek : tkK tx sz q = 0 := by unfold tkK; rw [if_pos c0]
    have ee : tkE tx sz q = q := by unfold tkE; rw [if_pos ek]
    rw [if_pos (by omega), Option.bind_some, if_neg (by omega), ek, ee]
    refine ⟨va, mi, rfl, ?_⟩
    unfold tkV
    rw [ek]
    exact ⟨fun g => absurd g (by decide), fun g => absurd g (by decide)⟩
  · rw [if_neg (by omega), if_pos (by omega), Option.bind_some, Int.toNat_natCast]
    by_cases c1 : tx q = 10
    · have ek : tkK tx sz q = 0 := by unfold tkK; rw [if_neg c0, if_pos c1]
      have ee : tkE tx sz q = q := by unfold tkE; rw [if_pos ek]
      rw [if_neg (fun g => g c1), ek, ee]
      refine ⟨va, mi, rfl, ?_⟩
      unfold tkV
      rw [ek]
      exact ⟨fun g => absurd g (by decide), fun g => absurd g (by decide)⟩
    · rw [if_pos c1]
      have es : LM_Rd_isStray fl (tx q) = some (if isPr (tx q) then 0 else 1) := by
        unfold LM_Rd_isStray LB_Rd_isStray_0 LB_Rd_isStray_12 isPr
        by_cases a1 : tx q < 32
        · rw [if_pos a1, if_neg (by omega)]
        · rw [if_neg a1]
          by_cases a2 : tx q ≤ 126
          · rw [if_pos a2, if_pos (by omega)]
          · rw [if_neg a2, if_neg (by omega)]
      rw [es, Option.bind_some]
      by_cases c2 : isPr (tx q)
      · rw [if_pos c2, if_pos rfl, C_letter fl, Option.bind_some]
        by_cases c3 : isLe (tx q)
        · have ek : tkK tx sz q = 2 := by unfold tkK; rw [if_neg c0, if_neg c1, if_neg (fun g => g c2), if_pos c3]
          have ee : tkE tx sz q = sc (fun i => isLe (tx i)) sz (q + 1) := by unfold tkE; rw [ek, if_neg (by omega), if_pos rfl]
          rw [if_pos c3, if_neg (by omega), if_pos (by omega), show ((q : Int) + 1) = ((q + 1 : Nat) : Int) by omega, adv70 fl tx hs _ _ _ _ _ (sz - (q + 1)) fl (q + 1) (by omega) (by omega), ek, ee]
          refine ⟨va, mi, rfl, ?_⟩
          unfold tkV
          rw [ek]
          exact ⟨fun g => absurd g (by decide), fun g => absurd g (by decide)⟩
        · rw [if_neg c3, if_pos rfl]
          by_cases c4 : isDi (tx q)
          · have ek : tkK tx sz q = 3 := by unfold tkK; rw [if_neg c0, if_neg c1, if_neg (fun g => g c2), if_neg c3, if_pos c4]
            have ee : tkE tx sz q = sc (fun i => isDi (tx i)) sz (q + 1) := by unfold tkE; rw [ek, if_neg (by omega), if_neg (by omega), if_pos rfl]
            have c5 := c4.1
            have c6 := c4.2
            rw [if_neg (by omega), if_neg (by omega), if_pos (by omega), show ((q : Int) + 1) = ((q + 1 : Nat) : Int) by omega]
            unfold LM_Rd_takeDigits LB_Rd_takeDigits_0
            have e1 : tx q - 48 = dvl tx q (min (q + 1 - q) 18) := by
              rw [show min (q + 1 - q) 18 = 1 by omega]
              show _ = 10 * (0 : Int) + (tx (q + 0) - 48)
              rw [Nat.add_zero]; omega
            have := td6 fl tx (p := q) hs (sz - (q + 1)) fl (q + 1) mi (by omega) (by omega) (by omega) (fun j h1 h2 => by rw [show j = q by omega]; exact c4)
            rw [← e1] at this
            rw [this, Option.bind_some, ek, ee]
            refine ⟨_, _, rfl, ?_⟩
            unfold tkV
            rw [ek, ee]
            exact ⟨fun _ => ⟨rfl, rfl⟩, fun g => absurd g (by decide)⟩
          · have ek : tkK tx sz q = 4 := by unfold tkK; rw [if_neg c0, if_neg c1, if_neg (fun g => g c2), if_neg c3, if_neg c4]
            have ee : tkE tx sz q = q + 1 := by unfold tkE; rw [ek, if_neg (by omega), if_neg (by omega), if_neg (by omega)]
            have key : LB_Rd_advance_137 fl (sz : Int) tx (tx q) ((q : Int) + 1) tk (q : Int) va mi = some (((tkE tx sz q : Nat) : Int), tkK tx sz q, (q : Int), tx q, mi) := by
              unfold LB_Rd_advance_137
              rw [ek, ee, show ((q : Int) + 1) = ((q + 1 : Nat) : Int) by omega]
            refine ⟨tx q, mi, ?_, ?_⟩
            · by_cases c5 : tx q < 48
              · rw [if_pos c5, if_pos (by omega)]; exact key
              · rw [if_neg c5, if_pos (by unfold isDi at c4; omega), if_pos (by omega)]; exact key
            · unfold tkV
              rw [ek]
              exact ⟨fun g => absurd g (by decide), fun _ => rfl⟩
      · have ek : tkK tx sz q = 1 := by unfold tkK; rw [if_neg c0, if_neg c1, if_pos c2]
        have ee : tkE tx sz q = q + 1 := by unfold tkE; rw [ek, if_neg (by omega), if_neg (by omega), if_neg (by omega)]
        rw [if_neg c2, if_neg (by omega), if_pos (by omega), ek, ee, show ((q : Int) + 1) = ((q + 1 : Nat) : Int) by omega]
        refine ⟨va, mi, rfl, ?_⟩
        unfold tkV
        rw [ek]
        exact ⟨fun g => absurd g (by decide), fun g => absurd g (by decide)⟩
