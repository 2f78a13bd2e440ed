/-- a token's kind in the reference -/
def tkM (k : Int) : Int := if k ≤ 1 then 0 else k - 1
def lkR (ty : Nat → Int) (sz q : Nat) (fr pl : Int) : Option (Int × Int × Int × Int × Int) := if tkK ty sz q = 1 then some ((q : Int), 0, fr, 1, (q : Int)) else some (((tkE ty sz q : Nat) : Int), tkM (tkK ty sz q), (q : Int), 0, pl)
theorem lk197a (fl : Nat) (ty : Nat → Int) {sz : Nat} (hs : sz ≤ 4000) (x1 x2 fr fa pl : Int) : ∀ (d nn b : Nat), b + d = sz → d < nn → LB_Md_look_197 fl (sz : Int) ty nn x1 x2 (b : Int) 1 fr fa pl = some (((sc (fun i => isLe (ty i)) sz b : Nat) : Int), 1, fr, fa, pl) := by
  intro d
  induction d with
  | zero =>
    intro nn b hd hnn
    obtain ⟨nn, rfl⟩ : ∃ r, nn = r + 1 := ⟨nn - 1, by omega⟩
    rw [LB_Md_look_197, if_pos (by omega), sc_f (Or.inl (by omega))]
  | succ d ih =>
    intro nn b hd hnn
    obtain ⟨nn, rfl⟩ : ∃ r, nn = r + 1 := ⟨nn - 1, by omega⟩
    rw [LB_Md_look_197, if_neg (by omega), if_neg (by omega), if_pos (by omega), Int.toNat_natCast, M_letter fl, Option.bind_some]
    by_cases c : isLe (ty b)
    · rw [if_pos c, if_pos (by omega)]
      unfold LB_Md_look_254
      rw [if_pos (by omega), show ((b : Int) + 1) = ((b + 1 : Nat) : Int) by omega, ih nn (b + 1) (by omega) (by omega), ← sc_t (p := fun i => isLe (ty i)) (show b < sz by omega) c]
    · rw [if_neg c, if_neg (by omega)]
      unfold LB_Md_look_231
      rw [if_pos (by omega), sc_f (Or.inr c)]
theorem lk197b (fl : Nat) (ty : Nat → Int) {sz : Nat} (hs : sz ≤ 4000) (x1 x2 fr fa pl : Int) : ∀ (d nn b : Nat), b + d = sz → d < nn → LB_Md_look_197 fl (sz : Int) ty nn x1 x2 (b : Int) 2 fr fa pl = some (((sc (fun i => isDi (ty i)) sz b : Nat) : Int), 2, fr, fa, pl) := by
  intro d
  induction d with
  | zero =>
    intro nn b hd hnn
    obtain ⟨nn, rfl⟩ : ∃ r, nn = r + 1 := ⟨nn - 1, by omega⟩
    rw [LB_Md_look_197, if_pos (by omega), sc_f (Or.inl (by omega))]
  | succ d ih =>
    intro nn b hd hnn
    obtain ⟨nn, rfl⟩ : ∃ r, nn = r + 1 := ⟨nn - 1, by omega⟩
    rw [LB_Md_look_197, if_neg (by omega), if_pos (by omega)]
    unfold LB_Md_look_231
    rw [if_neg (by omega), if_pos (by omega), Int.toNat_natCast, M_digit fl, Option.bind_some]
    by_cases c : isDi (ty b)
    · rw [if_pos c, if_neg (by omega)]
      unfold LB_Md_look_254
      rw [if_pos (by omega), show ((b : Int) + 1) = ((b + 1 : Nat) : Int) by omega, ih nn (b + 1) (by omega) (by omega), ← sc_t (p := fun i => isDi (ty i)) (show b < sz by omega) c]
    · rw [if_neg c, if_pos rfl, sc_f (Or.inr c)]
theorem lk197c (fl : Nat) (ty : Nat → Int) {sz : Nat} (x1 x2 fr fa pl : Int) {nn : Nat} (hn : 1 ≤ nn) (b : Int) : LB_Md_look_197 fl (sz : Int) ty nn x1 x2 b 3 fr fa pl = some (b, 3, fr, fa, pl) := by
  obtain ⟨nn, rfl⟩ : ∃ r, nn = r + 1 := ⟨nn - 1, by omega⟩
  rw [LB_Md_look_197]
  by_cases c : (sz : Int) ≤ b
  · rw [if_pos c]
  · rw [if_neg c, if_pos (by omega)]
    unfold LB_Md_look_231
    rw [if_pos (by omega)]
/-- a token found at q -/
theorem lk131 (fl : Nat) (hfl : 5000 ≤ fl) (ty : Nat → Int) {sz : Nat} (hs : sz ≤ 4000) {q : Nat} (hq : q < sz) (h1 : ty q ≠ 10) (h2 : isPr (ty q)) (x1 fr fr' tk pl : Int) : LB_Md_look_131 fl (sz : Int) ty x1 1 (q : Int) tk fr 0 pl = lkR ty sz q fr' pl := by
  unfold LB_Md_look_131 LB_Md_look_184
  rw [if_pos (by omega), if_pos (by omega), Int.toNat_natCast, M_letter fl, Option.bind_some]
  have c0 : ¬ sz ≤ q := by omega
  unfold lkR
  by_cases c3 : isLe (ty q)
  · have ek : tkK ty sz q = 2 := by unfold tkK; rw [if_neg c0, if_neg h1, if_neg (fun g => g h2), if_pos c3]
    have ee : tkE ty sz q = sc (fun i => isLe (ty i)) sz (q + 1) := by unfold tkE; rw [ek, if_neg (by omega), if_pos rfl]
    rw [if_pos c3, if_neg (by omega), if_pos (by omega), show ((q : Int) + 1) = ((q + 1 : Nat) : Int) by omega, lk197a fl ty hs _ _ _ _ _ (sz - (q + 1)) fl (q + 1) (by omega) (by omega), ek, ee, if_neg (by omega)]
    rfl
  · rw [if_neg c3, if_pos rfl, M_digit fl, Option.bind_some]
    by_cases c4 : isDi (ty q)
    · have ek : tkK ty sz q = 3 := by unfold tkK; rw [if_neg c0, if_neg h1, if_neg (fun g => g h2), if_neg c3, if_pos c4]
      have ee : tkE ty sz q = sc (fun i => isDi (ty i)) sz (q + 1) := by unfold tkE; rw [ek, if_neg (by omega), if_neg (by omega), if_pos rfl]
      rw [if_pos c4, if_neg (by omega), if_pos (by omega), show ((q : Int) + 1) = ((q + 1 : Nat) : Int) by omega, lk197b fl ty hs _ _ _ _ _ (sz - (q + 1)) fl (q + 1) (by omega) (by omega), ek, ee, if_neg (by omega)]
      rfl
    · have ek : tkK ty sz q = 4 := by unfold tkK; rw [if_neg c0, if_neg h1, if_neg (fun g => g h2), if_neg c3, if_neg c4]
      have ee : tkE ty sz q = q + 1 := by unfold tkE; rw [ek, if_neg (by omega), if_neg (by omega), if_neg (by omega)]
      rw [if_neg c4, if_pos rfl, if_pos (by omega), lk197c fl ty _ _ _ _ _ (by omega), ek, ee, if_neg (by omega), show ((q : Int) + 1) = ((q + 1 : Nat) : Int) by omega]
      rfl
/-- no token at q -/
theorem lk131n (fl : Nat) (ty : Nat → Int) {sz q : Nat} (h : sz ≤ q ∨ ty q = 10) (x1 fr pl : Int) : LB_Md_look_131 fl (sz : Int) ty x1 0 (q : Int) 0 fr 0 pl = lkR ty sz q fr pl := by
  have ek : tkK ty sz q = 0 := by
    unfold tkK
    by_cases c : sz ≤ q
    · rw [if_pos c]
    · rw [if_neg c, if_pos (h.resolve_left c)]
  have ee : tkE ty sz q = q := by unfold tkE; rw [if_pos ek]
  unfold LB_Md_look_131 lkR
  rw [if_neg (by omega), ek, ee, if_neg (by omega)]
  rfl
theorem lk68 (fl : Nat) (ty : Nat → Int) {sz q : Nat} (hq : q < sz) (h1 : ty q ≠ 10) (h2 : ¬ isPr (ty q)) (x1 x2 x3 fr pl : Int) : LB_Md_look_68 fl (sz : Int) ty x1 x2 x3 (q : Int) 0 fr 0 pl = lkR ty sz q fr pl := by
  have ek : tkK ty sz q = 1 := by unfold tkK; rw [if_neg (by omega), if_neg h1, if_pos h2]
  unfold LB_Md_look_68 lkR LM_Md_fail LB_Md_fail_0
  rw [if_pos rfl, Option.bind_some, if_pos ek]
theorem lk17c (fl : Nat) (ty : Nat → Int) {sz : Nat} (hs : sz ≤ 4000) (fr pl : Int) : ∀ (d nn b : Nat), b + d = sz → d < nn → LB_Md_look_17 fl (sz : Int) ty nn 1 0 (b : Int) 0 fr 0 pl = lkR ty sz (sc (fun i => isPr (ty i)) sz b) fr pl := by
  intro d
  induction d with
  | zero =>
    intro nn b hd hnn
    obtain ⟨nn, rfl⟩ : ∃ r, nn = r + 1 := ⟨nn - 1, by omega⟩
    rw [LB_Md_look_17, if_pos (by omega), sc_f (Or.inl (by omega))]
    exact lk131n fl ty (Or.inl (by omega)) _ _ _
  | succ d ih =>
    intro nn b hd hnn
    obtain ⟨nn, rfl⟩ : ∃ r, nn = r + 1 := ⟨nn - 1, by omega⟩
    rw [LB_Md_look_17, if_neg (by omega), if_pos (by omega), Int.toNat_natCast]
    by_cases c1 : ty b = 10
    · rw [if_pos c1, sc_f (Or.inr (fun g => by have := g.1; omega))]
      exact lk131n fl ty (Or.inr c1) _ _ _
    · rw [if_neg c1, if_neg (by omega)]
      by_cases c2 : ty b < 32
      · rw [if_pos c2, sc_f (Or.inr (fun g => by have := g.1; omega))]
        exact lk68 fl ty (by omega) c1 (fun g => by have := g.1; omega) _ _ _ _ _
      · rw [if_neg c2]
        by_cases c3 : ty b ≤ 126
        · rw [if_pos c3, if_pos (by omega)]
          unfold LB_Md_look_88 LB_Md_look_93 LB_Md_look_108 LB_Md_look_109 LB_Md_look_124
          rw [if_pos (by omega), if_pos rfl, if_pos (by omega), show ((b : Int) + 1) = ((b + 1 : Nat) : Int) by omega, ih nn (b + 1) (by omega) (by omega), ← sc_t (p := fun i => isPr (ty i)) (show b < sz by omega) ⟨by omega, by omega⟩]
        · rw [if_neg c3, sc_f (Or.inr (fun g => by have := g.2; omega))]
          exact lk68 fl ty (by omega) c1 (fun g => by have := g.2; omega) _ _ _ _ _
theorem lk17 (fl : Nat) (hfl : 5000 ≤ fl) (ty : Nat → Int) {sz : Nat} (hs : sz ≤ 4000) (fr pl : Int) : ∀ (d nn b : Nat), b + d = sz → d + 2 < nn → LB_Md_look_17 fl (sz : Int) ty nn 0 0 (b : Int) 0 fr 0 pl = lkR ty sz (idl ty sz b) fr pl := by
  intro d
  induction d with
  | zero =>
    intro nn b hd hnn
    obtain ⟨nn, rfl⟩ : ∃ r, nn = r + 1 := ⟨nn - 1, by omega⟩
    have e : idl ty sz b = b := by unfold idl; rw [sc_f (Or.inl (by omega)), if_neg (by omega)]
    rw [LB_Md_look_17, if_pos (by omega), e]
    exact lk131n fl ty (Or.inl (by omega)) _ _ _
  | succ d ih =>
    intro nn b hd hnn
    obtain ⟨nn, rfl⟩ : ∃ r, nn = r + 1 := ⟨nn - 1, by omega⟩
    have es : ty b ≠ 32 → sc (fun i => ty i = 32) sz b = b := fun g => sc_f (Or.inr g)
    have e1 : ty b ≠ 32 → ty b ≠ 35 → idl ty sz b = b := fun g g2 => by unfold idl; rw [es g, if_neg (fun x => g2 x.2)]
    rw [LB_Md_look_17, if_neg (by omega), if_pos (by omega), Int.toNat_natCast]
    by_cases c1 : ty b = 10
    · rw [if_pos c1, e1 (by omega) (by omega)]
      exact lk131n fl ty (Or.inr c1) _ _ _
    · rw [if_neg c1, if_neg (by omega)]
      by_cases c2 : ty b < 32
      · rw [if_pos c2, e1 (by omega) (by omega)]
        exact lk68 fl ty (by omega) c1 (fun g => by have := g.1; omega) _ _ _ _ _
      · rw [if_neg c2]
        by_cases c3 : ty b ≤ 126
        · rw [if_pos c3, if_neg (by omega)]
          by_cases c4 : ty b = 35
          · rw [if_neg (fun g => g c4)]
            have e2 : idl ty sz b = sc (fun i => isPr (ty i)) sz (b + 1) := by
              unfold idl
              rw [es (by omega), if_pos ⟨by omega, c4⟩, sc_t (p := fun i => isPr (ty i)) (show b < sz by omega) ⟨by omega, by omega⟩]
            unfold LB_Md_look_88 LB_Md_look_93 LB_Md_look_108 LB_Md_look_109 LB_Md_look_124
            rw [if_pos (by omega), if_pos rfl, if_pos (by omega), show ((b : Int) + 1) = ((b + 1 : Nat) : Int) by omega, lk17c fl ty hs _ _ (sz - (b + 1)) nn (b + 1) (by omega) (by omega), e2]
          · rw [if_pos c4]
            unfold LB_Md_look_93 LB_Md_look_108 LB_Md_look_109 LB_Md_look_124
            rw [if_neg (by omega)]
            by_cases c5 : ty b = 32
            · rw [if_pos c5, if_pos rfl, if_pos (by omega), show ((b : Int) + 1) = ((b + 1 : Nat) : Int) by omega, ih nn (b + 1) (by omega) (by omega)]
              unfold idl
              rw [sc_t (p := fun i => ty i = 32) (show b < sz by omega) c5]
            · rw [if_neg c5, if_neg (by omega), if_pos (by omega), Int.add_zero, e1 c5 c4]
              obtain ⟨nn, rfl⟩ : ∃ r, nn = r + 1 := ⟨nn - 1, by omega⟩
              rw [LB_Md_look_17, if_neg (by omega), if_pos (by omega), Int.toNat_natCast, if_neg c1, if_pos (by omega)]
              exact lk131 fl hfl ty hs (by omega) c1 ⟨by omega, c3⟩ _ _ _ _ _
        · rw [if_neg c3, e1 (by omega) (by omega)]
          exact lk68 fl ty (by omega) c1 (fun g => by have := g.2; omega) _ _ _ _ _
theorem M_look (fl : Nat) (hfl : 5000 ≤ fl) (ty : Nat → Int) {sz : Nat} (hs : sz ≤ 4000) {b : Nat} (hb : b ≤ sz) (tk fr pl : Int) : LM_Md_look fl (sz : Int) ty (b : Int) tk fr 0 pl = lkR ty sz (idl ty sz b) fr pl := by
  unfold LM_Md_look LB_Md_look_0
  rw [if_pos rfl]
  exact lk17 fl hfl ty hs fr pl (sz - b) fl b (by omega) (by omega)
theorem M_lookF (fl : Nat) (ty : Nat → Int) (sz at_ tk fr pl : Int) {fa : Int} (h : fa ≠ 0) : LM_Md_look fl sz ty at_ tk fr fa pl = some (at_, 0, fr, fa, pl) := by
  unfold LM_Md_look LB_Md_look_0
  rw [if_neg h]
/-- the two texts: bytes without and with a sign -/
def TXT (tx ty : Nat → Int) (sz : Nat) : Prop := ∀ i, i < sz → (ty i = tx i ∧ 0 ≤ tx i ∧ tx i < 128) ∨ (128 ≤ tx i ∧ ty i < 0)
theorem sc_congr {p q : Nat → Prop} [DecidablePred p] [DecidablePred q] {sz : Nat} (h : ∀ i, i < sz → (p i ↔ q i)) : ∀ (d b : Nat), b + d = sz → sc p sz b = sc q sz b := by
  intro d
  induction d with
  | zero => intro b hd; rw [sc_f (Or.inl (by omega)), sc_f (Or.inl (by omega))]
  | succ d ih =>
    intro b hd
    by_cases c : p b
    · rw [sc_t (by omega) c, sc_t (by omega) ((h b (by omega)).1 c), ih (b + 1) (by omega)]
    · rw [sc_f (Or.inr c), sc_f (Or.inr (fun g => c ((h b (by omega)).2 g)))]
theorem tx_idl {tx ty : Nat → Int} {sz : Nat} (h : TXT tx ty sz) {b : Nat} (hb : b ≤ sz) : idl ty sz b = idl tx sz b := by
  unfold idl
  have e1 : sc (fun i => ty i = 32) sz b = sc (fun i => tx i = 32) sz b := sc_congr (fun i hi => by have := h i hi; constructor <;> intro g <;> omega) (sz - b) b (by omega)
  rw [e1]
  have hl := sc_le (p := fun i => tx i = 32) hb
  obtain ⟨q, hq⟩ : ∃ q, sc (fun i => tx i = 32) sz b = q := ⟨_, rfl⟩
  rw [hq] at hl ⊢
  have e2 : sc (fun i => isPr (ty i)) sz q = sc (fun i => isPr (tx i)) sz q := sc_congr (fun i hi => by have := h i hi; unfold isPr; constructor <;> intro g <;> omega) (sz - q) q (by omega)
  rw [e2]
  by_cases c : q < sz ∧ tx q = 35
  · have := h q c.1
    rw [if_pos c, if_pos ⟨c.1, by omega⟩]
  · rw [if_neg c, if_neg (fun g => c ⟨g.1, by have := h q g.1; omega⟩)]
theorem tx_tkK {tx ty : Nat → Int} {sz : Nat} (h : TXT tx ty sz) (q : Nat) : tkK ty sz q = tkK tx sz q := by
  unfold tkK
  by_cases c : sz ≤ q
  · rw [if_pos c, if_pos c]
  · have g := h q (by omega)
    rw [if_neg c, if_neg c]
    rcases g with ⟨g1, g2, g3⟩ | ⟨g1, g2⟩
    · rw [g1]
    · rw [if_neg (show ¬ ty q = 10 by omega), if_neg (show ¬ tx q = 10 by omega), if_pos (show ¬ isPr (ty q) from fun g => by have := g.1; omega), if_pos (show ¬ isPr (tx q) from fun g => by have := g.2; omega)]
theorem tx_tkE {tx ty : Nat → Int} {sz : Nat} (h : TXT tx ty sz) (q : Nat) : tkE ty sz q = tkE tx sz q := by
  unfold tkE
  rw [tx_tkK h]
  by_cases c : sz ≤ q
  · have : tkK tx sz q = 0 := by unfold tkK; rw [if_pos c]
    rw [if_pos this, if_pos this]
  · rw [sc_congr (p := fun i => isLe (ty i)) (q := fun i => isLe (tx i)) (fun i hi => by have := h i hi; unfold isLe; constructor <;> intro g <;> omega) (sz - (q + 1)) (q + 1) (by omega)]
    rw [sc_congr (p := fun i => isDi (ty i)) (q := fun i => isDi (tx i)) (fun i hi => by have := h i hi; unfold isDi; constructor <;> intro g <;> omega) (sz - (q + 1)) (q + 1) (by omega)]
theorem tkE_b {tx : Nat → Int} {sz q : Nat} (h : q ≤ sz) : q ≤ tkE tx sz q ∧ tkE tx sz q ≤ sz ∧ (tkK tx sz q ≠ 0 → q < tkE tx sz q) := by
  unfold tkE
  by_cases c : sz ≤ q
  · have : tkK tx sz q = 0 := by unfold tkK; rw [if_pos c]
    rw [if_pos this]
    exact ⟨by omega, by omega, fun g => absurd this g⟩
  · have a1 := sc_ge (p := fun i => isLe (tx i)) (show q + 1 ≤ sz by omega)
    have a2 := sc_le (p := fun i => isLe (tx i)) (show q + 1 ≤ sz by omega)
    have a3 := sc_ge (p := fun i => isDi (tx i)) (show q + 1 ≤ sz by omega)
    have a4 := sc_le (p := fun i => isDi (tx i)) (show q + 1 ≤ sz by omega)
    split
    · exact ⟨by omega, by omega, fun g => absurd (by assumption) g⟩
    · split
      · exact ⟨by omega, by omega, fun _ => by omega⟩
      · split
        · exact ⟨by omega, by omega, fun _ => by omega⟩
        · exact ⟨by omega, by omega, fun _ => by omega⟩
theorem tk_lt {tx : Nat → Int} {sz q : Nat} (h : tkK tx sz q ≠ 0) : q < sz := by
  by_cases c : sz ≤ q
  · exact absurd (by unfold tkK; rw [if_pos c]) h
  · omega
theorem tk_dig {tx : Nat → Int} {sz q : Nat} (h : tkK tx sz q = 3) : ∀ j, q ≤ j → j < tkE tx sz q → isDi (tx j) := by
  have hq := tk_lt (tx := tx) (sz := sz) (q := q) (by omega)
  have ee : tkE tx sz q = sc (fun i => isDi (tx i)) sz (q + 1) := by unfold tkE; rw [h, if_neg (by omega), if_neg (by omega), if_pos rfl]
  intro j h1 h2
  by_cases e : j = q
  · rw [e]
    unfold tkK at h
    rw [if_neg (by omega)] at h
    by_cases c1 : tx q = 10
    · rw [if_pos c1] at h; omega
    · rw [if_neg c1] at h
      by_cases c2 : isPr (tx q)
      · rw [if_neg (fun g => g c2)] at h
        by_cases c3 : isLe (tx q)
        · rw [if_pos c3] at h; omega
        · rw [if_neg c3] at h
          by_cases c4 : isDi (tx q)
          · exact c4
          · rw [if_neg c4] at h; omega
      · rw [if_pos c2] at h; omega
  · exact sc_all (p := fun i => isDi (tx i)) (show q + 1 ≤ sz by omega) j (by omega) (by rw [← ee]; exact h2)
theorem tk_pr {tx : Nat → Int} {sz q : Nat} (h : tkK tx sz q ≠ 0) (h1 : tkK tx sz q ≠ 1) : isPr (tx q) := by
  have hq := tk_lt h
  by_cases c2 : isPr (tx q)
  · exact c2
  · exfalso
    unfold tkK at h h1
    rw [if_neg (by omega)] at h h1
    by_cases c1 : tx q = 10
    · rw [if_pos c1] at h; omega
    · rw [if_neg c1, if_pos c2] at h1; omega
