/-- how many q below m -/
def cntP (p : Nat → Bool) : Nat → Nat
  | 0 => 0
  | m + 1 => cntP p m + (if p m then 1 else 0)
theorem cnt_s (p : Nat → Bool) (m : Nat) : cntP p (m + 1) = cntP p m + (if p m then 1 else 0) := rfl
theorem cnt_zero {p : Nat → Bool} : ∀ {m : Nat}, (∀ q, q < m → p q = false) → cntP p m = 0 := by
  intro m
  induction m with
  | zero => intro _; rfl
  | succ m ih => intro h; rw [cnt_s, ih (fun q hq => h q (by omega)), h m (by omega)]; rfl
theorem cnt_congr {p r : Nat → Bool} : ∀ {m : Nat}, (∀ q, q < m → p q = r q) → cntP p m = cntP r m := by
  intro m
  induction m with
  | zero => intro _; rfl
  | succ m ih => intro h; rw [cnt_s, cnt_s, ih (fun q hq => h q (by omega)), h m (by omega)]
theorem cnt_rm {p : Nat → Bool} {x : Nat} (hp : p x = true) : ∀ {m : Nat}, x < m → cntP p m = cntP (fun q => p q && q != x) m + 1 := by
  intro m
  induction m with
  | zero => intro h; omega
  | succ m ih =>
    intro h
    rw [cnt_s, cnt_s]
    by_cases c : x = m
    · subst c
      rw [hp]
      have : cntP (fun q => p q && q != x) x = cntP p x := cnt_congr (fun q hq => by
        have : (q != x) = true := by simp; omega
        rw [this, Bool.and_true])
      rw [this]
      simp
    · rw [ih (by omega)]
      have : (m != x) = true := by simp; omega
      simp only [this, Bool.and_true]
      omega
theorem cnt_one {p : Nat → Bool} {m x : Nat} (hx : x < m) (hp : p x = true) (hu : ∀ q, q < m → p q = true → q = x) : cntP p m = 1 := by
  rw [cnt_rm hp hx, cnt_zero (fun q hq => ?_)]
  by_cases c : p q = true
  · rw [hu q hq c]; simp
  · simp [c]
theorem cnt_two {p : Nat → Bool} {m x y : Nat} (hx : x < m) (hy : y < m) (hxy : x ≠ y) (hp : p x = true) (hq : p y = true) (hu : ∀ q, q < m → p q = true → q = x ∨ q = y) : cntP p m = 2 := by
  rw [cnt_rm hp hx, cnt_one (x := y) hy (by simp [hq]; omega) (fun q h1 h2 => ?_)]
  simp at h2
  rcases hu q h1 h2.1 with w | w
  · exact absurd w h2.2
  · exact w
theorem cnt_three {p : Nat → Bool} {m x y z : Nat} (hx : x < m) (hy : y < m) (hz : z < m) (hxy : x ≠ y) (hxz : x ≠ z) (hyz : y ≠ z) (h1 : p x = true) (h2 : p y = true) (h3 : p z = true) : 3 ≤ cntP p m := by
  rw [cnt_rm h1 hx, cnt_rm (x := y) (by simp [h2]; omega) hy, cnt_rm (x := z) (by simp [h3]; omega) hz]
  omega
theorem cnt_pos {p : Nat → Bool} {m x : Nat} (hx : x < m) (hp : p x = true) : 1 ≤ cntP p m := by
  rw [cnt_rm hp hx]; omega
/-- at how many places a label stands -/
def cntL (n : Nat) (lb : Nat → Int) (l : Int) : Nat := cntP (fun q => lb q == l) (4 * n)
/-- labels and places of the sorted keys -/
theorem Srt_at {n : Nat} (hn : n ≤ 20) {lb A : Nat → Int} (h : Srt (Keyz lb) (4 * n) A) {i : Nat} (hi : i < 4 * n) : (A i % 128).toNat < 4 * n ∧ A i = lb (A i % 128).toNat * 128 + ((A i % 128).toNat : Int) ∧ A i / 128 = lb (A i % 128).toNat ∧ A i % 128 = (((A i % 128).toNat : Nat) : Int) := by
  obtain ⟨q, hq, e⟩ := h.2.1 i hi
  unfold Keyz at e
  have : (A i % 128).toNat = q := by omega
  rw [this]
  exact ⟨hq, e, by omega, by omega⟩
theorem Srt_inj {n : Nat} {lb A : Nat → Int} (h : Srt (Keyz lb) (4 * n) A) {i j : Nat} (hi : i < 4 * n) (hj : j < 4 * n) (e : A i = A j) : i = j := by
  rcases Nat.lt_trichotomy i j with w | w | w
  · have := h.1 i j w hj; omega
  · exact w
  · have := h.1 j i w hi; omega
theorem Srt_mono {n : Nat} {lb A : Nat → Int} (h : Srt (Keyz lb) (4 * n) A) {i j : Nat} (hij : i ≤ j) (hj : j < 4 * n) : A i / 128 ≤ A j / 128 := by
  by_cases c : i = j
  · rw [c]; omega
  · have := h.1 i j (by omega) hj; omega
theorem Srt_find {n : Nat} (hn : n ≤ 20) {lb A : Nat → Int} (h : Srt (Keyz lb) (4 * n) A) {q : Nat} (hq : q < 4 * n) : ∃ i, i < 4 * n ∧ (A i % 128).toNat = q ∧ A i / 128 = lb q := by
  obtain ⟨i, hi, e⟩ := h.2.2 q hq
  unfold Keyz at e
  exact ⟨i, hi, by omega, by omega⟩
/-- the labels that stand ahead of 2 a in the order are at two places each -/
def PairsTo (n : Nat) (A : Nat → Int) (a : Nat) : Prop := ∀ b, b < a → A (2 * b) / 128 = A (2 * b + 1) / 128 ∧ (2 * b + 2 < 4 * n → A (2 * b + 2) / 128 ≠ A (2 * b) / 128)
theorem pairs_two {n : Nat} (hn : n ≤ 20) {lb A : Nat → Int} (h : Srt (Keyz lb) (4 * n) A) {a b : Nat} (ha : 2 * a ≤ 4 * n) (hp : PairsTo n A a) (hb : b < a) : cntL n lb (A (2 * b) / 128) = 2 := by
  obtain ⟨p1, p2⟩ := hp b hb
  have s1 := Srt_at hn h (show 2 * b < 4 * n by omega)
  have s2 := Srt_at hn h (show 2 * b + 1 < 4 * n by omega)
  refine cnt_two s1.1 s2.1 (fun w => ?_) (by simp; omega) (by simp; omega) (fun q hq hl => ?_)
  · have := h.1 (2 * b) (2 * b + 1) (by omega) (by omega)
    omega
  · simp at hl
    obtain ⟨i, hi, e1, e2⟩ := Srt_find hn h hq
    -- i is 2 b or 2 b + 1
    have c1 : ¬ i < 2 * b := fun w => by
      have m1 := Srt_mono h (show i ≤ 2 * b - 1 by omega) (show 2 * b - 1 < 4 * n by omega)
      have m2 := Srt_mono h (show 2 * b - 1 ≤ 2 * b by omega) (show 2 * b < 4 * n by omega)
      obtain ⟨q1, q2⟩ := hp (b - 1) (by omega)
      have q3 := q2 (by omega)
      rw [show 2 * (b - 1) + 1 = 2 * b - 1 by omega] at q1
      rw [show 2 * (b - 1) + 2 = 2 * b by omega] at q3
      omega
    have c2 : ¬ 2 * b + 1 < i := fun w => by
      have m1 := Srt_mono h (show 2 * b + 2 ≤ i by omega) hi
      have m2 := Srt_mono h (show 2 * b + 1 ≤ 2 * b + 2 by omega) (show 2 * b + 2 < 4 * n by omega)
      have q3 := p2 (by omega)
      omega
    have c3 : i = 2 * b ∨ i = 2 * b + 1 := by omega
    rcases c3 with w | w
    · left; rw [← e1, w]
    · right; rw [← e1, w]
/-- the least label that is not at two places -/
def Bad1 (n : Nat) (lb : Nat → Int) (l : Int) : Prop := (∃ q, q < 4 * n ∧ lb q = l) ∧ cntL n lb l ≠ 2 ∧ ∀ q, q < 4 * n → lb q < l → cntL n lb (lb q) = 2
theorem bad_here {n : Nat} (hn : n ≤ 20) {lb A : Nat → Int} (h : Srt (Keyz lb) (4 * n) A) {a : Nat} (ha : 2 * a < 4 * n) (hp : PairsTo n A a) (hbad : A (2 * a) / 128 ≠ A (2 * a + 1) / 128 ∨ 2 * a + 2 < 4 * n ∧ A (2 * a + 2) / 128 = A (2 * a) / 128) : Bad1 n lb (A (2 * a) / 128) := by
  have s0 := Srt_at hn h ha
  have s1 := Srt_at hn h (show 2 * a + 1 < 4 * n by omega)
  refine ⟨⟨_, s0.1, s0.2.2.1.symm⟩, ?_, ?_⟩
  · by_cases e : A (2 * a) / 128 = A (2 * a + 1) / 128
    · rcases hbad with w | ⟨w1, w2⟩
      · exact absurd e w
      · have s2 := Srt_at hn h w1
        have l1 := h.1 (2 * a) (2 * a + 1) (by omega) (by omega)
        have l2 := h.1 (2 * a + 1) (2 * a + 2) (by omega) (by omega)
        have := cnt_three (p := fun q => lb q == A (2 * a) / 128) s0.1 s1.1 s2.1 (by omega) (by omega) (by omega) (by simp; omega) (by simp; omega) (by simp; omega)
        unfold cntL
        omega
    · have := cnt_one (p := fun q => lb q == A (2 * a) / 128) s0.1 (by simp; omega) (fun q hq hl => by
        simp at hl
        obtain ⟨i, hi, e1, e2⟩ := Srt_find hn h hq
        have c1 : ¬ i < 2 * a := fun w => by
          have m1 := Srt_mono h (show i ≤ 2 * a - 1 by omega) (show 2 * a - 1 < 4 * n by omega)
          have m2 := Srt_mono h (show 2 * a - 1 ≤ 2 * a by omega) (show 2 * a < 4 * n by omega)
          obtain ⟨q1, q2⟩ := hp (a - 1) (by omega)
          have q3 := q2 (by omega)
          rw [show 2 * (a - 1) + 1 = 2 * a - 1 by omega] at q1
          rw [show 2 * (a - 1) + 2 = 2 * a by omega] at q3
          omega
        have c2 : ¬ 2 * a + 1 ≤ i := fun w => by
          have m1 := Srt_mono h (show 2 * a + 1 ≤ i by omega) hi
          have m2 := Srt_mono h (show 2 * a ≤ 2 * a + 1 by omega) (show 2 * a + 1 < 4 * n by omega)
          omega
        rw [← e1, show i = 2 * a by omega])
      unfold cntL
      omega
  · intro q hq hl
    obtain ⟨i, hi, e1, e2⟩ := Srt_find hn h hq
    have c1 : i < 2 * a := by
      rcases Nat.lt_or_ge i (2 * a) with w | w
      · exact w
      · have := Srt_mono h w hi; omega
    have e3 : A i / 128 = A (2 * (i / 2)) / 128 := by
      obtain ⟨q1, _⟩ := hp (i / 2) (by omega)
      have : i = 2 * (i / 2) ∨ i = 2 * (i / 2) + 1 := by omega
      rcases this with w | w
      · rw [← w]
      · rw [q1, ← w]
    have := pairs_two hn h (a := a) (b := i / 2) (by omega) hp (by omega)
    rw [← e3, e2] at this
    exact this
theorem lab (fl : Nat) {n : Nat} (hn : n ≤ 20) {lb A : Nat → Int} (hl : ∀ q, q < 4 * n → 0 ≤ lb q ∧ lb q ≤ 9999) (h : Srt (Keyz lb) (4 * n) A) {i : Nat} (hi : i < 4 * n) : LM_Sh_labelOfKey fl A (i : Int) = some (A i / 128) := by
  unfold LM_Sh_labelOfKey LB_Sh_labelOfKey_0
  have s := Srt_at hn h hi
  have := hl _ s.1
  rw [if_pos (by omega), Int.toNat_natCast, key_lab (by omega) (by omega)]
theorem plc (fl : Nat) {n : Nat} (hn : n ≤ 20) {A : Nat → Int} {i : Nat} (hi : i < 4 * n) : LM_Sh_placeOfKey fl A (i : Int) = some (A i % 128) := by
  unfold LM_Sh_placeOfKey LB_Sh_placeOfKey_0
  rw [if_pos (by omega), Int.toNat_natCast]
theorem lp2z (fl : Nat) {n : Nat} (hn : n ≤ 20) {lb A : Nat → Int} (hl : ∀ q, q < 4 * n → 0 ≤ lb q ∧ lb q ≤ 9999) (h : Srt (Keyz lb) (4 * n) A) (br cu : Int) :
    ∀ (d nn a : Nat), a + d = 2 * n → d < nn → PairsTo n A a →
    (LB_Sh_labelsArePaired_2 fl A nn ((4 * n : Nat) : Int) ((2 * a : Nat) : Int) br cu = some (1, br, cu) ∧ PairsTo n A (2 * n)) ∨ (∃ l, LB_Sh_labelsArePaired_2 fl A nn ((4 * n : Nat) : Int) ((2 * a : Nat) : Int) br cu = some (0, 1, l) ∧ Bad1 n lb l) := by
  intro d
  induction d with
  | zero =>
    intro nn a hd hnn hp
    obtain ⟨nn, rfl⟩ : ∃ r, nn = r + 1 := ⟨nn - 1, by omega⟩
    rw [LB_Sh_labelsArePaired_2, if_pos (by omega)]
    exact Or.inl ⟨rfl, by rw [show 2 * n = a by omega]; exact hp⟩
  | succ d ih =>
    intro nn a hd hnn hp
    obtain ⟨nn, rfl⟩ : ∃ r, nn = r + 1 := ⟨nn - 1, by omega⟩
    rw [LB_Sh_labelsArePaired_2, if_neg (by omega), lab fl hn hl h (show 2 * a < 4 * n by omega), Option.bind_some, if_pos (by omega), if_neg (by omega)]
    unfold LB_Sh_labelsArePaired_31 LB_Sh_labelsArePaired_36 LB_Sh_labelsArePaired_60 LB_Sh_labelsArePaired_61 LB_Sh_labelsArePaired_73
    have brk : LM_Sh_breaks fl 1 (A (2 * a) / 128) br cu = some (0, 1, A (2 * a) / 128) := rfl
    rw [show (((2 * a : Nat) : Int) + 1) = ((2 * a + 1 : Nat) : Int) by omega, lab fl hn hl h (show 2 * a + 1 < 4 * n by omega), Option.bind_some, brk, Option.bind_some]
    have bad := bad_here hn h (show 2 * a < 4 * n by omega) hp
    by_cases c1 : A (2 * a + 1) / 128 = A (2 * a) / 128
    · rw [if_pos c1, if_pos (by omega)]
      by_cases c2 : 2 * a + 2 < 4 * n
      · rw [if_neg (by omega), show (((2 * a : Nat) : Int) + 2) = ((2 * a + 2 : Nat) : Int) by omega, lab fl hn hl h c2, Option.bind_some]
        by_cases c3 : A (2 * a + 2) / 128 = A (2 * a) / 128
        · rw [if_neg (fun w => w c3), if_neg (by decide), if_neg (by decide), if_pos (Or.inl rfl)]
          exact Or.inr ⟨_, rfl, bad (Or.inr ⟨c2, c3⟩)⟩
        · rw [if_pos c3, if_neg (by decide), if_pos rfl, if_pos (by omega), show ((2 * a + 2 : Nat) : Int) = ((2 * (a + 1) : Nat) : Int) by omega]
          refine ih nn (a + 1) (by omega) (by omega) (fun b hb => ?_)
          by_cases w : b = a
          · rw [w]; exact ⟨c1.symm, fun _ => c3⟩
          · exact hp b (by omega)
      · rw [if_pos (by omega), if_neg (by decide), if_pos rfl, if_pos (by omega), show (((2 * a : Nat) : Int) + 2) = ((2 * (a + 1) : Nat) : Int) by omega]
        refine ih nn (a + 1) (by omega) (by omega) (fun b hb => ?_)
        by_cases w : b = a
        · rw [w]; exact ⟨c1.symm, fun w2 => absurd w2 c2⟩
        · exact hp b (by omega)
    · rw [if_neg c1, if_pos (by omega)]
      by_cases c2 : 2 * a + 2 < 4 * n
      · rw [if_neg (by omega), show (((2 * a : Nat) : Int) + 2) = ((2 * a + 2 : Nat) : Int) by omega, lab fl hn hl h c2, Option.bind_some]
        refine Or.inr ⟨_, ?_, bad (Or.inl (fun w => c1 w.symm))⟩
        rw [if_pos (show ¬ (1 : Int) = 0 by decide), if_pos (Or.inl rfl), if_pos (show ¬ (1 : Int) = 0 by decide), ite_self]
      · rw [if_pos (by omega), if_pos (by decide), if_pos (Or.inl rfl)]
        exact Or.inr ⟨_, rfl, bad (Or.inl (fun w => c1 w.symm))⟩
theorem paired (fl : Nat) (hfl : 100 ≤ fl) {n : Nat} (hn : n ≤ 20) {lb A : Nat → Int} (hl : ∀ q, q < 4 * n → 0 ≤ lb q ∧ lb q ≤ 9999) (h : Srt (Keyz lb) (4 * n) A) (br cu : Int) :
    (LM_Sh_labelsArePaired fl A ((4 * n : Nat) : Int) br cu = some (1, br, cu) ∧ PairsTo n A (2 * n)) ∨ (∃ l, LM_Sh_labelsArePaired fl A ((4 * n : Nat) : Int) br cu = some (0, 1, l) ∧ Bad1 n lb l) := by
  unfold LM_Sh_labelsArePaired LB_Sh_labelsArePaired_0
  exact lp2z fl hn hl h br cu (2 * n) fl 0 (by omega) (by omega) (fun b hb => by omega)
