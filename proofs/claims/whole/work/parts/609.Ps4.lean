/-- the token is the word l -/
abbrev wdP (tx : Nat → Int) (sz q : Nat) (l : List Int) : Prop := tkK tx sz q = 2 ∧ tkE tx sz q - q = l.length ∧ ∀ j, j < l.length → tx (q + j) = l.getD j 0
theorem lit_short : ∀ i, i < 79 → strL.getD i 0 < 100 := by decide
theorem cw28 (fl : Nat) {tx : Nat → Int} {sz q : Nat} (hs : sz ≤ 4000) (be tk : Int) {i : Nat} (hi : i < 79) (hl : q + (lit i).length ≤ sz) :
    ∀ (d nn k : Nat), k + d = (lit i).length → d < nn → LB_Rd_isWord_28 fl be tk (q : Int) tx nn i (k : Int) = some (if ∀ j, j < d → tx (q + (k + j)) = (lit i).getD (k + j) 0 then 1 else 0) := by
  intro d
  have el := lit_len i hi
  have e100 := lit_short i hi
  induction d with
  | zero =>
    intro nn k hd hnn
    obtain ⟨nn, rfl⟩ : ∃ r, nn = r + 1 := ⟨nn - 1, by omega⟩
    rw [LB_Rd_isWord_28, if_pos hi, if_pos (by omega), if_pos (fun j hj => by omega)]
  | succ d ih =>
    intro nn k hd hnn
    obtain ⟨nn, rfl⟩ : ∃ r, nn = r + 1 := ⟨nn - 1, by omega⟩
    rw [LB_Rd_isWord_28, if_pos hi, if_neg (by omega), if_pos (by omega), if_pos ⟨hi, by omega, by omega⟩, show Int.toNat ((q : Int) + (k : Int)) = q + k by omega, Int.toNat_natCast]
    show (if tx (q + k) = (lit i).getD k 0 then _ else _) = _
    by_cases c : tx (q + k) = (lit i).getD k 0
    · rw [if_pos c, if_pos (by omega), show ((k : Int) + 1) = ((k + 1 : Nat) : Int) by omega, ih nn (k + 1) (by omega) (by omega)]
      by_cases g : ∀ j, j < d → tx (q + (k + 1 + j)) = (lit i).getD (k + 1 + j) 0
      · rw [if_pos g, if_pos (fun j hj => by
          cases j with
          | zero => exact c
          | succ j => have := g j (by omega); rw [show k + 1 + j = k + (j + 1) by omega] at this; exact this)]
      · rw [if_neg g, if_neg (fun w => g (fun j hj => by have := w (j + 1) (by omega); rw [show k + (j + 1) = k + 1 + j by omega] at this; exact this))]
    · rw [if_neg c, if_neg (fun w => c (w 0 (by omega)))]
theorem C_word (fl : Nat) (hfl : 5000 ≤ fl) {tx : Nat → Int} {sz : Nat} (hs : sz ≤ 4000) {q : Nat} {be tk pl va mi : Int} (h : AtC tx sz q be tk pl va mi) {i : Nat} (hi : i < 79) : LM_Rd_isWord fl be tk pl tx i = some (if wdP tx sz q (lit i) then 1 else 0) := by
  obtain ⟨h1, h2, h3, h4, h5⟩ := h
  have hb := tkE_b (tx := tx) h1
  have el := lit_len i hi
  have e100 := lit_short i hi
  unfold LM_Rd_isWord LB_Rd_isWord_0
  rw [h2, h3, h4]
  by_cases c : tkK tx sz q = 2
  · rw [if_neg (by omega), if_pos hi, if_pos (by omega)]
    by_cases c2 : tkE tx sz q - q = (lit i).length
    · rw [if_pos (by omega)]
      have := cw28 fl (tx := tx) (q := q) hs ((tkE tx sz q : Nat) : Int) (tkK tx sz q) hi (by omega) (lit i).length fl 0 (by omega) (by omega)
      rw [show ((0 : Nat) : Int) = 0 from rfl] at this
      rw [this]
      by_cases g : ∀ j, j < (lit i).length → tx (q + j) = (lit i).getD j 0
      · rw [if_pos (fun j hj => by rw [Nat.zero_add]; exact g j hj), if_pos ⟨c, c2, g⟩]
      · rw [if_neg (fun w => g (fun j hj => by have := w j hj; rw [Nat.zero_add] at this; exact this)), if_neg (fun w => g w.2.2)]
    · rw [if_neg (by omega), if_neg (fun w => c2 w.2.1)]
  · rw [if_pos c, if_neg (fun w => c w.1)]
theorem mw32z (fl : Nat) (at_ tm fr : Int) (ty : Nat → Int) {i : Nat} (hi : i < 79) {nn : Nat} (hn : 1 ≤ nn) (x3 : Int) : LB_Md_isWord_32 fl at_ tm fr ty nn i 0 x3 = some 0 := by
  obtain ⟨nn, rfl⟩ : ∃ r, nn = r + 1 := ⟨nn - 1, by omega⟩
  rw [LB_Md_isWord_32, if_pos hi]
  by_cases c : ((strL.getD i 0 : Nat) : Int) ≤ x3
  · rw [if_pos c, if_pos (Or.inl rfl)]
  · rw [if_neg c, if_pos rfl, if_pos (Or.inl rfl)]
theorem mw32 (fl : Nat) {ty : Nat → Int} {sz q : Nat} (hs : sz ≤ 4000) (at_ tm : Int) {i : Nat} (hi : i < 79) (hl : q + (lit i).length ≤ sz) :
    ∀ (d nn k : Nat), k + d = (lit i).length → d + 1 < nn → LB_Md_isWord_32 fl at_ tm (q : Int) ty nn i 1 (k : Int) = some (if ∀ j, j < d → ty (q + (k + j)) = (lit i).getD (k + j) 0 then 1 else 0) := by
  intro d
  have el := lit_len i hi
  have e100 := lit_short i hi
  induction d with
  | zero =>
    intro nn k hd hnn
    obtain ⟨nn, rfl⟩ : ∃ r, nn = r + 1 := ⟨nn - 1, by omega⟩
    rw [LB_Md_isWord_32, if_pos hi, if_pos (by omega), if_pos (Or.inr rfl), if_pos (fun j hj => by omega)]
  | succ d ih =>
    intro nn k hd hnn
    obtain ⟨nn, rfl⟩ : ∃ r, nn = r + 1 := ⟨nn - 1, by omega⟩
    rw [LB_Md_isWord_32, if_pos hi, if_neg (by omega), if_neg (by omega), if_pos (by omega), if_pos ⟨hi, by omega, by omega⟩, show Int.toNat ((q : Int) + (k : Int)) = q + k by omega, Int.toNat_natCast]
    show (if ¬ (ty (q + k) = (lit i).getD k 0) then _ else _) = _
    unfold LB_Md_isWord_68
    by_cases c : ty (q + k) = (lit i).getD k 0
    · rw [if_neg (fun g => g c), if_pos (by omega), show ((k : Int) + 1) = ((k + 1 : Nat) : Int) by omega, ih nn (k + 1) (by omega) (by omega)]
      by_cases g : ∀ j, j < d → ty (q + (k + 1 + j)) = (lit i).getD (k + 1 + j) 0
      · rw [if_pos g, if_pos (fun j hj => by
          cases j with
          | zero => exact c
          | succ j => have := g j (by omega); rw [show k + 1 + j = k + (j + 1) by omega] at this; exact this)]
      · rw [if_neg g, if_neg (fun w => g (fun j hj => by have := w (j + 1) (by omega); rw [show k + (j + 1) = k + 1 + j by omega] at this; exact this))]
    · rw [if_pos c, if_pos (by omega), mw32z fl _ _ _ _ hi (by omega), if_neg (fun w => c (w 0 (by omega)))]
theorem tk_let {tx : Nat → Int} {sz q : Nat} (h : tkK tx sz q = 2) : ∀ j, q ≤ j → j < tkE tx sz q → isLe (tx j) := by
  have hq := tk_lt (tx := tx) (sz := sz) (q := q) (by omega)
  have ee : tkE tx sz q = sc (fun i => isLe (tx i)) sz (q + 1) := by unfold tkE; rw [h, if_neg (by omega), if_pos rfl]
  intro j h1 h2
  by_cases e : j = q
  · rw [e]
    unfold tkK at h
    rw [if_neg (by omega)] at h
    by_cases c1 : tx q = 10
    · rw [if_pos c1] at h; omega
    · rw [if_neg c1] at h
      by_cases c2 : isPr (tx q)
      · rw [if_neg (fun g => g c2)] at h
        by_cases c3 : isLe (tx q)
        · exact c3
        · rw [if_neg c3] at h
          by_cases c4 : isDi (tx q)
          · rw [if_pos c4] at h; omega
          · rw [if_neg c4] at h; omega
      · rw [if_pos c2] at h; omega
  · exact sc_all (p := fun i => isLe (tx i)) (show q + 1 ≤ sz by omega) j (by omega) (by rw [← ee]; exact h2)
theorem M_word (fl : Nat) (hfl : 5000 ≤ fl) {tx ty : Nat → Int} {sz : Nat} (hs : sz ≤ 4000) (ht : TXT tx ty sz) {q : Nat} {at_ tm fr fa pl : Int} (h : AtM tx sz q at_ tm fr fa pl) {i : Nat} (hi : i < 79) : LM_Md_isWord fl at_ tm fr ty i = some (if wdP tx sz q (lit i) then 1 else 0) := by
  have hr := tkK_r tx sz q
  have el := lit_len i hi
  have e100 := lit_short i hi
  unfold LM_Md_isWord LB_Md_isWord_0 LB_Md_isWord_28 LB_Md_isWord_29
  obtain ⟨h1, ⟨h2, h3, h4, h5, h6, h7⟩ | ⟨h2, h3, _⟩⟩ := h
  · have e := tkM_b hr 1 (by omega)
    have hb := tkE_b (tx := tx) h1
    by_cases c : tkK tx sz q = 2
    · rw [if_neg (by omega), if_pos hi, h3, h5, if_pos (by omega)]
      by_cases c2 : tkE tx sz q - q = (lit i).length
      · rw [if_neg (by omega)]
        have := mw32 fl (ty := ty) (q := q) hs ((tkE tx sz q : Nat) : Int) tm hi (by omega) (lit i).length fl 0 (by omega) (by omega)
        rw [show ((0 : Nat) : Int) = 0 from rfl] at this
        rw [this]
        have et : ∀ j, j < (lit i).length → ty (q + j) = tx (q + j) := fun j hj => by
          have g := tk_let c (q + j) (by omega) (by omega)
          have := ht (q + j) (by omega)
          unfold isLe at g
          omega
        by_cases g : ∀ j, j < (lit i).length → tx (q + j) = (lit i).getD j 0
        · rw [if_pos (fun j hj => by rw [Nat.zero_add, et j hj]; exact g j hj), if_pos ⟨c, c2, g⟩]
        · rw [if_neg (fun w => g (fun j hj => by have := w j hj; rw [Nat.zero_add, et j hj] at this; exact this)), if_neg (fun w => g w.2.2)]
      · rw [if_pos (by omega), mw32z fl _ _ _ _ hi (by omega), if_neg (fun w => c2 w.2.1)]
    · rw [if_pos (by omega), mw32z fl _ _ _ _ hi (by omega), if_neg (fun w => c w.1)]
  · rw [if_pos (by omega), mw32z fl _ _ _ _ hi (by omega), if_neg (fun w => by have := w.1; omega)]
theorem FaM_word (fl : Nat) (hfl : 5000 ≤ fl) {tx ty : Nat → Int} {sz : Nat} (hs : sz ≤ 4000) {at_ tm fr : Int} (h : FaM tx sz at_ tm fr) {i : Nat} (hi : i < 79) : ∃ v, (v = 0 ∨ v = 1) ∧ LM_Md_isWord fl at_ tm fr ty i = some v := by
  have el := lit_len i hi
  have e100 := lit_short i hi
  unfold LM_Md_isWord LB_Md_isWord_0 LB_Md_isWord_28 LB_Md_isWord_29
  rcases h with h | ⟨q, h1, h2, h3, h4, h5⟩
  · rw [if_pos (by omega), mw32z fl _ _ _ _ hi (by omega)]; exact ⟨0, Or.inl rfl, rfl⟩
  · have hr := tkK_r tx sz q
    have e := tkM_b hr 1 (by omega)
    have hb := tkE_b (tx := tx) h1
    by_cases c : tkK tx sz q = 2
    · rw [if_neg (by omega), if_pos hi, h3, h5, if_pos (by omega)]
      by_cases c2 : tkE tx sz q - q = (lit i).length
      · rw [if_neg (by omega)]
        have := mw32 fl (ty := ty) (q := q) hs ((tkE tx sz q : Nat) : Int) tm hi (by omega) (lit i).length fl 0 (by omega) (by omega)
        rw [show ((0 : Nat) : Int) = 0 from rfl] at this
        rw [this]
        split
        · exact ⟨1, Or.inr rfl, rfl⟩
        · exact ⟨0, Or.inl rfl, rfl⟩
      · rw [if_pos (by omega), mw32z fl _ _ _ _ hi (by omega)]; exact ⟨0, Or.inl rfl, rfl⟩
    · rw [if_pos (by omega), mw32z fl _ _ _ _ hi (by omega)]; exact ⟨0, Or.inl rfl, rfl⟩
