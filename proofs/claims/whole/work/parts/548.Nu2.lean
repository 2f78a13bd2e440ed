theorem wk_like {fr to : Nat → Int} {f : Nat → Nat} {N : Nat} : ∀ (k x : Nat) (l : Int) {A B : Nat → Int}, like N A B → like N (wkz fr to f k x l A) (wkz fr to f k x l B) := by
  intro k
  induction k with
  | zero => intro x l A B h; exact h
  | succ k ih => intro x l A B h; rw [wk_s, wk_s]; exact ih _ _ (like_up (like_up h _ _) _ _)
theorem rnS_like {fr to : Nat → Int} {f : Nat → Nat} {st len : Nat → Nat} {N : Nat} {A B : Nat → Int} (h : like N A B) : ∀ c, (rnS fr to f st len A c).1 = (rnS fr to f st len B c).1 ∧ like N (rnS fr to f st len A c).2 (rnS fr to f st len B c).2 := by
  intro c
  induction c with
  | zero => exact ⟨rfl, h⟩
  | succ c ih =>
    rw [rnS_s, rnS_s]
    dsimp only
    rw [ih.1]
    exact ⟨rfl, wk_like _ _ _ ih.2⟩
section
variable {n : Nat} {sg lb nm fr to at_ : Nat → Int}
theorem cn36 (fl : Nat) (hn : n ≤ 20) (h : EdgA n sg lb nm fr to at_) (co : Nat → Int) (kb : Int → Int → Int → (Nat → Int) → Option (Int × (Nat → Int))) {c x len : Nat} (hx : x < 2 * n) (hl0 : 0 < len) (hlen : len ≤ 2 * n) (hit : it (nx to at_) len x = x) (hne : ∀ j, 0 < j → j < len → it (nx to at_) j x ≠ x) (hc : c ≤ 40) :
    ∀ (k nn i : Nat) (l : Int) (A : Nat → Int), i + k = len → k < nn → 1 ≤ l → l + (k : Int) ≤ 5000 → LB_Mo_renumber_36 fl ((2 * n : Nat) : Int) co at_ fr to kb nn l (c : Int) (x : Int) ((it (nx to at_) i x : Nat) : Int) (i : Int) A = (if -2147483648 ≤ (x : Int) + 1 ∧ (x : Int) + 1 < 2147483648 then kb (l + (k : Int)) ((c : Int) + 1) ((x : Int) + 1) (wkz fr to (nx to at_) k (it (nx to at_) i x) l A) else none) := by
  have hf := nx_closed h
  intro k
  induction k with
  | zero =>
    intro nn i l A hi hnn hl hb
    obtain ⟨nn, rfl⟩ : ∃ r, nn = r + 1 := ⟨nn - 1, by omega⟩
    have : i = len := by omega
    subst this
    have e100 : LB_Mo_renumber_100 fl ((2 * n : Nat) : Int) co at_ fr to kb l (c : Int) (x : Int) ((it (nx to at_) i x : Nat) : Int) (i : Int) A = (if -2147483648 ≤ (x : Int) + 1 ∧ (x : Int) + 1 < 2147483648 then kb (l + ((0 : Nat) : Int)) ((c : Int) + 1) ((x : Int) + 1) A else none) := by
      unfold LB_Mo_renumber_100 LB_Mo_renumber_103
      rw [if_pos (by omega), show l + ((0 : Nat) : Int) = l by omega]
    rw [LB_Mo_renumber_36]
    by_cases w : ((2 * n : Nat) : Int) ≤ (i : Int)
    · rw [if_pos w, e100]; rfl
    · rw [if_neg w, if_neg (by omega), if_pos (by rw [hit]), e100]; rfl
  | succ k ih =>
    intro nn i l A hi hnn hl hb
    obtain ⟨nn, rfl⟩ : ∃ r, nn = r + 1 := ⟨nn - 1, by omega⟩
    have hy := it_lt hf hx i
    obtain ⟨e1, e2, e3, e4, _⟩ := fr_ok h hy
    have e57 : LB_Mo_renumber_57 fl ((2 * n : Nat) : Int) co at_ fr to kb (LB_Mo_renumber_36 fl ((2 * n : Nat) : Int) co at_ fr to kb nn) l (c : Int) (x : Int) ((it (nx to at_) i x : Nat) : Int) (i : Int) A = (if -2147483648 ≤ (x : Int) + 1 ∧ (x : Int) + 1 < 2147483648 then kb (l + ((k + 1 : Nat) : Int)) ((c : Int) + 1) ((x : Int) + 1) (wkz fr to (nx to at_) (k + 1) (it (nx to at_) i x) l A) else none) := by
      unfold LB_Mo_renumber_57
      rw [if_pos (by omega), Int.toNat_natCast, if_pos (by omega), if_pos (by omega), C_nextEdge fl hn h hy, Option.bind_some, if_pos (by omega), ← it_s (nx to at_) i x, show ((i : Int) + 1) = ((i + 1 : Nat) : Int) by omega, ih nn (i + 1) (l + 1) _ (by omega) (by omega) (by omega) (by omega), wk_s, it_s, show l + 1 + (k : Int) = l + ((k + 1 : Nat) : Int) by omega]
    rw [LB_Mo_renumber_36, if_neg (by omega)]
    by_cases w : i = 0
    · rw [if_pos (by omega)]; exact e57
    · have := hne i (by omega) (by omega)
      rw [if_neg (by omega), if_neg (by omega)]; exact e57
theorem cn8 (fl : Nat) (hfl : 200 ≤ fl) (hn : n ≤ 20) (h : EdgA n sg lb nm fr to at_) {co A : Nat → Int} (hco : like (2 * n) co (rndz (nx to at_) (2 * n) (2 * n)).1) :
    ∀ (k nn x c : Nat) (l : Int) (B : Nat → Int), x + k = 2 * n → k < nn → c ≤ (rndz (nx to at_) (2 * n) (2 * n)).2.1 → (∀ b, b < c → (rndz (nx to at_) (2 * n) (2 * n)).2.2.1 b < x) → (∀ b, c ≤ b → b < (rndz (nx to at_) (2 * n) (2 * n)).2.1 → x ≤ (rndz (nx to at_) (2 * n) (2 * n)).2.2.1 b) →
    l = (rnS fr to (nx to at_) (rndz (nx to at_) (2 * n) (2 * n)).2.2.1 (rndz (nx to at_) (2 * n) (2 * n)).2.2.2 A c).1 → B = (rnS fr to (nx to at_) (rndz (nx to at_) (2 * n) (2 * n)).2.2.1 (rndz (nx to at_) (2 * n) (2 * n)).2.2.2 A c).2 →
    LB_Mo_renumber_8 fl ((2 * n : Nat) : Int) co at_ fr to nn l (c : Int) (x : Int) B = some (1, (rnS fr to (nx to at_) (rndz (nx to at_) (2 * n) (2 * n)).2.2.1 (rndz (nx to at_) (2 * n) (2 * n)).2.2.2 A (rndz (nx to at_) (2 * n) (2 * n)).2.1).2) := by
  have hf := nx_closed h
  obtain ⟨r1, r2, r3, r4, r5, r6⟩ := rnd_ok hf (2 * n) (Nat.le_refl _)
  intro k
  induction k with
  | zero =>
    intro nn x c l B hk hnn hc h1 h2 hl hB
    obtain ⟨nn, rfl⟩ : ∃ r, nn = r + 1 := ⟨nn - 1, by omega⟩
    have : c = (rndz (nx to at_) (2 * n) (2 * n)).2.1 := by
      rcases Nat.lt_or_ge c (rndz (nx to at_) (2 * n) (2 * n)).2.1 with w | w
      · have := h2 c (Nat.le_refl _) w
        have := (r5 c w).1; omega
      · omega
    rw [LB_Mo_renumber_8, if_pos (by omega), hB, this]
  | succ k ih =>
    intro nn x c l B hk hnn hc h1 h2 hl hB
    obtain ⟨nn, rfl⟩ : ∃ r, nn = r + 1 := ⟨nn - 1, by omega⟩
    have hb := rnS_b fr to (nx to at_) (rndz (nx to at_) (2 * n) (2 * n)).2.2.1 (rndz (nx to at_) (2 * n) (2 * n)).2.2.2 A (m := 40) c (fun k hk => by have := (rnd_len hf (show k < (rndz (nx to at_) (2 * n) (2 * n)).2.1 by omega)).1; omega)
    have hm : c * 40 ≤ 40 * 40 := Nat.mul_le_mul_right 40 (by omega)
    rw [LB_Mo_renumber_8, if_neg (by omega), if_pos (by omega), Int.toNat_natCast, hco x (by omega)]
    by_cases w : (rndz (nx to at_) (2 * n) (2 * n)).1 x = (c : Int)
    · have hc2 : c < (rndz (nx to at_) (2 * n) (2 * n)).2.1 := by have := (r2 x (by omega)).2; omega
      obtain ⟨a1, a2, a3, a4, a5, a6⟩ := r5 c hc2
      have ex : (rndz (nx to at_) (2 * n) (2 * n)).2.2.1 c = x := by
        have := (a6 x (by omega) w).1
        have := h2 c (Nat.le_refl _) hc2
        omega
      obtain ⟨l1, _, _⟩ := rnd_len hf hc2
      rw [if_neg (fun z => z w)]
      rw [ex] at a4 a5
      have := cn36 fl hn h co (LB_Mo_renumber_8 fl ((2 * n : Nat) : Int) co at_ fr to nn) (c := c) (x := x) (by omega) a3 l1 a4 a5 (by omega) ((rndz (nx to at_) (2 * n) (2 * n)).2.2.2 c) fl 0 l B (by omega) (by omega) (by omega) (by omega)
      rw [show ((it (nx to at_) 0 x : Nat) : Int) = (x : Int) from rfl, show ((0 : Nat) : Int) = 0 from rfl] at this
      rw [this, if_pos (by omega), show ((c : Int) + 1) = ((c + 1 : Nat) : Int) by omega, show ((x : Int) + 1) = ((x + 1 : Nat) : Int) by omega]
      refine ih nn (x + 1) (c + 1) _ _ (by omega) (by omega) (by omega) (fun b hb => ?_) (fun b b1 b2 => ?_) ?_ ?_
      · by_cases z : b = c
        · rw [z, ex]; omega
        · have := h1 b (by omega); omega
      · have := r6 c b (by omega) b2; omega
      · rw [rnS_s, hl]
      · rw [rnS_s, ← hl, ← hB, ex]; rfl
    · rw [if_pos w]
      unfold LB_Mo_renumber_103
      rw [if_pos (by omega), show ((x : Int) + 1) = ((x + 1 : Nat) : Int) by omega]
      refine ih nn (x + 1) c l B (by omega) (by omega) hc (fun b hb => by have := h1 b hb; omega) (fun b b1 b2 => ?_) hl hB
      have q := h2 b b1 b2
      rcases Nat.lt_or_ge x ((rndz (nx to at_) (2 * n) (2 * n)).2.2.1 b) with z | z
      · omega
      · have ez : (rndz (nx to at_) (2 * n) (2 * n)).2.2.1 b = x := by omega
        have := (r5 b b2).2.1
        rw [ez] at this
        by_cases cb : b = c
        · rw [cb] at this; exact absurd this w
        · have hcc : c < (rndz (nx to at_) (2 * n) (2 * n)).2.1 := by omega
          have := r6 c b (by omega) b2
          have := h2 c (Nat.le_refl _) hcc
          omega
theorem C_renumber (fl : Nat) (hfl : 200 ≤ fl) (hn : n ≤ 20) (h : EdgA n sg lb nm fr to at_) {co : Nat → Int} (hco : like (2 * n) co (rndz (nx to at_) (2 * n) (2 * n)).1) (A : Nat → Int) :
    LM_Mo_renumber fl ((2 * n : Nat) : Int) co at_ fr to A = some (1, (rnS fr to (nx to at_) (rndz (nx to at_) (2 * n) (2 * n)).2.2.1 (rndz (nx to at_) (2 * n) (2 * n)).2.2.2 A (rndz (nx to at_) (2 * n) (2 * n)).2.1).2) := by
  unfold LM_Mo_renumber LB_Mo_renumber_0
  exact cn8 fl hfl hn h hco (2 * n) fl 0 0 1 A (by omega) (by omega) (by omega) (fun b hb => by omega) (fun b _ _ => by omega) rfl rfl
theorem mn33 (fl : Nat) (hn : n ≤ 20) (h : EdgA n sg lb nm fr to at_) {fo : Nat → Int} (hfo : ∀ e, e < 2 * n → fo e = ((nx to at_ e : Nat) : Int)) (cm : Int) (co : Nat → Int) (kb : Int → Int → (Nat → Int) → Option (Nat → Int)) {x len : Nat} {c : Int} (hx : x < 2 * n) (hlen : len ≤ 2 * n) (hit : it (nx to at_) len x = x) (hne : ∀ j, 0 < j → j < len → it (nx to at_) j x ≠ x) (hc : 0 ≤ c ∧ c ≤ 40) :
    ∀ (k nn i : Nat) (l : Int) (A : Nat → Int), i + k + 1 = len → k < nn → 1 ≤ l → l + (k : Int) ≤ 5000 → LB_Md_renumber_33 fl cm fr co to fo kb nn (l - 1) c (x : Int) ((it (nx to at_) i x : Nat) : Int) A = kb (l - 1 + ((k + 1 : Nat) : Int)) (c + 1) (wkz fr to (nx to at_) (k + 1) (it (nx to at_) i x) l A) := by
  have hf := nx_closed h
  intro k
  induction k with
  | zero =>
    intro nn i l A hi hnn hl hb
    obtain ⟨nn, rfl⟩ : ∃ r, nn = r + 1 := ⟨nn - 1, by omega⟩
    have hy := it_lt hf hx i
    obtain ⟨e1, e2, e3, e4, _⟩ := fr_ok h hy
    have hz : nx to at_ (it (nx to at_) i x) = x := by rw [← it_s (nx to at_) i x, show i + 1 = len by omega, hit]
    rw [LB_Md_renumber_33, if_pos (by omega), Int.toNat_natCast, if_pos (by omega), if_pos (by omega), hfo _ hy, hz, if_neg (fun w => w rfl), if_pos (by omega), show l - 1 + 1 = l by omega, show l - 1 + ((0 + 1 : Nat) : Int) = l by omega]
    rfl
  | succ k ih =>
    intro nn i l A hi hnn hl hb
    obtain ⟨nn, rfl⟩ : ∃ r, nn = r + 1 := ⟨nn - 1, by omega⟩
    have hy := it_lt hf hx i
    obtain ⟨e1, e2, e3, e4, _⟩ := fr_ok h hy
    have hz : nx to at_ (it (nx to at_) i x) ≠ x := by rw [← it_s (nx to at_) i x]; exact hne (i + 1) (by omega) (by omega)
    rw [LB_Md_renumber_33, if_pos (by omega), Int.toNat_natCast, if_pos (by omega), if_pos (by omega), hfo _ hy, if_pos (by omega), if_pos (by omega), show l - 1 + 1 = (l + 1) - 1 by omega, ← it_s (nx to at_) i x, ih nn (i + 1) (l + 1) _ (by omega) (by omega) (by omega) (by omega), show l + 1 - 1 + ((k + 1 : Nat) : Int) = l - 1 + ((k + 1 + 1 : Nat) : Int) by omega, wk_s, wk_s, it_s]
    rw [show l + 1 - 1 = l by omega, wk_s]
theorem mn14 (fl : Nat) (hfl : 200 ≤ fl) (hn : n ≤ 20) (h : EdgA n sg lb nm fr to at_) {fo co : Nat → Int} (hfo : ∀ e, e < 2 * n → fo e = ((nx to at_ e : Nat) : Int)) (hco : like (2 * n) co (rndz (nx to at_) (2 * n) (2 * n)).1) (cm : Int) (kb : Int → Int → (Nat → Int) → Option (Nat → Int)) {c : Nat} (hc : c < (rndz (nx to at_) (2 * n) (2 * n)).2.1) (l : Int) (A : Nat → Int) (hl : 1 ≤ l) (hb : l ≤ 2000) :
    ∀ (k nn x : Nat), x + k = (rndz (nx to at_) (2 * n) (2 * n)).2.2.1 c → k < nn → LB_Md_renumber_14 fl cm fr co to fo kb nn (l - 1) (c : Int) (x : Int) A = kb (l - 1 + ((rndz (nx to at_) (2 * n) (2 * n)).2.2.2 c : Int)) ((c : Int) + 1) (wkz fr to (nx to at_) ((rndz (nx to at_) (2 * n) (2 * n)).2.2.2 c) ((rndz (nx to at_) (2 * n) (2 * n)).2.2.1 c) l A) := by
  have hf := nx_closed h
  obtain ⟨r1, r2, r3, r4, r5, r6⟩ := rnd_ok hf (2 * n) (Nat.le_refl _)
  obtain ⟨a1, a2, a3, a4, a5, a6⟩ := r5 c hc
  obtain ⟨l1, _, _⟩ := rnd_len hf hc
  intro k
  induction k with
  | zero =>
    intro nn x hx hnn
    obtain ⟨nn, rfl⟩ : ∃ r, nn = r + 1 := ⟨nn - 1, by omega⟩
    have ex : x = (rndz (nx to at_) (2 * n) (2 * n)).2.2.1 c := by omega
    rw [LB_Md_renumber_14, if_pos (by omega), Int.toNat_natCast, hco x (by omega), ex, a2, if_pos rfl]
    have := mn33 fl hn h hfo cm co kb (c := (c : Int)) a1 l1 a4 a5 (by omega) ((rndz (nx to at_) (2 * n) (2 * n)).2.2.2 c - 1) fl 0 l A (by omega) (by omega) hl (by omega)
    rw [show (rndz (nx to at_) (2 * n) (2 * n)).2.2.2 c - 1 + 1 = (rndz (nx to at_) (2 * n) (2 * n)).2.2.2 c by omega] at this
    exact this
  | succ k ih =>
    intro nn x hx hnn
    obtain ⟨nn, rfl⟩ : ∃ r, nn = r + 1 := ⟨nn - 1, by omega⟩
    have : (rndz (nx to at_) (2 * n) (2 * n)).1 x ≠ (c : Int) := fun w => by have := (a6 x (by omega) w).1; omega
    rw [LB_Md_renumber_14, if_pos (by omega), Int.toNat_natCast, hco x (by omega), if_neg this, if_pos (by omega), show ((x : Int) + 1) = ((x + 1 : Nat) : Int) by omega]
    exact ih nn (x + 1) (by omega) (by omega)
theorem mn4 (fl : Nat) (hfl : 200 ≤ fl) (hn : n ≤ 20) (h : EdgA n sg lb nm fr to at_) {fo co A : Nat → Int} (hfo : ∀ e, e < 2 * n → fo e = ((nx to at_ e : Nat) : Int)) (hco : like (2 * n) co (rndz (nx to at_) (2 * n) (2 * n)).1) :
    ∀ (k nn c : Nat) (l : Int) (B : Nat → Int), c + k = (rndz (nx to at_) (2 * n) (2 * n)).2.1 → k < nn → l = (rnS fr to (nx to at_) (rndz (nx to at_) (2 * n) (2 * n)).2.2.1 (rndz (nx to at_) (2 * n) (2 * n)).2.2.2 A c).1 → B = (rnS fr to (nx to at_) (rndz (nx to at_) (2 * n) (2 * n)).2.2.1 (rndz (nx to at_) (2 * n) (2 * n)).2.2.2 A c).2 →
    LB_Md_renumber_4 fl (((rndz (nx to at_) (2 * n) (2 * n)).2.1 : Nat) : Int) fr co to fo nn (l - 1) (c : Int) B = some (rnS fr to (nx to at_) (rndz (nx to at_) (2 * n) (2 * n)).2.2.1 (rndz (nx to at_) (2 * n) (2 * n)).2.2.2 A (rndz (nx to at_) (2 * n) (2 * n)).2.1).2 := by
  have hf := nx_closed h
  obtain ⟨r1, r2, r3, r4, r5, r6⟩ := rnd_ok hf (2 * n) (Nat.le_refl _)
  intro k
  induction k with
  | zero =>
    intro nn c l B hk hnn hl hB
    obtain ⟨nn, rfl⟩ : ∃ r, nn = r + 1 := ⟨nn - 1, by omega⟩
    rw [LB_Md_renumber_4, if_pos (by omega), hB, show c = (rndz (nx to at_) (2 * n) (2 * n)).2.1 by omega]
  | succ k ih =>
    intro nn c l B hk hnn hl hB
    obtain ⟨nn, rfl⟩ : ∃ r, nn = r + 1 := ⟨nn - 1, by omega⟩
    have hb := rnS_b fr to (nx to at_) (rndz (nx to at_) (2 * n) (2 * n)).2.2.1 (rndz (nx to at_) (2 * n) (2 * n)).2.2.2 A (m := 40) c (fun k hk => by have := (rnd_len hf (show k < (rndz (nx to at_) (2 * n) (2 * n)).2.1 by omega)).1; omega)
    have hm : c * 40 ≤ 40 * 40 := Nat.mul_le_mul_right 40 (by omega)
    have hc2 : c < (rndz (nx to at_) (2 * n) (2 * n)).2.1 := by omega
    have st := (r5 c hc2).1
    rw [LB_Md_renumber_4, if_neg (by omega)]
    have := mn14 fl hfl hn h hfo hco (((rndz (nx to at_) (2 * n) (2 * n)).2.1 : Nat) : Int) (LB_Md_renumber_4 fl (((rndz (nx to at_) (2 * n) (2 * n)).2.1 : Nat) : Int) fr co to fo nn) hc2 l B (by omega) (by omega) ((rndz (nx to at_) (2 * n) (2 * n)).2.2.1 c) fl 0 (by omega) (by omega)
    rw [show ((0 : Nat) : Int) = 0 from rfl] at this
    rw [this, show ((c : Int) + 1) = ((c + 1 : Nat) : Int) by omega, show l - 1 + ((rndz (nx to at_) (2 * n) (2 * n)).2.2.2 c : Int) = (l + ((rndz (nx to at_) (2 * n) (2 * n)).2.2.2 c : Int)) - 1 by omega]
    refine ih nn (c + 1) _ _ (by omega) (by omega) ?_ ?_
    · rw [rnS_s, hl]
    · rw [rnS_s, ← hl, ← hB]
theorem M_renumber (fl : Nat) (hfl : 200 ≤ fl) (hn : n ≤ 20) (h : EdgA n sg lb nm fr to at_) {fo co : Nat → Int} (hfo : ∀ e, e < 2 * n → fo e = ((nx to at_ e : Nat) : Int)) (hco : like (2 * n) co (rndz (nx to at_) (2 * n) (2 * n)).1) (A : Nat → Int) :
    LM_Md_renumber fl (((rndz (nx to at_) (2 * n) (2 * n)).2.1 : Nat) : Int) fr co to fo A = some (rnS fr to (nx to at_) (rndz (nx to at_) (2 * n) (2 * n)).2.2.1 (rndz (nx to at_) (2 * n) (2 * n)).2.2.2 A (rndz (nx to at_) (2 * n) (2 * n)).2.1).2 := by
  have hf := nx_closed h
  obtain ⟨r1, r2, r3, r4, r5, r6⟩ := rnd_ok hf (2 * n) (Nat.le_refl _)
  unfold LM_Md_renumber LB_Md_renumber_0
  exact mn4 fl hfl hn h hfo hco _ fl 0 1 A (Nat.zero_add _) (by omega) rfl rfl
end
