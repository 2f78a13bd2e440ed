/-- the line that waits next, in the class and in the reference -/
def LnC (count done : Int) (start value : Nat → Int) (m : Nat) (nuv : Nat → Int) : Prop := ∃ N K b : Nat, count = (N : Int) ∧ done = (K : Int) ∧ K < N ∧ N ≤ 64 ∧ start K = (b : Int) ∧ start (K + 1) = ((b + m : Nat) : Int) ∧ b + m ≤ 4000 ∧ ∀ i, i < m → value (b + i) = nuv i
def LnM (next : Int) (begins numbers : Nat → Int) (m : Nat) (nuv : Nat → Int) : Prop := ∃ K b : Nat, next = (K : Int) ∧ K < 64 ∧ begins K = (b : Int) ∧ begins (K + 1) = ((b + m : Nat) : Int) ∧ b + m ≤ 9000 ∧ ∀ i, i < m → numbers (b + i) = nuv i
def nmB (m : Nat) (nuv : Nat → Int) : Prop := ∀ i, i < m → -9999 ≤ nuv i ∧ nuv i ≤ 9999
section
variable {count done next : Int} {start value begins numbers nuv : Nat → Int} {m : Nat}
theorem C_nums (fl : Nat) (h : LnC count done start value m nuv) : LM_Li_numbers fl count done start = some (m : Int) := by
  obtain ⟨N, K, b, e1, e2, h1, h2, s1, s2, h3, hv⟩ := h
  unfold LM_Li_numbers LB_Li_numbers_0
  rw [e1, e2, show ((K : Int) + 1) = ((K + 1 : Nat) : Int) by omega, Int.toNat_natCast, Int.toNat_natCast, s1, s2, if_neg (by omega), if_pos (by omega), if_pos (by omega), if_pos (by omega), show ((b + m : Nat) : Int) - (b : Int) = (m : Int) by omega]
theorem C_long (fl : Nat) (h : LnC count done start value m nuv) {i : Nat} (hi : i < m) : LM_Li_longNumber fl count done start value (i : Int) = some (nuv i) := by
  obtain ⟨N, K, b, e1, e2, h1, h2, s1, s2, h3, hv⟩ := h
  unfold LM_Li_longNumber LB_Li_longNumber_0
  rw [e1, e2, show ((K : Int) + 1) = ((K + 1 : Nat) : Int) by omega, Int.toNat_natCast, Int.toNat_natCast, s1, s2, if_neg (by omega), if_neg (by omega), if_pos (by omega), if_pos (by omega), if_pos (by omega), if_pos (by omega), if_pos (by omega), show Int.toNat ((b : Int) + (i : Int)) = b + i by omega, hv i hi]
theorem C_long0 (fl : Nat) (h : LnC count done start value m nuv) {i : Int} (hi : (m : Int) ≤ i) : LM_Li_longNumber fl count done start value i = some 0 := by
  obtain ⟨N, K, b, e1, e2, h1, h2, s1, s2, h3, hv⟩ := h
  unfold LM_Li_longNumber LB_Li_longNumber_0
  rw [e1, e2, show ((K : Int) + 1) = ((K + 1 : Nat) : Int) by omega, Int.toNat_natCast, Int.toNat_natCast, s1, s2, if_neg (by omega), if_neg (by omega), if_pos (by omega), if_pos (by omega), if_pos (by omega), if_neg (by omega)]
theorem C_num (fl : Nat) (h : LnC count done start value m nuv) {i : Nat} (hi : i < m) (hb : -100000 ≤ nuv i ∧ nuv i ≤ 100000) : LM_Li_number fl count done start value (i : Int) = some (nuv i) := by
  unfold LM_Li_number LB_Li_number_0
  rw [C_long fl h hi, Option.bind_some, if_pos (by omega)]
theorem C_num0 (fl : Nat) (h : LnC count done start value m nuv) {i : Int} (hi : (m : Int) ≤ i) : LM_Li_number fl count done start value i = some 0 := by
  unfold LM_Li_number LB_Li_number_0
  rw [C_long0 fl h hi, Option.bind_some, if_pos (by omega)]
theorem M_many (fl : Nat) (h : LnM next begins numbers m nuv) : LM_Md_many fl next begins = some (m : Int) := by
  obtain ⟨K, b, e1, h1, s1, s2, h3, hv⟩ := h
  unfold LM_Md_many LB_Md_many_0
  rw [e1, show ((K : Int) + 1) = ((K + 1 : Nat) : Int) by omega, Int.toNat_natCast, Int.toNat_natCast, s1, s2, if_pos (by omega), if_pos (by omega), if_pos (by omega), show ((b + m : Nat) : Int) - (b : Int) = (m : Int) by omega]
theorem M_given (fl : Nat) (h : LnM next begins numbers m nuv) {i : Nat} (hi : i < m) (hb : -100000 ≤ nuv i ∧ nuv i ≤ 100000) : LM_Md_given fl next begins numbers (i : Int) = some (nuv i) := by
  obtain ⟨K, b, e1, h1, s1, s2, h3, hv⟩ := h
  unfold LM_Md_given LB_Md_given_0
  rw [e1, Int.toNat_natCast, s1, if_pos (by omega), if_pos (by omega), show Int.toNat ((b : Int) + (i : Int)) = b + i by omega, hv i hi, if_pos (by omega)]
/-- a line's numbers that are a braid word -/
def goodL (n : Int) (nuv : Nat → Int) (c : Nat) : Prop := ∀ k, k + 1 < c → 1 ≤ absI (nuv (k + 1)) ∧ absI (nuv (k + 1)) < n
def goodW (c : Nat) (nuv : Nat → Int) : Prop := (1 ≤ nuv 0 ∧ nuv 0 ≤ 8 ∧ c ≤ 21) ∧ goodL (nuv 0) nuv c
theorem absI_b {x : Int} (h : -9999 ≤ x ∧ x ≤ 9999) : 0 ≤ absI x ∧ absI x ≤ 9999 := by unfold absI; split <;> omega
theorem sw35 (fl : Nat) (h : LnC count done start value m nuv) (hb : nmB m nuv) (hm : 1 ≤ m) (h21 : m ≤ 21) (n : Int) (s0 l0 f0 : Int) :
    ∀ (r nn k : Nat) (L : Nat → Int), k + r + 1 = m → r < nn → (∀ j, j < k → L j = nuv (j + 1)) → (∀ j, j < k → 1 ≤ absI (nuv (j + 1)) ∧ absI (nuv (j + 1)) < n) →
    (∃ L', LB_Br_setWord_35 fl count done start value nn n ((m - 1 : Nat) : Int) (k : Int) s0 l0 f0 L = some (1, n, ((m - 1 : Nat) : Int), 0, L') ∧ (∀ j, j + 1 < m → L' j = nuv (j + 1)) ∧ goodL n nuv m) ∨ (∃ L', LB_Br_setWord_35 fl count done start value nn n ((m - 1 : Nat) : Int) (k : Int) s0 l0 f0 L = some (0, s0, l0, f0, L') ∧ ¬ goodL n nuv m) := by
  intro r
  induction r with
  | zero =>
    intro nn k L hr hnn h1 h2
    obtain ⟨nn, rfl⟩ : ∃ r, nn = r + 1 := ⟨nn - 1, by omega⟩
    rw [LB_Br_setWord_35, if_pos (by omega)]
    exact Or.inl ⟨L, rfl, fun j hj => h1 j (by omega), fun j hj => h2 j (by omega)⟩
  | succ r ih =>
    intro nn k L hr hnn h1 h2
    obtain ⟨nn, rfl⟩ : ∃ r, nn = r + 1 := ⟨nn - 1, by omega⟩
    have bk := hb (k + 1) (by omega)
    rw [LB_Br_setWord_35, if_neg (by omega), if_pos (by omega), show ((k : Int) + 1) = ((k + 1 : Nat) : Int) by omega, C_num fl h (show k + 1 < m by omega) (by omega), Option.bind_some, if_pos (by omega), Int.toNat_natCast, up_eq, if_pos (by omega), show (if 0 ≤ nuv (k + 1) then nuv (k + 1) else 0 - nuv (k + 1)) = absI (nuv (k + 1)) from rfl]
    by_cases c1 : absI (nuv (k + 1)) < 1
    · rw [if_pos c1]
      exact Or.inr ⟨_, rfl, fun w => by have := (w k (by omega)).1; omega⟩
    · rw [if_neg c1]
      by_cases c2 : absI (nuv (k + 1)) < n
      · rw [if_pos c2]
        refine ih nn (k + 1) _ (by omega) (by omega) (fun j hj => ?_) (fun j hj => ?_)
        · by_cases w : j = k
          · rw [w, up_eq]
          · rw [up_ne _ _ w]; exact h1 j (by omega)
        · by_cases w : j = k
          · rw [w]; exact ⟨by omega, c2⟩
          · exact h2 j (by omega)
      · rw [if_neg c2]
        exact Or.inr ⟨_, rfl, fun w => c2 (w k (by omega)).2⟩
theorem C_setWord (fl : Nat) (hfl : 200 ≤ fl) (h : LnC count done start value m nuv) (hb : nmB m nuv) (hm : 1 ≤ m) (s0 l0 f0 : Int) (L : Nat → Int) :
    (goodW m nuv ∧ ∃ L', LM_Br_setWord fl count done start value s0 l0 f0 L = some (1, nuv 0, ((m - 1 : Nat) : Int), 0, L') ∧ (∀ j, j + 1 < m → L' j = nuv (j + 1))) ∨ (¬ goodW m nuv ∧ ∃ L', LM_Br_setWord fl count done start value s0 l0 f0 L = some (0, s0, l0, f0, L')) := by
  have b0 := hb 0 (by omega)
  unfold LM_Br_setWord LB_Br_setWord_0
  have c0 := C_num fl h (i := 0) (by omega) (by omega)
  rw [show ((0 : Nat) : Int) = 0 from rfl] at c0
  rw [c0, Option.bind_some, C_nums fl h, Option.bind_some]
  have hm4 : m ≤ 4000 := by obtain ⟨N, K, b, _, _, _, _, _, _, h3, _⟩ := h; omega
  by_cases c1 : nuv 0 < 1
  · rw [if_pos c1]; exact Or.inr ⟨fun w => by have := w.1.1; omega, _, rfl⟩
  · rw [if_neg c1]
    by_cases c2 : 8 < nuv 0
    · rw [if_pos c2]; exact Or.inr ⟨fun w => by have := w.1.2.1; omega, _, rfl⟩
    · rw [if_neg c2, if_pos (by omega)]
      by_cases c3 : m ≤ 21
      · rw [if_pos (by omega), show ((m : Int) - 1) = ((m - 1 : Nat) : Int) by omega]
        rcases sw35 fl h hb hm c3 (nuv 0) s0 l0 f0 (m - 1) fl 0 L (by omega) (by omega) (fun j hj => by omega) (fun j hj => by omega) with ⟨L', g1, g2, g3⟩ | ⟨L', g1, g2⟩
        · exact Or.inl ⟨⟨⟨by omega, by omega, c3⟩, g3⟩, L', g1, g2⟩
        · exact Or.inr ⟨fun w => g2 w.2, L', g1⟩
      · rw [if_neg (by omega)]; exact Or.inr ⟨fun w => c3 w.1.2.2, _, rfl⟩
theorem good_Wrd {c : Nat} (h : goodW c nuv) (hc : 1 ≤ c) : Wrd (nuv 0).toNat (c - 1) (fun k => nuv (k + 1)) := by
  obtain ⟨⟨h1, h2, h3⟩, h4⟩ := h
  exact ⟨by omega, by omega, by omega, fun k hk => by
    have := h4 k (by omega)
    show 1 ≤ absI (nuv (k + 1)) ∧ absI (nuv (k + 1)) < (((nuv 0).toNat : Nat) : Int)
    omega⟩
theorem good_WordOK {c : Nat} (h : goodW c nuv) (hc : 1 ≤ c) {a : Nat → Int} (ha : ∀ j, j + 1 < c → a j = nuv (j + 1)) : WordOK (nuv 0).toNat (c - 1) a := by
  obtain ⟨⟨h1, h2, h3⟩, h4⟩ := h
  refine ⟨by omega, by omega, by omega, fun k hk => ?_⟩
  have := h4 k (by omega)
  rw [ha k (by omega)]
  unfold absI at this
  split at this <;> omega
end
def okL : List Int := ansL 67
def noL : List Int := ansL 69
theorem M_ansIf (fl : Nat) (hfl : 2000 ≤ fl) (x : Int) (s : Int × (Nat → Int)) (h : 0 ≤ s.1 ∧ s.1 ≤ 7000) : LM_Md_answerIf fl x s.1 s.2 = some (mm (if x = 0 then noL else okL) s) := by
  unfold LM_Md_answerIf LB_Md_answerIf_0 LB_Md_answerIf_14
  by_cases c : x = 0
  · rw [if_pos c, if_pos c, M_answer fl hfl (by decide) s h, Option.bind_some]; rfl
  · rw [if_neg c, if_neg c, M_answer fl hfl (by decide) s h, Option.bind_some]; rfl
theorem wb18 (fl : Nat) (s c : Int) (a : Nat → Int) : ∀ (r nn k : Nat) (b : Nat → Int), k + r = 20 → r < nn → (∀ j, j < k → b j = a j) → ∀ s1 c1 : Int, ∃ b', LB_Md_Wo_become_18 fl s c a nn (k : Int) s1 c1 b = some (s1, c1, b') ∧ ∀ j, j < 20 → b' j = a j := by
  intro r
  induction r with
  | zero =>
    intro nn k b hr hnn hb s1 c1
    obtain ⟨nn, rfl⟩ : ∃ r, nn = r + 1 := ⟨nn - 1, by omega⟩
    rw [LB_Md_Wo_become_18, if_pos (by omega)]
    exact ⟨b, rfl, fun j hj => hb j (by omega)⟩
  | succ r ih =>
    intro nn k b hr hnn hb s1 c1
    obtain ⟨nn, rfl⟩ : ∃ r, nn = r + 1 := ⟨nn - 1, by omega⟩
    rw [LB_Md_Wo_become_18, if_neg (by omega), if_pos (by omega), if_pos (by omega), Int.toNat_natCast, show ((k : Int) + 1) = ((k + 1 : Nat) : Int) by omega]
    refine ih nn (k + 1) _ (by omega) (by omega) (fun j hj => ?_) s1 c1
    by_cases w : j = k
    · rw [w, up_eq]
    · rw [up_ne _ _ w]; exact hb j (by omega)
theorem M_wbecome (fl : Nat) (hfl : 200 ≤ fl) (s c : Int) (a : Nat → Int) (s0 c0 : Int) (b : Nat → Int) : ∃ b', LM_Md_Wo_become fl s c a s0 c0 b = some (s, c, b') ∧ ∀ j, j < 20 → b' j = a j := by
  unfold LM_Md_Wo_become LB_Md_Wo_become_0
  exact wb18 fl s c a 20 fl 0 b (by omega) (by omega) (fun j hj => by omega) s c
section
variable {next : Int} {begins numbers nuv : Nat → Int} {m : Nat}
theorem sb131 (fl : Nat) (hfl : 200 ≤ fl) (h : LnM next begins numbers m nuv) (hb : nmB m nuv) (hm : 1 ≤ m) (hg : goodW m nuv) (x1 x3 : Int) (ms dn dc : Int) (dl ds : Nat → Int) (es ec : Int) (el : Nat → Int) (ma to : Nat → Int) :
    ∀ (r nn k : Nat) (L : Nat → Int), k + r + 1 = m → r < nn → (∀ j, j < k → L j = nuv (j + 1)) →
    ∃ A S to' L', LB_Md_setBraid_131 fl next begins numbers nn x1 ((m - 1 : Nat) : Int) x3 (k : Int) ms dn dc dl ds es ec el (nuv 0) ((m - 1 : Nat) : Int) L ma to = some (ms, ((m - 1 : Nat) : Int), (clD (nuv 0).toNat (m - 1) (fun k => nuv (k + 1))).2.1, A, S, es, ec, el, nuv 0, ((m - 1 : Nat) : Int), L', ma, to') ∧ DA (clD (nuv 0).toNat (m - 1) (fun k => nuv (k + 1))) ((m - 1 : Nat) : Int) (clD (nuv 0).toNat (m - 1) (fun k => nuv (k + 1))).2.1 A S ∧ (∀ j, j + 1 < m → L' j = nuv (j + 1)) := by
  have h21 := hg.1.2.2
  have n0 := hg.1
  intro r
  induction r with
  | zero =>
    intro nn k L hr hnn hL
    obtain ⟨nn, rfl⟩ : ∃ r, nn = r + 1 := ⟨nn - 1, by omega⟩
    obtain ⟨A, S, to', g1, g2⟩ := M_close fl hfl (good_Wrd hg hm) (x := L) (fun j hj => hL j (by omega)) dn dc dl ds to
    rw [show (((nuv 0).toNat : Nat) : Int) = nuv 0 by omega] at g1
    rw [LB_Md_setBraid_131, if_pos (by omega), g1, Option.bind_some]
    exact ⟨A, S, to', L, rfl, g2, fun j hj => hL j (by omega)⟩
  | succ r ih =>
    intro nn k L hr hnn hL
    obtain ⟨nn, rfl⟩ : ∃ r, nn = r + 1 := ⟨nn - 1, by omega⟩
    have bk := hb (k + 1) (by omega)
    rw [LB_Md_setBraid_131, if_neg (by omega), if_pos (by omega), show ((k : Int) + 1) = ((k + 1 : Nat) : Int) by omega, M_given fl h (show k + 1 < m by omega) (by omega), Option.bind_some, if_pos (by omega), Int.toNat_natCast]
    refine ih nn (k + 1) _ (by omega) (by omega) (fun j hj => ?_)
    by_cases w : j = k
    · rw [w, up_eq]
    · rw [up_ne _ _ w]; exact hL j (by omega)
theorem sb39 (fl : Nat) (hfl : 2000 ≤ fl) (h : LnM next begins numbers m nuv) (hb : nmB m nuv) (hm : 1 ≤ m) (ms dn dc : Int) (dl ds : Nat → Int) (es ec : Int) (el : Nat → Int) (ls lc : Int) (ll ma to : Nat → Int) (hms : 0 ≤ ms ∧ ms ≤ 7000) :
    ∀ (r nn k : Nat) (g : Int), k + r = m → r < nn → 1 ≤ k → (g = 1 ∧ (1 ≤ nuv 0 ∧ nuv 0 ≤ 8 ∧ m ≤ 21) ∧ (∀ j, j + 1 < k → 1 ≤ absI (nuv (j + 1)) ∧ absI (nuv (j + 1)) < nuv 0) ∨ g = 0 ∧ ¬ goodW m nuv) →
    (goodW m nuv ∧ ∃ A S to' E L', LB_Md_setBraid_39 fl next begins numbers nn (nuv 0) ((m - 1 : Nat) : Int) g (k : Int) ms dn dc dl ds es ec el ls lc ll ma to = some ((mm okL (ms, ma)).1, ((m - 1 : Nat) : Int), (clD (nuv 0).toNat (m - 1) (fun k => nuv (k + 1))).2.1, A, S, ls, lc, E, nuv 0, ((m - 1 : Nat) : Int), L', (mm okL (ms, ma)).2, to') ∧ DA (clD (nuv 0).toNat (m - 1) (fun k => nuv (k + 1))) ((m - 1 : Nat) : Int) (clD (nuv 0).toNat (m - 1) (fun k => nuv (k + 1))).2.1 A S ∧ (∀ j, j + 1 < m → L' j = nuv (j + 1)) ∧ (∀ j, j < 20 → E j = ll j)) ∨
    (¬ goodW m nuv ∧ LB_Md_setBraid_39 fl next begins numbers nn (nuv 0) ((m - 1 : Nat) : Int) g (k : Int) ms dn dc dl ds es ec el ls lc ll ma to = some ((mm noL (ms, ma)).1, dn, dc, dl, ds, es, ec, el, ls, lc, ll, (mm noL (ms, ma)).2, to)) := by
  have hm9 : m ≤ 9000 := by obtain ⟨K, b, _, _, _, _, h3, _⟩ := h; omega
  intro r
  induction r with
  | zero =>
    intro nn k g hr hnn hk hg
    obtain ⟨nn, rfl⟩ : ∃ r, nn = r + 1 := ⟨nn - 1, by omega⟩
    rw [LB_Md_setBraid_39, if_pos (by omega), M_ansIf fl hfl g (ms, ma) hms, Option.bind_some]
    rcases hg with ⟨g1, g2, g3⟩ | ⟨g1, g2⟩
    · have gw : goodW m nuv := ⟨g2, fun j hj => g3 j (by omega)⟩
      obtain ⟨E, w1, w2⟩ := M_wbecome fl (by omega) ls lc ll es ec el
      obtain ⟨A, S, to', L', s1, s2, s3⟩ := sb131 fl (by omega) h hb hm gw (nuv 0) g (mm (if g = 0 then noL else okL) (ms, ma)).1 dn dc dl ds ls lc E (mm (if g = 0 then noL else okL) (ms, ma)).2 to (m - 1) fl 0 ll (by omega) (by have := gw.1; omega) (fun j hj => by omega)
      rw [show ((0 : Nat) : Int) = 0 from rfl] at s1
      rw [if_pos (by omega), w1, Option.bind_some]
      dsimp only
      rw [s1, if_neg (by omega)]
      exact Or.inl ⟨gw, A, S, to', E, L', rfl, s2, s3, w2⟩
    · rw [if_neg (by omega), if_pos g1]
      exact Or.inr ⟨g2, rfl⟩
  | succ r ih =>
    intro nn k g hr hnn hk hg
    obtain ⟨nn, rfl⟩ : ∃ r, nn = r + 1 := ⟨nn - 1, by omega⟩
    have bk := hb k (by omega)
    have gk := M_given fl h (show k < m by omega) (by omega)
    rw [LB_Md_setBraid_39, if_neg (by omega)]
    have e83 : ∀ g' : Int, (¬ goodW m nuv) → LB_Md_setBraid_83 fl next begins numbers (LB_Md_setBraid_39 fl next begins numbers nn) (nuv 0) ((m - 1 : Nat) : Int) g' (k : Int) ms dn dc dl ds es ec el ls lc ll ma to = some ((mm noL (ms, ma)).1, dn, dc, dl, ds, es, ec, el, ls, lc, ll, (mm noL (ms, ma)).2, to) := fun g' ng => by
      unfold LB_Md_setBraid_83 LB_Md_setBraid_84
      rw [if_pos (by omega), show ((k : Int) + 1) = ((k + 1 : Nat) : Int) by omega]
      rcases ih nn (k + 1) 0 (by omega) (by omega) (by omega) (Or.inr ⟨rfl, ng⟩) with ⟨w, _⟩ | ⟨_, w⟩
      · exact absurd w ng
      · exact w
    rcases hg with ⟨g1, g2, g3⟩ | ⟨g1, g2⟩
    · rw [if_neg (by omega), gk, Option.bind_some]
      have ek : k - 1 + 1 = k := by omega
      by_cases c1 : nuv k = 0
      · have ng : ¬ goodW m nuv := fun w => by
          have := (w.2 (k - 1) (by omega)).1
          rw [ek, c1] at this; unfold absI at this; omega
        rw [if_pos c1]
        exact Or.inr ⟨ng, e83 g ng⟩
      · rw [if_neg c1, Option.bind_some]
        by_cases c2 : nuv 0 ≤ nuv k
        · have ng : ¬ goodW m nuv := fun w => by
            have := (w.2 (k - 1) (by omega)).2
            rw [ek] at this; unfold absI at this; split at this <;> omega
          rw [if_pos c2]
          exact Or.inr ⟨ng, e83 g ng⟩
        · rw [if_neg c2, Option.bind_some, if_pos (by omega)]
          by_cases c3 : nuv k ≤ -(nuv 0)
          · have ng : ¬ goodW m nuv := fun w => by
              have := (w.2 (k - 1) (by omega)).2
              rw [ek] at this; unfold absI at this; split at this <;> omega
            rw [if_pos c3]
            exact Or.inr ⟨ng, e83 g ng⟩
          · rw [if_neg c3]
            unfold LB_Md_setBraid_84
            rw [if_pos (by omega), show ((k : Int) + 1) = ((k + 1 : Nat) : Int) by omega]
            refine ih nn (k + 1) 1 (by omega) (by omega) (by omega) (Or.inl ⟨rfl, g2, fun j hj => ?_⟩)
            by_cases w : j + 1 = k
            · rw [w]; unfold absI; split <;> omega
            · exact g3 j (by omega)
    · rw [if_pos g1]
      exact Or.inr ⟨g2, e83 g g2⟩
theorem M_setBraid (fl : Nat) (hfl : 5000 ≤ fl) (h : LnM next begins numbers m nuv) (hb : nmB m nuv) (hm : 1 ≤ m) (hm4 : m ≤ 4000) (ms dn dc : Int) (dl ds : Nat → Int) (es ec : Int) (el : Nat → Int) (ls lc : Int) (ll ma to : Nat → Int) (hms : 0 ≤ ms ∧ ms ≤ 7000) :
    (goodW m nuv ∧ ∃ A S to' E L', LM_Md_setBraid fl next begins numbers ms dn dc dl ds es ec el ls lc ll ma to = some ((mm okL (ms, ma)).1, ((m - 1 : Nat) : Int), (clD (nuv 0).toNat (m - 1) (fun k => nuv (k + 1))).2.1, A, S, ls, lc, E, nuv 0, ((m - 1 : Nat) : Int), L', (mm okL (ms, ma)).2, to') ∧ DA (clD (nuv 0).toNat (m - 1) (fun k => nuv (k + 1))) ((m - 1 : Nat) : Int) (clD (nuv 0).toNat (m - 1) (fun k => nuv (k + 1))).2.1 A S ∧ (∀ j, j + 1 < m → L' j = nuv (j + 1)) ∧ (∀ j, j < 20 → E j = ll j)) ∨
    (¬ goodW m nuv ∧ LM_Md_setBraid fl next begins numbers ms dn dc dl ds es ec el ls lc ll ma to = some ((mm noL (ms, ma)).1, dn, dc, dl, ds, es, ec, el, ls, lc, ll, (mm noL (ms, ma)).2, to)) := by
  have b0 := hb 0 (by omega)
  have c0 := M_given fl h (i := 0) (by omega) (by omega)
  rw [show ((0 : Nat) : Int) = 0 from rfl] at c0
  unfold LM_Md_setBraid LB_Md_setBraid_0 LB_Md_setBraid_34 LB_Md_setBraid_35
  rw [c0, Option.bind_some, M_many fl h, Option.bind_some, if_pos (show -2147483648 ≤ (m : Int) - 1 ∧ (m : Int) - 1 < 2147483648 by omega), show ((m : Int) - 1) = ((m - 1 : Nat) : Int) by omega]
  have no : ¬ goodW m nuv → _ := fun ng => sb39 fl (by omega) h hb hm ms dn dc dl ds es ec el ls lc ll ma to hms (m - 1) fl 1 0 (by omega) (by omega) (by omega) (Or.inr ⟨rfl, ng⟩)
  rw [show ((1 : Nat) : Int) = 1 from rfl] at no
  by_cases c1 : nuv 0 < 1
  · rw [if_pos c1]; exact no (fun w => by have := w.1.1; omega)
  · rw [if_neg c1]
    by_cases c2 : 8 < nuv 0
    · rw [if_pos c2]; exact no (fun w => by have := w.1.2.1; omega)
    · rw [if_neg c2, if_pos (show -2147483648 ≤ ((m - 1 : Nat) : Int) ∧ ((m - 1 : Nat) : Int) < 2147483648 by omega)]
      by_cases c3 : 20 < ((m - 1 : Nat) : Int)
      · rw [if_pos c3]; exact no (fun w => by have := w.1.2.2; omega)
      · rw [if_neg c3]
        have := sb39 fl (by omega) h hb hm ms dn dc dl ds es ec el ls lc ll ma to hms (m - 1) fl 1 1 (by omega) (by omega) (by omega) (Or.inl ⟨rfl, by omega, fun j hj => by omega⟩)
        rw [show ((1 : Nat) : Int) = 1 from rfl] at this
        exact this
end
