theorem key_mk {l : Int} {q : Nat} (h1 : 0 ≤ l) (h2 : l < 16777216) (hq : q < 128) : ior (ishl l (7 % 32)) (q : Int) = l * 128 + (q : Int) := by
  obtain ⟨a, rfl⟩ : ∃ a : Nat, l = (a : Int) := ⟨l.toNat, by omega⟩
  have e1 : ishl (a : Int) (7 % 32) = ((a * 128 : Nat) : Int) := by
    unfold ishl
    show ((Int32.ofInt (a : Int)).toBitVec <<< (7 : BitVec 32)).toInt = _
    have : (Int32.ofInt (a : Int)).toBitVec = BitVec.ofNat 32 a := by
      rw [show Int32.ofInt (a : Int) = Int32.ofNat a from rfl]; rfl
    rw [this]
    have h3 : (BitVec.ofNat 32 a <<< (7 : BitVec 32)).toNat = a * 128 := by
      rw [BitVec.shiftLeft_eq', BitVec.toNat_shiftLeft, BitVec.toNat_ofNat]
      rw [show (7 : BitVec 32).toNat = 7 from rfl, Nat.shiftLeft_eq, Nat.mod_eq_of_lt (show a < 2 ^ 32 by omega)]
      exact Nat.mod_eq_of_lt (by omega)
    rw [BitVec.toInt_eq_toNat_of_lt (by rw [h3]; omega), h3]
  rw [e1]
  unfold ior
  have e2 : Int32.ofInt ((a * 128 : Nat) : Int) = Int32.ofNat (a * 128) := rfl
  have e3 : Int32.ofInt (q : Int) = Int32.ofNat q := rfl
  rw [e2, e3]
  show (BitVec.ofNat 32 (a * 128) ||| BitVec.ofNat 32 q).toInt = _
  have h3 : (BitVec.ofNat 32 (a * 128) ||| BitVec.ofNat 32 q).toNat = a * 128 + q := by
    rw [BitVec.toNat_or, BitVec.toNat_ofNat, BitVec.toNat_ofNat, Nat.mod_eq_of_lt (show a * 128 < 2 ^ 32 by omega), Nat.mod_eq_of_lt (show q < 2 ^ 32 by omega)]
    have := Nat.two_pow_add_eq_or_of_lt (i := 7) (b := q) (by omega) a
    rw [Nat.mul_comm a 128]
    exact this.symm
  rw [BitVec.toInt_eq_toNat_of_lt (by rw [h3]; omega), h3]
  omega
theorem key_lab {k : Int} (h1 : 0 ≤ k) (h2 : k < 2147483648) : ishr k (7 % 32) = k / 128 := by
  obtain ⟨a, rfl⟩ : ∃ a : Nat, k = (a : Int) := ⟨k.toNat, by omega⟩
  unfold ishr
  show ((Int32.ofInt (a : Int)).toBitVec.sshiftRight 7).toInt = _
  have : (Int32.ofInt (a : Int)).toBitVec = BitVec.ofNat 32 a := by
    rw [show Int32.ofInt (a : Int) = Int32.ofNat a from rfl]; rfl
  rw [this, BitVec.toInt_sshiftRight, BitVec.toInt_eq_toNat_of_lt (by rw [BitVec.toNat_ofNat]; omega), BitVec.toNat_ofNat, Nat.mod_eq_of_lt (by omega), Int.shiftRight_eq_div_pow]
  rfl
/-- the sorted keys of the first m places -/
def Srt (K : Nat → Int) (m : Nat) (A : Nat → Int) : Prop :=
  (∀ i j, i < j → j < m → A i < A j) ∧ (∀ i, i < m → ∃ q, q < m ∧ A i = K q) ∧ (∀ q, q < m → ∃ i, i < m ∧ A i = K q)
theorem so27 (fl : Nat) (c : Int) (lb : Nat → Int) (kb : Int → (Nat → Int) → Option (Nat → Int)) {K : Nat → Int} {m : Nat} (hm : m < 80) {B : Nat → Int} (hB : Srt K m B) (hK : ∀ q, q < m → K q ≠ K m) :
    ∀ (i nn : Nat) (A : Nat → Int), i ≤ m → i < nn → (∀ j, j < i → A j = B j) → (∀ j, i ≤ j → j < m → A (j + 1) = B j) → (∀ j, i ≤ j → j < m → K m < B j) →
    ∃ A', LB_Sh_sortPlaces_27 fl c lb kb nn (m : Int) (K m) (i : Int) A = kb ((m + 1 : Nat) : Int) A' ∧ Srt K (m + 1) A' := by
  intro i
  -- the key put into its place
  have fin : ∀ (i : Nat) (A : Nat → Int), i ≤ m → (∀ j, j < i → A j = B j) → (∀ j, i ≤ j → j < m → A (j + 1) = B j) → (∀ j, i ≤ j → j < m → K m < B j) → (∀ j, j < i → B j < K m) → ∃ A', LB_Sh_sortPlaces_67 fl c lb kb (m : Int) (K m) (i : Int) A = kb ((m + 1 : Nat) : Int) A' ∧ Srt K (m + 1) A' := by
    intro i A hi h1 h2 h3 h4
    unfold LB_Sh_sortPlaces_67
    rw [if_pos (by omega), if_pos (by omega), Int.toNat_natCast, show ((m : Int) + 1) = ((m + 1 : Nat) : Int) by omega]
    refine ⟨_, rfl, ?_, ?_, ?_⟩
    · -- order
      have val : ∀ j, j < m + 1 → up A i (K m) j = if j < i then B j else if j = i then K m else B (j - 1) := by
        intro j hj
        by_cases c1 : j < i
        · rw [if_pos c1, up_ne _ _ (by omega), h1 j c1]
        · rw [if_neg c1]
          by_cases c2 : j = i
          · rw [if_pos c2, c2, up_eq]
          · rw [if_neg c2, up_ne _ _ c2]
            have := h2 (j - 1) (by omega) (by omega)
            rw [show j - 1 + 1 = j by omega] at this
            exact this
      intro a b hab hb
      rw [val a (by omega), val b hb]
      by_cases a1 : a < i
      · rw [if_pos a1]
        by_cases b1 : b < i
        · rw [if_pos b1]; exact hB.1 a b hab (by omega)
        · rw [if_neg b1]
          by_cases b2 : b = i
          · rw [if_pos b2]; exact h4 a a1
          · rw [if_neg b2]; have := h4 a a1; have := h3 (b - 1) (by omega) (by omega); omega
      · rw [if_neg a1, if_neg (by omega : ¬ b < i), if_neg (by omega : ¬ b = i)]
        by_cases a2 : a = i
        · rw [if_pos a2]; exact h3 (b - 1) (by omega) (by omega)
        · rw [if_neg a2]; exact hB.1 (a - 1) (b - 1) (by omega) (by omega)
    · intro j hj
      by_cases c2 : j = i
      · exact ⟨m, by omega, by rw [c2, up_eq]⟩
      · rw [up_ne _ _ c2]
        by_cases c1 : j < i
        · obtain ⟨q, hq, e⟩ := hB.2.1 j (by omega)
          exact ⟨q, by omega, by rw [h1 j c1, e]⟩
        · obtain ⟨q, hq, e⟩ := hB.2.1 (j - 1) (by omega)
          have := h2 (j - 1) (by omega) (by omega)
          rw [show j - 1 + 1 = j by omega] at this
          exact ⟨q, by omega, by rw [this, e]⟩
    · intro q hq
      by_cases c2 : q = m
      · exact ⟨i, by omega, by rw [up_eq, c2]⟩
      · obtain ⟨j, hj, e⟩ := hB.2.2 q (by omega)
        by_cases c1 : j < i
        · exact ⟨j, by omega, by rw [up_ne _ _ (by omega), h1 j c1, e]⟩
        · exact ⟨j + 1, by omega, by rw [up_ne _ _ (by omega), h2 j (by omega) hj, e]⟩
  induction i with
  | zero =>
    intro nn A hi hnn h1 h2 h3
    obtain ⟨nn, rfl⟩ : ∃ r, nn = r + 1 := ⟨nn - 1, by omega⟩
    rw [LB_Sh_sortPlaces_27, if_pos (by omega)]
    exact fin 0 A hi h1 h2 h3 (fun j hj => by omega)
  | succ i ih =>
    intro nn A hi hnn h1 h2 h3
    obtain ⟨nn, rfl⟩ : ∃ r, nn = r + 1 := ⟨nn - 1, by omega⟩
    have e : Int.toNat (((i + 1 : Nat) : Int) - 1) = i := by omega
    rw [LB_Sh_sortPlaces_27, if_neg (by omega), if_pos (by omega), e, h1 i (by omega)]
    by_cases cc : B i ≤ K m
    · rw [if_pos cc]
      have hlt : B i < K m := by
        obtain ⟨q, hq, e⟩ := hB.2.1 i (by omega)
        have := hK q hq
        omega
      refine fin (i + 1) A hi h1 h2 h3 (fun j hj => ?_)
      by_cases w : j = i
      · rw [w]; exact hlt
      · have := hB.1 j i (by omega) (by omega); omega
    · rw [if_neg cc, if_pos (by omega), if_pos (by omega), Int.toNat_natCast, show (((i + 1 : Nat) : Int) + -1) = (i : Int) by omega]
      refine ih nn _ (by omega) (by omega) ?_ ?_ ?_
      · intro j hj; rw [up_ne _ _ (by omega)]; exact h1 j (by omega)
      · intro j j1 j2
        by_cases w : j = i
        · rw [w, up_eq]
        · rw [up_ne _ _ (by omega)]; exact h2 j (by omega) j2
      · intro j j1 j2
        by_cases w : j = i
        · rw [w]; omega
        · exact h3 j (by omega) j2
def Keyz (lb : Nat → Int) (q : Nat) : Int := lb q * 128 + (q : Int)
theorem so2 (fl : Nat) (hfl : 100 ≤ fl) {n : Nat} (hn : n ≤ 20) (lb : Nat → Int) (hl : ∀ q, q < 4 * n → 0 ≤ lb q ∧ lb q ≤ 9999) :
    ∀ (d nn m : Nat) (A : Nat → Int), m + d = 4 * n → d < nn → Srt (Keyz lb) m A → ∃ A', LB_Sh_sortPlaces_2 fl (n : Int) lb nn (m : Int) A = some A' ∧ Srt (Keyz lb) (4 * n) A' := by
  intro d
  induction d with
  | zero =>
    intro nn m A hd hnn h
    obtain ⟨nn, rfl⟩ : ∃ r, nn = r + 1 := ⟨nn - 1, by omega⟩
    rw [LB_Sh_sortPlaces_2, if_pos (by omega), if_pos (by omega)]
    exact ⟨A, rfl, by rw [show 4 * n = m by omega]; exact h⟩
  | succ d ih =>
    intro nn m A hd hnn h
    obtain ⟨nn, rfl⟩ : ∃ r, nn = r + 1 := ⟨nn - 1, by omega⟩
    have hlm := hl m (by omega)
    rw [LB_Sh_sortPlaces_2, if_pos (by omega), if_neg (by omega), if_pos (by omega), Int.toNat_natCast, key_mk hlm.1 (by omega) (by omega)]
    obtain ⟨A', h1, h2⟩ := so27 fl (n : Int) lb (LB_Sh_sortPlaces_2 fl (n : Int) lb nn) (K := Keyz lb) (m := m) (by omega) h (fun q hq => by
      unfold Keyz
      have := hl q (by omega)
      omega) m fl A (Nat.le_refl _) (by omega) (fun j _ => rfl) (fun j j1 j2 => by omega) (fun j j1 j2 => by omega)
    rw [show lb m * 128 + (m : Int) = Keyz lb m from rfl, h1]
    exact ih nn (m + 1) A' (by omega) (by omega) h2
theorem sortP (fl : Nat) (hfl : 100 ≤ fl) {n : Nat} (hn : n ≤ 20) (lb : Nat → Int) (hl : ∀ q, q < 4 * n → 0 ≤ lb q ∧ lb q ≤ 9999) (A : Nat → Int) : ∃ A', LM_Sh_sortPlaces fl (n : Int) lb A = some A' ∧ Srt (Keyz lb) (4 * n) A' := by
  unfold LM_Sh_sortPlaces LB_Sh_sortPlaces_0
  exact so2 fl hfl hn lb hl (4 * n) fl 0 A (by omega) (by omega) ⟨fun i j _ h => by omega, fun i h => by omega, fun q h => by omega⟩
