def rwX (wo : Int) (m : Nat) : Nat := if 0 ≤ wo ∧ wo ≤ (m : Int) then m + 1 else m
/-- the many loop -/
theorem mi44 (fl : Nat) (n : Int) (hi lo : Nat → Int) (kb : Int → Int → Int → (Nat → Int) → Option (Nat → Int)) {K X : Nat} (hK : K ≤ 11) (hX : X < 2048) (wo : Int) (M : Nat → Int) :
    ∀ (r nn j : Nat), j + r = K → r < nn → LB_Md_findMinors_44 fl n hi lo kb nn wo (K : Int) (X : Int) ((cntP (bS X) j : Nat) : Int) (j : Int) M = LB_Md_findMinors_70 fl n hi lo kb fl wo (K : Int) (X : Int) ((cntP (bS X) K : Nat) : Int) 0 M := by
  intro r
  induction r with
  | zero =>
    intro nn j hr hnn
    obtain ⟨nn, rfl⟩ : ∃ r, nn = r + 1 := ⟨nn - 1, by omega⟩
    rw [LB_Md_findMinors_44, if_pos (by omega), show j = K by omega]
  | succ r ih =>
    intro nn j hr hnn
    obtain ⟨nn, rfl⟩ : ∃ r, nn = r + 1 := ⟨nn - 1, by omega⟩
    have cl := cnt_lez (bS X) j
    have e : ((cntP (bS X) j : Nat) : Int) + (if X.testBit j then (1 : Int) else 0) = ((cntP (bS X) (j + 1) : Nat) : Int) := by
      rw [cnt_s]
      have : bS X j = X.testBit j := rfl
      rw [this]
      cases X.testBit j <;> simp
    have cl2 := cnt_lez (bS X) (j + 1)
    rw [LB_Md_findMinors_44, if_neg (by omega), b_test X hX j (by omega), e, if_pos (by omega), show ((j : Int) + 1) = ((j + 1 : Nat) : Int) by omega]
    exact ih nn (j + 1) (by omega) (by omega)
/-- cleared, then the row -/
theorem mi70 (fl : Nat) (n : Nat) (hn : n ≤ 10) (hi lo : Nat → Int) (kb : Int → Int → Int → (Nat → Int) → Option (Nat → Int)) {K X m : Nat} (hK : K ≤ 11) (hX : X < 2048) (hm : 1 ≤ m) (hm2 : m ≤ 11) {wo : Int} (hwo : -1 ≤ wo ∧ wo ≤ 20) :
    ∀ (r nn i : Nat) (M : Nat → Int), i + r = 12 → r < nn → (∀ k, k < i → M (12 * X + k) = 0) →
    ∃ M', LB_Md_findMinors_70 fl (n : Int) hi lo kb nn wo (K : Int) (X : Int) (m : Int) (i : Int) M = (if rwX wo (m - 1) < n then LB_Md_findMinors_142 fl (n : Int) hi lo kb fl wo (K : Int) (X : Int) (m : Int) ((rwX wo (m - 1) : Nat) : Int) 0 ((K : Int) - 1) M' else kb wo (K : Int) ((X + 1 : Nat) : Int) M') ∧ (∀ k, k < 12 → M' (12 * X + k) = 0) ∧ (∀ q, (q < 12 * X ∨ 12 * X + 12 ≤ q) → M' q = M q) := by
  intro r
  induction r with
  | zero =>
    intro nn i M hr hnn hz
    obtain ⟨nn, rfl⟩ : ∃ r, nn = r + 1 := ⟨nn - 1, by omega⟩
    refine ⟨M, ?_, fun k hk => hz k (by omega), fun q _ => rfl⟩
    have fin : ∀ x5 : Int, LB_Md_findMinors_117 fl (n : Int) hi lo kb ((rwX wo (m - 1) : Nat) : Int) wo (K : Int) (X : Int) (m : Int) x5 M = (if rwX wo (m - 1) < n then LB_Md_findMinors_142 fl (n : Int) hi lo kb fl wo (K : Int) (X : Int) (m : Int) ((rwX wo (m - 1) : Nat) : Int) 0 ((K : Int) - 1) M else kb wo (K : Int) ((X + 1 : Nat) : Int) M) := fun x5 => by
      unfold LB_Md_findMinors_117
      by_cases c : rwX wo (m - 1) < n
      · rw [if_pos (by omega), if_pos (by omega), if_pos c]
      · rw [if_neg (by omega), if_neg c]
        unfold LB_Md_findMinors_201
        rw [if_pos (by omega), show ((X : Int) + 1) = ((X + 1 : Nat) : Int) by omega]
    rw [LB_Md_findMinors_70, if_pos (by omega)]
    by_cases w : wo < 0
    · rw [if_pos w]
      unfold LB_Md_findMinors_113
      have e : (m : Int) - 1 = ((rwX wo (m - 1) : Nat) : Int) := by unfold rwX; rw [if_neg (by omega)]; omega
      rw [if_pos (by omega), e]
      exact fin _
    · rw [if_neg w, if_pos (by omega)]
      by_cases v : (m : Int) - 1 < wo
      · rw [if_pos v]
        unfold LB_Md_findMinors_113
        have e : (m : Int) - 1 = ((rwX wo (m - 1) : Nat) : Int) := by unfold rwX; rw [if_neg (by omega)]; omega
        rw [if_pos (by omega), e]
        exact fin _
      · rw [if_neg v]
        have e : (m : Int) = ((rwX wo (m - 1) : Nat) : Int) := by unfold rwX; rw [if_pos (by omega)]; omega
        have f := fin (i : Int)
        rw [← e] at f
        rw [← e]
        exact f
  | succ r ih =>
    intro nn i M hr hnn hz
    obtain ⟨nn, rfl⟩ : ∃ r, nn = r + 1 := ⟨nn - 1, by omega⟩
    rw [LB_Md_findMinors_70, if_neg (by omega), if_pos (by omega), if_pos (by omega), if_pos (by omega), show ((i : Int) + 1) = ((i + 1 : Nat) : Int) by omega, show Int.toNat (12 * (X : Int) + (i : Int)) = 12 * X + i by omega]
    obtain ⟨M', g1, g2, g3⟩ := ih nn (i + 1) (up M (12 * X + i) 0) (by omega) (by omega) (fun k hk => by
      by_cases c : k = i
      · rw [c, up_eq]
      · rw [up_ne _ _ (by omega)]; exact hz k (by omega))
    exact ⟨M', g1, g2, fun q hq => by rw [g3 q hq, up_ne _ _ (by omega)]⟩
def smH (F : Nat → Int) (j K : Nat) : Int := smz (fun i => if j ≤ i then F i else 0) K
theorem smH_s {F : Nat → Int} {j K : Nat} (h : j < K) : smH F j K = smH F (j + 1) K + F j := by
  unfold smH
  have : F j = smz (fun i => if i = j then F j else 0) K := by rw [sm_one (F := fun i => if i = j then F j else 0) h (fun y _ hy => if_neg hy), if_pos rfl]
  rw [this, ← sm_add]
  apply sm_congr
  intro i hi
  by_cases c : i = j
  · subst c; rw [if_pos (Nat.le_refl _), if_neg (by omega), if_pos rfl]; omega
  · by_cases d : j ≤ i
    · rw [if_pos d, if_pos (by omega), if_neg c]; omega
    · rw [if_neg d, if_neg (by omega), if_neg c]; rfl
theorem smH_0 (F : Nat → Int) (K : Nat) : smH F 0 K = smz F K := sm_congr (fun i _ => if_pos (Nat.zero_le _))
theorem smH_K (F : Nat → Int) (K : Nat) : smH F K K = 0 := sm_zero (fun i hi => if_neg (by omega))
theorem cntH_s {X j K : Nat} (h : j < K) : cntP (fun i => bS X i && decide (j ≤ i)) K = cntP (fun i => bS X i && decide (j + 1 ≤ i)) K + (if X.testBit j then 1 else 0) := by
  cases t : X.testBit j
  · have : cntP (fun i => bS X i && decide (j ≤ i)) K = cntP (fun i => bS X i && decide (j + 1 ≤ i)) K := cnt_congr (fun i _ => by
      by_cases e : i = j
      · have : bS X i = false := by rw [e]; exact t
        rw [this]; rfl
      · rw [show decide (j ≤ i) = decide (j + 1 ≤ i) by rw [decide_eq_decide]; omega])
    rw [this]; simp
  · rw [cnt_rm (p := fun i => bS X i && decide (j ≤ i)) (x := j) (by show (bS X j && decide (j ≤ j)) = true; rw [show bS X j = true from t]; simp) h]
    have : cntP (fun q => (fun i => bS X i && decide (j ≤ i)) q && q != j) K = cntP (fun i => bS X i && decide (j + 1 ≤ i)) K := cnt_congr (fun i _ => by
      show ((bS X i && decide (j ≤ i)) && i != j) = (bS X i && decide (j + 1 ≤ i))
      by_cases e : i = j
      · subst e; simp
      · rw [show (i != j) = true by simp [e], show decide (j ≤ i) = decide (j + 1 ≤ i) by rw [decide_eq_decide]; omega]; simp)
    rw [this]; simp
/-- the columns of a set, from the last on -/
theorem mi142 (fl : Nat) (hfl : 100 ≤ fl) (n : Nat) (hn : n ≤ 10) (HI LO : Nat → Int) (kb : Int → Int → Int → (Nat → Int) → Option (Nat → Int)) {K X m : Nat} (hK : K ≤ 11) (hXK : X < 2 ^ K) {wo : Int} {lo hi : Nat → Nat → Int} (h4 : ∀ r, smz (fun j => ((lo r j).natAbs : Int) + ((hi r j).natAbs : Int)) K ≤ 4) (b4 : ∀ r j, -2 ≤ lo r j ∧ lo r j ≤ 2 ∧ -2 ≤ hi r j ∧ hi r j ≤ 2) (hmat : ∀ c, c < n → ∀ j, j < 20 → HI (20 * c + j) = hi c j ∧ LO (20 * c + j) = lo c j) (hcr : crd X ≤ 10) (hrow : rwX wo (crd X - 1) < n) (M0 : Nat → Int) (hM0 : ∀ Y, Y < X → crd Y < crd X → ∀ k, k < 12 → M0 (12 * Y + k) = PV K lo hi (rwX wo) Y k) :
    ∀ (j nn : Nat) (M : Nat → Int), j ≤ K → j < nn → (∀ k, k < 12 → M (12 * X + k) = smH (fun i => if X.testBit i = true then ctr K lo hi (rwX wo) X k i else 0) j K) → (∀ q, (q < 12 * X ∨ 12 * X + 12 ≤ q) → M q = M0 q) →
    ∃ M', LB_Md_findMinors_142 fl (n : Int) HI LO kb nn wo (K : Int) (X : Int) (m : Int) ((rwX wo (crd X - 1) : Nat) : Int) ((cntP (fun i => bS X i && decide (j ≤ i)) K : Nat) : Int) ((j : Int) - 1) M = kb wo (K : Int) ((X + 1 : Nat) : Int) M' ∧ (∀ k, k < 12 → M' (12 * X + k) = smH (fun i => if X.testBit i = true then ctr K lo hi (rwX wo) X k i else 0) 0 K) ∧ (∀ q, (q < 12 * X ∨ 12 * X + 12 ≤ q) → M' q = M0 q) := by
  have hX : X < 2048 := by
    have : 2 ^ K ≤ 2 ^ 11 := Nat.pow_le_pow_right (by omega) hK
    omega
  intro j
  induction j with
  | zero =>
    intro nn M hj hnn h1 h2
    obtain ⟨nn, rfl⟩ : ∃ r, nn = r + 1 := ⟨nn - 1, by omega⟩
    rw [LB_Md_findMinors_142, if_pos (by omega)]
    unfold LB_Md_findMinors_201
    rw [if_pos (by omega), show ((X : Int) + 1) = ((X + 1 : Nat) : Int) by omega]
    exact ⟨M, rfl, h1, h2⟩
  | succ j ih =>
    intro nn M hj hnn h1 h2
    obtain ⟨nn, rfl⟩ : ∃ r, nn = r + 1 := ⟨nn - 1, by omega⟩
    have cb := cnt_lez (fun i => bS X i && decide (j + 1 ≤ i)) K
    have ej : (((j + 1 : Nat) : Int) - 1) = (j : Int) := by omega
    rw [LB_Md_findMinors_142, ej, if_neg (by omega), b_test X hX j (by omega)]
    have cs := cntH_s (X := X) (j := j) (K := K) (by omega)
    cases t : X.testBit j
    · rw [if_neg (by decide)]
      unfold LB_Md_findMinors_195
      rw [if_pos (by omega), show ((j : Int) + -1) = (j : Int) - 1 by omega]
      rw [t] at cs
      have cs : cntP (fun i => bS X i && decide (j ≤ i)) K = cntP (fun i => bS X i && decide (j + 1 ≤ i)) K := by simpa using cs
      rw [← cs]
      refine ih nn M (by omega) (by omega) (fun k hk => ?_) h2
      rw [smH_s (by omega), h1 k hk]
      show _ = _ + (if X.testBit j = true then _ else 0)
      rw [if_neg (by rw [t]; decide)]; omega
    · rw [if_pos (by decide), if_pos (by decide), b_xor X hX j (by omega)]
      have hlt := b_less X hX j (by omega) t
      have hcx := crd_xor (show j < 12 by omega) t
      have gg : gK K (bS X) j = cntP (fun i => bS X i && decide (j + 1 ≤ i)) K := rfl
      have bpv : ∀ k, k < 12 → -10000000 ≤ PV K lo hi (rwX wo) (X ^^^ 2 ^ j) k ∧ PV K lo hi (rwX wo) (X ^^^ 2 ^ j) k ≤ 10000000 := fun k _ => by
        have := abs_b (PV_abs (ρ := rwX wo) h4 (X ^^^ 2 ^ j) k) (by omega)
        omega
      have main : ∀ s : Int, (s = 1 ∨ s = -1) → s = eps (gK K (bS X) j) → ∃ M', LB_Md_findMinors_181 fl (n : Int) HI LO kb (LB_Md_findMinors_142 fl (n : Int) HI LO kb nn) s ((X ^^^ 2 ^ j : Nat) : Int) (X : Int) wo (K : Int) (X : Int) (m : Int) ((rwX wo (crd X - 1) : Nat) : Int) ((cntP (fun i => bS X i && decide (j + 1 ≤ i)) K : Nat) : Int) (j : Int) M = kb wo (K : Int) ((X + 1 : Nat) : Int) M' ∧ (∀ k, k < 12 → M' (12 * X + k) = smH (fun i => if X.testBit i = true then ctr K lo hi (rwX wo) X k i else 0) 0 K) ∧ (∀ q, (q < 12 * X ∨ 12 * X + 12 ≤ q) → M' q = M0 q) := fun s hs he => by
        unfold LB_Md_findMinors_181
        have mt := hmat _ hrow j (by omega)
        have bb := b4 (rwX wo (crd X - 1)) j
        have ecell : (20 * ((rwX wo (crd X - 1) : Nat) : Int) + (j : Int)) = ((20 * rwX wo (crd X - 1) + j : Nat) : Int) := by omega
        rw [if_pos (by omega), ecell]
        obtain ⟨M1, g1, g2, g3⟩ := M_addTimes fl hfl (to_ := X) (fr_ := X ^^^ 2 ^ j) hX (by omega) (by omega) hs (cell := 20 * rwX wo (crd X - 1) + j) (by omega) (hi := HI) (lo := LO) (by rw [mt.2]; omega) (by rw [mt.1]; omega) bpv (T := fun k => smH (fun i => if X.testBit i = true then ctr K lo hi (rwX wo) X k i else 0) (j + 1) K) (fun k _ => by
          have B : (4 : Int) ^ 9 = 262144 := by decide
          have := sm_abs (F := fun i => if j + 1 ≤ i then (if X.testBit i = true then ctr K lo hi (rwX wo) X k i else 0) else 0) (c := fun _ => 4000000) (B := 1) K (fun i hi' => by
            rw [Int.mul_one]
            show (((if _ then _ else 0 : Int)).natAbs : Int) ≤ _
            split
            · split
              · next w =>
                have c2 := crd_xor (show i < 12 by omega) w
                have v1 := abs_b (PV_abs (ρ := rwX wo) h4 (X ^^^ 2 ^ i) k) (by omega)
                have v2 : -1000000 ≤ sh (PV K lo hi (rwX wo) (X ^^^ 2 ^ i)) k ∧ sh (PV K lo hi (rwX wo) (X ^^^ 2 ^ i)) k ≤ 1000000 := by
                  unfold sh; split
                  · omega
                  · exact abs_b (PV_abs (ρ := rwX wo) h4 (X ^^^ 2 ^ i) _) (by omega)
                unfold ctr
                rw [eps_abs]
                have b := b4 (rwX wo (crd X - 1)) i
                have p1 : ∀ x y : Int, -2 ≤ x ∧ x ≤ 2 → -1000000 ≤ y ∧ y ≤ 1000000 → -2000000 ≤ x * y ∧ x * y ≤ 2000000 := fun x y hx hy => by
                  have : x = -2 ∨ x = -1 ∨ x = 0 ∨ x = 1 ∨ x = 2 := by omega
                  rcases this with e | e | e | e | e <;> rw [e] <;> omega
                have q1 := p1 _ _ ⟨b.1, b.2.1⟩ v1
                have q2 := p1 _ _ ⟨b.2.2.1, b.2.2.2⟩ v2
                omega
              · show ((0 : Int).natAbs : Int) ≤ 4000000; decide
            · show ((0 : Int).natAbs : Int) ≤ 4000000; decide)
          have sc : ∀ N : Nat, smz (fun _ => (4000000 : Int)) N = 4000000 * (N : Int) := by
            intro N
            induction N with
            | zero => rfl
            | succ N ihN => rw [sm_s, ihN]; omega
          rw [sc, Int.mul_one] at this
          have this : (((smH (fun i => if X.testBit i = true then ctr K lo hi (rwX wo) X k i else 0) (j + 1) K).natAbs : Nat) : Int) ≤ 4000000 * (K : Int) := this
          show -10000000000 ≤ smH _ (j + 1) K ∧ smH _ (j + 1) K ≤ 10000000000
          omega) M (fun k hk => by rw [h2 _ (by omega), hM0 _ hlt (by omega) k hk]) h1
        rw [g1, Option.bind_some, if_pos (by omega)]
        unfold LB_Md_findMinors_195
        rw [t] at cs
        have cs : cntP (fun i => bS X i && decide (j ≤ i)) K = cntP (fun i => bS X i && decide (j + 1 ≤ i)) K + 1 := by simpa using cs
        rw [if_pos (by omega), show ((j : Int) + -1) = (j : Int) - 1 by omega, show ((cntP (fun i => bS X i && decide (j + 1 ≤ i)) K : Nat) : Int) + 1 = ((cntP (fun i => bS X i && decide (j ≤ i)) K : Nat) : Int) by omega]
        refine ih nn M1 (by omega) (by omega) (fun k hk => ?_) (fun q hq => by rw [g3 q hq]; exact h2 q hq)
        rw [smH_s (by omega), g2 k hk]
        show _ = _ + (if X.testBit j = true then _ else 0)
        rw [if_pos t, mt.1, mt.2, he]; rfl
      by_cases par : cntP (fun i => bS X i && decide (j + 1 ≤ i)) K % 2 = 0
      · rw [if_neg (show ¬ ¬ (Int.tmod ((cntP (fun i => bS X i && decide (j + 1 ≤ i)) K : Nat) : Int) 2 = 0) by rw [Int.tmod_eq_emod_of_nonneg (by omega)]; omega)]
        exact main 1 (Or.inl rfl) (by rw [gg]; unfold eps; rw [if_pos par])
      · rw [if_pos (show ¬ (Int.tmod ((cntP (fun i => bS X i && decide (j + 1 ≤ i)) K : Nat) : Int) 2 = 0) by rw [Int.tmod_eq_emod_of_nonneg (by omega)]; omega)]
        exact main (-1) (Or.inr rfl) (by rw [gg]; unfold eps; rw [if_neg par])
/-- all sets -/
theorem mi31 (fl : Nat) (hfl : 100 ≤ fl) (n : Nat) (hn : n ≤ 10) (HI LO : Nat → Int) {K : Nat} (hK : K ≤ 11) {wo : Int} (hwo : -1 ≤ wo ∧ wo ≤ 20) {lo hi : Nat → Nat → Int} (h4 : ∀ r, smz (fun j => ((lo r j).natAbs : Int) + ((hi r j).natAbs : Int)) K ≤ 4) (b4 : ∀ r j, -2 ≤ lo r j ∧ lo r j ≤ 2 ∧ -2 ≤ hi r j ∧ hi r j ≤ 2) (hmat : ∀ c, c < n → ∀ j, j < 20 → HI (20 * c + j) = hi c j ∧ LO (20 * c + j) = lo c j) {R : Nat} (hR : R ≤ 10) (hRn : ∀ m, m < R → rwX wo m < n) (hRx : ∀ m, R ≤ m → ¬ rwX wo m < n) :
    ∀ (r nn X : Nat) (M : Nat → Int), X + r = 2 ^ K → r < nn → 1 ≤ X → (∀ Y, Y < X → crd Y ≤ R → ∀ k, k < 12 → M (12 * Y + k) = PV K lo hi (rwX wo) Y k) →
    ∃ M', LB_Md_findMinors_31 fl (n : Int) HI LO nn wo (K : Int) (X : Int) M = some M' ∧ ∀ Y, Y < 2 ^ K → crd Y ≤ R → ∀ k, k < 12 → M' (12 * Y + k) = PV K lo hi (rwX wo) Y k := by
  have p11 : 2 ^ K ≤ 2048 := by
    have : 2 ^ K ≤ 2 ^ 11 := Nat.pow_le_pow_right (by omega) hK
    omega
  intro r
  induction r with
  | zero =>
    intro nn X M hr hnn hX1 h
    obtain ⟨nn, rfl⟩ : ∃ r, nn = r + 1 := ⟨nn - 1, by omega⟩
    rw [LB_Md_findMinors_31, b_shl K (by omega), if_pos (by omega)]
    exact ⟨M, rfl, fun Y hY => h Y (by omega)⟩
  | succ r ih =>
    intro nn X M hr hnn hX1 h
    obtain ⟨nn, rfl⟩ : ∃ r, nn = r + 1 := ⟨nn - 1, by omega⟩
    have hXK : X < 2 ^ K := by omega
    rw [LB_Md_findMinors_31, b_shl K (by omega), if_neg (by omega)]
    have m44 := mi44 fl (n : Int) HI LO (LB_Md_findMinors_31 fl (n : Int) HI LO nn) (K := K) (X := X) hK (by omega) wo M K fl 0 (by omega) (by omega)
    have m44 : LB_Md_findMinors_44 fl (n : Int) HI LO (LB_Md_findMinors_31 fl (n : Int) HI LO nn) fl wo (K : Int) (X : Int) 0 0 M = _ := m44
    rw [m44]
    have ck : cntP (bS X) K = crd X := cnt_bS hXK (Nat.le_refl _) (by omega)
    have c1 : 1 ≤ crd X := by
      rcases Nat.eq_zero_or_pos (crd X) with e | e
      · exfalso
        have : X = 0 := by
          apply Nat.eq_of_testBit_eq
          intro i
          rw [Nat.zero_testBit]
          by_cases c : i < 12
          · cases t : X.testBit i
            · rfl
            · have := cnt_pos (p := bS X) c t
              unfold crd at e; omega
          · exact bS_hi hXK (by omega)
        omega
      · exact e
    have c11 := crd_le hXK (by omega)
    rw [ck]
    obtain ⟨M1, g1, g2, g3⟩ := mi70 fl n hn HI LO (LB_Md_findMinors_31 fl (n : Int) HI LO nn) (K := K) (X := X) (m := crd X) hK (by omega) c1 (by omega) hwo 12 fl 0 M (by omega) (by omega) (fun k hk => by omega)
    have g1 : LB_Md_findMinors_70 fl (n : Int) HI LO (LB_Md_findMinors_31 fl (n : Int) HI LO nn) fl wo (K : Int) (X : Int) (crd X : Int) 0 M = _ := g1
    rw [g1]
    by_cases rw1 : rwX wo (crd X - 1) < n
    · rw [if_pos rw1]
      have cR : crd X ≤ R := by
        rcases Nat.lt_or_ge R (crd X) with w | w
        · exact absurd rw1 (hRx _ (by omega))
        · exact w
      obtain ⟨M2, k1, k2, k3⟩ := mi142 fl hfl n hn HI LO (LB_Md_findMinors_31 fl (n : Int) HI LO nn) (K := K) (X := X) (m := crd X) hK hXK h4 b4 hmat (by omega) rw1 M1 (fun Y hY hc k hk => by rw [g3 _ (by omega)]; exact h Y hY (by omega) k hk) K fl M1 (Nat.le_refl _) (by omega) (fun k hk => by rw [g2 k hk, smH_K]) (fun q _ => rfl)
      have cz : cntP (fun i => bS X i && decide (K ≤ i)) K = 0 := cnt_zero (fun i hi => by rw [show decide (K ≤ i) = false by simp; omega]; simp)
      rw [cz] at k1
      have k1 : LB_Md_findMinors_142 fl (n : Int) HI LO (LB_Md_findMinors_31 fl (n : Int) HI LO nn) fl wo (K : Int) (X : Int) (crd X : Int) ((rwX wo (crd X - 1) : Nat) : Int) 0 ((K : Int) - 1) M1 = _ := k1
      rw [k1]
      refine ih nn (X + 1) M2 (by omega) (by omega) (by omega) (fun Y hY hc k hk => ?_)
      by_cases e : Y = X
      · subst e
        rw [k2 k hk, smH_0, ← PV_s (by omega) (by omega) (by omega)]
      · rw [k3 _ (by omega), g3 _ (by omega)]; exact h Y (by omega) hc k hk
    · rw [if_neg rw1]
      refine ih nn (X + 1) M1 (by omega) (by omega) (by omega) (fun Y hY hc k hk => ?_)
      by_cases e : Y = X
      · subst e
        exact absurd (hRn (crd Y - 1) (by omega)) rw1
      · rw [g3 _ (by omega)]; exact h Y (by omega) hc k hk
theorem mi2 (fl : Nat) (n : Int) (hi lo : Nat → Int) (wo K : Int) : ∀ (r nn i : Nat) (M : Nat → Int), i + r = 12 → r < nn → (∀ k, k < i → M k = if k = 0 then 1 else 0) → ∃ M', LB_Md_findMinors_2 fl n hi lo nn wo K (i : Int) M = LB_Md_findMinors_31 fl n hi lo fl wo K 1 M' ∧ ∀ k, k < 12 → M' k = if k = 0 then 1 else 0 := by
  intro r
  induction r with
  | zero =>
    intro nn i M hr hnn hz
    obtain ⟨nn, rfl⟩ : ∃ r, nn = r + 1 := ⟨nn - 1, by omega⟩
    rw [LB_Md_findMinors_2, if_pos (by omega)]
    exact ⟨M, rfl, fun k hk => hz k (by omega)⟩
  | succ r ih =>
    intro nn i M hr hnn hz
    obtain ⟨nn, rfl⟩ : ∃ r, nn = r + 1 := ⟨nn - 1, by omega⟩
    rw [LB_Md_findMinors_2, if_neg (by omega)]
    by_cases c : (i : Int) = 0
    · rw [if_neg (by omega)]
      unfold LB_Md_findMinors_22
      rw [if_pos (by omega), if_pos (by omega), Int.toNat_natCast, show ((i : Int) + 1) = ((i + 1 : Nat) : Int) by omega]
      exact ih nn (i + 1) _ (by omega) (by omega) (fun k hk => by
        have : k = i := by omega
        rw [this, up_eq, if_pos (by omega)])
    · rw [if_pos c]
      unfold LB_Md_findMinors_22
      rw [if_pos (by omega), if_pos (by omega), Int.toNat_natCast, show ((i : Int) + 1) = ((i + 1 : Nat) : Int) by omega]
      exact ih nn (i + 1) _ (by omega) (by omega) (fun k hk => by
        by_cases e : k = i
        · rw [e, up_eq, if_neg (by omega)]
        · rw [up_ne _ _ e]; exact hz k (by omega))
theorem M_findMinors (fl : Nat) (hfl : 3000 ≤ fl) (n : Nat) (hn : n ≤ 10) (HI LO : Nat → Int) {K : Nat} (hK : K ≤ 11) {wo : Int} (hwo : -1 ≤ wo ∧ wo ≤ 20) {lo hi : Nat → Nat → Int} (h4 : ∀ r, smz (fun j => ((lo r j).natAbs : Int) + ((hi r j).natAbs : Int)) K ≤ 4) (b4 : ∀ r j, -2 ≤ lo r j ∧ lo r j ≤ 2 ∧ -2 ≤ hi r j ∧ hi r j ≤ 2) (hmat : ∀ c, c < n → ∀ j, j < 20 → HI (20 * c + j) = hi c j ∧ LO (20 * c + j) = lo c j) {R : Nat} (hR : R ≤ 10) (hRn : ∀ m, m < R → rwX wo m < n) (hRx : ∀ m, R ≤ m → ¬ rwX wo m < n) (M : Nat → Int) :
    ∃ M', LM_Md_findMinors fl (n : Int) HI LO wo (K : Int) M = some M' ∧ ∀ Y, Y < 2 ^ K → crd Y ≤ R → ∀ k, k < 12 → M' (12 * Y + k) = PV K lo hi (rwX wo) Y k := by
  have p11 : 2 ^ K ≤ 2048 := by
    have : 2 ^ K ≤ 2 ^ 11 := Nat.pow_le_pow_right (by omega) hK
    omega
  have pp : 0 < 2 ^ K := Nat.pow_pos (by omega)
  unfold LM_Md_findMinors LB_Md_findMinors_0
  obtain ⟨M1, g1, g2⟩ := mi2 fl (n : Int) HI LO wo (K : Int) 12 fl 0 M (by omega) (by omega) (fun k hk => by omega)
  have g1 : LB_Md_findMinors_2 fl (n : Int) HI LO fl wo (K : Int) 0 M = _ := g1
  rw [g1]
  exact mi31 fl (by omega) n hn HI LO hK hwo h4 b4 hmat hR hRn hRx (2 ^ K - 1) fl 1 M1 (by omega) (by omega) (by omega) (fun Y hY hc k hk => by
    have : Y = 0 := by omega
    subst this
    rw [PV_0, Nat.mul_zero, Nat.zero_add]; exact g2 k hk)
