theorem absmul {x y : Int} {A B : Nat} (hx : x.natAbs ≤ A) (hy : y.natAbs ≤ B) : (x * y).natAbs ≤ A * B := by
  rw [Int.natAbs_mul]; exact Nat.mul_le_mul hx hy
def apv (ex : Int) (m t j : Nat) (i : Int) : Int := if 0 ≤ 100 + ex + 2 * (m : Int) - i ∧ (100 + ex + 2 * (m : Int) - i) % 4 = 0 ∧ (100 + ex + 2 * (m : Int) - i) / 4 < (j : Int) then eps m * ((t * chs m ((100 + ex + 2 * (m : Int) - i) / 4).toNat : Nat) : Int) else 0
theorem eps_1 (k : Nat) : eps k = 1 ∨ eps k = -1 := by unfold eps; split <;> simp
theorem tc_b {t m j : Nat} (ht : t ≤ 1024) (hm : m ≤ 28) : t * chs m j ≤ 274877906944 := by
  have a := chs_le m j
  have b : 2 ^ m ≤ 2 ^ 28 := Nat.pow_le_pow_right (by omega) hm
  have c : chs m j ≤ 268435456 := Nat.le_trans a b
  exact Nat.mul_le_mul ht c
theorem ap17 (fl : Nat) {ex : Int} (he : -10 ≤ ex ∧ ex ≤ 10) {m : Nat} (hm : m ≤ 28) {t : Nat} (ht : t ≤ 1024) {P0 : Nat → Int} (bP : ∀ i, i < 201 → -1000000000000000 ≤ P0 i ∧ P0 i ≤ 1000000000000000) :
    ∀ (r nn j : Nat) (b : Int) (P : Nat → Int), j + r = m + 1 → r < nn → b = eps m * ((t * chs m j : Nat) : Int) → (∀ i, i < 201 → P i = P0 i + apv ex m t j (i : Int)) → ∃ P', LB_Md_addPower_17 fl nn ex (m : Int) (t : Int) b (j : Int) P = some P' ∧ ∀ i, i < 201 → P' i = P0 i + apv ex m t (m + 1) (i : Int) := by
  intro r
  induction r with
  | zero =>
    intro nn j b P hr hnn hb hP
    obtain ⟨nn, rfl⟩ : ∃ r, nn = r + 1 := ⟨nn - 1, by omega⟩
    rw [LB_Md_addPower_17, if_pos (by omega)]
    have : j = m + 1 := by omega
    subst this
    exact ⟨P, rfl, hP⟩
  | succ r ih =>
    intro nn j b P hr hnn hb hP
    obtain ⟨nn, rfl⟩ : ∃ r, nn = r + 1 := ⟨nn - 1, by omega⟩
    have e1 := eps_1 m
    have nb : b.natAbs ≤ 274877906944 := by
      rw [hb, eps_abs, Int.natAbs_natCast]; exact tc_b ht hm
    have st := chs_step (b := b) (t := t) (j := j) (m := m) e1 hb (by omega)
    have nb2 : (eps m * ((t * chs m (j + 1) : Nat) : Int)).natAbs ≤ 274877906944 := by rw [eps_abs, Int.natAbs_natCast]; exact tc_b ht hm
    have q1 : (Int.tdiv b ((j : Int) + 1)).natAbs ≤ 274877906944 := by rw [Int.natAbs_tdiv]; exact Nat.le_trans (Nat.div_le_self _ _) nb
    have q2 : (Int.tmod b ((j : Int) + 1)).natAbs ≤ 274877906944 := by rw [Int.natAbs_tmod]; exact Nat.le_trans (Nat.mod_le _ _) nb
    have dm : ((m : Int) - (j : Int)).natAbs ≤ 28 := by omega
    have q3 := absmul q1 dm
    have q4 := absmul q2 dm
    have q5 : (Int.tdiv (Int.tmod b ((j : Int) + 1) * ((m : Int) - (j : Int))) ((j : Int) + 1)).natAbs ≤ 274877906944 * 28 := by rw [Int.natAbs_tdiv]; exact Nat.le_trans (Nat.div_le_self _ _) q4
    obtain ⟨ix, hix⟩ : ∃ ix : Nat, (100 + ex + 2 * (m : Int) - 4 * (j : Int)) = (ix : Int) := ⟨(100 + ex + 2 * (m : Int) - 4 * (j : Int)).toNat, by omega⟩
    have hx : ix < 201 := by omega
    have a0 : apv ex m t j (ix : Int) = 0 := if_neg (by omega)
    have Pix := hP ix hx
    rw [a0] at Pix
    have b0 := bP ix hx
    rw [LB_Md_addPower_17, if_neg (by omega), if_pos (by omega), if_pos (by omega), if_pos (by omega), if_pos (by omega), hix, Int.toNat_natCast]
    rw [if_pos]
    · rw [st, show ((j : Int) + 1) = ((j + 1 : Nat) : Int) by omega]
      refine ih nn (j + 1) _ _ (by omega) (by omega) rfl (fun i hi => ?_)
      by_cases c : i = ix
      · rw [c, up_eq, Pix]
        unfold apv
        rw [if_pos (by omega), show ((100 + ex + 2 * (m : Int) - (ix : Int)) / 4).toNat = j by omega, ← hb]; omega
      · rw [up_ne _ _ c, hP i hi]
        congr 1
        unfold apv
        by_cases d : 0 ≤ 100 + ex + 2 * (m : Int) - (i : Int) ∧ (100 + ex + 2 * (m : Int) - (i : Int)) % 4 = 0 ∧ (100 + ex + 2 * (m : Int) - (i : Int)) / 4 < (j : Int)
        · rw [if_pos d, if_pos (by omega)]
        · rw [if_neg d, if_neg (by omega)]
    · generalize hX : Int.tdiv b ((j : Int) + 1) = X at *
      generalize hY : Int.tmod b ((j : Int) + 1) = Y at *
      generalize hZ : X * ((m : Int) - (j : Int)) = Z at *
      generalize hU : Y * ((m : Int) - (j : Int)) = Uz at *
      generalize hV : Int.tdiv Uz ((j : Int) + 1) = V at *
      clear st ih hP hX hY hZ hU hV
      omega
theorem apv_d (ex : Int) (m t : Nat) (i : Int) : apv ex m t (m + 1) i = (t : Int) * dpw m (i - 100 - ex) := by
  unfold apv
  by_cases d : 0 ≤ 100 + ex + 2 * (m : Int) - i ∧ (100 + ex + 2 * (m : Int) - i) % 4 = 0 ∧ (100 + ex + 2 * (m : Int) - i) / 4 < ((m + 1 : Nat) : Int)
  · rw [if_pos d]
    have h := (dpw_v m).1 ((100 + ex + 2 * (m : Int) - i) / 4).toNat (by omega)
    rw [show 2 * (m : Int) - 4 * ((((100 + ex + 2 * (m : Int) - i) / 4).toNat : Nat) : Int) = i - 100 - ex by omega] at h
    rw [h, Int.natCast_mul]; grind
  · rw [if_neg d, (dpw_v m).2 _ (fun ⟨j, j1, j2⟩ => d (by omega)), Int.mul_zero]
theorem M_addPower (fl : Nat) (hfl : 100 ≤ fl) {ex : Int} (he : -10 ≤ ex ∧ ex ≤ 10) {m : Nat} (hm : m ≤ 28) {t : Nat} (ht : t ≤ 1024) {P0 : Nat → Int} (bP : ∀ i, i < 201 → -1000000000000000 ≤ P0 i ∧ P0 i ≤ 1000000000000000) : ∃ P', LM_Md_addPower fl ex (m : Int) (t : Int) P0 = some P' ∧ ∀ i, i < 201 → P' i = P0 i + (t : Int) * dpw m ((i : Int) - 100 - ex) := by
  have hz : ∀ i : Nat, apv ex m t 0 (i : Int) = 0 := fun i => if_neg (by omega)
  have fin : ∀ b : Int, b = eps m * ((t * chs m 0 : Nat) : Int) → ∃ P', LB_Md_addPower_12 fl b ex (m : Int) (t : Int) P0 = some P' ∧ ∀ i, i < 201 → P' i = P0 i + (t : Int) * dpw m ((i : Int) - 100 - ex) := fun b hb => by
    unfold LB_Md_addPower_12
    obtain ⟨P', k1, k2⟩ := ap17 fl he hm ht bP (m + 1) fl 0 b P0 (by omega) (by omega) hb (fun i _ => by rw [hz]; omega)
    exact ⟨P', k1, fun i hi => by rw [k2 i hi, apv_d]⟩
  unfold LM_Md_addPower LB_Md_addPower_0
  rw [if_pos (by decide)]
  by_cases c : m % 2 = 0
  · rw [if_neg (show ¬ ¬ (Int.tmod (m : Int) 2 = 0) by rw [Int.tmod_eq_emod_of_nonneg (by omega)]; omega)]
    exact fin _ (by unfold eps; rw [if_pos c, chs_0]; omega)
  · rw [if_pos (show ¬ (Int.tmod (m : Int) 2 = 0) by rw [Int.tmod_eq_emod_of_nonneg (by omega)]; omega), if_pos (by omega)]
    exact fin _ (by unfold eps; rw [if_neg c, chs_0]; omega)
/-- how many states have so many A and so many circles -/
def wCt (n : Nat) (μ : Nat → Nat) (ci a m st : Nat) : Nat := cntP (fun y => decide (cf n 0 (μ, ci) y = m ∧ cntP (bS y) n = a)) st
def brE (n : Nat) (μ : Nat → Nat) (ci : Nat) (e : Int) : Int := smz (fun a => smz (fun m => if 1 ≤ m then ((wCt n μ ci a m (2 ^ n) : Nat) : Int) * dpw (m - 1) (e - (2 * (a : Int) - (n : Int))) else 0) 64) (n + 1)
section
variable {n : Nat} {ed : Nat → Nat} {pl : Nat → Int}
theorem bk74 (fl : Nat) (hfl : 300 ≤ fl) (hn : n ≤ 10) (hpl : ∀ q, q < 4 * n → pl q = (ed q : Int) ∧ ed q < 2 * n) {μ : Nat → Nat} (hM : Mat (opn n 0) μ) (hC : Cls (opn n 0) μ ed (fun e => e)) {ci : Nat} (hci : ci ≤ 9) {st : Nat} (hst : st < 1024) (kb : Int → (Nat → Int) → (Nat → Int) → (Nat → Int) → Option ((Nat → Int) × (Nat → Int) × (Nat → Int))) (po rt wy : Nat → Int) (bw : ∀ i, i < 704 → 0 ≤ wy i ∧ wy i ≤ 100000) :
    ∀ (r nn j : Nat), j + r = n → r < nn → ∃ rt', LB_Md_bracket_74 fl ((2 * n : Nat) : Int) (n : Int) (ci : Int) pl kb nn (st : Int) ((cntP (bS st) j : Nat) : Int) (j : Int) po rt wy = kb ((st + 1 : Nat) : Int) po rt' (up wy (64 * cntP (bS st) n + cf n 0 (μ, ci) st) (wy (64 * cntP (bS st) n + cf n 0 (μ, ci) st) + 1)) := by
  intro r
  induction r with
  | zero =>
    intro nn j hr hnn
    obtain ⟨nn, rfl⟩ : ∃ r, nn = r + 1 := ⟨nn - 1, by omega⟩
    have : j = n := by omega
    subst this
    obtain ⟨rt', k1⟩ := M_circ fl hfl hn hpl hM hC (ci := ci) (by omega) hst rt
    have l1 := cf_le j 0 (μ, ci) st
    have l1 : cf j 0 (μ, ci) st ≤ ci + 2 * j := l1
    have l2 := cnt_lez (bS st) j
    have ei : (64 * ((cntP (bS st) j : Nat) : Int) + ((cf j 0 (μ, ci) st : Nat) : Int)) = ((64 * cntP (bS st) j + cf j 0 (μ, ci) st : Nat) : Int) := by omega
    have b := bw (64 * cntP (bS st) j + cf j 0 (μ, ci) st) (by omega)
    rw [LB_Md_bracket_74, if_pos (by omega), k1, Option.bind_some, if_pos (by omega)]
    refine ⟨rt', ?_⟩
    show (if 0 ≤ (64 * ((cntP (bS st) j : Nat) : Int) + ((cf j 0 (μ, ci) st : Nat) : Int)) ∧ (64 * ((cntP (bS st) j : Nat) : Int) + ((cf j 0 (μ, ci) st : Nat) : Int)) < 704 then _ else none) = _
    rw [if_pos (by omega)]
    show (if (-2147483648 ≤ ((st : Int) + 1) ∧ ((st : Int) + 1) < 2147483648) ∧ (-9223372036854775808 ≤ wy (Int.toNat (64 * ((cntP (bS st) j : Nat) : Int) + ((cf j 0 (μ, ci) st : Nat) : Int))) + 1 ∧ wy (Int.toNat (64 * ((cntP (bS st) j : Nat) : Int) + ((cf j 0 (μ, ci) st : Nat) : Int))) + 1 < 9223372036854775808) then kb ((st : Int) + 1) po rt' (up wy (Int.toNat (64 * ((cntP (bS st) j : Nat) : Int) + ((cf j 0 (μ, ci) st : Nat) : Int))) (wy (Int.toNat (64 * ((cntP (bS st) j : Nat) : Int) + ((cf j 0 (μ, ci) st : Nat) : Int))) + 1)) else none) = _
    rw [ei, Int.toNat_natCast, if_pos (by omega), show ((st : Int) + 1) = ((st + 1 : Nat) : Int) by omega]
  | succ r ih =>
    intro nn j hr hnn
    obtain ⟨nn, rfl⟩ : ∃ r, nn = r + 1 := ⟨nn - 1, by omega⟩
    have cl := cnt_lez (bS st) j
    have e : ((cntP (bS st) j : Nat) : Int) + (if st.testBit j then (1 : Int) else 0) = ((cntP (bS st) (j + 1) : Nat) : Int) := by
      rw [cnt_s]
      have : bS st j = st.testBit j := rfl
      rw [this]
      cases st.testBit j <;> simp
    have cl2 := cnt_lez (bS st) (j + 1)
    rw [LB_Md_bracket_74, if_neg (by omega), b_test st (by omega) j (by omega), e, if_pos (by omega), show ((j : Int) + 1) = ((j + 1 : Nat) : Int) by omega]
    exact ih nn (j + 1) (by omega) (by omega)
theorem wCt_le (n : Nat) (μ : Nat → Nat) (ci a m st : Nat) : wCt n μ ci a m st ≤ st := cnt_lez _ _
theorem bk57 (fl : Nat) (hfl : 300 ≤ fl) (hn : n ≤ 10) (hpl : ∀ q, q < 4 * n → pl q = (ed q : Int) ∧ ed q < 2 * n) {μ : Nat → Nat} (hM : Mat (opn n 0) μ) (hC : Cls (opn n 0) μ ed (fun e => e)) {ci : Nat} (hci : ci ≤ 9) (po : Nat → Int) :
    ∀ (r nn st : Nat) (rt wy : Nat → Int), st + r = 2 ^ n → r < nn → (∀ i, i < 704 → wy i = ((wCt n μ ci (i / 64) (i % 64) st : Nat) : Int)) → ∃ rt' wy', LB_Md_bracket_57 fl ((2 * n : Nat) : Int) (n : Int) (ci : Int) pl nn (st : Int) po rt wy = LB_Md_bracket_126 fl ((2 * n : Nat) : Int) (n : Int) (ci : Int) pl fl 0 po rt' wy' ∧ ∀ i, i < 704 → wy' i = ((wCt n μ ci (i / 64) (i % 64) (2 ^ n) : Nat) : Int) := by
  have p10 : 2 ^ n ≤ 1024 := by
    have : 2 ^ n ≤ 2 ^ 10 := Nat.pow_le_pow_right (by omega) hn
    omega
  intro r
  induction r with
  | zero =>
    intro nn st rt wy hr hnn h
    obtain ⟨nn, rfl⟩ : ∃ r, nn = r + 1 := ⟨nn - 1, by omega⟩
    rw [LB_Md_bracket_57, b_shl n (by omega), if_pos (by omega)]
    have : st = 2 ^ n := by omega
    rw [this] at h
    exact ⟨rt, wy, rfl, h⟩
  | succ r ih =>
    intro nn st rt wy hr hnn h
    obtain ⟨nn, rfl⟩ : ∃ r, nn = r + 1 := ⟨nn - 1, by omega⟩
    rw [LB_Md_bracket_57, b_shl n (by omega), if_neg (by omega)]
    obtain ⟨rt1, k1⟩ := bk74 fl hfl hn hpl hM hC hci (show st < 1024 by omega) (LB_Md_bracket_57 fl ((2 * n : Nat) : Int) (n : Int) (ci : Int) pl nn) po rt wy (fun i hi => by
      have := wCt_le n μ ci (i / 64) (i % 64) st
      rw [h i hi]; omega) n fl 0 (by omega) (by omega)
    have k1 : LB_Md_bracket_74 fl ((2 * n : Nat) : Int) (n : Int) (ci : Int) pl (LB_Md_bracket_57 fl ((2 * n : Nat) : Int) (n : Int) (ci : Int) pl nn) fl (st : Int) 0 0 po rt wy = _ := k1
    rw [k1]
    have l1 : cf n 0 (μ, ci) st ≤ ci + 2 * n := cf_le n 0 (μ, ci) st
    have l2 := cnt_lez (bS st) n
    refine ih nn (st + 1) rt1 _ (by omega) (by omega) (fun i hi => ?_)
    have ws : wCt n μ ci (i / 64) (i % 64) (st + 1) = wCt n μ ci (i / 64) (i % 64) st + (if decide (cf n 0 (μ, ci) st = i % 64 ∧ cntP (bS st) n = i / 64) then 1 else 0) := cnt_s _ _
    rw [ws]
    by_cases c : i = 64 * cntP (bS st) n + cf n 0 (μ, ci) st
    · rw [c, up_eq, h _ (by omega)]
      have : cf n 0 (μ, ci) st = (64 * cntP (bS st) n + cf n 0 (μ, ci) st) % 64 ∧ cntP (bS st) n = (64 * cntP (bS st) n + cf n 0 (μ, ci) st) / 64 := by omega
      rw [if_pos (by simp only [decide_eq_true_eq]; exact this)]; omega
    · rw [up_ne _ _ c, h i hi]
      have : ¬ (cf n 0 (μ, ci) st = i % 64 ∧ cntP (bS st) n = i / 64) := by omega
      rw [if_neg (by simp only [decide_eq_true_eq]; exact this)]; omega
end
