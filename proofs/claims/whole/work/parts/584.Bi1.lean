theorem bS_xor {x j : Nat} (h : x.testBit j = true) : bS (x ^^^ 2 ^ j) = rmS (bS x) j := by
  funext i
  show (x ^^^ 2 ^ j).testBit i = (x.testBit i && i != j)
  rw [Nat.testBit_xor, Nat.testBit_two_pow]
  by_cases c : j = i
  · subst c; rw [h]; simp
  · rw [show (i != j) = true by simp; exact fun e => c e.symm]; simp [c]
theorem bS_or (x j : Nat) : bS (x ||| 2 ^ j) = adS (bS x) j := by
  funext i
  show (x ||| 2 ^ j).testBit i = (x.testBit i || i == j)
  rw [Nat.testBit_or, Nat.testBit_two_pow]
  by_cases c : j = i
  · subst c; simp
  · rw [show (i == j) = false by simp; exact fun e => c e.symm]; simp [c]
theorem or_xor {x j : Nat} (h : x.testBit j = false) : (x ||| 2 ^ j) ^^^ 2 ^ j = x := by
  apply Nat.eq_of_testBit_eq
  intro i
  rw [Nat.testBit_xor, Nat.testBit_or, Nat.testBit_two_pow]
  by_cases c : j = i
  · subst c; rw [h]; simp
  · simp [c]
theorem xor_or {x j : Nat} (h : x.testBit j = true) : (x ^^^ 2 ^ j) ||| 2 ^ j = x := by
  apply Nat.eq_of_testBit_eq
  intro i
  rw [Nat.testBit_or, Nat.testBit_xor, Nat.testBit_two_pow]
  by_cases c : j = i
  · subst c; rw [h]; simp
  · simp [c]
theorem or_lt {x j m : Nat} (hx : x < 2 ^ m) (hj : j < m) : x ||| 2 ^ j < 2 ^ m := Nat.or_lt_two_pow hx (Nat.pow_lt_pow_right (by omega) hj)
theorem xor_lt {x j m : Nat} (hx : x < 2 ^ m) (hj : j < m) : x ^^^ 2 ^ j < 2 ^ m := Nat.xor_lt_two_pow hx (Nat.pow_lt_pow_right (by omega) hj)
theorem bS_hi {x m j : Nat} (hx : x < 2 ^ m) (hj : m ≤ j) : x.testBit j = false := Nat.testBit_lt_two_pow (Nat.lt_of_lt_of_le hx (Nat.pow_le_pow_right (by omega) hj))
/-- counts of sets -/
def crd (x : Nat) : Nat := cntP (bS x) 12
theorem cnt_wide {p : Nat → Bool} {a : Nat} (h : ∀ q, a ≤ q → p q = false) : ∀ d, cntP p (a + d) = cntP p a := by
  intro d
  induction d with
  | zero => rfl
  | succ d ih => rw [show a + (d + 1) = a + d + 1 from rfl, cnt_s, ih, h _ (by omega)]; simp
theorem cnt_bS {x m a b : Nat} (hx : x < 2 ^ m) (ha : m ≤ a) (hb : m ≤ b) : cntP (bS x) a = cntP (bS x) b := by
  have h : ∀ q, m ≤ q → bS x q = false := fun q hq => bS_hi hx hq
  have e1 := cnt_wide h (a - m)
  have e2 := cnt_wide h (b - m)
  rw [show m + (a - m) = a by omega] at e1
  rw [show m + (b - m) = b by omega] at e2
  rw [e1, e2]
theorem crd_xor {x j : Nat} (hj : j < 12) (h : x.testBit j = true) : crd x = crd (x ^^^ 2 ^ j) + 1 := by
  unfold crd
  rw [bS_xor h, cnt_rm (p := bS x) (x := j) h hj]; rfl
theorem crd_or {x j : Nat} (hj : j < 12) (h : x.testBit j = false) : crd (x ||| 2 ^ j) = crd x + 1 := by
  have t : (x ||| 2 ^ j).testBit j = true := by rw [Nat.testBit_or, Nat.testBit_two_pow]; simp
  rw [crd_xor hj t, or_xor h]
theorem crd_le {x m : Nat} (hx : x < 2 ^ m) (hm : m ≤ 12) : crd x ≤ m := by
  unfold crd
  rw [cnt_bS hx hm (Nat.le_refl _)]; exact cnt_lez _ _
theorem PM_cg {K : Nat} {lo hi : Nat → Nat → Int} {ρ σ : Nat → Nat} : ∀ m, (∀ r, r < m → ρ r = σ r) → ∀ S T : Nat → Bool, (∀ j, j < K → S j = T j) → ∀ k, PM K lo hi ρ m S k = PM K lo hi σ m T k := by
  intro m
  induction m with
  | zero =>
    intro _ S T h k
    show (if k = 0 then W0 K S else 0) = (if k = 0 then W0 K T else 0)
    unfold W0
    rw [cnt_congr h]
  | succ m ih =>
    intro hr S T h k
    apply sm_congr
    intro j hj
    have g : gK K S j = gK K T j := cnt_congr (fun i hi => by rw [h i hi])
    have hS : ∀ i, i < K → rmS S j i = rmS T j i := fun i hi => by unfold rmS; rw [h i hi]
    have e1 := ih (fun r hr' => hr r (by omega)) (rmS S j) (rmS T j) hS
    have e2 : sh (PM K lo hi ρ m (rmS S j)) k = sh (PM K lo hi σ m (rmS T j)) k := by unfold sh; rw [e1]
    show (if S j = true then eps (gK K S j) * (lo (ρ m) j * PM K lo hi ρ m (rmS S j) k + hi (ρ m) j * sh (PM K lo hi ρ m (rmS S j)) k) else 0) = (if T j = true then eps (gK K T j) * (lo (σ m) j * PM K lo hi σ m (rmS T j) k + hi (σ m) j * sh (PM K lo hi σ m (rmS T j)) k) else 0)
    rw [h j hj, g, e1 k, e2, hr m (by omega)]
/-- the value of a set: the minor of its columns and as many first rows -/
def PV (K : Nat) (lo hi : Nat → Nat → Int) (ρ : Nat → Nat) (x k : Nat) : Int := PM K lo hi ρ (crd x) (bS x) k
def ctr (K : Nat) (lo hi : Nat → Nat → Int) (ρ : Nat → Nat) (x k j : Nat) : Int := eps (gK K (bS x) j) * (lo (ρ (crd x - 1)) j * PV K lo hi ρ (x ^^^ 2 ^ j) k + hi (ρ (crd x - 1)) j * sh (PV K lo hi ρ (x ^^^ 2 ^ j)) k)
theorem PV_0 (K : Nat) (lo hi : Nat → Nat → Int) (ρ : Nat → Nat) (k : Nat) : PV K lo hi ρ 0 k = if k = 0 then 1 else 0 := by
  have z : ∀ m, cntP (bS 0) m = 0 := fun m => cnt_zero (fun q _ => by unfold bS; exact Nat.zero_testBit q)
  unfold PV crd
  rw [z]
  show (if k = 0 then W0 K (bS 0) else 0) = _
  unfold W0
  rw [z, if_pos rfl]
theorem PV_s {K : Nat} {lo hi : Nat → Nat → Int} {ρ : Nat → Nat} {x : Nat} (hx : x ≠ 0) (hK : K ≤ 12) (hb : x < 2 ^ 12) (k : Nat) : PV K lo hi ρ x k = smz (fun j => if x.testBit j = true then ctr K lo hi ρ x k j else 0) K := by
  have hc : ∃ m, crd x = m + 1 := by
    refine ⟨crd x - 1, ?_⟩
    have : 1 ≤ crd x := by
      rcases Nat.eq_zero_or_pos (crd x) with e | e
      · exfalso
        apply hx
        apply Nat.eq_of_testBit_eq
        intro i
        rw [Nat.zero_testBit]
        by_cases c : i < 12
        · cases t : x.testBit i
          · rfl
          · have := cnt_pos (p := bS x) c t
            unfold crd at e; omega
        · exact bS_hi hb (by omega)
      · exact e
    omega
  obtain ⟨m, hm⟩ := hc
  unfold PV
  rw [hm]
  apply sm_congr
  intro j hj
  show (if bS x j = true then eps (gK K (bS x) j) * (lo (ρ m) j * PM K lo hi ρ m (rmS (bS x) j) k + hi (ρ m) j * sh (PM K lo hi ρ m (rmS (bS x) j)) k) else 0) = (if x.testBit j = true then ctr K lo hi ρ x k j else 0)
  by_cases c : x.testBit j = true
  · have c' : bS x j = true := c
    rw [if_pos c', if_pos c]
    have c1 := crd_xor (show j < 12 by omega) c
    have c2 : crd (x ^^^ 2 ^ j) = m := by omega
    unfold ctr
    have e : PV K lo hi ρ (x ^^^ 2 ^ j) = PM K lo hi ρ m (rmS (bS x) j) := by
      funext i; unfold PV; rw [c2, bS_xor c]
    rw [e, hm]; rfl
  · have c' : ¬ bS x j = true := c
    rw [if_neg c', if_neg c]
theorem PV_deg (K : Nat) (lo hi : Nat → Nat → Int) (ρ : Nat → Nat) {x k : Nat} (h : crd x < k) : PV K lo hi ρ x k = 0 := PM_deg _ _ _ _ _ _ _ h
theorem PV_abs {K : Nat} {lo hi : Nat → Nat → Int} {ρ : Nat → Nat} (h : ∀ r, smz (fun j => ((lo r j).natAbs : Int) + ((hi r j).natAbs : Int)) K ≤ 4) (x k : Nat) : ((PV K lo hi ρ x k).natAbs : Int) ≤ 4 ^ crd x := PM_abs h _ _ _
