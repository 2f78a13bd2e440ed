/-- x is w, or w below 0 -/
def sgnd (x : Int) (w : Nat) : Prop := x = (w : Int) ∨ x = -(w : Int)
theorem sgnd_div {x : Int} {w : Nat} (h : sgnd x w) : sgnd (Int.tdiv x 10) (w / 10) := by
  rcases h with h | h
  · left; rw [h, Int.tdiv_eq_ediv_of_nonneg (by omega)]; omega
  · right; rw [h, Int.neg_tdiv, Int.tdiv_eq_ediv_of_nonneg (by omega)]; omega
theorem sgnd_mod {x : Int} {w : Nat} (h : sgnd x w) : sgnd (Int.tmod x 10) (w % 10) := by
  rcases h with h | h
  · left; rw [h, Int.tmod_eq_emod_of_nonneg (by omega)]; omega
  · right; rw [h, Int.neg_tmod, Int.tmod_eq_emod_of_nonneg (by omega)]; omega
theorem sgnd_abs {x : Int} {w : Nat} (h : sgnd x w) : (if 0 < x then x else -x) = (w : Int) := by
  rcases h with h | h <;> split <;> omega
theorem P_num61 (fl : Nat) (w : Nat) (x1 x3 x5 : Int) (di : Nat → Int) (N : Nat) (hN : N ≤ 20) (hd : ∀ j, j < N → di j = ((w / 10 ^ j % 10 : Nat) : Int)) :
    ∀ (d nn : Nat) (s : Pap), d ≤ N → d < nn → pok s → LB_Pa_putNumber_61 fl nn x1 x3 x5 ((d : Int) - 1) s.1 s.2.1 s.2.2 di = some ((pp (dg w d) s).1, (pp (dg w d) s).2.1, (pp (dg w d) s).2.2, di) := by
  intro d
  induction d with
  | zero =>
    intro nn s h1 hnn hs
    obtain ⟨nn, rfl⟩ : ∃ r, nn = r + 1 := ⟨nn - 1, by omega⟩
    rw [LB_Pa_putNumber_61, if_pos (by omega)]
    rfl
  | succ d ih =>
    intro nn s h1 hnn hs
    obtain ⟨nn, rfl⟩ : ∃ r, nn = r + 1 := ⟨nn - 1, by omega⟩
    have e : Int.toNat (((d + 1 : Nat) : Int) - 1) = d := by omega
    have hm := Nat.mod_lt (w / 10 ^ d) (show 0 < 10 by omega)
    rw [LB_Pa_putNumber_61, if_neg (by omega), if_pos (by omega), e, hd d (by omega), if_pos (by omega), P_put fl _ s hs, Option.bind_some, if_pos (by omega), show (((d + 1 : Nat) : Int) - 1 + -1) = ((d : Int) - 1) by omega]
    rw [ih nn _ (by omega) (by omega) (pok_pp _ _ hs), ← pp_app]
    rfl
theorem P_num17 (fl : Nat) (hfl : 100 ≤ fl) (w : Nat) (x1 : Int) (s : Pap) (hs : pok s) :
    ∀ (k nn i : Nat) (x3 : Int) (di : Nat → Int), k < nn → i + k + 1 ≤ 19 → w / 10 ^ i < 10 ^ (k + 1) → sgnd x3 (w / 10 ^ i) → (∀ j, j < i → di j = ((w / 10 ^ j % 10 : Nat) : Int)) →
    ∃ di', LB_Pa_putNumber_17 fl nn x1 x3 (i : Int) s.1 s.2.1 s.2.2 di = some ((pp (dg w (i + ndz k (w / 10 ^ i))) s).1, (pp (dg w (i + ndz k (w / 10 ^ i))) s).2.1, (pp (dg w (i + ndz k (w / 10 ^ i))) s).2.2, di') := by
  intro k
  -- the last digit
  have last : ∀ (i : Nat) (x3 y : Int) (di : Nat → Int), i + 1 ≤ 19 → sgnd x3 (w / 10 ^ i) → (∀ j, j < i → di j = ((w / 10 ^ j % 10 : Nat) : Int)) → ∃ di', LB_Pa_putNumber_55 fl x1 y ((i : Int) + 1) s.1 s.2.1 s.2.2 (up di i (if 0 < Int.tmod x3 10 then Int.tmod x3 10 else -(Int.tmod x3 10))) = some ((pp (dg w (i + 1)) s).1, (pp (dg w (i + 1)) s).2.1, (pp (dg w (i + 1)) s).2.2, di') := by
    intro i x3 y di hi hx hd
    unfold LB_Pa_putNumber_55
    rw [if_pos (by omega), sgnd_abs (sgnd_mod hx), show ((i : Int) + 1) = ((i + 1 : Nat) : Int) by omega]
    refine ⟨_, P_num61 fl w x1 y _ _ (i + 1) (by omega) (fun j hj => ?_) (i + 1) fl s (Nat.le_refl _) (by omega) hs⟩
    by_cases c : j = i
    · rw [c, up_eq]
    · rw [up_ne _ _ c]; exact hd j (by omega)
  have b18 : (10 : Nat) ^ 19 = 10000000000000000000 := by decide
  induction k with
  | zero =>
    intro nn i x3 di hnn hi hw hx hd
    obtain ⟨nn, rfl⟩ : ∃ r, nn = r + 1 := ⟨nn - 1, by omega⟩
    have hw' : w / 10 ^ i < 10 := by simpa using hw
    have h1 := sgnd_div hx
    have h2 := sgnd_mod hx
    obtain ⟨u, hu⟩ : ∃ u, w / 10 ^ i = u := ⟨_, rfl⟩
    have h9 := sgnd_abs h2
    rw [hu] at h1 h2 h9 hw'
    have h3 : u / 10 = 0 := by omega
    rw [h3] at h1
    unfold sgnd at h1 h2
    rw [LB_Pa_putNumber_17, if_pos (by decide), if_pos (by omega), if_pos (by omega), if_pos (by omega), if_pos ⟨by omega, by omega, by rw [h9]; omega⟩, Int.toNat_natCast]
    exact last i x3 _ di hi hx hd
  | succ k ih =>
    intro nn i x3 di hnn hi hw hx hd
    obtain ⟨nn, rfl⟩ : ∃ r, nn = r + 1 := ⟨nn - 1, by omega⟩
    have h1 := sgnd_div hx
    have h2 := sgnd_mod hx
    have h5 : w / 10 ^ i < 10 ^ 19 := Nat.lt_of_lt_of_le hw (Nat.pow_le_pow_right (by omega) (by omega))
    rw [b18] at h5
    have hs1 := h1
    have h9 := sgnd_abs h2
    obtain ⟨u, hu⟩ : ∃ u, w / 10 ^ i = u := ⟨_, rfl⟩
    rw [hu] at h1 h2 h9 h5
    unfold sgnd at h1 h2
    rw [LB_Pa_putNumber_17, if_pos (by decide), if_pos (by omega), if_pos (by omega)]
    by_cases c : u < 10
    · rw [if_pos (by omega), if_pos ⟨by omega, by omega, by rw [h9]; omega⟩, Int.toNat_natCast]
      have e : ndz (k + 1) (w / 10 ^ i) = 1 := by unfold ndz; rw [hu, if_pos c]
      rw [e]
      exact last i x3 _ di (by omega) hx hd
    · have e : ndz (k + 1) (w / 10 ^ i) = ndz k (w / 10 ^ (i + 1)) + 1 := by
        unfold ndz; rw [if_neg (by rw [hu]; exact c), Nat.div_div_eq_div_mul, ← Nat.pow_succ]; cases k <;> rfl
      rw [if_neg (by omega), if_pos (by omega), if_pos (by omega), if_pos ⟨by omega, by rw [h9]; omega⟩, Int.toNat_natCast, sgnd_abs (sgnd_mod hx), show ((i : Int) + 1) = ((i + 1 : Nat) : Int) by omega, e]
      have e2 : i + (ndz k (w / 10 ^ (i + 1)) + 1) = i + 1 + ndz k (w / 10 ^ (i + 1)) := by omega
      rw [e2]
      have e3 : w / 10 ^ (i + 1) = w / 10 ^ i / 10 := by rw [Nat.div_div_eq_div_mul, ← Nat.pow_succ]
      refine ih nn (i + 1) _ _ (by omega) (by omega) ?_ (by rw [e3]; exact hs1) ?_
      · rw [e3]
        have : 10 ^ (k + 1 + 1) = 10 ^ (k + 1) * 10 := Nat.pow_succ 10 (k + 1)
        rw [this] at hw
        exact Nat.div_lt_of_lt_mul (by rw [Nat.mul_comm]; exact hw)
      · intro j hj
        by_cases c2 : j = i
        · rw [c2, up_eq]
        · rw [up_ne _ _ c2]; exact hd j (by omega)
theorem P_num (fl : Nat) (hfl : 100 ≤ fl) (v : Int) (hv : v.natAbs < 10 ^ 18) (s : Pap) (hs : pok s) (di : Nat → Int) :
    ∃ di', LM_Pa_putNumber fl v s.1 s.2.1 s.2.2 di = some ((pp (num v) s).1, (pp (num v) s).2.1, (pp (num v) s).2.2, di') := by
  unfold LM_Pa_putNumber LB_Pa_putNumber_0 LB_Pa_putNumber_12 num
  have hd : v.natAbs / 10 ^ 0 = v.natAbs := by simp
  by_cases c : 0 ≤ v
  · rw [if_pos c, if_neg (by omega), List.nil_append]
    obtain ⟨di', h⟩ := P_num17 fl hfl v.natAbs v s hs 17 fl 0 v di (by omega) (by omega) (by rw [hd]; exact hv) (by rw [hd]; left; omega) (fun j hj => by omega)
    rw [hd, Nat.zero_add] at h
    exact ⟨di', h⟩
  · rw [if_neg c, if_pos (by omega), P_put fl 45 s hs, Option.bind_some, pp_app]
    obtain ⟨di', h⟩ := P_num17 fl hfl v.natAbs v _ (pok_pp [45] s hs) 17 fl 0 v di (by omega) (by omega) (by rw [hd]; exact hv) (by rw [hd]; right; omega) (fun j hj => by omega)
    rw [hd, Nat.zero_add] at h
    exact ⟨di', h⟩
theorem M_num50 (fl : Nat) (w : Nat) (hw : w < 10 ^ 18) (x1 : Int) :
    ∀ (d nn : Nat) (s : Int × (Nat → Int)), d ≤ 18 → d + 1 < nn → 0 ≤ s.1 → s.1 + d + 1 ≤ 8000 → LB_Md_sayNumber_50 fl nn x1 (w : Int) ((10 ^ d : Nat) : Int) s.1 s.2 = some (mm (dg w (d + 1)) s) := by
  have b18 : (10 : Nat) ^ 18 = 1000000000000000000 := by decide
  rw [b18] at hw
  intro d
  induction d with
  | zero =>
    intro nn s hd hnn h1 h2
    obtain ⟨nn, rfl⟩ : ∃ r, nn = r + 1 := ⟨nn - 1, by omega⟩
    have hm := Nat.mod_lt w (show 0 < 10 by omega)
    have e1 : Int.tdiv (w : Int) (((10 ^ 0 : Nat)) : Int) = (w : Int) := by simp
    have e2 : Int.tmod (w : Int) 10 = ((w % 10 : Nat) : Int) := by rw [Int.tmod_eq_emod_of_nonneg (by omega)]; omega
    have e3 : Int.tdiv (((10 ^ 0 : Nat)) : Int) 10 = 0 := by decide
    have e4 : (((10 ^ 0 : Nat)) : Int) = 1 := by decide
    rw [LB_Md_sayNumber_50, if_neg (by rw [e4]; decide), if_pos (by rw [e4]; decide), if_pos (by decide), e1, e2, e3, if_pos (by omega), M_say fl _ s (by omega) (by omega), Option.bind_some, if_pos (by decide)]
    obtain ⟨nn, rfl⟩ : ∃ r, nn = r + 1 := ⟨nn - 1, by omega⟩
    rw [LB_Md_sayNumber_50, if_pos (by decide)]
    show some (mm [48 + ((w % 10 : Nat) : Int)] s) = some (mm [48 + ((w / 10 ^ 0 % 10 : Nat) : Int)] s)
    rw [Nat.pow_zero, Nat.div_one]
  | succ d ih =>
    intro nn s hd hnn h1 h2
    obtain ⟨nn, rfl⟩ : ∃ r, nn = r + 1 := ⟨nn - 1, by omega⟩
    have hp : 0 < 10 ^ (d + 1) := Nat.pow_pos (by omega)
    have hp2 : 10 ^ (d + 1) ≤ 10 ^ 18 := Nat.pow_le_pow_right (by omega) hd
    rw [b18] at hp2
    have hm := Nat.mod_lt (w / 10 ^ (d + 1)) (show 0 < 10 by omega)
    have hq : w / 10 ^ (d + 1) ≤ w := Nat.div_le_self _ _
    have e1 : Int.tdiv (w : Int) ((10 ^ (d + 1) : Nat) : Int) = ((w / 10 ^ (d + 1) : Nat) : Int) := by rw [Int.tdiv_eq_ediv_of_nonneg (by omega)]; rfl
    have e2 : Int.tmod ((w / 10 ^ (d + 1) : Nat) : Int) 10 = ((w / 10 ^ (d + 1) % 10 : Nat) : Int) := by rw [Int.tmod_eq_emod_of_nonneg (Int.natCast_nonneg _)]; rfl
    have e3 : Int.tdiv ((10 ^ (d + 1) : Nat) : Int) 10 = ((10 ^ d : Nat) : Int) := by
      rw [Int.tdiv_eq_ediv_of_nonneg (by omega), Nat.pow_succ]; omega
    have hp3 : 10 ^ d ≤ 10 ^ (d + 1) := Nat.pow_le_pow_right (by omega) (by omega)
    rw [LB_Md_sayNumber_50, if_neg (by omega), if_pos (by omega), if_pos (by decide), e1, e2, e3]
    obtain ⟨u, hu⟩ : ∃ u, w / 10 ^ (d + 1) = u := ⟨_, rfl⟩
    have edg : dg w (d + 1 + 1) = (48 + ((u % 10 : Nat) : Int)) :: dg w (d + 1) := by rw [← hu]; rfl
    rw [edg]
    rw [hu] at hm hq ⊢
    rw [if_pos (by omega), M_say fl _ s (by omega) (by omega), Option.bind_some, if_pos (by omega)]
    rw [ih nn _ (by omega) (by omega) (by show 0 ≤ s.1 + 1; omega) (by show s.1 + 1 + (d : Int) + 1 ≤ 8000; omega), ← mm_app]
    rfl
theorem M_num28 (fl : Nat) (hfl : 100 ≤ fl) (w : Nat) (hw : w < 10 ^ 18) (x1 : Int) (s : Int × (Nat → Int)) (h1 : 0 ≤ s.1 ∧ s.1 ≤ 7970) :
    ∀ (k nn i : Nat), k < nn → i + k ≤ 17 → w / 10 ^ i < 10 ^ (k + 1) → LB_Md_sayNumber_28 fl nn x1 (w : Int) ((10 ^ i : Nat) : Int) s.1 s.2 = some (mm (dg w (i + ndz k (w / 10 ^ i))) s) := by
  have b18 : (10 : Nat) ^ 18 = 1000000000000000000 := by decide
  intro k
  have hq : ∀ i, w / 10 ^ i ≤ w := fun i => Nat.div_le_self _ _
  have hw2 := hw
  rw [b18] at hw2
  have e1 : ∀ i, Int.tdiv (w : Int) ((10 ^ i : Nat) : Int) = ((w / 10 ^ i : Nat) : Int) := fun i => by rw [Int.tdiv_eq_ediv_of_nonneg (by omega)]; rfl
  have hp : ∀ i, 0 < 10 ^ i := fun i => Nat.pow_pos (by omega)
  induction k with
  | zero =>
    intro nn i hnn hi hw3
    obtain ⟨nn, rfl⟩ : ∃ r, nn = r + 1 := ⟨nn - 1, by omega⟩
    have hw' : w / 10 ^ i < 10 := by simpa using hw3
    have h7 := hp i; have h8 := hq i
    obtain ⟨u, hu⟩ : ∃ u, w / 10 ^ i = u := ⟨_, rfl⟩
    rw [hu] at h8 hw'
    rw [LB_Md_sayNumber_28, if_pos (by omega), e1, hu, if_pos (by omega), if_pos (by omega)]
    exact M_num50 fl w hw x1 i fl s (by omega) (by omega) h1.1 (by omega)
  | succ k ih =>
    intro nn i hnn hi hw3
    obtain ⟨nn, rfl⟩ : ∃ r, nn = r + 1 := ⟨nn - 1, by omega⟩
    have h7 := hp i; have h8 := hq i
    obtain ⟨u, hu⟩ : ∃ u, w / 10 ^ i = u := ⟨_, rfl⟩
    rw [hu] at h8
    rw [LB_Md_sayNumber_28, if_pos (by omega), e1]
    by_cases c : u < 10
    · have e : ndz (k + 1) (w / 10 ^ i) = 1 := by unfold ndz; rw [hu, if_pos c]
      rw [e, hu, if_pos (by omega), if_pos (by omega)]
      exact M_num50 fl w hw x1 i fl s (by omega) (by omega) h1.1 (by omega)
    · have e : ndz (k + 1) (w / 10 ^ i) = ndz k (w / 10 ^ (i + 1)) + 1 := by
        unfold ndz; rw [if_neg (by rw [hu]; exact c), Nat.div_div_eq_div_mul, ← Nat.pow_succ]; cases k <;> rfl
      have hb : 10 ^ (i + 1) ≤ 10 ^ 18 := Nat.pow_le_pow_right (by omega) (by omega)
      rw [b18] at hb
      have hs : 10 ^ (i + 1) = 10 ^ i * 10 := Nat.pow_succ 10 i
      have e3 : w / 10 ^ (i + 1) = w / 10 ^ i / 10 := by rw [Nat.div_div_eq_div_mul, ← Nat.pow_succ]
      rw [e, hu, if_pos (by omega), if_neg (by omega), if_pos (by omega), show (10 * ((10 ^ i : Nat) : Int)) = ((10 ^ (i + 1) : Nat) : Int) by omega, show i + (ndz k (w / 10 ^ (i + 1)) + 1) = i + 1 + ndz k (w / 10 ^ (i + 1)) by omega]
      refine ih nn (i + 1) (by omega) (by omega) ?_
      rw [e3]
      have : 10 ^ (k + 1 + 1) = 10 ^ (k + 1) * 10 := Nat.pow_succ 10 (k + 1)
      rw [this] at hw3
      exact Nat.div_lt_of_lt_mul (by rw [Nat.mul_comm]; exact hw3)
theorem M_num (fl : Nat) (hfl : 100 ≤ fl) (v : Int) (hv : v.natAbs < 10 ^ 18) (s : Int × (Nat → Int)) (hs : 0 ≤ s.1 ∧ s.1 ≤ 7960) : LM_Md_sayNumber fl v s.1 s.2 = some (mm (num v) s) := by
  have b18 : (10 : Nat) ^ 18 = 1000000000000000000 := by decide
  have hv2 := hv
  rw [b18] at hv2
  unfold LM_Md_sayNumber LB_Md_sayNumber_0 LB_Md_sayNumber_12 LB_Md_sayNumber_25 num
  have hd : v.natAbs / 10 ^ 0 = v.natAbs := by simp
  have e4 : (((10 ^ 0 : Nat)) : Int) = 1 := by decide
  by_cases c : 0 ≤ v
  · rw [if_pos c, if_pos c, if_neg (by omega), List.nil_append]
    have := M_num28 fl hfl v.natAbs hv v s (by omega) 17 fl 0 (by omega) (by omega) (by rw [hd]; exact hv)
    rw [hd, Nat.zero_add, e4, show ((v.natAbs : Nat) : Int) = v by omega] at this
    exact this
  · rw [if_neg c, if_pos (by omega), if_neg c, if_pos (by omega), M_say fl 45 s (by omega) (by omega), Option.bind_some, mm_app]
    have := M_num28 fl hfl v.natAbs hv v (mm [45] s) (by show 0 ≤ s.1 + 1 ∧ s.1 + 1 ≤ 7970; omega) 17 fl 0 (by omega) (by omega) (by rw [hd]; exact hv)
    rw [hd, Nat.zero_add, e4, show ((v.natAbs : Nat) : Int) = -v by omega] at this
    exact this
