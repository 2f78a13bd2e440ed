/-- how many ways end with m circles and power w -/
def lfc : Nat → Nat → (Nat → Nat) × Nat → Int → Nat → Int → Nat
  | 0, _, s, pw, m, w => if s.2 = m ∧ pw = w then 1 else 0
  | r + 1, c, s, pw, m, w => lfc r (c + 1) (stp c 0 s) (pw + 1) m w + lfc r (c + 1) (stp c 1 s) (pw - 1) m w
theorem lfc_s (r c : Nat) (s : (Nat → Nat) × Nat) (pw : Int) (m : Nat) (w : Int) : lfc (r + 1) c s pw m w = lfc r (c + 1) (stp c 0 s) (pw + 1) m w + lfc r (c + 1) (stp c 1 s) (pw - 1) m w := rfl
theorem lfc_le : ∀ (r c : Nat) (s : (Nat → Nat) × Nat) (pw : Int) (m : Nat) (w : Int), lfc r c s pw m w ≤ 2 ^ r := by
  intro r
  induction r with
  | zero => intro c s pw m w; show (if _ then 1 else 0) ≤ 1; split <;> omega
  | succ r ih =>
    intro c s pw m w
    rw [lfc_s, Nat.pow_succ]
    have a := ih (c + 1) (stp c 0 s) (pw + 1) m w
    have b := ih (c + 1) (stp c 1 s) (pw - 1) m w
    omega
/-- the mates' array -/
def mtA (n : Nat) (A : Nat → Int) (μ : Nat → Nat) : Prop := ∀ p, p < 4 * n → A p = (μ p : Int)
/-- two endsz joined, and taken backz -/
theorem jn_up {n c : Nat} {A : Nat → Int} {μ : Nat → Nat} (hA : mtA n A μ) {a b : Nat} (ha : a < 4 * n) (hb : b < 4 * n) (la : μ a < 4 * n) (lb : μ b < 4 * n) : mtA n (up (up A (μ a) (μ b : Int)) (μ b) (μ a : Int)) (jn μ a b) := fun p hp => by
  unfold jn
  by_cases c1 : p = μ b
  · rw [if_pos c1, c1, up_eq]
  · rw [if_neg c1, up_ne _ _ c1]
    by_cases c2 : p = μ a
    · rw [if_pos c2, c2, up_eq]
    · rw [if_neg c2, up_ne _ _ c2]; exact hA p hp
theorem jn_back {μ : Nat → Nat} {a b : Nat} (h1 : μ (μ a) = a) (h2 : μ (μ b) = b) (p : Nat) : (if p = μ b then b else if p = μ a then a else jn μ a b p) = μ p := by
  by_cases c1 : p = μ b
  · rw [if_pos c1, c1, h2]
  · rw [if_neg c1]
    by_cases c2 : p = μ a
    · rw [if_pos c2, c2, h1]
    · rw [if_neg c2]; unfold jn; rw [if_neg c1, if_neg c2]
def stI (m : Nat) (w : Int) : Nat := (21 * (m : Int) + w + 10).toNat
section
variable {n : Nat}
theorem splitAs_ok (fl : Nat) (hn : n ≤ 10) {c f : Nat} (hf : f < 2) (hc : c < n) {s : (Nat → Nat) × Nat} (hM : Mat (opn n c) s.1) (hs : s.2 ≤ 29) {A : Nat → Int} (hA : mtA n A s.1) (pw : Int) (S : Nat → Int)
    (ks : Int → Int → Int → Int → (Nat → Int) → (Nat → Int) → Option ((Nat → Int) × (Nat → Int))) (Q : (Nat → Int) → Prop)
    (hk : ∀ A', mtA n A' (stp c f s).1 → ∃ A'' Sx, ks (n : Int) ((c + 1 : Nat) : Int) pw (((stp c f s).2 : Nat) : Int) A' S = some (A'', Sx) ∧ mtA n A'' (stp c f s).1 ∧ Q Sx) :
    ∃ A'' Sx, LM_Ss_splitAs fl ks (n : Int) (c : Int) (f : Int) pw ((s.2 : Nat) : Int) A S = some (A'', Sx) ∧ mtA n A'' s.1 ∧ Q Sx := by
  have o : ∀ k, k < 4 → opn n c (4 * c + k) := fun k hk => by unfold opn; omega
  have M1 := jn_Mat hM (o f (by omega)) (o (f + 1) (by omega)) (by omega)
  obtain ⟨⟨x1, x2⟩, x3, x4⟩ := hM _ (o f (by omega))
  obtain ⟨⟨y1, y2⟩, y3, y4⟩ := hM _ (o (f + 1) (by omega))
  obtain ⟨⟨⟨z1, z2⟩, _⟩, z3, z4⟩ := M1 (4 * c + (f + 2)) ⟨o _ (by omega), by omega, by omega⟩
  obtain ⟨⟨⟨w1, w2⟩, _⟩, w3, w4⟩ := M1 (4 * c + (f + 3) % 4) ⟨o _ (by omega), by omega, by omega⟩
  obtain ⟨μ1, hμ1⟩ : ∃ μ1, μ1 = jn s.1 (4 * c + f) (4 * c + (f + 1)) := ⟨_, rfl⟩
  rw [← hμ1] at z1 z2 z3 z4 w1 w2 w3 w4
  have A1 := jn_up (c := c) hA (a := 4 * c + f) (b := 4 * c + (f + 1)) (by omega) (by omega) x2 y2
  rw [← hμ1] at A1
  have A2 := jn_up (c := c) A1 (a := 4 * c + (f + 2)) (b := 4 * c + (f + 3) % 4) (by omega) (by omega) z2 w2
  have s1 : (stp c f s).1 = jn μ1 (4 * c + (f + 2)) (4 * c + (f + 3) % 4) := by rw [hμ1]; rfl
  have s2 : (stp c f s).2 = s.2 + (if s.1 (4 * c + f) = 4 * c + (f + 1) then 1 else 0) + (if μ1 (4 * c + (f + 2)) = 4 * c + (f + 3) % 4 then 1 else 0) := by rw [hμ1]; rfl
  have ha := hA (4 * c + f) (by omega)
  have hb := hA (4 * c + (f + 1)) (by omega)
  have hg := A1 (4 * c + (f + 2)) (by omega)
  have hh := A1 (4 * c + (f + 3) % 4) (by omega)
  have t1 : Int.toNat (4 * (c : Int) + (f : Int)) = 4 * c + f := by omega
  have t2 : Int.toNat (4 * (c : Int) + (f : Int) + 1) = 4 * c + (f + 1) := by omega
  have t3 : Int.toNat (4 * (c : Int) + (f : Int) + 2) = 4 * c + (f + 2) := by omega
  have t4 : Int.toNat (4 * (c : Int) + ((f : Int) + 3) % 4) = 4 * c + (f + 3) % 4 := by omega
  rw [← s1] at A2
  obtain ⟨A3, Sx, k1, k2, kQ⟩ := hk _ A2
  suffices hh2 : ∃ A'', LM_Ss_splitAs fl ks (n : Int) (c : Int) (f : Int) pw ((s.2 : Nat) : Int) A S = some (A'', Sx) ∧ mtA n A'' s.1 by
    obtain ⟨A'', q1, q2⟩ := hh2
    exact ⟨A'', Sx, q1, q2, kQ⟩
  rw [s1] at k2
  -- taken backz
  have backz : mtA n (up (up (up (up A3 (μ1 (4 * c + (f + 2))) (((4 * c + (f + 2) : Nat)) : Int)) (μ1 (4 * c + (f + 3) % 4)) ((4 * c + (f + 3) % 4 : Nat) : Int)) (s.1 (4 * c + f)) ((4 * c + f : Nat) : Int)) (s.1 (4 * c + (f + 1))) ((4 * c + (f + 1) : Nat) : Int)) s.1 := fun p hp => by
    have b1 := jn_back (μ := μ1) (a := 4 * c + (f + 2)) (b := 4 * c + (f + 3) % 4) z3 w3 p
    have b2 := jn_back (μ := s.1) (a := 4 * c + f) (b := 4 * c + (f + 1)) x3 y3 p
    rw [← hμ1] at b2
    rw [← b2, ← b1]
    by_cases c1 : p = s.1 (4 * c + (f + 1))
    · rw [if_pos c1, c1, up_eq]
    · rw [if_neg c1, up_ne _ _ c1]
      by_cases c2 : p = s.1 (4 * c + f)
      · rw [if_pos c2, c2, up_eq]
      · rw [if_neg c2, up_ne _ _ c2]
        by_cases c3 : p = μ1 (4 * c + (f + 3) % 4)
        · rw [if_pos c3, c3, up_eq]
        · rw [if_neg c3, up_ne _ _ c3]
          by_cases c4 : p = μ1 (4 * c + (f + 2))
          · rw [if_pos c4, c4, up_eq]
          · rw [if_neg c4, up_ne _ _ c4]; exact k2 p hp
  have last : ∀ u v : Int, u + v = (if s.1 (4 * c + f) = 4 * c + (f + 1) then 1 else 0) + (if μ1 (4 * c + (f + 2)) = 4 * c + (f + 3) % 4 then 1 else 0) →
      ∃ A'', LB_Ss_splitAs_126 fl ks (n : Int) v u (c : Int) (f : Int) pw ((s.2 : Nat) : Int) (4 * (c : Int) + (f : Int)) (4 * (c : Int) + (f : Int) + 1) (4 * (c : Int) + (f : Int) + 2) (4 * (c : Int) + ((f : Int) + 3) % 4) ((s.1 (4 * c + f) : Nat) : Int) ((s.1 (4 * c + (f + 1)) : Nat) : Int) ((μ1 (4 * c + (f + 2)) : Nat) : Int) ((μ1 (4 * c + (f + 3) % 4) : Nat) : Int) (up (up (up (up A (s.1 (4 * c + f)) (s.1 (4 * c + (f + 1)) : Int)) (s.1 (4 * c + (f + 1))) (s.1 (4 * c + f) : Int)) (μ1 (4 * c + (f + 2))) (μ1 (4 * c + (f + 3) % 4) : Int)) (μ1 (4 * c + (f + 3) % 4)) (μ1 (4 * c + (f + 2)) : Int)) S = some (A'', Sx) ∧ mtA n A'' s.1 := fun u v huv => by
    have uv2 : 0 ≤ u + v ∧ u + v ≤ 2 := by rw [huv]; split <;> split <;> omega
    have e : ((s.2 : Nat) : Int) + (u + v) = (((stp c f s).2 : Nat) : Int) := by rw [s2, huv]; split <;> split <;> omega
    unfold LB_Ss_splitAs_126
    rw [if_pos (by omega), e, show ((c : Int) + 1) = ((c + 1 : Nat) : Int) by omega, k1, Option.bind_some, if_pos (by omega), if_pos (by omega), if_pos (by omega), if_pos (by omega)]
    simp only [Int.toNat_natCast]
    refine ⟨_, rfl, ?_⟩
    rw [show 4 * (c : Int) + (f : Int) + 2 = ((4 * c + (f + 2) : Nat) : Int) by omega, show 4 * (c : Int) + ((f : Int) + 3) % 4 = ((4 * c + (f + 3) % 4 : Nat) : Int) by omega, show 4 * (c : Int) + (f : Int) + 1 = ((4 * c + (f + 1) : Nat) : Int) by omega, show 4 * (c : Int) + (f : Int) = ((4 * c + f : Nat) : Int) by omega]
    exact backz
  unfold LM_Ss_splitAs LB_Ss_splitAs_0
  rw [t1, t2, t3, t4, ha, hb]
  simp only [Int.toNat_natCast]
  rw [hg, hh]
  simp only [Int.toNat_natCast]
  rw [if_pos (by omega), if_pos (by omega), if_pos (by omega), if_pos (by omega), if_pos (by omega), if_pos (by omega), if_pos (by omega), if_pos (by omega), if_pos (by omega), if_pos (by omega)]
  have g114 : ∀ u : Int, u = (if s.1 (4 * c + f) = 4 * c + (f + 1) then 1 else 0) → ∃ A'', LB_Ss_splitAs_114 fl ks (n : Int) u (c : Int) (f : Int) pw ((s.2 : Nat) : Int) (4 * (c : Int) + (f : Int)) (4 * (c : Int) + (f : Int) + 1) (4 * (c : Int) + (f : Int) + 2) (4 * (c : Int) + ((f : Int) + 3) % 4) ((s.1 (4 * c + f) : Nat) : Int) ((s.1 (4 * c + (f + 1)) : Nat) : Int) ((μ1 (4 * c + (f + 2)) : Nat) : Int) ((μ1 (4 * c + (f + 3) % 4) : Nat) : Int) (up (up (up (up A (s.1 (4 * c + f)) (s.1 (4 * c + (f + 1)) : Int)) (s.1 (4 * c + (f + 1))) (s.1 (4 * c + f) : Int)) (μ1 (4 * c + (f + 2))) (μ1 (4 * c + (f + 3) % 4) : Int)) (μ1 (4 * c + (f + 3) % 4)) (μ1 (4 * c + (f + 2)) : Int)) S = some (A'', Sx) ∧ mtA n A'' s.1 := fun u hu => by
    unfold LB_Ss_splitAs_114
    by_cases z : μ1 (4 * c + (f + 2)) = 4 * c + (f + 3) % 4
    · rw [if_neg (show ¬ ¬ (((μ1 (4 * c + (f + 2)) : Nat) : Int) = 4 * (c : Int) + ((f : Int) + 3) % 4) by omega)]
      exact last u 1 (by rw [hu, if_pos z])
    · rw [if_pos (show ¬ (((μ1 (4 * c + (f + 2)) : Nat) : Int) = 4 * (c : Int) + ((f : Int) + 3) % 4) by omega)]
      exact last u 0 (by rw [hu, if_neg z])
  by_cases z : s.1 (4 * c + f) = 4 * c + (f + 1)
  · rw [if_neg (show ¬ ¬ (((s.1 (4 * c + f) : Nat) : Int) = 4 * (c : Int) + (f : Int) + 1) by omega)]
    exact g114 1 (by rw [if_pos z])
  · rw [if_pos (show ¬ (((s.1 (4 * c + f) : Nat) : Int) = 4 * (c : Int) + (f : Int) + 1) by omega)]
    exact g114 0 (by rw [if_neg z])
/-- all ways from crossing c on -/
theorem split_ok (fl : Nat) (hn : n ≤ 10) : ∀ (r dp c : Nat) (s : (Nat → Nat) × Nat) (pw : Int) (A S : Nat → Int), c + r = n → r < dp → Mat (opn n c) s.1 → s.2 + 2 * r ≤ 29 → mtA n A s.1 → (-(c : Int) ≤ pw ∧ pw ≤ (c : Int)) → (∀ i, i < 630 → 0 ≤ S i ∧ S i + ((2 ^ r : Nat) : Int) ≤ 1000000) →
    ∃ A' S', LR_Ss_split fl dp (n : Int) (c : Int) pw ((s.2 : Nat) : Int) A S = some (A', S') ∧ mtA n A' s.1 ∧ (∀ i, i < 630 → S' i = S i + ((lfc r c s pw (i / 21) (((i % 21 : Nat) : Int) - 10) : Nat) : Int)) := by
  intro r
  induction r with
  | zero =>
    intro dp c s pw A S hr hdp hM hs hA hpw hS
    obtain ⟨dp, rfl⟩ : ∃ k, dp = k + 1 := ⟨dp - 1, by omega⟩
    obtain ⟨j, hj⟩ : ∃ j : Nat, ((s.2 : Nat) : Int) * 21 + pw + 10 = (j : Int) := ⟨(((s.2 : Nat) : Int) * 21 + pw + 10).toNat, by omega⟩
    have hj2 : j < 630 := by omega
    have hI := hS j hj2
    unfold LR_Ss_split LM_Ss_split LB_Ss_split_0
    rw [if_neg (by omega), if_neg (by omega), if_pos (by omega), if_pos (by omega), hj, Int.toNat_natCast, if_pos (by omega)]
    refine ⟨A, _, rfl, hA, fun i hi => ?_⟩
    show _ = _ + (((if s.2 = i / 21 ∧ pw = ((i % 21 : Nat) : Int) - 10 then 1 else 0 : Nat)) : Int)
    by_cases k : i = j
    · rw [k, up_eq, if_pos (by omega)]; rfl
    · rw [up_ne _ _ k, if_neg (by omega)]; omega
  | succ r ih =>
    intro dp c s pw A S hr hdp hM hs hA hpw hS
    obtain ⟨dp, rfl⟩ : ∃ k, dp = k + 1 := ⟨dp - 1, by omega⟩
    have l0 := stp_le c 0 s
    have l1 := stp_le c 1 s
    have pw2 : 2 ^ (r + 1) = 2 ^ r + 2 ^ r := by rw [Nat.pow_succ]; omega
    have pp : (0 : Int) ≤ ((2 ^ r : Nat) : Int) := Int.natCast_nonneg _
    unfold LR_Ss_split LM_Ss_split LB_Ss_split_0
    rw [if_pos (by omega), if_pos (by omega)]
    obtain ⟨A1, S1, a1, a2, a3⟩ := splitAs_ok fl hn (f := 0) (by omega) (show c < n by omega) hM (by omega) hA (pw + 1) S (LR_Ss_split fl dp) (fun S1 => ∀ i, i < 630 → S1 i = S i + ((lfc r (c + 1) (stp c 0 s) (pw + 1) (i / 21) (((i % 21 : Nat) : Int) - 10) : Nat) : Int)) (fun A' hA' => by
      obtain ⟨A'', S1, q1, q2, q3⟩ := ih dp (c + 1) (stp c 0 s) (pw + 1) A' S (by omega) (by omega) (stp_Mat (by omega) (by omega) hM) (by omega) hA' (by omega) (fun i hi => by have := hS i hi; rw [pw2] at this; omega)
      exact ⟨A'', S1, q1, q2, q3⟩)
    have a1 : LM_Ss_splitAs fl (LR_Ss_split fl dp) (n : Int) (c : Int) 0 (pw + 1) ((s.2 : Nat) : Int) A S = some (A1, S1) := a1
    obtain ⟨A2, S2, b1, b2, b3⟩ := splitAs_ok fl hn (f := 1) (by omega) (show c < n by omega) hM (by omega) a2 (pw - 1) S1 (LR_Ss_split fl dp) (fun S2 => ∀ i, i < 630 → S2 i = S1 i + ((lfc r (c + 1) (stp c 1 s) (pw - 1) (i / 21) (((i % 21 : Nat) : Int) - 10) : Nat) : Int)) (fun A' hA' => by
      obtain ⟨A'', S2, q1, q2, q3⟩ := ih dp (c + 1) (stp c 1 s) (pw - 1) A' S1 (by omega) (by omega) (stp_Mat (by omega) (by omega) hM) (by omega) hA' (by omega) (fun i hi => by
        have := hS i hi
        have l := lfc_le r (c + 1) (stp c 0 s) (pw + 1) (i / 21) (((i % 21 : Nat) : Int) - 10)
        rw [a3 i hi]
        rw [pw2] at this
        omega)
      exact ⟨A'', S2, q1, q2, q3⟩)
    have b1 : LM_Ss_splitAs fl (LR_Ss_split fl dp) (n : Int) (c : Int) 1 (pw - 1) ((s.2 : Nat) : Int) A1 S1 = some (A2, S2) := b1
    rw [a1, Option.bind_some, if_pos (by omega), b1, Option.bind_some]
    refine ⟨A2, S2, rfl, b2, fun i hi => ?_⟩
    rw [b3 i hi, a3 i hi, lfc_s]
    omega
/-- a sum over all states, by halves -/
theorem cnt_2 (p : Nat → Bool) : ∀ N, cntP p (2 * N) = cntP (fun y => p (2 * y + 1)) N + cntP (fun y => p (2 * y)) N := by
  intro N
  induction N with
  | zero => rfl
  | succ N ih =>
    rw [show 2 * (N + 1) = 2 * N + 1 + 1 by omega, cnt_s, cnt_s, ih, cnt_s, cnt_s]
    omega
def pwf : Nat → Int → Nat → Int
  | 0, pw, _ => pw
  | r + 1, pw, y => pwf r (if y % 2 = 1 then pw + 1 else pw - 1) (y / 2)
theorem pwf_s (r : Nat) (pw : Int) (y : Nat) : pwf (r + 1) pw y = pwf r (if y % 2 = 1 then pw + 1 else pw - 1) (y / 2) := rfl
theorem lfc_cnt : ∀ (r c : Nat) (s : (Nat → Nat) × Nat) (pw : Int) (m : Nat) (w : Int), lfc r c s pw m w = cntP (fun y => decide (cf r c s y = m ∧ pwf r pw y = w)) (2 ^ r) := by
  intro r
  induction r with
  | zero =>
    intro c s pw m w
    show (if s.2 = m ∧ pw = w then 1 else 0) = cntP _ 1
    rw [show (1 : Nat) = 0 + 1 from rfl, cnt_s]
    show _ = 0 + (if decide (s.2 = m ∧ pw = w) = true then 1 else 0)
    by_cases k : s.2 = m ∧ pw = w
    · rw [if_pos k, if_pos (by simp [k])]
    · rw [if_neg k, if_neg (by simp; exact fun a b => k ⟨a, b⟩)]
  | succ r ih =>
    intro c s pw m w
    rw [lfc_s, Nat.pow_succ, Nat.mul_comm, cnt_2, ih, ih]
    congr 1
    · apply cnt_congr
      intro y _
      rw [cf_s, pwf_s, show (2 * y + 1) % 2 = 1 by omega, show (2 * y + 1) / 2 = y by omega, if_pos rfl, if_pos rfl]
    · apply cnt_congr
      intro y _
      rw [cf_s, pwf_s, show (2 * y) % 2 = 0 by omega, show (2 * y) / 2 = y by omega, if_neg (by decide), if_neg (by decide)]
theorem pwf_b : ∀ (r : Nat) (pw : Int) (y : Nat), pwf r pw y = pw + 2 * ((cntP (bS y) r : Nat) : Int) - (r : Int) := by
  intro r
  induction r with
  | zero => intro pw y; show pw = pw + 2 * 0 - 0; omega
  | succ r ih =>
    intro pw y
    rw [pwf_s, ih]
    have e : cntP (bS y) (r + 1) = cntP (bS (y / 2)) r + (if y % 2 = 1 then 1 else 0) := by
      have key : ∀ k, cntP (bS y) (k + 1) = cntP (bS (y / 2)) k + (if y % 2 = 1 then 1 else 0) := by
        intro k
        induction k with
        | zero =>
          rw [cnt_s]
          show 0 + (if y.testBit 0 = true then 1 else 0) = 0 + _
          rw [Nat.testBit_zero]
          by_cases c : y % 2 = 1
          · simp [c]
          · simp [c]
        | succ k ihk =>
          rw [cnt_s, ihk, cnt_s]
          have : bS y (k + 1) = bS (y / 2) k := by show y.testBit (k + 1) = (y / 2).testBit k; rw [Nat.testBit_add_one]
          rw [this]
          omega
      exact key r
    rw [e]
    by_cases c : y % 2 = 1
    · rw [if_pos c, if_pos c]; omega
    · rw [if_neg c, if_neg c]; omega
end
