theorem tc8 (fl : Nat) {R : Nat} (hR : R + 4 ≤ 80) {F : Int → Int} (hs : ∀ e : Int, F e ≠ 0 → -(R : Int) ≤ e ∧ e ≤ (R : Int) ∧ (e - (R : Int)) % 2 = 0) (hb : ∀ e, -1000000000000000 ≤ F e ∧ F e ≤ 1000000000000000) :
    ∀ (r nn : Nat) (e : Int) (T : Nat → Int), e + 2 * (r : Int) = (R : Int) + 4 → -(R : Int) - 2 ≤ e → r < nn → (∀ i : Nat, i < 161 → T i = if (i : Int) - 80 < e then -(F ((i : Int) - 80 - 2)) - F ((i : Int) - 80 + 2) else F ((i : Int) - 80)) → ∃ T', LB_Po_timesCircle_8 fl nn (R : Int) (F (e - 2)) e T = some T' ∧ ∀ i : Nat, i < 161 → T' i = -(F ((i : Int) - 80 - 2)) - F ((i : Int) - 80 + 2) := by
  have z : ∀ e : Int, (e < -(R : Int) ∨ (R : Int) < e ∨ (e - (R : Int)) % 2 ≠ 0) → F e = 0 := fun e he => Classical.byContradiction (fun w => by have := hs e w; omega)
  intro r
  induction r with
  | zero =>
    intro nn e T he h1 hnn hT
    obtain ⟨nn, rfl⟩ : ∃ r, nn = r + 1 := ⟨nn - 1, by omega⟩
    rw [LB_Po_timesCircle_8, if_pos (by omega), if_pos (by omega)]
    refine ⟨T, rfl, fun i hi => ?_⟩
    rw [hT i hi]
    by_cases c : (i : Int) - 80 < e
    · rw [if_pos c]
    · rw [if_neg c, z _ (by omega), z ((i : Int) - 80 - 2) (by omega), z ((i : Int) - 80 + 2) (by omega)]; rfl
  | succ r ih =>
    intro nn e T he h1 hnn hT
    obtain ⟨nn, rfl⟩ : ∃ r, nn = r + 1 := ⟨nn - 1, by omega⟩
    obtain ⟨j, hj⟩ : ∃ j : Nat, e + 80 = (j : Int) := ⟨(e + 80).toNat, by omega⟩
    have e1 : e + 2 + 80 = ((j + 2 : Nat) : Int) := by omega
    have T0 := hT j (by omega)
    have T2 := hT (j + 2) (by omega)
    rw [if_neg (by omega), show ((j : Int) - 80) = e by omega] at T0
    rw [if_neg (by omega), show (((j + 2 : Nat) : Int) - 80) = e + 2 by omega] at T2
    have b1 := hb (e - 2)
    have b2 := hb (e + 2)
    rw [LB_Po_timesCircle_8, if_pos (by omega), if_neg (by omega), if_pos (by omega), if_neg (by omega), if_pos (by omega), if_pos (by omega), if_pos (by omega), hj, e1, Int.toNat_natCast, Int.toNat_natCast, T0, T2, if_pos (by omega)]
    have := ih nn (e + 2) (up T j (-(F (e - 2)) - F (e + 2))) (by omega) (by omega) (by omega) (fun i hi => by
      by_cases c : i = j
      · rw [c, up_eq, if_pos (by omega), show ((j : Int) - 80) = e by omega]
      · rw [up_ne _ _ c, hT i hi]
        by_cases d : (i : Int) - 80 < e
        · rw [if_pos d, if_pos (by omega)]
        · rw [if_neg d]
          by_cases d2 : (i : Int) - 80 < e + 2
          · rw [if_pos d2, z _ (by omega), z ((i : Int) - 80 - 2) (by omega), z ((i : Int) - 80 + 2) (by omega)]; rfl
          · rw [if_neg d2])
    rw [show e + 2 - 2 = e by omega] at this
    exact this
theorem C_times (fl : Nat) (hfl : 200 ≤ fl) {R : Nat} (hR : R + 4 ≤ 80) {F : Int → Int} (hs : ∀ e : Int, F e ≠ 0 → -(R : Int) ≤ e ∧ e ≤ (R : Int) ∧ (e - (R : Int)) % 2 = 0) (hb : ∀ e, -1000000000000000 ≤ F e ∧ F e ≤ 1000000000000000) {T : Nat → Int} (hT : ∀ i : Nat, i < 161 → T i = F ((i : Int) - 80)) : ∃ T', LM_Po_timesCircle fl (R : Int) T = some T' ∧ ∀ i : Nat, i < 161 → T' i = -(F ((i : Int) - 80 - 2)) - F ((i : Int) - 80 + 2) := by
  have z : ∀ e : Int, (e < -(R : Int) ∨ (R : Int) < e ∨ (e - (R : Int)) % 2 ≠ 0) → F e = 0 := fun e he => Classical.byContradiction (fun w => by have := hs e w; omega)
  unfold LM_Po_timesCircle LB_Po_timesCircle_0
  rw [if_pos (by omega)]
  have := tc8 fl hR hs hb (R + 3) fl (-(R : Int) - 2) T (by omega) (by omega) (by omega) (fun i hi => by
    rw [hT i hi]
    by_cases c : (i : Int) - 80 < -(R : Int) - 2
    · rw [if_pos c, z _ (by omega), z ((i : Int) - 80 - 2) (by omega), z ((i : Int) - 80 + 2) (by omega)]; rfl
    · rw [if_neg c])
  rw [z (-(R : Int) - 2 - 2) (by omega)] at this
  exact this
section
variable {n : Nat} {μ : Nat → Nat} {ci : Nat}
def hterm (n : Nat) (μ : Nat → Nat) (ci q : Nat) (e : Int) (a m : Nat) : Int := if q ≤ m then ((wCt n μ ci a m (2 ^ n) : Nat) : Int) * dpw (m - q) (e - (2 * (a : Int) - (n : Int))) else 0
def HH (n : Nat) (μ : Nat → Nat) (ci q : Nat) (e : Int) : Int := smz (fun a => smz (fun m => hterm n μ ci q e a m) 30) (n + 1)
def dlt (n : Nat) (μ : Nat → Nat) (ci q : Nat) (e : Int) (a : Nat) : Int := if e = 2 * (a : Int) - (n : Int) then ((wCt n μ ci a q (2 ^ n) : Nat) : Int) else 0
theorem HH_rec {q : Nat} (hq : q < 30) (e : Int) : HH n μ ci q e = (-(HH n μ ci (q + 1) (e - 2)) - HH n μ ci (q + 1) (e + 2)) + smz (dlt n μ ci q e) (n + 1) := by
  unfold HH
  have e1 : ∀ x y : Int, -x - y = (-1) * x + (-1) * y := fun x y => by omega
  rw [e1, ← sm_mul, ← sm_mul, ← sm_add, ← sm_add]
  apply sm_congr
  intro a _
  show smz _ 30 = (-1 * smz _ 30 + -1 * smz _ 30) + dlt n μ ci q e a
  have d1 : dlt n μ ci q e a = smz (fun m => if m = q then dlt n μ ci q e a else 0) 30 := by
    rw [sm_one (F := fun m => if m = q then dlt n μ ci q e a else 0) hq (fun y _ hy => if_neg hy), if_pos rfl]
  rw [d1, ← sm_mul, ← sm_mul, ← sm_add, ← sm_add]
  apply sm_congr
  intro m _
  show hterm n μ ci q e a m = (-1 * hterm n μ ci (q + 1) (e - 2) a m + -1 * hterm n μ ci (q + 1) (e + 2) a m) + (if m = q then dlt n μ ci q e a else 0)
  unfold hterm dlt
  by_cases c : m = q
  · subst c
    rw [if_pos (Nat.le_refl _), if_neg (by omega), if_neg (by omega), if_pos rfl, Nat.sub_self]
    show _ * (if e - (2 * (a : Int) - (n : Int)) = 0 then 1 else 0) = _
    by_cases d : e = 2 * (a : Int) - (n : Int)
    · rw [if_pos (by omega), if_pos d]; omega
    · rw [if_neg (by omega), if_neg d]; omega
  · by_cases d : q ≤ m
    · rw [if_pos d, if_pos (by omega), if_pos (by omega), if_neg c, show m - q = (m - (q + 1)) + 1 by omega, dpw_s, show e - (2 * (a : Int) - (n : Int)) - 2 = e - 2 - (2 * (a : Int) - (n : Int)) by omega, show e - (2 * (a : Int) - (n : Int)) + 2 = e + 2 - (2 * (a : Int) - (n : Int)) by omega]
      grind
    · rw [if_neg d, if_neg (by omega), if_neg (by omega), if_neg c]; rfl
theorem hterm_abs (hn : n ≤ 10) (hci : ci ≤ 9) {q : Nat} (hq : 1 ≤ q) (e : Int) (a m : Nat) : (((hterm n μ ci q e a m).natAbs : Nat) : Int) ≤ 300000000000 := by
  unfold hterm
  split
  · by_cases w : wCt n μ ci a m (2 ^ n) = 0
    · rw [w]; show (((0 : Int) * _).natAbs : Int) ≤ _; rw [Int.zero_mul]; decide
    · have h := wCt_hi w
      have p10 : 2 ^ n ≤ 1024 := by
        have : 2 ^ n ≤ 2 ^ 10 := Nat.pow_le_pow_right (by omega) hn
        omega
      have l := wCt_le n μ ci a m (2 ^ n)
      have d := dpw_abs (m - q) (e - (2 * (a : Int) - (n : Int)))
      have b : 2 ^ (m - q) ≤ 2 ^ 28 := Nat.pow_le_pow_right (by omega) (by omega)
      have d2 : (dpw (m - q) (e - (2 * (a : Int) - (n : Int)))).natAbs ≤ 268435456 := Nat.le_trans (Int.ofNat_le.1 d) b
      have := absmul (x := ((wCt n μ ci a m (2 ^ n) : Nat) : Int)) (A := 1024) (by rw [Int.natAbs_natCast]; omega) d2
      omega
  · decide
theorem sm_cst (C : Int) : ∀ N : Nat, smz (fun _ => C) N = C * (N : Int) := by
  intro N
  induction N with
  | zero => show (0 : Int) = C * 0; rw [Int.mul_zero]
  | succ N ih => rw [sm_s, ih, Int.natCast_add, Int.mul_add]; omega
theorem HH_abs (hn : n ≤ 10) (hci : ci ≤ 9) {q : Nat} (hq : 1 ≤ q) (e : Int) : -1000000000000000 ≤ HH n μ ci q e ∧ HH n μ ci q e ≤ 1000000000000000 := by
  have i1 : ∀ a, (((smz (fun m => hterm n μ ci q e a m) 30).natAbs : Nat) : Int) ≤ 9000000000000 := fun a => by
    have := sm_abs (F := fun m => hterm n μ ci q e a m) (c := fun _ => 300000000000) (B := 1) 30 (fun m _ => by rw [Int.mul_one]; exact hterm_abs hn hci hq e a m)
    rw [sm_cst] at this
    omega
  have := sm_abs (F := fun a => smz (fun m => hterm n μ ci q e a m) 30) (c := fun _ => 9000000000000) (B := 1) (n + 1) (fun a _ => by rw [Int.mul_one]; exact i1 a)
  rw [sm_cst] at this
  unfold HH
  omega
theorem HH_supp {M q : Nat} (hM : ∀ a m, M < m → wCt n μ ci a m (2 ^ n) = 0) (hq : q ≤ M) {e : Int} (h : HH n μ ci q e ≠ 0) : -((n + 2 * (M - q) : Nat) : Int) ≤ e ∧ e ≤ ((n + 2 * (M - q) : Nat) : Int) ∧ (e - ((n + 2 * (M - q) : Nat) : Int)) % 2 = 0 := by
  refine Classical.byContradiction (fun no => h ?_)
  refine sm_zero (fun a ha => sm_zero (fun m hm => ?_))
  unfold hterm
  split
  · next c =>
    by_cases w : M < m
    · rw [hM a m w]; show (0 : Int) * _ = 0; rw [Int.zero_mul]
    · rw [(dpw_v (m - q)).2 _ (fun ⟨j, j1, j2⟩ => no (by omega)), Int.mul_zero]
  · rfl
theorem HH_0 {M q : Nat} (hM : ∀ a m, M < m → wCt n μ ci a m (2 ^ n) = 0) (hq : M < q) (e : Int) : HH n μ ci q e = 0 := sm_zero (fun a ha => sm_zero (fun m hm => by
  unfold hterm
  split
  · rw [hM a m (by omega)]; show (0 : Int) * _ = 0; rw [Int.zero_mul]
  · rfl))
/-- the states' table of the class -/
def StC (n : Nat) (μ : Nat → Nat) (ci : Nat) (S : Nat → Int) : Prop := ∀ i, i < 630 → S i = ((lfc n 0 (μ, ci) 0 (i / 21) (((i % 21 : Nat) : Int) - 10) : Nat) : Int)
theorem StC_at (hn : n ≤ 10) {S : Nat → Int} (h : StC n μ ci S) {a m : Nat} (ha : a ≤ n) (hm : m ≤ 29) {i : Nat} (hi : (i : Int) = (m : Int) * 21 + (2 * (a : Int) - (n : Int)) + 10) : S i = ((wCt n μ ci a m (2 ^ n) : Nat) : Int) := by
  rw [h i (by omega), lfc_cnt]
  congr 1
  unfold wCt
  apply cnt_congr
  intro y _
  rw [pwf_b]
  have e1 : i / 21 = m := by omega
  have e2 : ((i % 21 : Nat) : Int) - 10 = 2 * (a : Int) - (n : Int) := by omega
  rw [e1, e2]
  rw [decide_eq_decide]
  omega
theorem bc76 (fl : Nat) (cn cc : Int) (fr to : Nat → Int) (hn : n ≤ 10) {S : Nat → Int} (h : StC n μ ci S) (kb : Int → Int → Int → Int → (Nat → Int) → (Nat → Int) → Int → Int → (Nat → Int) → Option (Int × (Nat → Int) × (Nat → Int) × Int × Int × (Nat → Int))) (mo re : Int) {q : Nat} (hq1 : 1 ≤ q) (hq : q ≤ 29) (mt : Nat → Int) {G : Int → Int} (bG : ∀ e, -3000000000000000 ≤ G e ∧ G e ≤ 3000000000000000) :
    ∀ (r nn a : Nat) (T : Nat → Int), a + r = n + 1 → r < nn → (∀ i : Nat, i < 161 → T i = G ((i : Int) - 80) + smz (dlt n μ ci q ((i : Int) - 80)) a) → ∃ T', LB_Ss_bracket_76 fl cn cc fr to kb nn mo re (q : Int) (2 * (a : Int) - (n : Int)) (n : Int) mt S 0 1 T = kb mo re ((q : Int) - 1) (n : Int) mt S 0 1 T' ∧ ∀ i : Nat, i < 161 → T' i = G ((i : Int) - 80) + smz (dlt n μ ci q ((i : Int) - 80)) (n + 1) := by
  have p10 : 2 ^ n ≤ 1024 := by
    have : 2 ^ n ≤ 2 ^ 10 := Nat.pow_le_pow_right (by omega) hn
    omega
  intro r
  induction r with
  | zero =>
    intro nn a T hr hnn hT
    obtain ⟨nn, rfl⟩ : ∃ r, nn = r + 1 := ⟨nn - 1, by omega⟩
    have : a = n + 1 := by omega
    subst this
    rw [LB_Ss_bracket_76, if_pos (by omega), if_pos (by omega), show ((q : Int) + -1) = (q : Int) - 1 by omega]
    exact ⟨T, rfl, hT⟩
  | succ r ih =>
    intro nn a T hr hnn hT
    obtain ⟨nn, rfl⟩ : ∃ r, nn = r + 1 := ⟨nn - 1, by omega⟩
    obtain ⟨ix, hix⟩ : ∃ ix : Nat, ((q : Int) * 21 + (2 * (a : Int) - (n : Int)) + 10) = (ix : Int) := ⟨((q : Int) * 21 + (2 * (a : Int) - (n : Int)) + 10).toNat, by omega⟩
    have sv := StC_at hn h (a := a) (m := q) (by omega) hq hix.symm
    have wl := wCt_le n μ ci a q (2 ^ n)
    obtain ⟨jx, hjx⟩ : ∃ jx : Nat, ((2 * (a : Int) - (n : Int)) + 80) = (jx : Int) := ⟨((2 * (a : Int) - (n : Int)) + 80).toNat, by omega⟩
    have bs : ∀ (e : Int) (k : Nat), 0 ≤ smz (dlt n μ ci q e) k ∧ smz (dlt n μ ci q e) k ≤ 1024 * (k : Int) := by
      intro e k
      induction k with
      | zero => exact ⟨Int.le_refl _, Int.le_refl _⟩
      | succ k ihk =>
        rw [sm_s]
        have l2 := wCt_le n μ ci k q (2 ^ n)
        have : 0 ≤ dlt n μ ci q e k ∧ dlt n μ ci q e k ≤ 1024 := by unfold dlt; split <;> omega
        omega
    have Tj := hT jx (by omega)
    have b1 := bs ((jx : Int) - 80) a
    have b2 := bG ((jx : Int) - 80)
    rw [LB_Ss_bracket_76, if_neg (by omega), if_pos (by omega), if_pos (by omega), hix, Int.toNat_natCast, sv, C_poadd fl (by omega) T (by rw [hjx, Int.toNat_natCast, Tj]; omega), hjx, Int.toNat_natCast, Option.bind_some, if_pos (by omega), show 2 * (a : Int) - (n : Int) + 2 = 2 * ((a + 1 : Nat) : Int) - (n : Int) by omega]
    refine ih nn (a + 1) _ (by omega) (by omega) (fun i hi => ?_)
    rw [sm_s]
    by_cases c : i = jx
    · rw [c, up_eq, Tj]
      unfold dlt
      rw [if_pos (by omega)]; omega
    · rw [up_ne _ _ c, hT i hi]
      have : dlt n μ ci q ((i : Int) - 80) a = 0 := if_neg (by omega)
      rw [this]; omega
theorem bc47 (fl : Nat) (hfl : 300 ≤ fl) (cn cc : Int) (fr to : Nat → Int) (hn : n ≤ 10) (hci : ci ≤ 9) {S : Nat → Int} (h : StC n μ ci S) {M : Nat} (hM29 : M ≤ 29) (hM : ∀ a m, M < m → wCt n μ ci a m (2 ^ n) = 0) (mt : Nat → Int) :
    ∀ (q nn : Nat) (re : Int) (T : Nat → Int), q ≤ M → q < nn → (∀ i : Nat, i < 161 → T i = HH n μ ci (q + 1) ((i : Int) - 80)) → re = (if q = M then (n : Int) else ((n + 2 * (M - (q + 1)) : Nat) : Int)) → ∃ T', LB_Ss_bracket_47 fl cn cc fr to nn (M : Int) re (q : Int) (n : Int) mt S 0 1 T = some ((n : Int), mt, S, 0, 1, T') ∧ ∀ i : Nat, i < 161 → T' i = HH n μ ci 1 ((i : Int) - 80) := by
  intro q
  induction q with
  | zero =>
    intro nn re T hq hnn hT hre
    obtain ⟨nn, rfl⟩ : ∃ r, nn = r + 1 := ⟨nn - 1, by omega⟩
    rw [LB_Ss_bracket_47, if_pos (by omega)]
    exact ⟨T, rfl, hT⟩
  | succ q ih =>
    intro nn re T hq hnn hT hre
    obtain ⟨nn, rfl⟩ : ∃ r, nn = r + 1 := ⟨nn - 1, by omega⟩
    -- then the powers
    have add : ∀ (re' : Int) (T1 : Nat → Int), re' = ((n + 2 * (M - (q + 1)) : Nat) : Int) → (∀ i : Nat, i < 161 → T1 i = -(HH n μ ci (q + 1 + 1) ((i : Int) - 80 - 2)) - HH n μ ci (q + 1 + 1) ((i : Int) - 80 + 2)) → ∃ T', LB_Ss_bracket_69 fl cn cc fr to (LB_Ss_bracket_47 fl cn cc fr to nn) (M : Int) re' ((q + 1 : Nat) : Int) (n : Int) mt S 0 1 T1 = some ((n : Int), mt, S, 0, 1, T') ∧ ∀ i : Nat, i < 161 → T' i = HH n μ ci 1 ((i : Int) - 80) := fun re' T1 hre' hT1 => by
      unfold LB_Ss_bracket_69
      obtain ⟨T2, k1, k2⟩ := bc76 (μ := μ) (ci := ci) fl cn cc fr to hn h (LB_Ss_bracket_47 fl cn cc fr to nn) (M : Int) re' (q := q + 1) (by omega) (by omega) mt (G := fun e => -(HH n μ ci (q + 1 + 1) (e - 2)) - HH n μ ci (q + 1 + 1) (e + 2)) (fun e => by
        have a := HH_abs (μ := μ) hn hci (q := q + 1 + 1) (by omega) (e - 2)
        have b := HH_abs (μ := μ) hn hci (q := q + 1 + 1) (by omega) (e + 2)
        omega) (n + 1) fl 0 T1 (by omega) (by omega) (fun i hi => by rw [hT1 i hi]; show _ = _ + (0 : Int); omega)
      have e0 : 2 * ((0 : Nat) : Int) - (n : Int) = -(n : Int) := by omega
      rw [e0] at k1
      rw [if_pos (by omega), k1, show ((q + 1 : Nat) : Int) - 1 = (q : Int) by omega]
      refine ih nn re' T2 (by omega) (by omega) (fun i hi => ?_) (by rw [hre', if_neg (by omega)])
      rw [k2 i hi]; exact (HH_rec (by omega) _).symm
    rw [LB_Ss_bracket_47, if_neg (by omega)]
    by_cases c : q + 1 = M
    · rw [if_pos (by omega)]
      refine add re T (by rw [hre, if_pos c]; omega) (fun i hi => ?_)
      rw [hT i hi, HH_0 hM (by omega), HH_0 hM (by omega), HH_0 hM (by omega)]; rfl
    · rw [if_neg (by omega)]
      have hre2 : re = ((n + 2 * (M - (q + 1 + 1)) : Nat) : Int) := by rw [hre, if_neg c]
      obtain ⟨T1, k1, k2⟩ := C_times fl (by omega) (R := n + 2 * (M - (q + 1 + 1))) (by omega) (F := HH n μ ci (q + 1 + 1)) (fun e he => HH_supp hM (by omega) he) (HH_abs hn hci (by omega)) hT
      rw [hre2, k1, Option.bind_some, if_pos (by omega)]
      exact add _ T1 (by omega) k2
end
