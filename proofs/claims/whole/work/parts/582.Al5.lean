def ind (j x : Nat) : Int := if j = x then 1 else 0
def mLo (sg : Nat → Int) (A : Nat → Nat) (c j : Nat) : Int := ind j (A (4 * c + 1)) - ind j (if sg c ≤ 0 then A (4 * c) else A (4 * c + 2))
def mHi (sg : Nat → Int) (A : Nat → Nat) (c j : Nat) : Int := ind j (if sg c ≤ 0 then A (4 * c + 2) else A (4 * c)) - ind j (A (4 * c + 1))
theorem ind_sum {x K : Nat} : (x < K → smz (fun j => ind j x) K = 1) ∧ 0 ≤ smz (fun j => ind j x) K ∧ smz (fun j => ind j x) K ≤ 1 := by
  have a : x < K → smz (fun j => ind j x) K = 1 := fun h => by
    rw [sm_one (F := fun j => ind j x) h (fun y _ hy => if_neg hy)]; exact if_pos rfl
  refine ⟨a, ?_⟩
  by_cases c : x < K
  · rw [a c]; decide
  · rw [sm_zero (F := fun j => ind j x) (fun y hy => if_neg (by omega))]; decide
theorem m_abs (sg : Nat → Int) (A : Nat → Nat) (K r : Nat) : smz (fun j => ((mLo sg A r j).natAbs : Int) + ((mHi sg A r j).natAbs : Int)) K ≤ 4 := by
  have le : ∀ (F G : Nat → Int), (∀ j, F j ≤ G j) → ∀ N, smz F N ≤ smz G N := by
    intro F G h N
    induction N with
    | zero => exact Int.le_refl _
    | succ N ih => rw [sm_s, sm_s]; have := h N; omega
  have i0 : ∀ j x, ind j x = 0 ∨ ind j x = 1 := fun j x => by unfold ind; split <;> omega
  refine Int.le_trans (le _ (fun j => (ind j (A (4 * r + 1)) + ind j (if sg r ≤ 0 then A (4 * r) else A (4 * r + 2))) + (ind j (if sg r ≤ 0 then A (4 * r + 2) else A (4 * r)) + ind j (A (4 * r + 1)))) (fun j => ?_) K) ?_
  · show (((mLo sg A r j).natAbs : Nat) : Int) + (((mHi sg A r j).natAbs : Nat) : Int) ≤ _
    unfold mLo mHi
    have a := i0 j (A (4 * r + 1))
    have b := i0 j (if sg r ≤ 0 then A (4 * r) else A (4 * r + 2))
    have c := i0 j (if sg r ≤ 0 then A (4 * r + 2) else A (4 * r))
    omega
  · rw [sm_add, sm_add, sm_add]
    have a := (ind_sum (x := A (4 * r + 1)) (K := K)).2
    have b := (ind_sum (x := if sg r ≤ 0 then A (4 * r) else A (4 * r + 2)) (K := K)).2
    have c := (ind_sum (x := if sg r ≤ 0 then A (4 * r + 2) else A (4 * r)) (K := K)).2
    omega
theorem m_col {n K : Nat} (sg : Nat → Int) {A : Nat → Nat} (hA : ∀ q, q < 4 * n → A q < K) {r : Nat} (hr : r < n) (t : Int) : smz (fun j => mLo sg A r j + mHi sg A r j * t) K = 0 := by
  have e : smz (fun j => mLo sg A r j + mHi sg A r j * t) K = (smz (fun j => ind j (A (4 * r + 1))) K - smz (fun j => ind j (if sg r ≤ 0 then A (4 * r) else A (4 * r + 2))) K) + t * (smz (fun j => ind j (if sg r ≤ 0 then A (4 * r + 2) else A (4 * r))) K - smz (fun j => ind j (A (4 * r + 1))) K) := by
    rw [← sm_sub, ← sm_sub, ← sm_mul, ← sm_add]
    apply sm_congr
    intro j _
    show mLo sg A r j + mHi sg A r j * t = _
    unfold mLo mHi; grind
  rw [e, (ind_sum (x := A (4 * r + 1))).1 (hA _ (by omega)), (ind_sum (x := if sg r ≤ 0 then A (4 * r) else A (4 * r + 2))).1 (by split <;> exact hA _ (by omega)), (ind_sum (x := if sg r ≤ 0 then A (4 * r + 2) else A (4 * r))).1 (by split <;> exact hA _ (by omega))]
  omega
theorem bound_ex (F : Nat → Int) : ∀ N, ∃ M : Int, ∀ q, q < N → F q ≤ M := by
  intro N
  induction N with
  | zero => exact ⟨0, fun q hq => by omega⟩
  | succ N ih =>
    obtain ⟨M, hM⟩ := ih
    refine ⟨max M (F N), fun q hq => ?_⟩
    by_cases c : q = N
    · subst c; omega
    · have := hM q (by omega); omega
section
variable {nm fr to at_ : Nat → Int}
/-- the rows, each times a power of t and a sign, add up to 0 -/
theorem mat_rel {d : Dg} (hE : EdgA d.1 d.2.2.2 d.2.2.1 nm fr to at_) (hJ : Jd d) : ∃ (κ : Nat → Nat) (s : Nat → Int), (∀ c, s c = 1 ∨ s c = -1) ∧ ∀ (t : Int) (j : Nat), smz (fun c => (s c * t ^ κ c) * (mLo d.2.2.2 (arcQ d.1 fr to at_) c j + mHi d.2.2.2 (arcQ d.1 fr to at_) c j * t)) d.1 = 0 := by
  obtain ⟨L, hL⟩ := hJ (fun _ => 1) (fun c _ => rfl)
  obtain ⟨M, hM⟩ := bound_ex (fun q => L (d.2.2.1 q)) (4 * d.1)
  have hM : ∀ q, q < 4 * d.1 → L (d.2.2.1 q) ≤ M := hM
  refine ⟨fun c => (M - L (d.2.2.1 (if d.2.2.2 c ≤ 0 then 4 * c else 4 * c + 2))).toNat, fun c => if d.2.2.2 c ≤ 0 then -1 else 1, fun c => by show (if _ then _ else _) = _ ∨ (if _ then _ else _) = _; split <;> simp, fun t j => ?_⟩
  obtain ⟨H, hH⟩ : ∃ H : Nat → Int, H = fun q => (if outQ d.2.2.2 q = true then -1 else 1) * (t ^ (M - L (d.2.2.1 q)).toNat * ind j (arcQ d.1 fr to at_ q)) := ⟨_, rfl⟩
  have hH' : ∀ q, H q = (if outQ d.2.2.2 q = true then -1 else 1) * (t ^ (M - L (d.2.2.1 q)).toNat * ind j (arcQ d.1 fr to at_ q)) := fun q => by rw [hH]
  have z : smz H (4 * d.1) = 0 := by
    rw [sm_pl hE]
    refine sm_zero (fun g hg => ?_)
    obtain ⟨p, q, b1, b2, b3, b4, b5, b6, b7, b8, b9, b10⟩ := Edg_fr hE hg
    show H (fr g).toNat + H (to g).toNat = 0
    rw [b3, b4, Int.toNat_natCast, Int.toNat_natCast, hH', hH', b5, b6, b9, b10]
    have : arcQ d.1 fr to at_ p = arcQ d.1 fr to at_ q := by unfold arcQ; rw [b7, b8]
    rw [this]
    simp only [if_true, Bool.false_eq_true, if_false]
    omega
  rw [sm_4] at z
  refine Eq.trans ?_ z
  apply sm_congr
  intro c hc
  have p1 : (M - (L (d.2.2.1 (4 * c)) - 1)).toNat = (M - L (d.2.2.1 (4 * c))).toNat + 1 := by have := hM (4 * c) (by omega); omega
  have hp := hL c hc
  have hp : pt d.2.2.2 d.2.2.1 (fun _ => 1) L c := hp
  have up1 := arcQ_up hE (show 4 * c + 1 < 4 * d.1 by omega) (by omega)
  have o1 : opp (4 * c + 1) = 4 * c + 3 := by unfold opp; rw [if_pos (by omega)]
  rw [o1] at up1
  show ((if d.2.2.2 c ≤ 0 then -1 else 1) * t ^ (M - L (d.2.2.1 (if d.2.2.2 c ≤ 0 then 4 * c else 4 * c + 2))).toNat) * (mLo _ _ c j + mHi _ _ c j * t) = H (4 * c) + H (4 * c + 1) + H (4 * c + 2) + H (4 * c + 3)
  rw [hH', hH', hH', hH', up1]
  unfold mLo mHi
  by_cases s : d.2.2.2 c ≤ 0
  · obtain ⟨l1, l2, l3⟩ := (pt_n s).1 hp
    obtain ⟨q0, q1, q2, q3⟩ := out_n s
    simp only [if_pos s]
    rw [q0, q1, q2, q3, l2, l3, ← l1]
    show _ * t ^ _ * _ = _ * (t ^ (M - L (d.2.2.1 (4 * c))).toNat * _) + _ * (t ^ (M - (L (d.2.2.1 (4 * c)) - 1)).toNat * _) + _ * (t ^ (M - (L (d.2.2.1 (4 * c)) - 1)).toNat * _) + _ * (t ^ (M - L (d.2.2.1 (4 * c))).toNat * _)
    rw [p1, Int.pow_succ]
    simp only [if_true, Bool.false_eq_true, if_false]
    grind
  · obtain ⟨l1, l2, l3⟩ := (pt_p s).1 hp
    obtain ⟨q0, q1, q2, q3⟩ := out_p s
    have p2 : (M - (L (d.2.2.1 (4 * c + 2)) - 1)).toNat = (M - L (d.2.2.1 (4 * c + 2))).toNat + 1 := by have := hM (4 * c + 2) (by omega); omega
    simp only [if_neg s]
    rw [q0, q1, q2, q3, l3, l2, l1]
    show _ * t ^ _ * _ = _ * (t ^ (M - (L (d.2.2.1 (4 * c + 2)) - 1)).toNat * _) + _ * (t ^ (M - (L (d.2.2.1 (4 * c + 2)) - 1)).toNat * _) + _ * (t ^ (M - L (d.2.2.1 (4 * c + 2))).toNat * _) + _ * (t ^ (M - L (d.2.2.1 (4 * c + 2))).toNat * _)
    rw [p2, Int.pow_succ]
    simp only [if_true, Bool.false_eq_true, if_false]
    grind
/-- all minors of order n - 1 are one, up to a power of t and a sign -/
theorem min_rel {d : Dg} (hE : EdgA d.1 d.2.2.2 d.2.2.1 nm fr to at_) (hJ : Jd d) (hK : arcN d.1 fr to at_ = d.1) {r c : Nat} (hr : r < d.1) (hc : c < d.1) :
    ∃ (a b : Nat) (s : Int), (s = 1 ∨ s = -1) ∧ ∀ k, shn a (PM d.1 (mLo d.2.2.2 (arcQ d.1 fr to at_)) (mHi d.2.2.2 (arcQ d.1 fr to at_)) (skip r) (d.1 - 1) (butC c)) k = s * shn b (PM d.1 (mLo d.2.2.2 (arcQ d.1 fr to at_)) (mHi d.2.2.2 (arcQ d.1 fr to at_)) (skip (d.1 - 1)) (d.1 - 1) (butC (d.1 - 1))) k := by
  obtain ⟨κ, s, hs, hrel⟩ := mat_rel hE hJ
  obtain ⟨n, hn⟩ : ∃ n, n = d.1 := ⟨_, rfl⟩
  obtain ⟨lo, hlo⟩ : ∃ lo, lo = mLo d.2.2.2 (arcQ d.1 fr to at_) := ⟨_, rfl⟩
  obtain ⟨hi, hhi⟩ : ∃ hi, hi = mHi d.2.2.2 (arcQ d.1 fr to at_) := ⟨_, rfl⟩
  have hcol : ∀ r, r < n → ∀ t : Int, smz (fun j => lo r j + hi r j * t) n = 0 := fun r hr t => by
    rw [hlo, hhi, hn]
    exact m_col d.2.2.2 (fun q hq => by have := (arcQ_ok hE hq).2; omega) (by omega) t
  rw [← hlo, ← hhi, ← hn] at hrel ⊢
  rw [← hn] at hr hc
  refine ⟨κ (n - 1), κ r, s (n - 1) * s r * eps (n - 1 - r) * eps (n - 1 - c), ?_, ?_⟩
  · have e1 : ∀ k, eps k = 1 ∨ eps k = -1 := fun k => by unfold eps; split <;> simp
    rcases hs (n - 1) with a | a <;> rcases hs r with b | b <;> rcases e1 (n - 1 - r) with e | e <;> rcases e1 (n - 1 - c) with f | f <;> rw [a, b, e, f] <;> decide
  · refine ev_unit (N := n) (fun k hk => PM_deg _ _ _ _ _ _ _ (by omega)) (fun k hk => PM_deg _ _ _ _ _ _ _ (by omega)) (fun t ht => ?_)
    rw [PM_ev n lo hi (skip r) t (n - 1) n (butC c) (by omega), PM_ev n lo hi (skip (n - 1)) t (n - 1) n (butC (n - 1)) (by omega)]
    have rl := rows_lst r n
    rw [if_pos hr] at rl
    have rl1 := rows_lst (n - 1) n
    rw [if_pos (by omega)] at rl1
    have ra := row_all (K := n) (n := n) (a := fun r j => lo r j + hi r j * t) (u := fun c => s c * t ^ κ c) (fun c _ => by
      have : t ^ κ c ≠ 0 := by have := Int.pow_pos (m := κ c) ht; omega
      have h2 : s c ≠ 0 := by rcases hs c with e | e <;> rw [e] <;> decide
      show s c * t ^ κ c ≠ 0
      intro e
      rcases Int.mul_eq_zero.1 e with e | e
      · exact h2 e
      · exact this e) (fun j _ => hrel t j) (W0 n) (butC c) (n - 1 - r) r (by omega)
    have ca := col_all (K := n) (T := wap n (fun r j => lo r j + hi r j * t) (rowsB (n - 1) n) (W0 n)) (io_wap _ _ (fun r hr => hcol r ((rowsB_mem _ _ _).1 hr).1 t) (io_W0 n)) (n - 1 - c) c (by omega)
    rw [ca] at ra
    rw [← rl, ← rl1]
    have s1 : s (n - 1) * s (n - 1) = 1 := by rcases hs (n - 1) with e | e <;> rw [e] <;> rfl
    have ra : (s (n - 1) * t ^ κ (n - 1)) * wap n (fun r j => lo r j + hi r j * t) (rowsB r n) (W0 n) (butC c) = eps (n - 1 - r) * ((s r * t ^ κ r) * (eps (n - 1 - c) * wap n (fun r j => lo r j + hi r j * t) (rowsB (n - 1) n) (W0 n) (butC (n - 1)))) := ra
    grind
/-- minors with all rows are 0 -/
theorem min_zero {d : Dg} (hE : EdgA d.1 d.2.2.2 d.2.2.1 nm fr to at_) (hJ : Jd d) (hn : 0 < d.1) (K : Nat) (S : Nat → Bool) (k : Nat) : PM K (mLo d.2.2.2 (arcQ d.1 fr to at_)) (mHi d.2.2.2 (arcQ d.1 fr to at_)) (skip d.1) d.1 S k = 0 := by
  obtain ⟨κ, s, hs, hrel⟩ := mat_rel hE hJ
  by_cases c : k < d.1 + 1
  · refine ev_van (d.1 + 1) _ (fun t ht => ?_) k c
    rw [PM_ev _ _ _ _ t d.1 (d.1 + 1) S (by omega)]
    have rl := rows_lst d.1 d.1
    rw [if_neg (by omega)] at rl
    rw [← rl]
    exact rows_full (K := K) (u := fun c => s c * t ^ κ c) hn (fun c _ => by
      have : t ^ κ c ≠ 0 := by have := Int.pow_pos (m := κ c) ht; omega
      have h2 : s c ≠ 0 := by rcases hs c with e | e <;> rw [e] <;> decide
      show s c * t ^ κ c ≠ 0
      intro e
      rcases Int.mul_eq_zero.1 e with e | e
      · exact h2 e
      · exact this e) (fun j _ => hrel t j) (W0 K) S
  · exact PM_deg _ _ _ _ _ _ _ (by omega)
end
