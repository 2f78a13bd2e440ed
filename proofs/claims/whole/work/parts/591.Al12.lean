theorem dg3 (fl : Nat) (p : Nat → Int) : ∀ (i nn : Nat), i ≤ 16 → i < nn → (∀ k, i ≤ k → k < 16 → p k = 0) → (LB_Md_degree_3 fl p nn ((i : Int) - 1) = some (-1) ∧ ∀ k, k < 16 → p k = 0) ∨ ∃ n : Nat, n < 16 ∧ LB_Md_degree_3 fl p nn ((i : Int) - 1) = some (n : Int) ∧ p n ≠ 0 ∧ ∀ k, n < k → k < 16 → p k = 0 := by
  intro i
  induction i with
  | zero =>
    intro nn hi hnn hz
    obtain ⟨nn, rfl⟩ : ∃ r, nn = r + 1 := ⟨nn - 1, by omega⟩
    left
    rw [LB_Md_degree_3, if_pos (by omega)]
    exact ⟨rfl, fun k hk => hz k (by omega) hk⟩
  | succ i ih =>
    intro nn hi hnn hz
    obtain ⟨nn, rfl⟩ : ∃ r, nn = r + 1 := ⟨nn - 1, by omega⟩
    have e : (((i + 1 : Nat) : Int) - 1) = (i : Int) := by omega
    rw [e, LB_Md_degree_3, if_neg (by omega), if_pos (by omega), Int.toNat_natCast]
    by_cases c : p i = 0
    · rw [if_neg (by omega), if_pos (by omega), show ((i : Int) + -1) = (i : Int) - 1 by omega]
      exact ih nn (by omega) (by omega) (fun k h1 h2 => by
        by_cases e : k = i
        · rw [e]; exact c
        · exact hz k (by omega) h2)
    · right
      rw [if_pos c]
      exact ⟨i, by omega, rfl, c, fun k h1 h2 => hz k (by omega) h2⟩
theorem M_degree (fl : Nat) (hfl : 100 ≤ fl) (p : Nat → Int) : (LM_Md_degree fl p = some (-1) ∧ ∀ k, k < 16 → p k = 0) ∨ ∃ n : Nat, n < 16 ∧ LM_Md_degree fl p = some (n : Int) ∧ p n ≠ 0 ∧ ∀ k, n < k → k < 16 → p k = 0 := dg3 fl p 16 fl (by omega) (by omega) (fun k h1 h2 => by omega)
theorem lw18 (fl : Nat) (kb : (Nat → Int) → Option (Nat → Int)) (p : Nat → Int) : ∀ (r nn i : Nat) (q : Nat → Int), i + r = 15 → r < nn → (∀ k, k < 16 → q k = if k < i then p (k + 1) else p k) → ∃ q', LB_Md_lower_18 fl kb nn (i : Int) q = kb q' ∧ ∀ k, k < 16 → q' k = if k < 15 then p (k + 1) else 0 := by
  intro r
  induction r with
  | zero =>
    intro nn i q hr hnn h
    obtain ⟨nn, rfl⟩ : ∃ r, nn = r + 1 := ⟨nn - 1, by omega⟩
    rw [LB_Md_lower_18, if_pos (by omega), if_pos (by decide)]
    refine ⟨_, rfl, fun k hk => ?_⟩
    by_cases c : k = 15
    · rw [c, if_neg (by omega)]; exact up_eq _ _ _
    · rw [up_ne _ _ (show k ≠ Int.toNat 15 from c), h k hk, if_pos (by omega), if_pos (by omega)]
  | succ r ih =>
    intro nn i q hr hnn h
    obtain ⟨nn, rfl⟩ : ∃ r, nn = r + 1 := ⟨nn - 1, by omega⟩
    rw [LB_Md_lower_18, if_neg (by omega), if_pos (by omega), if_pos (by omega), Int.toNat_natCast, show ((i : Int) + 1) = ((i + 1 : Nat) : Int) by omega, Int.toNat_natCast]
    refine ih nn (i + 1) _ (by omega) (by omega) (fun k hk => ?_)
    by_cases c : k = i
    · rw [c, up_eq, h _ (by omega), if_neg (by omega), if_pos (by omega)]
    · rw [up_ne _ _ c, h k hk]
      by_cases e : k < i
      · rw [if_pos e, if_pos (by omega)]
      · rw [if_neg e, if_neg (by omega)]
theorem lw8 (fl : Nat) (hfl : 100 ≤ fl) : ∀ (v nn : Nat) (p : Nat → Int), v < nn → v < 16 → p v ≠ 0 → (∀ k, k < v → p k = 0) → ∃ q, LB_Md_lower_8 fl nn p = some q ∧ ∀ k, k < 16 → q k = if k + v < 16 then p (k + v) else 0 := by
  intro v
  induction v with
  | zero =>
    intro nn p hnn hv h1 h2
    obtain ⟨nn, rfl⟩ : ∃ r, nn = r + 1 := ⟨nn - 1, by omega⟩
    rw [LB_Md_lower_8, if_pos (by decide), if_pos (show ¬ p (Int.toNat 0) = 0 from h1)]
    exact ⟨p, rfl, fun k hk => by rw [if_pos (by omega)]; rfl⟩
  | succ v ih =>
    intro nn p hnn hv h1 h2
    obtain ⟨nn, rfl⟩ : ∃ r, nn = r + 1 := ⟨nn - 1, by omega⟩
    have z : p 0 = 0 := h2 0 (by omega)
    rw [LB_Md_lower_8, if_pos (by decide), if_neg (show ¬ ¬ (p (Int.toNat 0) = 0) from fun w => w z)]
    obtain ⟨q, g1, g2⟩ := lw18 fl (LB_Md_lower_8 fl nn) p 15 fl 0 p (by omega) (by omega) (fun k hk => by rw [if_neg (by omega)])
    have g1 : LB_Md_lower_18 fl (LB_Md_lower_8 fl nn) fl 0 p = _ := g1
    rw [g1]
    obtain ⟨q', k1, k2⟩ := ih nn q (by omega) (by omega) (by rw [g2 v (by omega), if_pos (by omega)]; exact h1) (fun k hk => by rw [g2 k (by omega), if_pos (by omega)]; exact h2 (k + 1) (by omega))
    refine ⟨q', k1, fun k hk => ?_⟩
    rw [k2 k hk]
    by_cases c : k + v < 16
    · rw [if_pos c, g2 _ c]
      by_cases e : k + v < 15
      · rw [if_pos e, if_pos (by omega)]; rfl
      · rw [if_neg e, if_neg (by omega)]
    · rw [if_neg c, if_neg (by omega)]
/-- a polynomial that is a power of t and a sign times B -/
def asB (B : Nat → Int) (p : Nat → Int) (v : Nat) (s : Int) : Prop := (s = 1 ∨ s = -1) ∧ (∀ k, k < 16 → p k = s * shn v B k) ∧ v < 16 ∧ (∀ k, 16 ≤ k + v → B k = 0)
theorem M_lower0 (fl : Nat) (hfl : 100 ≤ fl) {p : Nat → Int} (h : ∀ k, k < 16 → p k = 0) : LM_Md_lower fl p = some p := by
  unfold LM_Md_lower LB_Md_lower_0
  rcases M_degree fl hfl p with ⟨e, _⟩ | ⟨n, n1, e, n2, _⟩
  · rw [e, Option.bind_some, if_neg (by decide)]
  · exact absurd (h n n1) n2
theorem M_lowerB (fl : Nat) (hfl : 100 ≤ fl) {B p : Nat → Int} {v : Nat} {s : Int} (hB : B 0 ≠ 0) (h : asB B p v s) : ∃ q, LM_Md_lower fl p = some q ∧ ∀ k, k < 16 → q k = s * B k := by
  obtain ⟨h1, h2, h3, h4⟩ := h
  have pv : p v ≠ 0 := by
    rw [h2 v h3]
    unfold shn
    rw [if_neg (by omega), Nat.sub_self]
    rcases h1 with e | e <;> rw [e] <;> omega
  unfold LM_Md_lower LB_Md_lower_0
  rcases M_degree fl hfl p with ⟨e, z⟩ | ⟨n, n1, e, n2, _⟩
  · exact absurd (z v h3) pv
  · rw [e, Option.bind_some, if_pos (by omega)]
    obtain ⟨q, g1, g2⟩ := lw8 fl hfl v fl p (by omega) h3 pv (fun k hk => by
      rw [h2 k (by omega)]; unfold shn; rw [if_pos hk, Int.mul_zero])
    refine ⟨q, g1, fun k hk => ?_⟩
    rw [g2 k hk]
    by_cases c : k + v < 16
    · rw [if_pos c, h2 _ c]; unfold shn; rw [if_neg (by omega), Nat.add_sub_cancel]
    · rw [if_neg c, h4 k (by omega), Int.mul_zero]
theorem cm28 (fl : Nat) (a b : Int) : ∀ (y nn x : Nat), y < nn → LB_Md_common_28 fl nn a b (x : Int) (y : Int) = some ((Nat.gcd x y : Nat) : Int) := by
  intro y
  induction y using Nat.strongRecOn with
  | _ y ih =>
    intro nn x hnn
    obtain ⟨nn, rfl⟩ : ∃ r, nn = r + 1 := ⟨nn - 1, by omega⟩
    rw [LB_Md_common_28]
    by_cases c : y = 0
    · subst c; rw [if_pos (by omega), Nat.gcd_zero_right]
    · rw [if_neg (by omega), if_pos (by omega), Int.tmod_eq_emod_of_nonneg (by omega), ← Int.natCast_emod]
      have : x % y < y := Nat.mod_lt _ (by omega)
      rw [ih (x % y) this nn y (by omega), Nat.gcd_comm x y, Nat.gcd_rec y x, Nat.gcd_comm]
theorem M_common (fl : Nat) {a b : Int} (ha : -1000000000000 ≤ a ∧ a ≤ 1000000000000) (hb : -1000000000000 ≤ b ∧ b ≤ 1000000000000) (hfl : b.natAbs < fl) : LM_Md_common fl a b = some ((Nat.gcd a.natAbs b.natAbs : Nat) : Int) := by
  unfold LM_Md_common LB_Md_common_0
  have go : ∀ x : Nat, x = a.natAbs → LB_Md_common_12 fl (x : Int) a b = some ((Nat.gcd a.natAbs b.natAbs : Nat) : Int) := fun x hx => by
    unfold LB_Md_common_12 LB_Md_common_26
    by_cases c : 0 ≤ b
    · rw [if_pos c]
      have e : b = ((b.natAbs : Nat) : Int) := by omega
      have := cm28 fl a b b.natAbs fl x hfl
      rw [← e, hx] at this
      rw [hx]; exact this
    · rw [if_neg c, if_pos (by omega)]
      have e : -b = ((b.natAbs : Nat) : Int) := by omega
      have := cm28 fl a b b.natAbs fl x hfl
      rw [← e, hx] at this
      rw [hx]; exact this
  by_cases c : 0 ≤ a
  · rw [if_pos c]
    have := go a.natAbs rfl
    rw [show ((a.natAbs : Nat) : Int) = a by omega] at this
    exact this
  · rw [if_neg c, if_pos (by omega)]
    have := go a.natAbs rfl
    rw [show ((a.natAbs : Nat) : Int) = -a by omega] at this
    exact this
def cont (p : Nat → Int) : Nat → Nat
  | 0 => 0
  | k + 1 => Nat.gcd (cont p k) (p k).natAbs
theorem cont_s (p : Nat → Int) (k : Nat) : cont p (k + 1) = Nat.gcd (cont p k) (p k).natAbs := rfl
theorem cont_cg {p q : Nat → Int} : ∀ N, (∀ k, k < N → (p k).natAbs = (q k).natAbs) → cont p N = cont q N := by
  intro N
  induction N with
  | zero => intro _; rfl
  | succ N ih => intro h; rw [cont_s, cont_s, ih (fun k hk => h k (by omega)), h N (by omega)]
theorem cont_dvd {p : Nat → Int} : ∀ N k, k < N → cont p N ∣ (p k).natAbs := by
  intro N
  induction N with
  | zero => intro k hk; omega
  | succ N ih =>
    intro k hk
    rw [cont_s]
    by_cases c : k = N
    · rw [c]; exact Nat.gcd_dvd_right _ _
    · exact Nat.dvd_trans (Nat.gcd_dvd_left _ _) (ih k (by omega))
theorem cont_le {p : Nat → Int} {C : Nat} (hp : ∀ k, (p k).natAbs ≤ C) : ∀ N, cont p N ≤ C := by
  intro N
  induction N with
  | zero => exact Nat.zero_le _
  | succ N ih =>
    rw [cont_s]
    by_cases c : (p N).natAbs = 0
    · rw [c, Nat.gcd_zero_right]; exact ih
    · exact Nat.le_trans (Nat.gcd_le_right _ (by omega)) (hp N)
theorem ct4 (fl : Nat) {p : Nat → Int} (hp : ∀ k, (p k).natAbs ≤ 10000000) (hfl : 20000000 ≤ fl) : ∀ (r nn i : Nat), i + r = 16 → r < nn → LB_Md_content_4 fl p nn ((cont p i : Nat) : Int) (i : Int) = some ((cont p 16 : Nat) : Int) := by
  intro r
  induction r with
  | zero =>
    intro nn i hr hnn
    obtain ⟨nn, rfl⟩ : ∃ r, nn = r + 1 := ⟨nn - 1, by omega⟩
    rw [LB_Md_content_4, if_pos (by omega), show i = 16 by omega]
  | succ r ih =>
    intro nn i hr hnn
    obtain ⟨nn, rfl⟩ : ∃ r, nn = r + 1 := ⟨nn - 1, by omega⟩
    have h1 := hp i
    have h2 := cont_le hp i
    rw [LB_Md_content_4, if_neg (by omega), if_pos (by omega), Int.toNat_natCast, M_common fl (by omega) (by omega) (by omega), Option.bind_some, if_pos (by omega), show ((i : Int) + 1) = ((i + 1 : Nat) : Int) by omega, Int.natAbs_natCast, ← cont_s]
    exact ih nn (i + 1) (by omega) (by omega)
theorem M_content (fl : Nat) (hfl : 20000000 ≤ fl) {p B : Nat → Int} (hB : ∀ k, (B k).natAbs ≤ 10000000) (hpB : ∀ k, k < 16 → (p k).natAbs = (B k).natAbs) : LM_Md_content fl p = some ((cont B 16 : Nat) : Int) := by
  unfold LM_Md_content LB_Md_content_0
  -- beyond 16 nothing is looked at
  have key : ∀ (r nn i : Nat), i + r = 16 → r < nn → LB_Md_content_4 fl p nn ((cont B i : Nat) : Int) (i : Int) = some ((cont B 16 : Nat) : Int) := by
    intro r
    induction r with
    | zero =>
      intro nn i hr hnn
      obtain ⟨nn, rfl⟩ : ∃ r, nn = r + 1 := ⟨nn - 1, by omega⟩
      rw [LB_Md_content_4, if_pos (by omega), show i = 16 by omega]
    | succ r ih =>
      intro nn i hr hnn
      obtain ⟨nn, rfl⟩ : ∃ r, nn = r + 1 := ⟨nn - 1, by omega⟩
      have h1 := hB i
      have h3 := hpB i (by omega)
      have h2 := cont_le hB i
      rw [LB_Md_content_4, if_neg (by omega), if_pos (by omega), Int.toNat_natCast, M_common fl (by omega) (by omega) (by omega), Option.bind_some, if_pos (by omega), show ((i : Int) + 1) = ((i + 1 : Nat) : Int) by omega, Int.natAbs_natCast, h3, ← cont_s]
      exact ih nn (i + 1) (by omega) (by omega)
  exact key 16 fl 0 (by omega) (by omega)
theorem dv2 (fl : Nat) {g : Int} (hg : 1 ≤ g) {p : Nat → Int} (hp : ∀ k, k < 16 → -1000000000000 ≤ p k ∧ p k ≤ 1000000000000) : ∀ (r nn i : Nat) (q : Nat → Int), i + r = 16 → r < nn → (∀ k, k < 16 → q k = if k < i then (p k).tdiv g else p k) → ∃ q', LB_Md_divide_2 fl nn g (i : Int) q = some q' ∧ ∀ k, k < 16 → q' k = (p k).tdiv g := by
  intro r
  induction r with
  | zero =>
    intro nn i q hr hnn h
    obtain ⟨nn, rfl⟩ : ∃ r, nn = r + 1 := ⟨nn - 1, by omega⟩
    rw [LB_Md_divide_2, if_pos (by omega)]
    exact ⟨q, rfl, fun k hk => by rw [h k hk, if_pos (by omega)]⟩
  | succ r ih =>
    intro nn i q hr hnn h
    obtain ⟨nn, rfl⟩ : ∃ r, nn = r + 1 := ⟨nn - 1, by omega⟩
    have e : q i = p i := by rw [h i (by omega), if_neg (by omega)]
    have b := hp i (by omega)
    have nb : ((p i).tdiv g).natAbs ≤ (p i).natAbs := by rw [Int.natAbs_tdiv]; exact Nat.div_le_self _ _
    rw [LB_Md_divide_2, if_neg (by omega), if_pos (by omega), if_pos (by omega), Int.toNat_natCast, e, if_pos (by omega), show ((i : Int) + 1) = ((i + 1 : Nat) : Int) by omega]
    refine ih nn (i + 1) _ (by omega) (by omega) (fun k hk => ?_)
    by_cases c : k = i
    · rw [c, up_eq, if_pos (by omega)]
    · rw [up_ne _ _ c, h k hk]
      by_cases d : k < i
      · rw [if_pos d, if_pos (by omega)]
      · rw [if_neg d, if_neg (by omega)]
theorem M_divide (fl : Nat) (hfl : 100 ≤ fl) {g : Int} (hg : 1 ≤ g) {p : Nat → Int} (hp : ∀ k, k < 16 → -1000000000000 ≤ p k ∧ p k ≤ 1000000000000) : ∃ q', LM_Md_divide fl g p = some q' ∧ ∀ k, k < 16 → q' k = (p k).tdiv g :=
  dv2 fl hg hp 16 fl 0 p (by omega) (by omega) (fun k hk => by rw [if_neg (by omega)])
