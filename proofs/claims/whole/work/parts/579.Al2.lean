/-- a column less -/
def io (K : Nat) (W : (Nat → Bool) → Int) : (Nat → Bool) → Int := fun S => smz (fun j => if S j = true then 0 else eps (gK K S j) * W (adS S j)) K
theorem gA_lt {K : Nat} {S : Nat → Bool} {i j : Nat} (hj : j < K) (hS : S j = false) (h : i < j) : gK K (adS S j) i = gK K S i + 1 := by
  have e : gK K (rmS (adS S j) j) i = gK K S i := by
    unfold gK
    apply cnt_congr
    intro q _
    show (((S q || q == j) && (q != j)) && decide (i < q)) = (S q && decide (i < q))
    by_cases c : q = j
    · subst c; simp [hS]
    · rw [show (q != j) = true by simp [c], show (q == j) = false by simp [c]]; simp
  rw [gK_lt hj (by unfold adS; simp) h, e]
theorem gA_ge {K : Nat} {S : Nat → Bool} {i j : Nat} (h : j ≤ i) : gK K (adS S j) i = gK K S i := by
  unfold gK
  apply cnt_congr
  intro q _
  show ((S q || q == j) && decide (i < q)) = (S q && decide (i < q))
  by_cases c : q = j
  · subst c; rw [show decide (i < q) = false by simp; omega]; simp
  · rw [show (q == j) = false by simp [c]]; simp
theorem ad_rm {S : Nat → Bool} {i j : Nat} (hne : i ≠ j) : rmS (adS S j) i = adS (rmS S i) j := by
  funext k
  show ((S k || k == j) && k != i) = ((S k && k != i) || k == j)
  by_cases c : k = j
  · subst c; rw [show (k != i) = true by simp; exact fun e => hne e.symm]; simp
  · rw [show (k == j) = false by simp [c]]; simp
theorem rm_ad {S : Nat → Bool} {j : Nat} (h : S j = false) : rmS (adS S j) j = S := by
  funext k
  show ((S k || k == j) && k != j) = S k
  by_cases c : k = j
  · subst c; simp [h]
  · rw [show (k == j) = false by simp [c], show (k != j) = true by simp [c]]; simp
theorem ad_rm' {S : Nat → Bool} {j : Nat} (h : S j = true) : adS (rmS S j) j = S := by
  funext k
  show ((S k && k != j) || k == j) = S k
  by_cases c : k = j
  · subst c; simp [h]
  · rw [show (k == j) = false by simp [c], show (k != j) = true by simp [c]]; simp
theorem sg_mix {K : Nat} {S : Nat → Bool} {i j : Nat} (hi : i < K) (hj : j < K) (si : S i = true) (sj : S j = false) : eps (gK K S j) * eps (gK K (adS S j) i) = -(eps (gK K S i) * eps (gK K (rmS S i) j)) := by
  have hne : i ≠ j := fun e => by rw [e, sj] at si; cases si
  rcases Nat.lt_or_gt_of_ne hne with h | h
  · rw [gA_lt hj sj h, gK_ge (show i ≤ j by omega), eps_s]; grind
  · rw [gA_ge (show j ≤ i by omega), gK_lt hi si h, eps_s]; grind
theorem io_wg (K : Nat) (a : Nat → Int) (W : (Nat → Bool) → Int) (S : Nat → Bool) : io K (wg K a W) S = smz a K * W S - wg K a (io K W) S := by
  obtain ⟨F, hF⟩ : ∃ F : Nat → Nat → Int, F = fun j i => if S j = true then 0 else if i = j then a j * W S else if S i = true then -(eps (gK K S i) * (a i * (eps (gK K (rmS S i) j) * W (adS (rmS S i) j)))) else 0 := ⟨_, rfl⟩
  have hF' : ∀ j i, F j i = if S j = true then 0 else if i = j then a j * W S else if S i = true then -(eps (gK K S i) * (a i * (eps (gK K (rmS S i) j) * W (adS (rmS S i) j)))) else 0 := fun j i => by rw [hF]
  obtain ⟨H, hH⟩ : ∃ H : Nat → Nat → Int, H = fun i j => if S i = true then (if i = j then a i * W S else if S j = true then 0 else eps (gK K S i) * (a i * (eps (gK K (rmS S i) j) * W (adS (rmS S i) j)))) else 0 := ⟨_, rfl⟩
  have hH' : ∀ i j, H i j = if S i = true then (if i = j then a i * W S else if S j = true then 0 else eps (gK K S i) * (a i * (eps (gK K (rmS S i) j) * W (adS (rmS S i) j)))) else 0 := fun j i => by rw [hH]
  have e1 : io K (wg K a W) S = smz (fun j => smz (fun i => F j i) K) K := by
    apply sm_congr
    intro j hj
    show (if S j = true then 0 else eps (gK K S j) * smz (fun i => if adS S j i = true then eps (gK K (adS S j) i) * (a i * W (rmS (adS S j) i)) else 0) K) = _
    by_cases c : S j = true
    · rw [if_pos c]
      exact (sm_zero (fun i hi => by show F j i = 0; rw [hF', if_pos c])).symm
    · rw [if_neg c, ← sm_mul]
      have c' : S j = false := by simpa using c
      apply sm_congr
      intro i hi
      show eps (gK K S j) * (if adS S j i = true then eps (gK K (adS S j) i) * (a i * W (rmS (adS S j) i)) else 0) = F j i
      rw [hF', if_neg c]
      by_cases k : i = j
      · subst k
        rw [if_pos (by unfold adS; simp), if_pos rfl, rm_ad c', gA_ge (Nat.le_refl _)]
        have := eps_sq (gK K S i)
        grind
      · rw [if_neg k]
        by_cases l : S i = true
        · rw [if_pos (by unfold adS; simp [l]), if_pos l, ad_rm k]
          have := sg_mix hi hj l c'
          grind
        · rw [if_neg (by unfold adS; simp [l, k]), if_neg l, Int.mul_zero]
  have e2 : wg K a (io K W) S = smz (fun i => smz (fun j => H i j) K) K := by
    apply sm_congr
    intro i hi
    show (if S i = true then eps (gK K S i) * (a i * smz (fun j => if rmS S i j = true then 0 else eps (gK K (rmS S i) j) * W (adS (rmS S i) j)) K) else 0) = _
    by_cases c : S i = true
    · rw [if_pos c, ← sm_mul, ← sm_mul]
      apply sm_congr
      intro j hj
      show eps (gK K S i) * (a i * (if rmS S i j = true then 0 else eps (gK K (rmS S i) j) * W (adS (rmS S i) j))) = H i j
      rw [hH', if_pos c]
      by_cases k : i = j
      · subst k
        rw [if_neg (by unfold rmS; simp), if_pos rfl, ad_rm' c, gK_ge (Nat.le_refl _)]
        have := eps_sq (gK K S i)
        grind
      · rw [if_neg k]
        by_cases l : S j = true
        · rw [if_pos (by unfold rmS; simp [l]; exact fun e => k e.symm), if_pos l, Int.mul_zero, Int.mul_zero]
        · rw [if_neg (by unfold rmS; simp [l]), if_neg l]
    · rw [if_neg c]
      exact (sm_zero (fun j hj => by show H i j = 0; rw [hH', if_neg c])).symm
  have e3 : smz a K * W S = smz (fun j => smz (fun i => if i = j then a j * W S else 0) K) K := by
    rw [Int.mul_comm, ← sm_mul]
    apply sm_congr
    intro j hj
    show W S * a j = _
    rw [sm_one (x := j) hj (fun y _ hy => if_neg hy), if_pos rfl, Int.mul_comm]
  rw [e1, e2, e3, sm_swap (fun i j => H i j), ← sm_sub]
  apply sm_congr
  intro j hj
  show _ = smz _ K - smz _ K
  rw [← sm_sub]
  apply sm_congr
  intro i hi
  show F j i = (if i = j then a j * W S else 0) - H i j
  rw [hF', hH']
  by_cases c : S j = true
  · rw [if_pos c]
    by_cases k : i = j
    · subst k; rw [if_pos rfl, if_pos c, if_pos rfl]; omega
    · rw [if_neg k, if_neg k]
      by_cases l : S i = true
      · rw [if_pos l, if_pos c]; rfl
      · rw [if_neg l]; rfl
  · rw [if_neg c]
    by_cases k : i = j
    · subst k; rw [if_pos rfl, if_pos rfl, if_neg c]; omega
    · rw [if_neg k, if_neg k, if_neg k]
      by_cases l : S i = true
      · rw [if_pos l, if_pos l, if_neg c]; omega
      · rw [if_neg l, if_neg l]; rfl
theorem io_congr {K : Nat} {V W : (Nat → Bool) → Int} (h : ∀ S, V S = W S) (S : Nat → Bool) : io K V S = io K W S := by
  apply sm_congr
  intro j _
  show (if S j = true then 0 else eps (gK K S j) * V (adS S j)) = (if S j = true then 0 else eps (gK K S j) * W (adS S j))
  rw [h]
theorem io_W0 (K : Nat) (S : Nat → Bool) : io K (W0 K) S = 0 := sm_zero (fun j hj => by
  show (if S j = true then 0 else eps (gK K S j) * W0 K (adS S j)) = 0
  have : W0 K (adS S j) = 0 := by
    unfold W0
    rw [if_neg]
    intro e
    have := cnt_pos (p := adS S j) hj (by unfold adS; simp)
    omega
  rw [this, Int.mul_zero]; split <;> rfl)
theorem io_wap {K : Nat} {a : Nat → Nat → Int} : ∀ (x : List Nat) (W : (Nat → Bool) → Int), (∀ r, r ∈ x → smz (a r) K = 0) → (∀ S, io K W S = 0) → ∀ S, io K (wap K a x W) S = 0 := by
  intro x
  induction x with
  | nil => intro W _ h S; exact h S
  | cons r x ih =>
    intro W h1 h2 S
    refine ih _ (fun r hr => h1 r (List.mem_cons_of_mem _ hr)) (fun S => ?_) S
    rw [io_wg, h1 r List.mem_cons_self, wg_congr (fun _ _ => rfl) h2 S, wg_zero]; omega
/-- all columns but one -/
def butC (c : Nat) : Nat → Bool := fun i => i != c
theorem but_ad {c d : Nat} (h : c ≠ d) : adS (rmS (butC c) d) d = butC c := by
  apply ad_rm'
  unfold butC; simp; exact fun e => h e.symm
theorem col_rel {K : Nat} {T : (Nat → Bool) → Int} (h : ∀ S, io K T S = 0) {c : Nat} (hc : c + 1 < K) : T (butC (c + 1)) = - T (butC c) := by
  have z := h (rmS (butC c) (c + 1))
  have hcm : rmS (butC c) (c + 1) = rmS (butC (c + 1)) c := by
    funext k; show (k != c && k != (c + 1)) = (k != (c + 1) && k != c); exact Bool.and_comm _ _
  have sc : rmS (butC c) (c + 1) c = false := by unfold rmS butC; simp
  have sc1 : rmS (butC c) (c + 1) (c + 1) = false := by unfold rmS butC; simp
  have g : gK K (rmS (butC c) (c + 1)) (c + 1) = gK K (rmS (butC c) (c + 1)) c := by
    unfold gK
    apply cnt_congr
    intro q _
    show ((q != c && q != (c + 1)) && decide (c + 1 < q)) = ((q != c && q != (c + 1)) && decide (c < q))
    by_cases e1 : q = c + 1
    · subst e1; simp
    · have : (c + 1 < q) = (c < q) := propext (by omega)
      simp only [this]
  have z2 : io K T (rmS (butC c) (c + 1)) = eps (gK K (rmS (butC c) (c + 1)) c) * T (butC (c + 1)) + eps (gK K (rmS (butC c) (c + 1)) (c + 1)) * T (butC c) := by
    obtain ⟨F, hF⟩ : ∃ F : Nat → Int, F = fun j => if rmS (butC c) (c + 1) j = true then 0 else eps (gK K (rmS (butC c) (c + 1)) j) * T (adS (rmS (butC c) (c + 1)) j) := ⟨_, rfl⟩
    have e : smz F K = smz (fun j => (if j = c then F c else 0) + (if j = c + 1 then F (c + 1) else 0)) K := by
      apply sm_congr
      intro j hj
      by_cases k : j = c
      · rw [if_pos k, if_neg (by omega), k]; omega
      · by_cases k2 : j = c + 1
        · rw [if_neg k, if_pos k2, k2]; omega
        · rw [if_neg k, if_neg k2, hF]
          show (if rmS (butC c) (c + 1) j = true then _ else _) = _
          rw [if_pos (by unfold rmS butC; simp [k, k2])]; rfl
    have hc0 : F c = eps (gK K (rmS (butC c) (c + 1)) c) * T (butC (c + 1)) := by
      rw [hF]; show (if rmS (butC c) (c + 1) c = true then _ else _) = _
      rw [if_neg (by rw [sc]; decide), hcm, but_ad (by omega)]
    have hc1 : F (c + 1) = eps (gK K (rmS (butC c) (c + 1)) (c + 1)) * T (butC c) := by
      rw [hF]; show (if rmS (butC c) (c + 1) (c + 1) = true then _ else _) = _
      rw [if_neg (by rw [sc1]; decide), but_ad (by omega)]
    rw [← hc0, ← hc1]
    have : io K T (rmS (butC c) (c + 1)) = smz F K := by rw [hF]; rfl
    rw [this, e, sm_add, sm_one (x := c) (by omega) (fun y _ hy => if_neg hy), sm_one (x := c + 1) hc (fun y _ hy => if_neg hy), if_pos rfl, if_pos rfl]
  rw [z, g] at z2
  have := eps_sq (gK K (rmS (butC c) (c + 1)) c)
  grind
theorem col_all {K : Nat} {T : (Nat → Bool) → Int} (h : ∀ S, io K T S = 0) : ∀ d c, c + d + 1 = K → T (butC c) = eps d * T (butC (K - 1)) := by
  intro d
  induction d with
  | zero => intro c e; rw [show c = K - 1 by omega]; show _ = 1 * _; omega
  | succ d ih =>
    intro c e
    have x := ih (c + 1) (by omega)
    have y := col_rel h (c := c) (by omega)
    rw [eps_s]; grind
/-- rows 0 to n - 1 but r -/
def rowsB (r : Nat) : Nat → List Nat
  | 0 => []
  | k + 1 => if k = r then rowsB r k else rowsB r k ++ [k]
theorem rowsB_mem (r c : Nat) : ∀ n, c ∈ rowsB r n ↔ c < n ∧ c ≠ r := by
  intro n
  induction n with
  | zero => constructor
            · intro h; cases h
            · intro h; omega
  | succ n ih =>
    unfold rowsB
    by_cases e : n = r
    · rw [if_pos e, ih]; omega
    · rw [if_neg e, List.mem_append, ih, List.mem_singleton]; omega
theorem rowsB_hi {r : Nat} : ∀ k, k ≤ r → rowsB r k = rowsB k k := by
  intro k
  induction k with
  | zero => intro _; rfl
  | succ k ih =>
    intro h
    have a : rowsB r (k + 1) = rowsB r k ++ [k] := if_neg (by omega)
    have b : ∀ j, j ≤ k → rowsB (k + 1) j = rowsB r j := by
      intro j
      induction j with
      | zero => intro _; rfl
      | succ j ihj => intro hj; rw [show rowsB (k + 1) (j + 1) = rowsB (k + 1) j ++ [j] from if_neg (by omega), show rowsB r (j + 1) = rowsB r j ++ [j] from if_neg (by omega), ihj (by omega)]
    rw [a, show rowsB (k + 1) (k + 1) = rowsB (k + 1) k ++ [k] from if_neg (by omega), b k (Nat.le_refl _)]
/-- two rows next to each other -/
theorem rowsB_split {r n : Nat} (h : r + 1 < n) : ∃ x y : List Nat, rowsB r n = x ++ (r + 1) :: y ∧ rowsB (r + 1) n = x ++ r :: y ∧ (∀ c, c < n → c ≠ r → c ≠ r + 1 → c ∈ x ∨ c ∈ y) := by
  have key : ∀ d, ∃ y : List Nat, rowsB r (r + 2 + d) = rowsB r r ++ (r + 1) :: y ∧ rowsB (r + 1) (r + 2 + d) = rowsB r r ++ r :: y := by
    intro d
    induction d with
    | zero =>
      refine ⟨[], ?_, ?_⟩
      · show rowsB r (r + 1 + 1) = _
        rw [show rowsB r (r + 1 + 1) = rowsB r (r + 1) ++ [r + 1] from if_neg (by omega), show rowsB r (r + 1) = rowsB r r from if_pos rfl]
      · show rowsB (r + 1) (r + 1 + 1) = _
        rw [show rowsB (r + 1) (r + 1 + 1) = rowsB (r + 1) (r + 1) from if_pos rfl, show rowsB (r + 1) (r + 1) = rowsB (r + 1) r ++ [r] from if_neg (by omega), rowsB_hi (r := r + 1) r (by omega)]
    | succ d ih =>
      obtain ⟨y, h1, h2⟩ := ih
      refine ⟨y ++ [r + 2 + d], ?_, ?_⟩
      · rw [show rowsB r (r + 2 + (d + 1)) = rowsB r (r + 2 + d) ++ [r + 2 + d] from if_neg (show ¬ (r + 2 + d = r) by omega), h1]; simp
      · rw [show rowsB (r + 1) (r + 2 + (d + 1)) = rowsB (r + 1) (r + 2 + d) ++ [r + 2 + d] from if_neg (show ¬ (r + 2 + d = r + 1) by omega), h2]; simp
  obtain ⟨y, h1, h2⟩ := key (n - r - 2)
  rw [show r + 2 + (n - r - 2) = n by omega] at h1 h2
  refine ⟨rowsB r r, y, h1, h2, fun c hc n1 n2 => ?_⟩
  have := (rowsB_mem r c n).2 ⟨hc, n1⟩
  rw [h1, List.mem_append, List.mem_cons] at this
  rcases this with e | e | e
  · exact Or.inl e
  · exact absurd e n2
  · exact Or.inr e
theorem row_rel {K n : Nat} {a : Nat → Nat → Int} {u : Nat → Int} (h : ∀ j, j < K → smz (fun c => u c * a c j) n = 0) {r : Nat} (hr : r + 1 < n) (W : (Nat → Bool) → Int) (S : Nat → Bool) : u r * wap K a (rowsB (r + 1) n) W S = -(u (r + 1) * wap K a (rowsB r n) W S) := by
  obtain ⟨x, y, h1, h2, h3⟩ := rowsB_split hr
  have z := wap_rel h x y W S
  have e : smz (fun c => u c * wap K a (x ++ c :: y) W S) n = smz (fun c => (if c = r then u r * wap K a (rowsB (r + 1) n) W S else 0) + (if c = r + 1 then u (r + 1) * wap K a (rowsB r n) W S else 0)) n := by
    apply sm_congr
    intro c hc
    by_cases k : c = r
    · rw [if_pos k, if_neg (by omega), k, h2]; omega
    · by_cases k2 : c = r + 1
      · rw [if_neg k, if_pos k2, k2, h1]; omega
      · rw [if_neg k, if_neg k2, wap_twice K a c x y (h3 c hc k k2)]; omega
  rw [e, sm_add, sm_one (x := r) (by omega) (fun y _ hy => if_neg hy), sm_one (x := r + 1) hr (fun y _ hy => if_neg hy), if_pos rfl, if_pos rfl] at z
  omega
theorem row_all {K n : Nat} {a : Nat → Nat → Int} {u : Nat → Int} (hu : ∀ c, c < n → u c ≠ 0) (h : ∀ j, j < K → smz (fun c => u c * a c j) n = 0) (W : (Nat → Bool) → Int) (S : Nat → Bool) : ∀ d r, r + d + 1 = n → u (n - 1) * wap K a (rowsB r n) W S = eps d * (u r * wap K a (rowsB (n - 1) n) W S) := by
  intro d
  induction d with
  | zero => intro r e; rw [show r = n - 1 by omega]; show _ = 1 * _; omega
  | succ d ih =>
    intro r e
    have x := ih (r + 1) (by omega)
    have y := row_rel h (r := r) (by omega) W S
    have q := hu (r + 1) (by omega)
    rw [eps_s]
    apply Int.eq_of_mul_eq_mul_left q
    grind
/-- all rows -/
theorem rows_full {K n : Nat} {a : Nat → Nat → Int} {u : Nat → Int} (hn : 0 < n) (hu : ∀ c, c < n → u c ≠ 0) (h : ∀ j, j < K → smz (fun c => u c * a c j) n = 0) (W : (Nat → Bool) → Int) (S : Nat → Bool) : wap K a (rowsB n n) W S = 0 := by
  have z := wap_rel h (rowsB (n - 1) (n - 1)) [] W S
  rw [sm_one (x := n - 1) (by omega) (fun c hc hne => by
    show u c * _ = 0
    rw [wap_twice K a c _ _ (Or.inl ((rowsB_mem _ _ _).2 ⟨by omega, by omega⟩)), Int.mul_zero])] at z
  have e : rowsB n n = rowsB (n - 1) (n - 1) ++ [n - 1] := by
    obtain ⟨m, rfl⟩ : ∃ m, n = m + 1 := ⟨n - 1, by omega⟩
    rw [show rowsB (m + 1) (m + 1) = rowsB (m + 1) m ++ [m] from if_neg (by omega), rowsB_hi (r := m + 1) m (by omega)]; rfl
  rw [e]
  rcases Int.mul_eq_zero.1 z with q | q
  · exact absurd q (hu _ (by omega))
  · exact q
