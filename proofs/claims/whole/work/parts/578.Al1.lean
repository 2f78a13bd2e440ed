/-- signs and exterior products over sets of columns -/
def eps (k : Nat) : Int := if k % 2 = 0 then 1 else -1
theorem eps_s (k : Nat) : eps (k + 1) = - eps k := by
  unfold eps
  by_cases h : k % 2 = 0
  · rw [if_pos h, if_neg (by omega)]
  · rw [if_neg h, if_pos (by omega)]; rfl
theorem eps_sq (k : Nat) : eps k * eps k = 1 := by unfold eps; split <;> rfl
theorem eps_add (j k : Nat) : eps (j + k) = eps j * eps k := by
  induction k with
  | zero => show eps j = eps j * 1; omega
  | succ k ih => rw [show j + (k + 1) = (j + k) + 1 from rfl, eps_s, eps_s, ih]; grind
def gK (K : Nat) (S : Nat → Bool) (j : Nat) : Nat := cntP (fun i => S i && decide (j < i)) K
def rmS (S : Nat → Bool) (j : Nat) : Nat → Bool := fun i => S i && i != j
def adS (S : Nat → Bool) (j : Nat) : Nat → Bool := fun i => S i || i == j
theorem rm_comm (S : Nat → Bool) (i j : Nat) : rmS (rmS S i) j = rmS (rmS S j) i := by
  funext k; unfold rmS; cases S k <;> cases (k != i) <;> cases (k != j) <;> rfl
theorem rm_at {S : Nat → Bool} {i j : Nat} : rmS S j i = (S i && i != j) := rfl
theorem gK_lt {K : Nat} {S : Nat → Bool} {i j : Nat} (hj : j < K) (hS : S j = true) (h : i < j) : gK K S i = gK K (rmS S j) i + 1 := by
  unfold gK
  rw [cnt_rm (x := j) (by simp [hS, h]) hj]
  congr 1
  apply cnt_congr
  intro q _
  unfold rmS
  cases S q <;> cases (q != j) <;> simp
theorem gK_ge {K : Nat} {S : Nat → Bool} {i j : Nat} (h : j ≤ i) : gK K (rmS S j) i = gK K S i := by
  unfold gK
  apply cnt_congr
  intro q _
  show ((S q && (q != j)) && decide (i < q)) = (S q && decide (i < q))
  by_cases c : q = j
  · subst c; simp; intro; omega
  · rw [show (q != j) = true by simp [c]]; simp
/-- the exterior product with a row behind -/
def wg (K : Nat) (a : Nat → Int) (W : (Nat → Bool) → Int) : (Nat → Bool) → Int := fun S => smz (fun j => if S j = true then eps (gK K S j) * (a j * W (rmS S j)) else 0) K
theorem sg_anti {K : Nat} {S : Nat → Bool} {i j : Nat} (hi : i < K) (hj : j < K) (si : S i = true) (sj : S j = true) (hne : i ≠ j) : eps (gK K S j) * eps (gK K (rmS S j) i) = -(eps (gK K S i) * eps (gK K (rmS S i) j)) := by
  rcases Nat.lt_or_gt_of_ne hne with h | h
  · rw [gK_lt hj sj h, gK_ge (show i ≤ j by omega), eps_s]; grind
  · rw [gK_lt hi si h, gK_ge (show j ≤ i by omega), eps_s]; grind
theorem wg_anti (K : Nat) (a b : Nat → Int) (W : (Nat → Bool) → Int) (S : Nat → Bool) : wg K a (wg K b W) S = - wg K b (wg K a W) S := by
  obtain ⟨G, hG⟩ : ∃ G : (Nat → Int) → (Nat → Int) → Nat → Nat → Int, G = fun a b j i => if S j = true ∧ S i = true ∧ i ≠ j then eps (gK K S j) * (a j * (eps (gK K (rmS S j) i) * (b i * W (rmS (rmS S j) i)))) else 0 := ⟨_, rfl⟩
  have hG' : ∀ (a b : Nat → Int) (j i : Nat), G a b j i = if S j = true ∧ S i = true ∧ i ≠ j then eps (gK K S j) * (a j * (eps (gK K (rmS S j) i) * (b i * W (rmS (rmS S j) i)))) else 0 := fun a b j i => by rw [hG]
  have e : ∀ a b : Nat → Int, wg K a (wg K b W) S = smz (fun j => smz (fun i => G a b j i) K) K := fun a b => by
    show smz _ K = _
    apply sm_congr
    intro j hj
    show (if S j = true then eps (gK K S j) * (a j * smz (fun i => if rmS S j i = true then eps (gK K (rmS S j) i) * (b i * W (rmS (rmS S j) i)) else 0) K) else 0) = _
    by_cases c : S j = true
    · rw [if_pos c, ← sm_mul, ← sm_mul]
      apply sm_congr
      intro i hi
      show eps (gK K S j) * (a j * (if rmS S j i = true then eps (gK K (rmS S j) i) * (b i * W (rmS (rmS S j) i)) else 0)) = G a b j i
      rw [hG']
      by_cases k : S i = true ∧ i ≠ j
      · rw [if_pos (by unfold rmS; simp [k.1, k.2]), if_pos ⟨c, k⟩]
      · rw [if_neg (by unfold rmS; simp; intro h1; exact Classical.byContradiction fun h2 => k ⟨h1, h2⟩), if_neg (fun w => k w.2)]; omega
    · rw [if_neg c]
      exact (sm_zero (fun i hi => by show G a b j i = 0; rw [hG']; exact if_neg (fun w => c w.1))).symm
  rw [e a b, e b a, sm_swap, show -(smz (fun j => smz (fun i => G b a j i) K) K) = (-1) * smz (fun j => smz (fun i => G b a j i) K) K by omega, ← sm_mul]
  apply sm_congr
  intro i hi
  rw [← sm_mul]
  apply sm_congr
  intro j hj
  show G a b j i = -1 * G b a i j
  rw [hG', hG']
  by_cases c : S j = true ∧ S i = true ∧ i ≠ j
  · rw [if_pos c, if_pos ⟨c.2.1, c.1, fun w => c.2.2 w.symm⟩, rm_comm S i j]
    have := sg_anti hi hj c.2.1 c.1 c.2.2
    grind
  · rw [if_neg c, if_neg (fun w => c ⟨w.2.1, w.1, fun x => w.2.2 x.symm⟩)]; rfl
theorem wg_sq (K : Nat) (a : Nat → Int) (W : (Nat → Bool) → Int) (S : Nat → Bool) : wg K a (wg K a W) S = 0 := by
  have := wg_anti K a a W S; omega
theorem wg_congr {K : Nat} {a b : Nat → Int} {V W : (Nat → Bool) → Int} (h : ∀ j, j < K → a j = b j) (hW : ∀ S, V S = W S) (S : Nat → Bool) : wg K a V S = wg K b W S := by
  apply sm_congr
  intro j hj
  show (if S j = true then eps (gK K S j) * (a j * V (rmS S j)) else 0) = (if S j = true then eps (gK K S j) * (b j * W (rmS S j)) else 0)
  rw [h j hj, hW]
theorem wg_zero (K : Nat) (a : Nat → Int) (S : Nat → Bool) : wg K a (fun _ => 0) S = 0 := sm_zero (fun j _ => by
  show (if S j = true then eps (gK K S j) * (a j * (0 : Int)) else 0) = 0
  rw [Int.mul_zero, Int.mul_zero]; split <;> rfl)
theorem wg_row0 {K : Nat} {a : Nat → Int} (h : ∀ j, j < K → a j = 0) (W : (Nat → Bool) → Int) (S : Nat → Bool) : wg K a W S = 0 := sm_zero (fun j hj => by
  show (if S j = true then eps (gK K S j) * (a j * W (rmS S j)) else 0) = 0
  rw [h j hj, Int.zero_mul, Int.mul_zero]; split <;> rfl)
/-- linear in the product before -/
theorem wg_sum (K n : Nat) (a : Nat → Int) (u : Nat → Int) (W : Nat → (Nat → Bool) → Int) (S : Nat → Bool) : wg K a (fun S => smz (fun c => u c * W c S) n) S = smz (fun c => u c * wg K a (W c) S) n := by
  have e : ∀ c, u c * wg K a (W c) S = smz (fun j => u c * (if S j = true then eps (gK K S j) * (a j * W c (rmS S j)) else 0)) K := fun c => (sm_mul _ _ _).symm
  rw [sm_congr (fun c _ => e c), sm_swap]
  apply sm_congr
  intro j hj
  show (if S j = true then eps (gK K S j) * (a j * smz (fun c => u c * W c (rmS S j)) n) else 0) = _
  by_cases c : S j = true
  · simp only [if_pos c]
    rw [← sm_mul, ← sm_mul]
    apply sm_congr
    intro x _
    grind
  · simp only [if_neg c]
    exact (sm_zero (fun x _ => Int.mul_zero _)).symm
/-- linear in the row -/
theorem wg_rows (K n : Nat) (a : Nat → Nat → Int) (u : Nat → Int) (W : (Nat → Bool) → Int) (S : Nat → Bool) : wg K (fun j => smz (fun c => u c * a c j) n) W S = smz (fun c => u c * wg K (a c) W S) n := by
  have e : ∀ c, u c * wg K (a c) W S = smz (fun j => u c * (if S j = true then eps (gK K S j) * (a c j * W (rmS S j)) else 0)) K := fun c => (sm_mul _ _ _).symm
  rw [sm_congr (fun c _ => e c), sm_swap]
  apply sm_congr
  intro j hj
  show (if S j = true then eps (gK K S j) * (smz (fun c => u c * a c j) n * W (rmS S j)) else 0) = _
  by_cases c : S j = true
  · simp only [if_pos c]
    rw [Int.mul_comm (smz _ n), ← sm_mul, ← sm_mul]
    apply sm_congr
    intro x _
    grind
  · simp only [if_neg c]
    exact (sm_zero (fun x _ => Int.mul_zero _)).symm
def W0 (K : Nat) : (Nat → Bool) → Int := fun S => if cntP S K = 0 then 1 else 0
def wap (K : Nat) (a : Nat → Nat → Int) : List Nat → ((Nat → Bool) → Int) → (Nat → Bool) → Int
  | [], W => W
  | r :: rs, W => wap K a rs (wg K (a r) W)
theorem wap_app (K : Nat) (a : Nat → Nat → Int) : ∀ (x y : List Nat) (W : (Nat → Bool) → Int), wap K a (x ++ y) W = wap K a y (wap K a x W) := by
  intro x
  induction x with
  | nil => intro y W; rfl
  | cons r x ih => intro y W; exact ih y _
theorem wap_congr (K : Nat) (a : Nat → Nat → Int) : ∀ (x : List Nat) {V W : (Nat → Bool) → Int}, (∀ S, V S = W S) → ∀ S, wap K a x V S = wap K a x W S := by
  intro x
  induction x with
  | nil => intro V W h S; exact h S
  | cons r x ih => intro V W h S; exact ih (fun S => wg_congr (fun _ _ => rfl) h S) S
theorem wap_zero (K : Nat) (a : Nat → Nat → Int) : ∀ (x : List Nat) (S : Nat → Bool), wap K a x (fun _ => 0) S = 0 := by
  intro x
  induction x with
  | nil => intro S; rfl
  | cons r x ih => intro S; exact (wap_congr K a x (fun S => wg_zero K (a r) S) S).trans (ih S)
theorem wap_sum (K n : Nat) (a : Nat → Nat → Int) (u : Nat → Int) : ∀ (x : List Nat) (W : Nat → (Nat → Bool) → Int) (S : Nat → Bool), wap K a x (fun S => smz (fun c => u c * W c S) n) S = smz (fun c => u c * wap K a x (W c) S) n := by
  intro x
  induction x with
  | nil => intro W S; rfl
  | cons r x ih =>
    intro W S
    show wap K a x (wg K (a r) _) S = _
    rw [wap_congr K a x (fun S => wg_sum K n (a r) u W S) S]
    exact ih (fun c => wg K (a r) (W c)) S
/-- a row twice makes 0 -/
theorem wap_in (K : Nat) (a : Nat → Nat → Int) (c : Nat) : ∀ (x : List Nat) (W : (Nat → Bool) → Int), (∀ S, wg K (a c) W S = 0) → ∀ S, wg K (a c) (wap K a x W) S = 0 := by
  intro x
  induction x with
  | nil => intro W h S; exact h S
  | cons r x ih =>
    intro W h S
    refine ih _ (fun S => ?_) S
    rw [wg_anti, wg_congr (fun _ _ => rfl) h S, wg_zero]; rfl
theorem wap_mem (K : Nat) (a : Nat → Nat → Int) (c : Nat) : ∀ (x : List Nat), c ∈ x → ∀ (W : (Nat → Bool) → Int) (S : Nat → Bool), wg K (a c) (wap K a x W) S = 0 := by
  intro x
  induction x with
  | nil => intro h; cases h
  | cons r x ih =>
    intro h W S
    rcases List.mem_cons.1 h with e | e
    · subst e
      exact wap_in K a c x _ (fun S => wg_sq K (a c) W S) S
    · exact ih e _ S
theorem wap_twice (K : Nat) (a : Nat → Nat → Int) (c : Nat) (x y : List Nat) (h : c ∈ x ∨ c ∈ y) (W : (Nat → Bool) → Int) (S : Nat → Bool) : wap K a (x ++ c :: y) W S = 0 := by
  rw [wap_app]
  show wap K a y (wg K (a c) (wap K a x W)) S = 0
  rcases h with h | h
  · rw [wap_congr K a y (fun S => wap_mem K a c x h W S) S, wap_zero]
  · obtain ⟨y1, y2, e⟩ := List.append_of_mem h
    subst e
    rw [wap_app]
    show wap K a y2 (wg K (a c) (wap K a y1 (wg K (a c) (wap K a x W)))) S = 0
    rw [wap_congr K a y2 (fun S => wap_in K a c y1 _ (fun S => wg_sq K (a c) _ S) S) S, wap_zero]
/-- the relation of rows -/
theorem wap_rel {K n : Nat} {a : Nat → Nat → Int} {u : Nat → Int} (h : ∀ j, j < K → smz (fun c => u c * a c j) n = 0) (x y : List Nat) (W : (Nat → Bool) → Int) (S : Nat → Bool) : smz (fun c => u c * wap K a (x ++ c :: y) W S) n = 0 := by
  have e : ∀ c, wap K a (x ++ c :: y) W S = wap K a y (wg K (a c) (wap K a x W)) S := fun c => by rw [wap_app]; rfl
  rw [sm_congr (fun c _ => by rw [e c]), ← wap_sum K n a u y (fun c => wg K (a c) (wap K a x W)) S, wap_congr K a y (fun S => ((wg_rows K n a u (wap K a x W) S).symm.trans (wg_row0 h _ S))) S, wap_zero]
