theorem sm_front (F : Nat → Int) : ∀ N, smz F (N + 1) = F 0 + smz (fun k => F (k + 1)) N := by
  intro N
  induction N with
  | zero => show 0 + F 0 = F 0 + 0; omega
  | succ N ih => rw [sm_s, ih, sm_s]; omega
def ev (p : Nat → Int) (t : Int) (N : Nat) : Int := smz (fun k => p k * t ^ k) N
theorem ev_front (p : Nat → Int) (t : Int) (N : Nat) : ev p t (N + 1) = p 0 + t * ev (fun k => p (k + 1)) t N := by
  unfold ev
  rw [sm_front, ← sm_mul]
  have : p 0 * t ^ 0 = p 0 := by rw [Int.pow_zero]; omega
  show p 0 * t ^ 0 + _ = _
  rw [this]
  congr 1
  apply sm_congr
  intro k _
  show p (k + 1) * t ^ (k + 1) = t * (p (k + 1) * t ^ k)
  rw [Int.pow_succ]; grind
theorem small_mul {x t E : Int} (h : x + t * E = 0) (ht : t = (x.natAbs : Int) + 1) : x = 0 ∧ E = 0 := by
  have a : -(x.natAbs : Int) ≤ x ∧ x ≤ (x.natAbs : Int) := by omega
  by_cases c : E = 0
  · subst c; rw [Int.mul_zero] at h; exact ⟨by omega, rfl⟩
  · exfalso
    by_cases p : 0 < E
    · have : 0 ≤ t * (E - 1) := Int.mul_nonneg (by omega) (by omega)
      rw [Int.mul_sub] at this
      omega
    · have : 0 ≤ t * (-E - 1) := Int.mul_nonneg (by omega) (by omega)
      rw [Int.mul_sub, Int.mul_neg] at this
      omega
theorem ev_van : ∀ (N : Nat) (p : Nat → Int), (∀ t : Int, 0 < t → ev p t N = 0) → ∀ k, k < N → p k = 0 := by
  intro N
  induction N with
  | zero => intro p _ k hk; omega
  | succ N ih =>
    intro p h k hk
    have h0 : p 0 = 0 := by
      have := h (((p 0).natAbs : Int) + 1) (by omega)
      rw [ev_front] at this
      exact (small_mul this rfl).1
    cases k with
    | zero => exact h0
    | succ k =>
      refine ih (fun k => p (k + 1)) (fun t ht => ?_) k (by omega)
      have := h t ht
      rw [ev_front, h0] at this
      have : t * ev (fun k => p (k + 1)) t N = 0 := by omega
      rcases Int.mul_eq_zero.1 this with e | e
      · omega
      · exact e
theorem ev_more {p : Nat → Int} {t : Int} {N : Nat} (h : ∀ k, N ≤ k → p k = 0) : ∀ d, ev p t (N + d) = ev p t N := by
  intro d
  induction d with
  | zero => rfl
  | succ d ih =>
    show smz _ (N + d + 1) = _
    rw [sm_s]
    show ev p t (N + d) + p (N + d) * t ^ (N + d) = _
    rw [ih, h _ (by omega)]; omega
def sh (p : Nat → Int) : Nat → Int := fun k => if k = 0 then 0 else p (k - 1)
theorem sh_s (p : Nat → Int) (k : Nat) : sh p (k + 1) = p k := by unfold sh; rw [if_neg (by omega)]; rfl
theorem ev_sh (p : Nat → Int) (t : Int) (N : Nat) : ev (sh p) t (N + 1) = t * ev p t N := by
  rw [ev_front]
  have : (fun k => sh p (k + 1)) = p := by funext k; exact sh_s p k
  rw [this]
  show (if (0 : Nat) = 0 then (0 : Int) else _) + _ = _
  rw [if_pos rfl]; omega
def shn (a : Nat) (p : Nat → Int) : Nat → Int := fun k => if k < a then 0 else p (k - a)
theorem shn_s (a : Nat) (p : Nat → Int) : shn (a + 1) p = sh (shn a p) := by
  funext k
  unfold shn sh
  by_cases c : k = 0
  · rw [if_pos (by omega), if_pos c]
  · rw [if_neg c]
    by_cases d : k < a + 1
    · show _ = if k - 1 < a then 0 else p (k - 1 - a)
      rw [if_pos d, if_pos (by omega)]
    · show _ = if k - 1 < a then 0 else p (k - 1 - a)
      rw [if_neg d, if_neg (by omega), show k - 1 - a = k - (a + 1) by omega]
theorem ev_shn (p : Nat → Int) (t : Int) (N : Nat) : ∀ a, ev (shn a p) t (N + a) = t ^ a * ev p t N := by
  intro a
  induction a with
  | zero =>
    have : shn 0 p = p := by funext k; unfold shn; rw [if_neg (by omega)]; rfl
    rw [this, Int.pow_zero]
    show ev p t N = _
    omega
  | succ a ih => rw [shn_s, show N + (a + 1) = N + a + 1 from rfl, ev_sh, ih, Int.pow_succ]; grind
/-- two polynomials that are one up to powers of t and a sign -/
theorem ev_unit {p q : Nat → Int} {N a b : Nat} {s : Int} (hp : ∀ k, N ≤ k → p k = 0) (hq : ∀ k, N ≤ k → q k = 0) (h : ∀ t : Int, 0 < t → t ^ a * ev p t N = s * (t ^ b * ev q t N)) : ∀ k, shn a p k = s * shn b q k := by
  have hz : ∀ (c : Nat) (r : Nat → Int), (∀ k, N ≤ k → r k = 0) → ∀ k, N + c ≤ k → shn c r k = 0 := fun c r hr k hk => by
    unfold shn; rw [if_neg (by omega)]; exact hr _ (by omega)
  have key := ev_van (N + a + b) (fun k => shn a p k - s * shn b q k) (fun t ht => by
    have e1 : ev (shn a p) t (N + a + b) = t ^ a * ev p t N := by rw [ev_more (hz a p hp) b, ev_shn]
    have e2 : ev (shn b q) t (N + a + b) = t ^ b * ev q t N := by rw [show N + a + b = N + b + a by omega, ev_more (hz b q hq) a, ev_shn]
    have e3 : ev (fun k => shn a p k - s * shn b q k) t (N + a + b) = ev (shn a p) t (N + a + b) - s * ev (shn b q) t (N + a + b) := by
      unfold ev
      rw [← sm_mul, ← sm_sub]
      apply sm_congr
      intro k _
      show (shn a p k - s * shn b q k) * t ^ k = shn a p k * t ^ k - s * (shn b q k * t ^ k)
      grind
    rw [e3, e1, e2, h t ht]; omega)
  intro k
  by_cases c : k < N + a + b
  · have := key k c
    have : shn a p k - s * shn b q k = 0 := this
    omega
  · rw [hz a p hp k (by omega), hz b q hq k (by omega)]; omega
/-- minors as polynomials -/
def wgP (K : Nat) (lo hi : Nat → Int) (W : (Nat → Bool) → Nat → Int) : (Nat → Bool) → Nat → Int := fun S k => smz (fun j => if S j = true then eps (gK K S j) * (lo j * W (rmS S j) k + hi j * sh (W (rmS S j)) k) else 0) K
def PM (K : Nat) (lo hi : Nat → Nat → Int) (ρ : Nat → Nat) : Nat → (Nat → Bool) → Nat → Int
  | 0 => fun S k => if k = 0 then W0 K S else 0
  | m + 1 => wgP K (lo (ρ m)) (hi (ρ m)) (PM K lo hi ρ m)
def lst (ρ : Nat → Nat) : Nat → List Nat
  | 0 => []
  | m + 1 => lst ρ m ++ [ρ m]
theorem PM_deg (K : Nat) (lo hi : Nat → Nat → Int) (ρ : Nat → Nat) : ∀ m S k, m < k → PM K lo hi ρ m S k = 0 := by
  intro m
  induction m with
  | zero => intro S k hk; exact if_neg (by omega)
  | succ m ih =>
    intro S k hk
    refine sm_zero (fun j _ => ?_)
    show (if S j = true then eps (gK K S j) * (lo (ρ m) j * PM K lo hi ρ m (rmS S j) k + hi (ρ m) j * sh (PM K lo hi ρ m (rmS S j)) k) else 0) = 0
    obtain ⟨k, rfl⟩ : ∃ l, k = l + 1 := ⟨k - 1, by omega⟩
    rw [sh_s, ih _ _ (by omega), ih _ _ (by omega)]
    split <;> omega
theorem PM_ev (K : Nat) (lo hi : Nat → Nat → Int) (ρ : Nat → Nat) (t : Int) : ∀ m N S, m < N → ev (PM K lo hi ρ m S) t N = wap K (fun r j => lo r j + hi r j * t) (lst ρ m) (W0 K) S := by
  intro m
  induction m with
  | zero =>
    intro N S hN
    obtain ⟨N, rfl⟩ : ∃ l, N = l + 1 := ⟨N - 1, by omega⟩
    rw [ev_front]
    have : ev (fun k => PM K lo hi ρ 0 S (k + 1)) t N = 0 := sm_zero (fun k _ => by
      show PM K lo hi ρ 0 S (k + 1) * _ = 0
      rw [PM_deg K lo hi ρ 0 S (k + 1) (by omega)]; omega)
    rw [this]
    show (if (0 : Nat) = 0 then W0 K S else 0) + t * 0 = W0 K S
    rw [if_pos rfl]; omega
  | succ m ih =>
    intro N S hN
    obtain ⟨N, rfl⟩ : ∃ l, N = l + 1 := ⟨N - 1, by omega⟩
    show _ = wap K _ (lst ρ m ++ [ρ m]) (W0 K) S
    rw [wap_app]
    show _ = wg K (fun j => lo (ρ m) j + hi (ρ m) j * t) (wap K _ (lst ρ m) (W0 K)) S
    have e : ∀ k, PM K lo hi ρ (m + 1) S k * t ^ k = smz (fun j => t ^ k * (if S j = true then eps (gK K S j) * (lo (ρ m) j * PM K lo hi ρ m (rmS S j) k + hi (ρ m) j * sh (PM K lo hi ρ m (rmS S j)) k) else 0)) K := fun k => by
      rw [sm_mul, Int.mul_comm]; rfl
    show smz (fun k => PM K lo hi ρ (m + 1) S k * t ^ k) (N + 1) = _
    rw [sm_congr (fun k _ => e k), sm_swap]
    apply sm_congr
    intro j hj
    show _ = (if S j = true then eps (gK K S j) * ((lo (ρ m) j + hi (ρ m) j * t) * wap K _ (lst ρ m) (W0 K) (rmS S j)) else 0)
    by_cases c : S j = true
    · simp only [if_pos c]
      rw [← ih (N + 1) (rmS S j) (by omega)]
      have a1 := ih N (rmS S j) (by omega)
      have a2 := ih (N + 1) (rmS S j) (by omega)
      have a3 := ev_sh (PM K lo hi ρ m (rmS S j)) t N
      rw [a1, ← a2] at a3
      have : smz (fun k => t ^ k * (eps (gK K S j) * (lo (ρ m) j * PM K lo hi ρ m (rmS S j) k + hi (ρ m) j * sh (PM K lo hi ρ m (rmS S j)) k))) (N + 1) = eps (gK K S j) * lo (ρ m) j * ev (PM K lo hi ρ m (rmS S j)) t (N + 1) + eps (gK K S j) * hi (ρ m) j * ev (sh (PM K lo hi ρ m (rmS S j))) t (N + 1) := by
        unfold ev
        rw [← sm_mul, ← sm_mul, ← sm_add]
        apply sm_congr
        intro k _
        grind
      rw [this, a3]; grind
    · simp only [if_neg c]
      exact sm_zero (fun k _ => Int.mul_zero _)
theorem sm_abs {F c : Nat → Int} {B : Int} : ∀ K, (∀ j, j < K → ((F j).natAbs : Int) ≤ c j * B) → ((smz F K).natAbs : Int) ≤ smz c K * B := by
  intro K
  induction K with
  | zero => intro _; show ((0 : Int).natAbs : Int) ≤ 0 * B; rw [Int.zero_mul]; decide
  | succ K ih =>
    intro h
    have a := ih (fun j hj => h j (by omega))
    have b := h K (by omega)
    rw [sm_s, sm_s, Int.add_mul]
    omega
theorem eps_abs (k : Nat) (x : Int) : (eps k * x).natAbs = x.natAbs := by
  unfold eps; split
  · rw [Int.one_mul]
  · rw [Int.neg_mul, Int.one_mul, Int.natAbs_neg]
theorem PM_abs {K : Nat} {lo hi : Nat → Nat → Int} {ρ : Nat → Nat} (h : ∀ r, smz (fun j => ((lo r j).natAbs : Int) + ((hi r j).natAbs : Int)) K ≤ 4) : ∀ m S k, ((PM K lo hi ρ m S k).natAbs : Int) ≤ 4 ^ m := by
  intro m
  induction m with
  | zero =>
    intro S k
    show (((if k = 0 then W0 K S else 0).natAbs : Int)) ≤ 1
    unfold W0; split
    · split <;> decide
    · decide
  | succ m ih =>
    intro S k
    have hB : (0 : Int) ≤ 4 ^ m := Int.pow_nonneg (by decide)
    have := sm_abs (F := fun j => if S j = true then eps (gK K S j) * (lo (ρ m) j * PM K lo hi ρ m (rmS S j) k + hi (ρ m) j * sh (PM K lo hi ρ m (rmS S j)) k) else 0) (c := fun j => ((lo (ρ m) j).natAbs : Int) + ((hi (ρ m) j).natAbs : Int)) (B := 4 ^ m) K (fun j hj => by
      show (((if S j = true then _ else 0 : Int)).natAbs : Int) ≤ _
      have hs : ((sh (PM K lo hi ρ m (rmS S j)) k).natAbs : Int) ≤ 4 ^ m := by
        unfold sh; split
        · exact hB
        · exact ih _ _
      have h0 := ih (rmS S j) k
      have nn : 0 ≤ (((lo (ρ m) j).natAbs : Int) + ((hi (ρ m) j).natAbs : Int)) * 4 ^ m := Int.mul_nonneg (by omega) hB
      split
      · rw [eps_abs]
        have t := Int.natAbs_add_le (lo (ρ m) j * PM K lo hi ρ m (rmS S j) k) (hi (ρ m) j * sh (PM K lo hi ρ m (rmS S j)) k)
        rw [Int.natAbs_mul, Int.natAbs_mul] at t
        have m1 : ((lo (ρ m) j).natAbs : Int) * ((PM K lo hi ρ m (rmS S j) k).natAbs : Int) ≤ ((lo (ρ m) j).natAbs : Int) * 4 ^ m := Int.mul_le_mul_of_nonneg_left h0 (by omega)
        have m2 : ((hi (ρ m) j).natAbs : Int) * ((sh (PM K lo hi ρ m (rmS S j)) k).natAbs : Int) ≤ ((hi (ρ m) j).natAbs : Int) * 4 ^ m := Int.mul_le_mul_of_nonneg_left hs (by omega)
        rw [Int.add_mul]
        have t' : (((lo (ρ m) j * PM K lo hi ρ m (rmS S j) k + hi (ρ m) j * sh (PM K lo hi ρ m (rmS S j)) k).natAbs : Nat) : Int) ≤ ((lo (ρ m) j).natAbs : Int) * ((PM K lo hi ρ m (rmS S j) k).natAbs : Int) + ((hi (ρ m) j).natAbs : Int) * ((sh (PM K lo hi ρ m (rmS S j)) k).natAbs : Int) := by
          have := Int.ofNat_le.2 t
          rw [Int.natCast_add, Int.natCast_mul, Int.natCast_mul] at this
          exact this
        omega
      · show (0 : Int) ≤ _
        exact nn)
    have h4 : smz (fun j => ((lo (ρ m) j).natAbs : Int) + ((hi (ρ m) j).natAbs : Int)) K * 4 ^ m ≤ 4 * 4 ^ m := Int.mul_le_mul_of_nonneg_right (h (ρ m)) hB
    rw [Int.pow_succ, Int.mul_comm]
    exact Int.le_trans this h4
def skip (r m : Nat) : Nat := if r ≤ m then m + 1 else m
theorem rows_lst (r : Nat) : ∀ n, rowsB r n = lst (skip r) (if r < n then n - 1 else n) := by
  intro n
  induction n with
  | zero => rw [if_neg (by omega)]; rfl
  | succ n ih =>
    unfold rowsB
    by_cases c : n = r
    · rw [if_pos c, ih, if_neg (by omega), if_pos (by omega)]; rfl
    · rw [if_neg c, ih]
      by_cases d : r < n
      · rw [if_pos d, if_pos (by omega)]
        obtain ⟨k, rfl⟩ : ∃ k, n = k + 1 := ⟨n - 1, by omega⟩
        show _ = lst (skip r) k ++ [skip r k]
        unfold skip
        rw [if_pos (show r ≤ k by omega)]; rfl
      · rw [if_neg d, if_neg (by omega)]
        show _ = lst (skip r) n ++ [skip r n]
        unfold skip
        rw [if_neg (show ¬ r ≤ n by omega)]
