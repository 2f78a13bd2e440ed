/-- the crossing's lower (upper) strand is of the component k -/
def lowK (co at_ : Nat → Int) (k : Int) (c : Nat) : Bool := decide (co (at_ (4 * c)).toNat = k)
def uppK (co at_ : Nat → Int) (k : Int) (c : Nat) : Bool := decide (co (at_ (4 * c + 1)).toNat = k)
def revL (lo : Nat → Bool) (m : Nat) (lb : Nat → Int) : Nat → Int := fun q => if q / 4 < m ∧ lo (q / 4) = true then lb (4 * (q / 4) + (q + 2) % 4) else lb q
def revS (lo up : Nat → Bool) (m : Nat) (sg : Nat → Int) : Nat → Int := fun c => if c < m ∧ lo c ≠ up c then -(sg c) else sg c
theorem revL_s (lo : Nat → Bool) (m : Nat) (lb : Nat → Int) (q : Nat) : revL lo (m + 1) lb q = if lo m = true then rotL m 2 (revL lo m lb) q else revL lo m lb q := by
  unfold rotL
  by_cases w : q / 4 = m
  · by_cases l : lo m = true
    · rw [if_pos l, if_pos w]
      unfold revL
      rw [w, if_pos ⟨by omega, l⟩, if_neg (by omega)]
    · rw [if_neg l]
      unfold revL
      rw [w, if_neg (fun x => l x.2), if_neg (fun x => l x.2)]
  · have e : revL lo (m + 1) lb q = revL lo m lb q := by
      unfold revL
      by_cases x : q / 4 < m ∧ lo (q / 4) = true
      · rw [if_pos x, if_pos ⟨by omega, x.2⟩]
      · rw [if_neg x, if_neg (fun y => x ⟨by omega, y.2⟩)]
    rw [e, if_neg w]; split <;> rfl
theorem revS_s (lo upb : Nat → Bool) (m : Nat) (sg : Nat → Int) (c : Nat) : revS lo upb (m + 1) sg c = if lo m ≠ upb m then up (revS lo upb m sg) m (-(sg m)) c else revS lo upb m sg c := by
  by_cases w : c = m
  · subst w
    by_cases l : lo c ≠ upb c
    · rw [if_pos l, up_eq]; unfold revS; rw [if_pos ⟨by omega, l⟩]
    · rw [if_neg l]; unfold revS; rw [if_neg (fun x => l x.2), if_neg (fun x => l x.2)]
  · have e : revS lo upb (m + 1) sg c = revS lo upb m sg c := by
      unfold revS
      by_cases x : c < m ∧ lo c ≠ upb c
      · rw [if_pos x, if_pos ⟨by omega, x.2⟩]
      · rw [if_neg x, if_neg (fun y => x ⟨by omega, y.2⟩)]
    rw [e, up_ne _ _ w]; split <;> rfl
section
variable {n : Nat} {sg lb nm fr to at_ co : Nat → Int}
theorem cr22 (fl : Nat) (hfl : 10 ≤ fl) (hn : n ≤ 20) (h : EdgA n sg lb nm fr to at_) (hsg : ∀ c, c < n → sg c = 1 ∨ sg c = -1) (cm ci k : Int) :
    ∀ (d nn c : Nat) (kn : Int) (A S : Nat → Int), c + d = n → d < nn → like (4 * n) A (revL (lowK co at_ k) c lb) → like n S (revS (lowK co at_ k) (uppK co at_ k) c sg) →
    ∃ kn' A' S', LB_Mo_reverse_22 fl cm co at_ (n : Int) ci nn k (c : Int) kn A S = some (1, kn', A', S') ∧ like (4 * n) A' (revL (lowK co at_ k) n lb) ∧ like n S' (revS (lowK co at_ k) (uppK co at_ k) n sg) ∧ (kn' = kn ∨ kn' = 0) := by
  intro d
  induction d with
  | zero =>
    intro nn c kn A S hd hnn hA hS
    obtain ⟨nn, rfl⟩ : ∃ r, nn = r + 1 := ⟨nn - 1, by omega⟩
    rw [LB_Mo_reverse_22, if_pos (by omega)]
    have : c = n := by omega
    subst this
    exact ⟨kn, A, S, rfl, hA, hS, Or.inl rfl⟩
  | succ d ih =>
    intro nn c kn A S hd hnn hA hS
    obtain ⟨nn, rfl⟩ : ∃ r, nn = r + 1 := ⟨nn - 1, by omega⟩
    obtain ⟨e0, he0, a0, _⟩ := Edg_at h (show 4 * c < 4 * n by omega)
    obtain ⟨e1, he1, a1, _⟩ := Edg_at h (show 4 * c + 1 < 4 * n by omega)
    have t0 : Int.toNat (4 * (c : Int)) = 4 * c := by omega
    have t1 : Int.toNat (4 * (c : Int) + 1) = 4 * c + 1 := by omega
    have l0 : lowK co at_ k c = decide (co e0 = k) := by unfold lowK; rw [a0, Int.toNat_natCast]
    have l1 : uppK co at_ k c = decide (co e1 = k) := by unfold uppK; rw [a1, Int.toNat_natCast]
    have sc : S c = sg c := by rw [hS c (by omega)]; unfold revS; rw [if_neg (by omega)]
    have hsc := hsg c (by omega)
    rw [LB_Mo_reverse_22, if_neg (by omega), if_pos (by omega), t0, a0, if_pos (by omega), Int.toNat_natCast]
    unfold LB_Mo_reverse_54 LB_Mo_reverse_81 LB_Mo_reverse_95 LB_Mo_reverse_117
    -- the rest
    have fin : ∀ (kn2 : Int) (B T : Nat → Int), (kn2 = kn ∨ kn2 = 0) → like (4 * n) B (revL (lowK co at_ k) (c + 1) lb) → like n T (revS (lowK co at_ k) (uppK co at_ k) (c + 1) sg) → ∃ kn' A' S', LB_Mo_reverse_22 fl cm co at_ (n : Int) ci nn k ((c : Int) + 1) kn2 B T = some (1, kn', A', S') ∧ like (4 * n) A' (revL (lowK co at_ k) n lb) ∧ like n S' (revS (lowK co at_ k) (uppK co at_ k) n sg) ∧ (kn' = kn ∨ kn' = 0) := fun kn2 B T hk hB hT => by
      rw [show ((c : Int) + 1) = ((c + 1 : Nat) : Int) by omega]
      obtain ⟨kn', A', S', g1, g2, g3, g4⟩ := ih nn (c + 1) kn2 B T (by omega) (by omega) hB hT
      exact ⟨kn', A', S', g1, g2, g3, by omega⟩
    have hB0 : lowK co at_ k c = false → like (4 * n) A (revL (lowK co at_ k) (c + 1) lb) := fun w q hq => by rw [revL_s, w]; exact hA q hq
    have hB1 : ∀ B, lowK co at_ k c = true → (∀ q, B q = rotL c 2 A q) → like (4 * n) B (revL (lowK co at_ k) (c + 1) lb) := fun B w hB q hq => by rw [revL_s, w, if_pos rfl, hB q]; exact rot_like (show c < n by omega) hA q hq
    have hT0 : lowK co at_ k c = uppK co at_ k c → like n S (revS (lowK co at_ k) (uppK co at_ k) (c + 1) sg) := fun w q hq => by rw [revS_s, if_neg (fun x => x w)]; exact hS q hq
    have hT1 : lowK co at_ k c ≠ uppK co at_ k c → like n (up S c (-(sg c))) (revS (lowK co at_ k) (uppK co at_ k) (c + 1) sg) := fun w q hq => by rw [revS_s, if_pos w]; exact like_up hS c _ q hq
    obtain ⟨B, b1, b2⟩ := C_turnP fl hfl (show c < 20 by omega) (show 2 ≤ 3 by omega) kn A
    rw [show ((2 : Nat) : Int) = 2 from rfl] at b1
    by_cases w0 : co e0 = k
    · have l0 : lowK co at_ k c = true := by rw [l0]; simp [w0]
      rw [if_neg (fun w => w w0), if_pos (by omega), if_pos (by omega), t1, a1, if_pos (by omega), Int.toNat_natCast e1, Int.toNat_natCast c, sc]
      by_cases w1 : co e1 = k
      · have l1 : uppK co at_ k c = true := by rw [l1]; simp [w1]
        rw [if_neg (fun w => w w1), if_neg (by decide), b1, Option.bind_some, if_pos rfl, if_pos (by omega)]
        exact fin _ _ _ (Or.inr rfl) (hB1 B l0 b2) (hT0 (by rw [l0, l1]))
      · have l1 : uppK co at_ k c = false := by rw [l1]; simp [w1]
        rw [if_pos w1, if_neg (by decide), b1, Option.bind_some, if_neg (by decide), if_pos (by omega), if_pos (by omega), if_pos (by omega)]
        exact fin _ _ _ (Or.inr rfl) (hB1 B l0 b2) (hT1 (by rw [l0, l1]; decide))
    · have l0 : lowK co at_ k c = false := by rw [l0]; simp [w0]
      rw [if_pos w0, if_pos (by omega), if_pos (by omega), t1, a1, if_pos (by omega), Int.toNat_natCast e1, Int.toNat_natCast c, sc]
      by_cases w1 : co e1 = k
      · have l1 : uppK co at_ k c = true := by rw [l1]; simp [w1]
        rw [if_neg (fun w => w w1), if_pos rfl, if_neg (by decide), if_pos (by omega), if_pos (by omega), if_pos (by omega)]
        exact fin _ _ _ (Or.inl rfl) (hB0 l0) (hT1 (by rw [l0, l1]; decide))
      · have l1 : uppK co at_ k c = false := by rw [l1]; simp [w1]
        rw [if_pos w1, if_pos rfl, if_pos rfl, if_pos (by omega)]
        exact fin _ _ _ (Or.inl rfl) (hB0 l0) (hT0 (by rw [l0, l1]))
theorem mr2 (fl : Nat) (hfl : 10 ≤ fl) (hn : n ≤ 20) (h : EdgA n sg lb nm fr to at_) (hsg : ∀ c, c < n → sg c = 1 ∨ sg c = -1) (k : Int) :
    ∀ (d nn c : Nat) (A S : Nat → Int), c + d = n → d < nn → like (4 * n) A (revL (lowK co at_ k) c lb) → like n S (revS (lowK co at_ k) (uppK co at_ k) c sg) →
    ∃ A' S', LB_Md_reverse_2 fl co (n : Int) at_ nn k (c : Int) A S = some (A', S') ∧ like (4 * n) A' (revL (lowK co at_ k) n lb) ∧ like n S' (revS (lowK co at_ k) (uppK co at_ k) n sg) := by
  intro d
  induction d with
  | zero =>
    intro nn c A S hd hnn hA hS
    obtain ⟨nn, rfl⟩ : ∃ r, nn = r + 1 := ⟨nn - 1, by omega⟩
    rw [LB_Md_reverse_2, if_pos (by omega)]
    have : c = n := by omega
    subst this
    exact ⟨A, S, rfl, hA, hS⟩
  | succ d ih =>
    intro nn c A S hd hnn hA hS
    obtain ⟨nn, rfl⟩ : ∃ r, nn = r + 1 := ⟨nn - 1, by omega⟩
    obtain ⟨e0, he0, a0, _⟩ := Edg_at h (show 4 * c < 4 * n by omega)
    obtain ⟨e1, he1, a1, _⟩ := Edg_at h (show 4 * c + 1 < 4 * n by omega)
    have t0 : Int.toNat (4 * (c : Int)) = 4 * c := by omega
    have t1 : Int.toNat (4 * (c : Int) + 1) = 4 * c + 1 := by omega
    have l0 : lowK co at_ k c = decide (co e0 = k) := by unfold lowK; rw [a0, Int.toNat_natCast]
    have l1 : uppK co at_ k c = decide (co e1 = k) := by unfold uppK; rw [a1, Int.toNat_natCast]
    have sc : S c = sg c := by rw [hS c (by omega)]; unfold revS; rw [if_neg (by omega)]
    have hsc := hsg c (by omega)
    rw [LB_Md_reverse_2, if_neg (by omega), if_pos (by omega), t0, a0, if_pos (by omega), Int.toNat_natCast]
    unfold LB_Md_reverse_35 LB_Md_reverse_60 LB_Md_reverse_87 LB_Md_reverse_97
    have fin : ∀ (B T : Nat → Int), like (4 * n) B (revL (lowK co at_ k) (c + 1) lb) → like n T (revS (lowK co at_ k) (uppK co at_ k) (c + 1) sg) → ∃ A' S', LB_Md_reverse_2 fl co (n : Int) at_ nn k ((c : Int) + 1) B T = some (A', S') ∧ like (4 * n) A' (revL (lowK co at_ k) n lb) ∧ like n S' (revS (lowK co at_ k) (uppK co at_ k) n sg) := fun B T hB hT => by
      rw [show ((c : Int) + 1) = ((c + 1 : Nat) : Int) by omega]
      exact ih nn (c + 1) B T (by omega) (by omega) hB hT
    have hB0 : lowK co at_ k c = false → like (4 * n) A (revL (lowK co at_ k) (c + 1) lb) := fun w q hq => by rw [revL_s, w]; exact hA q hq
    have hB1 : ∀ B, lowK co at_ k c = true → (∀ q, B q = rotL c 2 A q) → like (4 * n) B (revL (lowK co at_ k) (c + 1) lb) := fun B w hB q hq => by rw [revL_s, w, if_pos rfl, hB q]; exact rot_like (show c < n by omega) hA q hq
    have hT0 : lowK co at_ k c = uppK co at_ k c → like n S (revS (lowK co at_ k) (uppK co at_ k) (c + 1) sg) := fun w q hq => by rw [revS_s, if_neg (fun x => x w)]; exact hS q hq
    have hT1 : lowK co at_ k c ≠ uppK co at_ k c → like n (up S c (-(sg c))) (revS (lowK co at_ k) (uppK co at_ k) (c + 1) sg) := fun w q hq => by rw [revS_s, if_pos w]; exact like_up hS c _ q hq
    obtain ⟨B, b1, b2⟩ := M_rot fl hfl (show c < 20 by omega) (show 2 ≤ 3 by omega) A
    rw [show ((2 : Nat) : Int) = 2 from rfl] at b1
    by_cases w0 : co e0 = k
    · have l0 : lowK co at_ k c = true := by rw [l0]; simp [w0]
      rw [if_neg (fun w => w w0), if_pos (by omega), if_pos (by omega), t1, a1, if_pos (by omega), Int.toNat_natCast e1, Int.toNat_natCast c, sc]
      by_cases w1 : co e1 = k
      · have l1 : uppK co at_ k c = true := by rw [l1]; simp [w1]
        rw [if_neg (fun w => w w1), if_pos rfl, if_neg (by decide), b1, Option.bind_some, if_pos (by omega)]
        exact fin _ _ (hB1 B l0 b2) (hT0 (by rw [l0, l1]))
      · have l1 : uppK co at_ k c = false := by rw [l1]; simp [w1]
        rw [if_pos w1, if_neg (by decide), if_pos (by omega), if_pos (by omega), if_neg (by decide), b1, Option.bind_some, if_pos (by omega)]
        exact fin _ _ (hB1 B l0 b2) (hT1 (by rw [l0, l1]; decide))
    · have l0 : lowK co at_ k c = false := by rw [l0]; simp [w0]
      rw [if_pos w0, if_pos (by omega), if_pos (by omega), t1, a1, if_pos (by omega), Int.toNat_natCast e1, Int.toNat_natCast c, sc]
      by_cases w1 : co e1 = k
      · have l1 : uppK co at_ k c = true := by rw [l1]; simp [w1]
        rw [if_neg (fun w => w w1), if_neg (by decide), if_pos (by omega), if_pos (by omega), if_pos rfl, if_pos (by omega)]
        exact fin _ _ (hB0 l0) (hT1 (by rw [l0, l1]; decide))
      · have l1 : uppK co at_ k c = false := by rw [l1]; simp [w1]
        rw [if_pos w1, if_pos rfl, if_pos rfl, if_pos (by omega)]
        exact fin _ _ (hB0 l0) (hT0 (by rw [l0, l1]))
end
