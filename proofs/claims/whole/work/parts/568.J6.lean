def smz (F : Nat → Int) : Nat → Int
  | 0 => 0
  | k + 1 => smz F k + F k
theorem sm_s (F : Nat → Int) (k : Nat) : smz F (k + 1) = smz F k + F k := rfl
theorem sm_congr {F G : Nat → Int} : ∀ {N : Nat}, (∀ x, x < N → F x = G x) → smz F N = smz G N := by
  intro N
  induction N with
  | zero => intro _; rfl
  | succ N ih => intro h; rw [sm_s, sm_s, ih (fun x hx => h x (by omega)), h N (by omega)]
theorem sm_add (F G : Nat → Int) : ∀ N, smz (fun x => F x + G x) N = smz F N + smz G N := by
  intro N
  induction N with
  | zero => rfl
  | succ N ih => rw [sm_s, sm_s, sm_s, ih]; omega
theorem sm_sub (F G : Nat → Int) : ∀ N, smz (fun x => F x - G x) N = smz F N - smz G N := by
  intro N
  induction N with
  | zero => rfl
  | succ N ih => rw [sm_s, sm_s, sm_s, ih]; omega
theorem sm_mul (F : Nat → Int) (a : Int) : ∀ N, smz (fun x => a * F x) N = a * smz F N := by
  intro N
  induction N with
  | zero => simp [smz]
  | succ N ih => rw [sm_s, sm_s, ih, Int.mul_add]
theorem sm_zero {F : Nat → Int} : ∀ {N : Nat}, (∀ x, x < N → F x = 0) → smz F N = 0 := by
  intro N
  induction N with
  | zero => intro _; rfl
  | succ N ih => intro h; rw [sm_s, ih (fun x hx => h x (by omega)), h N (by omega)]; rfl
theorem sm_swap (G : Nat → Nat → Int) (M : Nat) : ∀ N, smz (fun x => smz (fun y => G x y) M) N = smz (fun y => smz (fun x => G x y) N) M := by
  intro N
  induction N with
  | zero => exact (sm_zero (fun x _ => rfl)).symm
  | succ N ih => rw [sm_s, ih, ← sm_add]; exact sm_congr (fun y _ => rfl)
theorem sm_one {F : Nat → Int} {N x : Nat} (hx : x < N) (hF : ∀ y, y < N → y ≠ x → F y = 0) : smz F N = F x := by
  induction N with
  | zero => omega
  | succ N ih =>
    rw [sm_s]
    by_cases c : x = N
    · subst c
      rw [sm_zero (fun y hy => hF y (by omega) (by omega))]; omega
    · rw [ih (by omega) (fun y hy => hF y (by omega)), hF N (by omega) (fun e => c e.symm)]; omega
theorem cl_sur {f : Nat → Nat} {N : Nat} (hf : closedz f N) {y : Nat} (hy : y < N) : ∃ x, x < N ∧ f x = y := by
  by_cases c : ∃ x, x < N ∧ f x = y
  · exact c
  · exfalso
    have := pigeon (N := N) (k := N + 1) (fun j => if j < N then f j else y) (fun j hj => by
      show (if j < N then f j else y) < N
      split
      · exact hf.1 j (by omega)
      · exact hy) (fun i j hi hj e => by
      have e' : (if i < N then f i else y) = (if j < N then f j else y) := e
      by_cases ci : i < N <;> by_cases cj : j < N
      · rw [if_pos ci, if_pos cj] at e'; exact hf.2 i j ci cj e'
      · rw [if_pos ci, if_neg cj] at e'; exact absurd ⟨i, ci, e'⟩ c
      · rw [if_neg ci, if_pos cj] at e'; exact absurd ⟨j, cj, e'.symm⟩ c
      · omega)
    omega
theorem sm_perm {f : Nat → Nat} {N : Nat} (hf : closedz f N) (F : Nat → Int) : smz (fun x => F (f x)) N = smz F N := by
  have e1 : smz (fun x => F (f x)) N = smz (fun x => smz (fun y => if y = f x then F y else 0) N) N := sm_congr (fun x hx => by
    rw [sm_one (hf.1 x hx) (fun y hy hne => if_neg hne), if_pos rfl])
  rw [e1, sm_swap]
  refine sm_congr (fun y hy => ?_)
  obtain ⟨x, hx, e⟩ := cl_sur hf hy
  rw [sm_one hx (fun z hz hne => if_neg (fun q => hne (hf.2 z x hz hx (by rw [← q, e])))), if_pos e.symm]
theorem sm_2 (F : Nat → Int) : ∀ m, smz F (2 * m) = smz (fun g => F (2 * g) + F (2 * g + 1)) m := by
  intro m
  induction m with
  | zero => rfl
  | succ m ih => rw [show 2 * (m + 1) = 2 * m + 1 + 1 by omega, sm_s, sm_s, sm_s, ih]; omega
theorem sm_4 (F : Nat → Int) : ∀ m, smz F (4 * m) = smz (fun c => F (4 * c) + F (4 * c + 1) + F (4 * c + 2) + F (4 * c + 3)) m := by
  intro m
  induction m with
  | zero => rfl
  | succ m ih => rw [show 4 * (m + 1) = 4 * m + 1 + 1 + 1 + 1 by omega, sm_s, sm_s, sm_s, sm_s, sm_s, ih]; omega
section
variable {n : Nat} {sg lb nm fr to at_ : Nat → Int}
theorem dep_closed (h : EdgA n sg lb nm fr to at_) : closedz (dep fr to) (4 * n) := ⟨fun x hx => (dep_ok h hx).1, fun x y hx hy e => dep_inj h hx hy e⟩
/-- over places, over edges -/
theorem sm_pl (h : EdgA n sg lb nm fr to at_) (H : Nat → Int) : smz H (4 * n) = smz (fun g => H (fr g).toNat + H (to g).toNat) (2 * n) := by
  rw [← sm_perm (dep_closed h) H, show 4 * n = 2 * (2 * n) by omega, sm_2]
  refine sm_congr (fun g hg => ?_)
  unfold dep
  rw [if_pos (by omega), if_neg (by omega), show 2 * g / 2 = g by omega, show (2 * g + 1) / 2 = g by omega]
/-- no flow goes over a cut in all -/
theorem cutS (h : EdgA n sg lb nm fr to at_) {om : Nat → Int} (hk : KP n sg om) (S : Nat → Int) : smz (fun g => S ((to g).toNat / 4) * om (to g).toNat - S ((fr g).toNat / 4) * om (fr g).toNat) (2 * n) = 0 := by
  have e := sm_pl h (fun q => S (q / 4) * fo_ sg om q)
  have z : smz (fun q => S (q / 4) * fo_ sg om q) (4 * n) = 0 := by
    rw [sm_4]
    refine sm_zero (fun c hc => ?_)
    show S (4 * c / 4) * _ + S ((4 * c + 1) / 4) * _ + S ((4 * c + 2) / 4) * _ + S ((4 * c + 3) / 4) * _ = 0
    rw [show 4 * c / 4 = c by omega, show (4 * c + 1) / 4 = c by omega, show (4 * c + 2) / 4 = c by omega, show (4 * c + 3) / 4 = c by omega, ← Int.mul_add, ← Int.mul_add, ← Int.mul_add, hk c hc, Int.mul_zero]
  rw [z] at e
  have e2 : smz (fun g => S ((fr g).toNat / 4) * fo_ sg om (fr g).toNat + S ((to g).toNat / 4) * fo_ sg om (to g).toNat) (2 * n) = smz (fun g => 0 - (S ((to g).toNat / 4) * om (to g).toNat - S ((fr g).toNat / 4) * om (fr g).toNat)) (2 * n) := sm_congr (fun g hg => by
    obtain ⟨p, q, b1, b2, b3, b4, b5, b6, b7, b8, b9, b10⟩ := Edg_fr h hg
    rw [b3, b4, Int.toNat_natCast, Int.toNat_natCast, fo_out b5, fo_in b6, Int.mul_neg]
    omega)
  rw [e2, sm_sub, sm_zero (fun _ _ => rfl)] at e
  omega
theorem it_ex (h : EdgA n sg lb nm fr to at_) {d0 d1 : Nat} (h0 : d0 < 4 * n) (h1 : d1 < 4 * n) (e : (rndz (tnz fr to at_) (4 * n) (4 * n)).1 d0 = (rndz (tnz fr to at_) (4 * n) (4 * n)).1 d1) : ∃ j, it (tnz fr to at_) j d0 = d1 ∧ ∀ i, 0 < i → i ≤ j → it (tnz fr to at_) i d0 ≠ d0 := by
  have hf := tn_closed h
  obtain ⟨r1, r2, r3, r4, r5, r6⟩ := rnd_ok hf (4 * n) (Nat.le_refl _)
  have p0 := r3 d0 h0
  have p1 := r2 d0 h0
  obtain ⟨c, hc⟩ : ∃ c : Nat, (rndz (tnz fr to at_) (4 * n) (4 * n)).1 d0 = (c : Int) := ⟨((rndz (tnz fr to at_) (4 * n) (4 * n)).1 d0).toNat, by omega⟩
  obtain ⟨s1, s2, s3, s4, s5, s6⟩ := r5 c (by omega)
  obtain ⟨_, i0, hi0, e0⟩ := s6 d0 h0 hc
  obtain ⟨_, i1, hi1, e1⟩ := s6 d1 h1 (by rw [← e]; exact hc)
  have ex : ∃ j, it (tnz fr to at_) j d0 = d1 := by
    refine ⟨i1 + ((rndz (tnz fr to at_) (4 * n) (4 * n)).2.2.2 c - i0), ?_⟩
    have x : it (tnz fr to at_) (i1 + ((rndz (tnz fr to at_) (4 * n) (4 * n)).2.2.2 c - i0)) (it (tnz fr to at_) i0 ((rndz (tnz fr to at_) (4 * n) (4 * n)).2.2.1 c)) = it (tnz fr to at_) i1 (it (tnz fr to at_) ((rndz (tnz fr to at_) (4 * n) (4 * n)).2.2.2 c) ((rndz (tnz fr to at_) (4 * n) (4 * n)).2.2.1 c)) := by
      rw [← it_add, ← it_add]; congr 1; omega
    rw [e0, s4, e1] at x
    exact x
  obtain ⟨j, hj⟩ := ex
  induction j using Nat.strongRecOn with
  | ind j ih =>
    by_cases c : ∃ i, 0 < i ∧ i ≤ j ∧ it (tnz fr to at_) i d0 = d0
    · obtain ⟨i, a, b, x⟩ := c
      refine ih (j - i) (by omega) ?_
      have : it (tnz fr to at_) j d0 = it (tnz fr to at_) (j - i) (it (tnz fr to at_) i d0) := by rw [← it_add]; congr 1; omega
      rw [x, hj] at this
      exact this.symm
    · exact ⟨j, hj, fun i a b x => c ⟨i, a, b, x⟩⟩
end
