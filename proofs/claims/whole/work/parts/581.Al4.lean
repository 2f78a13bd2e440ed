section
variable {n : Nat} {sg lb nm fr to at_ : Nat → Int}
theorem ar1_0 (f : Nat → Nat) (P Q : Nat → Bool) (N y : Nat) : (ar1 f P Q N 0).1 y = -1 := rfl
theorem ar1_I (h : EdgA n sg lb nm fr to at_) : ∀ k, k ≤ 2 * n → ∀ y, y < 2 * n → upTz to y = true → (ar1 (nx to at_) (upTz to) (loF fr) (2 * n) k).1 (nx to at_ y) = (ar1 (nx to at_) (upTz to) (loF fr) (2 * n) k).1 y := by
  have hc := nx_closed h
  intro k
  induction k with
  | zero => intro _ y _ _; rfl
  | succ k ih =>
    intro hk y hy hu
    have i0 := ih (by omega) y hy hu
    rw [ar1_s]
    by_cases c : loF fr k = true
    · rw [if_pos c]
      obtain ⟨t, t1, t2, t3⟩ := endsz h (show k < 2 * n by omega) c
      show aw _ _ _ _ k _ (nx to at_ y) = aw _ _ _ _ k _ y
      by_cases p : ∃ j, j ≤ t ∧ it (nx to at_) j k = y
      · obtain ⟨j, j1, j2⟩ := p
        have jt : j < t := by
          rcases Nat.lt_or_ge j t with q | q
          · exact q
          · have : j = t := by omega
            rw [this] at j2; rw [j2, hu] at t2; cases t2
        have e : nx to at_ y = it (nx to at_) (j + 1) k := by rw [it_s, j2]
        rw [e, ← j2, aw_it _ _ _ _ (by omega) (fun i hi => t3 i (by omega)), aw_it _ _ _ _ (by omega) (fun i hi => t3 i (by omega))]
      · have q : ∀ j, j ≤ t → it (nx to at_) j k ≠ nx to at_ y := fun j hj e => by
          cases j with
          | zero =>
            have e : k = nx to at_ y := e
            have := nx_lo h hy
            rw [← e, c, hu] at this; cases this
          | succ j =>
            rw [it_s] at e
            exact p ⟨j, by omega, hc.2 _ _ (it_lt hc (by omega) j) hy e⟩
        rw [aw_stop t _ _ _ _ (by omega) t3 t2 q, aw_stop t _ _ _ _ (by omega) t3 t2 (fun j hj e => p ⟨j, hj, e⟩)]
        exact i0
    · rw [if_neg c]; exact i0
theorem ar2_I (h : EdgA n sg lb nm fr to at_) : ∀ k, k ≤ 2 * n → ∀ y, y < 2 * n → upTz to y = true → (ar2 (nx to at_) (upTz to) (loF fr) (2 * n) k).1 (nx to at_ y) = (ar2 (nx to at_) (upTz to) (loF fr) (2 * n) k).1 y := by
  have hc := nx_closed h
  intro k
  induction k with
  | zero => intro _ y hy hu; exact ar1_I h (2 * n) (Nat.le_refl _) y hy hu
  | succ k ih =>
    intro hk y hy hu
    have i0 := ih (by omega) y hy hu
    rw [ar2_s]
    by_cases c : (ar2 (nx to at_) (upTz to) (loF fr) (2 * n) k).1 k < 0
    · rw [if_pos c]
      obtain ⟨z1, z2, z3⟩ := ArI_2 h k (by omega)
      have fr_ := free_round h z1 z2 (show k < 2 * n by omega) c
      obtain ⟨t, t0, t1, t2⟩ := backz h (show k < 2 * n by omega)
      show aw _ _ _ _ k _ (nx to at_ y) = aw _ _ _ _ k _ y
      by_cases p : ∃ j, j < t ∧ it (nx to at_) j k = y
      · obtain ⟨j, j1, j2⟩ := p
        have e : nx to at_ y = it (nx to at_) (j + 1) k := by rw [it_s, j2]
        rw [e, ← j2, aw_it _ _ _ _ (by omega) (fun i hi => (fr_ i).2), aw_it _ _ _ _ (by omega) (fun i hi => (fr_ i).2)]
      · have hall : ∀ j, ∃ i, i < t ∧ it (nx to at_) i k = it (nx to at_) j k := by
          intro j
          induction j with
          | zero => exact ⟨0, t0, rfl⟩
          | succ j ihj =>
            obtain ⟨i, i1, i2⟩ := ihj
            by_cases q : i + 1 < t
            · exact ⟨i + 1, q, by rw [it_s, it_s, i2]⟩
            · refine ⟨0, t0, ?_⟩
              rw [it_s, ← i2, ← it_s (nx to at_) i k, show i + 1 = t by omega, t2]; rfl
        have q : ∀ j, j ≤ 2 * n → it (nx to at_) j k ≠ nx to at_ y := fun j hj e => by
          obtain ⟨i, i1, i2⟩ := hall j
          rw [e] at i2
          cases i with
          | zero =>
            have i2 : k = nx to at_ y := i2
            have t2' : it (nx to at_) (t - 1 + 1) k = k := by rw [show t - 1 + 1 = t by omega]; exact t2
            rw [it_s] at t2'
            exact p ⟨t - 1, by omega, hc.2 _ _ (it_lt hc (by omega) _) hy (by rw [t2', i2])⟩
          | succ i =>
            rw [it_s] at i2
            exact p ⟨i, by omega, hc.2 _ _ (it_lt hc (by omega) i) hy i2⟩
        rw [aw_only _ _ _ _ q, aw_only _ _ _ _ (fun j hj e => by
          obtain ⟨i, i1, i2⟩ := hall j
          exact p ⟨i, i1, by rw [i2, e]⟩)]
        exact i0
    · rw [if_neg c]; exact i0
theorem ar1_lt (f : Nat → Nat) (P Q : Nat → Bool) (N : Nat) : ∀ k y, (ar1 f P Q N k).1 y < ((ar1 f P Q N k).2 : Int) := by
  intro k
  induction k with
  | zero => intro y; show (-1 : Int) < 0; decide
  | succ k ih =>
    intro y
    rw [ar1_s]
    split
    · show aw _ _ _ _ _ _ y < (((ar1 f P Q N k).2 + 1 : Nat) : Int)
      rcases aw_v (f := f) (P := P) (v := ((ar1 f P Q N k).2 : Int)) N k (ar1 f P Q N k).1 y with e | e
      · rw [e]; omega
      · rw [e]; have := ih y; omega
    · exact ih y
theorem ar2_lt (f : Nat → Nat) (P Q : Nat → Bool) (N : Nat) : ∀ k y, (ar2 f P Q N k).1 y < ((ar2 f P Q N k).2 : Int) := by
  intro k
  induction k with
  | zero => intro y; exact ar1_lt f P Q N N y
  | succ k ih =>
    intro y
    rw [ar2_s]
    split
    · show aw _ _ _ _ _ _ y < (((ar2 f P Q N k).2 + 1 : Nat) : Int)
      rcases aw_v (f := f) (P := P) (v := ((ar2 f P Q N k).2 : Int)) N k (ar2 f P Q N k).1 y with e | e
      · rw [e]; omega
      · rw [e]; have := ih y; omega
    · exact ih y
theorem ar1_cnt (f : Nat → Nat) (P Q : Nat → Bool) (N : Nat) : ∀ k, (ar1 f P Q N k).2 = cntP Q k := by
  intro k
  induction k with
  | zero => rfl
  | succ k ih =>
    rw [ar1_s, cnt_s]
    by_cases c : Q k = true
    · rw [if_pos c, if_pos c, ← ih]
    · rw [if_neg c, if_neg c, ← ih]; rfl
theorem ar2_ge (f : Nat → Nat) (P Q : Nat → Bool) (N : Nat) : ∀ k, (ar1 f P Q N N).2 ≤ (ar2 f P Q N k).2 := by
  intro k
  induction k with
  | zero => exact Nat.le_refl _
  | succ k ih =>
    rw [ar2_s]
    split
    · show _ ≤ (ar2 f P Q N k).2 + 1; omega
    · exact ih
theorem lo_cnt (h : EdgA n sg lb nm fr to at_) : cntP (loF fr) (2 * n) = n := by
  have key := sm_pl h (fun q => if outQ sg q = true ∧ q % 2 = 0 then 1 else 0)
  have a : ∀ m, smz (fun c => (if outQ sg (4 * c) = true ∧ (4 * c) % 2 = 0 then (1 : Int) else 0) + (if outQ sg (4 * c + 1) = true ∧ (4 * c + 1) % 2 = 0 then 1 else 0) + (if outQ sg (4 * c + 2) = true ∧ (4 * c + 2) % 2 = 0 then 1 else 0) + (if outQ sg (4 * c + 3) = true ∧ (4 * c + 3) % 2 = 0 then 1 else 0)) m = (m : Int) := by
    intro m
    induction m with
    | zero => rfl
    | succ m ih =>
      rw [sm_s, ih]
      have o := out_4 sg m
      rw [if_neg (by rw [o.1]; simp), if_neg (by omega), if_pos ⟨o.2.1, by omega⟩, if_neg (by omega)]
      omega
  rw [sm_4, a n] at key
  have b : ∀ m, m ≤ 2 * n → smz (fun g => (if outQ sg (fr g).toNat = true ∧ (fr g).toNat % 2 = 0 then (1 : Int) else 0) + (if outQ sg (to g).toNat = true ∧ (to g).toNat % 2 = 0 then 1 else 0)) m = (cntP (loF fr) m : Int) := by
    intro m
    induction m with
    | zero => intro _; rfl
    | succ m ih =>
      intro hm
      rw [sm_s, ih (by omega), cnt_s]
      obtain ⟨p, q, b1, b2, b3, b4, b5, b6, _⟩ := Edg_fr h (show m < 2 * n by omega)
      have nq : ¬ (outQ sg q = true ∧ q % 2 = 0) := by rw [b6]; simp
      rw [b3, b4, Int.toNat_natCast, Int.toNat_natCast, if_neg nq]
      have : loF fr m = decide (p % 2 = 0) := by unfold loF; rw [b3, Int.toNat_natCast]
      rw [this]
      by_cases c : p % 2 = 0
      · rw [if_pos ⟨b5, c⟩]; simp [c]
      · rw [if_neg (fun w => c w.2)]; simp [c]
  rw [b (2 * n) (Nat.le_refl _)] at key
  omega
theorem arc_ge (h : EdgA n sg lb nm fr to at_) : n ≤ arcN n fr to at_ := by
  have a := ar2_ge (nx to at_) (upTz to) (loF fr) (2 * n) (2 * n)
  rw [ar1_cnt, lo_cnt h] at a
  exact a
/-- the arc at a place -/
def arcQ (n : Nat) (fr to at_ : Nat → Int) (q : Nat) : Nat := (arcA n fr to at_ (at_ q).toNat).toNat
theorem arcQ_ok (h : EdgA n sg lb nm fr to at_) {q : Nat} (hq : q < 4 * n) : arcA n fr to at_ (at_ q).toNat = (arcQ n fr to at_ q : Int) ∧ arcQ n fr to at_ q < arcN n fr to at_ := by
  obtain ⟨e, e1, e2, _⟩ := Edg_at h hq
  have a := ar2_lt (nx to at_) (upTz to) (loF fr) (2 * n) (2 * n) e
  have b := (ArI_2 h (2 * n) (Nat.le_refl _)).2.2 e e1
  unfold arcQ
  rw [e2, Int.toNat_natCast]
  have a : arcA n fr to at_ e < (arcN n fr to at_ : Int) := a
  have b : 0 ≤ arcA n fr to at_ e := b
  omega
/-- the arc goes on over an upper place -/
theorem arcQ_up (h : EdgA n sg lb nm fr to at_) {q : Nat} (hq : q < 4 * n) (hu : q % 2 = 1) : arcQ n fr to at_ (opp q) = arcQ n fr to at_ q := by
  have key : ∀ q, q < 4 * n → q % 2 = 1 → outQ sg q = false → arcQ n fr to at_ (opp q) = arcQ n fr to at_ q := fun q hq hu o => by
    obtain ⟨e, e1, e2, e3, e4, e5⟩ := Edg_at h hq
    have t := e5 o
    have i := ar2_I h (2 * n) (Nat.le_refl _) e e1 (by unfold upTz; rw [t, Int.toNat_natCast]; simp [hu])
    have x := (nx_ok h e1).2.1
    rw [t, Int.toNat_natCast] at x
    unfold arcQ
    rw [x, e2, Int.toNat_natCast, Int.toNat_natCast]
    show ((ar2 _ _ _ _ _).1 _).toNat = ((ar2 _ _ _ _ _).1 _).toNat
    rw [i]
  cases o : outQ sg q
  · exact key q hq hu o
  · have := key (opp q) (opp_lt hq) (by unfold opp; split <;> omega) (by rw [opp_out, o]; rfl)
    rw [opp_opp] at this; exact this.symm
end
