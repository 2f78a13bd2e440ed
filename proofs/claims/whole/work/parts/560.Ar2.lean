theorem aw_stop {f : Nat → Nat} {P : Nat → Bool} {v : Int} : ∀ (t k x : Nat) (a : Nat → Int) (y : Nat), t ≤ k → (∀ i, i < t → P (it f i x) = true) → P (it f t x) = false → (∀ j, j ≤ t → it f j x ≠ y) → aw f P v k x a y = a y := by
  intro t
  induction t with
  | zero =>
    intro k x a y _ _ hP h
    have z : up a x v y = a y := up_ne _ _ (fun w => h 0 (by omega) w.symm)
    cases k with
    | zero => exact z
    | succ k => rw [aw_s, if_neg (by rw [show P x = false from hP]; decide)]; exact z
  | succ t ih =>
    intro k x a y hk h1 h2 h
    obtain ⟨k, rfl⟩ : ∃ r, k = r + 1 := ⟨k - 1, by omega⟩
    have z : up a x v y = a y := up_ne _ _ (fun w => h 0 (by omega) w.symm)
    rw [aw_s, if_pos (show P x = true from h1 0 (by omega)), ih k (f x) (up a x v) y (by omega) (fun i hi => by rw [it_f, ← it_s f i x]; exact h1 (i + 1) (by omega)) (by rw [it_f, ← it_s f t x]; exact h2) (fun j hj => by rw [it_f, ← it_s f j x]; exact h (j + 1) (by omega)), z]
theorem aw_more {f : Nat → Nat} {P : Nat → Bool} {v : Int} : ∀ (t k m x : Nat) (a : Nat → Int), t ≤ k → t ≤ m → (∀ i, i < t → P (it f i x) = true) → P (it f t x) = false → aw f P v k x a = aw f P v m x a := by
  intro t
  induction t with
  | zero =>
    intro k m x a _ _ _ hP
    have hP : P x = false := hP
    have e : ∀ k, aw f P v k x a = up a x v := fun k => by
      cases k with
      | zero => rfl
      | succ k => rw [aw_s, if_neg (by rw [hP]; decide)]
    rw [e k, e m]
  | succ t ih =>
    intro k m x a hk hm h1 h2
    obtain ⟨k, rfl⟩ : ∃ r, k = r + 1 := ⟨k - 1, by omega⟩
    obtain ⟨m, rfl⟩ : ∃ r, m = r + 1 := ⟨m - 1, by omega⟩
    have p0 : P x = true := h1 0 (by omega)
    rw [aw_s, aw_s, if_pos p0, if_pos p0]
    exact ih k m (f x) (up a x v) (by omega) (by omega) (fun i hi => by rw [it_f, ← it_s f i x]; exact h1 (i + 1) (by omega)) (by rw [it_f, ← it_s f t x]; exact h2)
theorem mk_only {f : Nat → Nat} {v : Int} : ∀ (k x : Nat) (a : Nat → Int) (y : Nat), (∀ j, it f j x ≠ y) → (mkz f v k x a).1 y = a y := by
  intro k
  induction k with
  | zero => intro x a y _; rfl
  | succ k ih =>
    intro x a y h
    rw [mk_s]
    split
    · rfl
    · show (mkz f v k (f x) (up a x v)).1 y = a y
      rw [ih (f x) (up a x v) y (fun j => by rw [it_f, ← it_s f j x]; exact h (j + 1)), up_ne _ _ (show y ≠ x from fun w => h 0 w.symm)]
theorem mk_orb {f : Nat → Nat} {N : Nat} (hf : closedz f N) {v : Int} (hv : 0 ≤ v) {x : Nat} (hx : x < N) : ∀ (u k i : Nat) (b : Nat → Int), Uz N b = u → u < k → (∀ j, j < i → b (it f j x) = v) → (∀ m, (∀ j, j < i → it f j x ≠ it f m x) → b (it f m x) < 0) → ∀ m, (mkz f v k (it f i x) b).1 (it f m x) = v := by
  have stop : ∀ (k i : Nat) (b : Nat → Int), 0 < k → 0 ≤ b (it f i x) → (∀ j, j < i → b (it f j x) = v) → (∀ m, (∀ j, j < i → it f j x ≠ it f m x) → b (it f m x) < 0) → ∀ m, (mkz f v k (it f i x) b).1 (it f m x) = v := by
    intro k i b hk h0 h1 h2 m
    obtain ⟨k, rfl⟩ : ∃ r, k = r + 1 := ⟨k - 1, by omega⟩
    rw [mk_s, if_pos h0]
    have ex : ∃ j, j < i ∧ it f j x = it f i x := Classical.byContradiction (fun no => by
      have := h2 i (fun j hj w => no ⟨j, hj, w⟩); omega)
    obtain ⟨j, j1, j2⟩ := ex
    have all : ∀ m, ∃ l, l < i ∧ it f l x = it f m x := by
      intro m
      induction m using Nat.strongRecOn with
      | ind m ih =>
        by_cases w : m < i
        · exact ⟨m, w, rfl⟩
        · obtain ⟨l, l1, l2⟩ := ih (m - i + j) (by omega)
          refine ⟨l, l1, ?_⟩
          rw [l2, it_add, j2, ← it_add, show m - i + i = m by omega]
    obtain ⟨l, l1, l2⟩ := all m
    show b (it f m x) = v
    rw [← l2]; exact h1 l l1
  intro u
  induction u with
  | zero =>
    intro k i b hu hk h1 h2
    have : ¬ b (it f i x) < 0 := fun w => by have := U_pos (it_lt hf hx i) w; omega
    exact stop k i b (by omega) (by omega) h1 h2
  | succ u ih =>
    intro k i b hu hk h1 h2 m
    by_cases c : 0 ≤ b (it f i x)
    · exact stop k i b (by omega) c h1 h2 m
    · obtain ⟨k, rfl⟩ : ∃ r, k = r + 1 := ⟨k - 1, by omega⟩
      have hu2 := U_up (v := v) (it_lt hf hx i) (show b (it f i x) < 0 by omega) hv
      rw [mk_s, if_neg c]
      refine ih k (i + 1) (up b (it f i x) v) (by omega) (by omega) (fun j hj => ?_) (fun m hm => ?_) m
      · by_cases w : it f j x = it f i x
        · rw [w, up_eq]
        · rw [up_ne _ _ w]
          by_cases e : j = i
          · rw [e] at w; exact absurd rfl w
          · exact h1 j (by omega)
      · rw [up_ne _ _ (fun w => hm i (by omega) w.symm)]
        exact h2 m (fun j hj => hm j (by omega))
section
variable {n : Nat} {sg lb nm fr to at_ : Nat → Int}
/-- marked edges: what goes on above is marked, too; what comes out below is marked when all such were walked from -/
def ArI (n : Nat) (fr to at_ : Nat → Int) (a : Nat → Int) : Prop := ∀ y, y < 2 * n → 0 ≤ a y → upTz to y = true → 0 ≤ a (nx to at_ y)
theorem ArI_aw (h : EdgA n sg lb nm fr to at_) {a : Nat → Int} (ha : ArI n fr to at_ a) {v : Int} (hv : 0 ≤ v) {x : Nat} (hx : x < 2 * n) (hl : loF fr x = true) : ArI n fr to at_ (aw (nx to at_) (upTz to) v (2 * n) x a) := by
  have hf := nx_closed h
  obtain ⟨t, t1, t2, t3⟩ := endsz h hx hl
  intro y hy h0 hu
  by_cases w : ∃ j, j ≤ t ∧ it (nx to at_) j x = y
  · obtain ⟨j, j1, j2⟩ := w
    have : j ≠ t := fun e => by rw [← j2, e, t2] at hu; cases hu
    rw [← j2, ← it_s (nx to at_) j x, aw_it (2 * n) x a (j + 1) (by omega) (fun i hi => t3 i (by omega))]
    exact hv
  · rw [aw_stop t (2 * n) x a y (by omega) t3 t2 (fun j hj e => w ⟨j, hj, e⟩)] at h0
    exact aw_ge hv _ _ _ _ (ha y hy h0 hu)
theorem ArI_1 (h : EdgA n sg lb nm fr to at_) : ∀ k, k ≤ 2 * n → ArI n fr to at_ (ar1 (nx to at_) (upTz to) (loF fr) (2 * n) k).1 ∧ ∀ y, y < k → loF fr y = true → 0 ≤ (ar1 (nx to at_) (upTz to) (loF fr) (2 * n) k).1 y := by
  intro k
  induction k with
  | zero => intro _; exact ⟨fun y _ h0 => by have h0 : (0 : Int) ≤ -1 := h0; omega, fun y hy => by omega⟩
  | succ k ih =>
    intro hk
    obtain ⟨i1, i2⟩ := ih (by omega)
    rw [ar1_s]
    by_cases c : loF fr k = true
    · rw [if_pos c]
      refine ⟨ArI_aw h i1 (by omega) (by omega) c, fun y hy hl => ?_⟩
      by_cases w : y = k
      · rw [w]
        show 0 ≤ aw (nx to at_) (upTz to) _ (2 * n) k _ k
        rw [aw_at]; omega
      · exact aw_ge (by omega) _ _ _ _ (i2 y (by omega) hl)
    · rw [if_neg c]
      refine ⟨i1, fun y hy hl => ?_⟩
      by_cases w : y = k
      · rw [w] at hl; exact absurd hl c
      · exact i2 y (by omega) hl
/-- an edge without a mark then: its whole round has none, and goes above -/
theorem free_round (h : EdgA n sg lb nm fr to at_) {a : Nat → Int} (h1 : ArI n fr to at_ a) (h2 : ∀ y, y < 2 * n → loF fr y = true → 0 ≤ a y) {x : Nat} (hx : x < 2 * n) (hax : a x < 0) : ∀ m, a (it (nx to at_) m x) < 0 ∧ upTz to (it (nx to at_) m x) = true := by
  have hf := nx_closed h
  obtain ⟨t, t1, t2, t3⟩ := backz h hx
  -- backwards: from it (j + 1) to it j
  have bk : ∀ y, y < 2 * n → a (nx to at_ y) < 0 → a y < 0 ∧ upTz to y = true := fun y hy hn => by
    have u : upTz to y = true := by
      cases e : upTz to y
      · have := nx_lo h hy
        rw [e] at this
        have := h2 _ (hf.1 y hy) this
        omega
      · rfl
    refine ⟨?_, u⟩
    rcases Int.lt_or_le (a y) 0 with w | w
    · exact w
    · have := h1 y hy w u; omega
  have down : ∀ d j, j + d = t → a (it (nx to at_) j x) < 0 := by
    intro d
    induction d with
    | zero => intro j hj; rw [show j = t by omega, t3]; exact hax
    | succ d ih =>
      intro j hj
      have := ih (j + 1) (by omega)
      rw [it_s] at this
      exact (bk _ (it_lt hf hx j) this).1
  have rep : ∀ m, ∃ j, j < t ∧ it (nx to at_) j x = it (nx to at_) m x := by
    intro m
    induction m using Nat.strongRecOn with
    | ind m ih =>
      by_cases w : m < t
      · exact ⟨m, w, rfl⟩
      · obtain ⟨j, j1, j2⟩ := ih (m - t) (by omega)
        refine ⟨j, j1, ?_⟩
        rw [j2, show m = (m - t) + t by omega, it_add, t3, show (m - t) + t - t = m - t by omega]
  have neg : ∀ m, a (it (nx to at_) m x) < 0 := fun m => by
    obtain ⟨j, j1, j2⟩ := rep m
    rw [← j2]; exact down (t - j) j (by omega)
  intro m
  refine ⟨neg m, ?_⟩
  have := neg (m + 1)
  rw [it_s] at this
  exact (bk _ (it_lt hf hx m) this).2
theorem mk_aw (h : EdgA n sg lb nm fr to at_) {a : Nat → Int} (h1 : ArI n fr to at_ a) (h2 : ∀ y, y < 2 * n → loF fr y = true → 0 ≤ a y) {x : Nat} (hx : x < 2 * n) (hax : a x < 0) {v : Int} (hv : 0 ≤ v) : ∀ y, (mkz (nx to at_) v (2 * n + 1) x a).1 y = aw (nx to at_) (upTz to) v (2 * n) x a y := by
  have hf := nx_closed h
  have fr2 := free_round h h1 h2 hx hax
  obtain ⟨t, t1, t2, t3⟩ := backz h hx
  have rep : ∀ m, ∃ j, j < t ∧ it (nx to at_) j x = it (nx to at_) m x := by
    intro m
    induction m using Nat.strongRecOn with
    | ind m ih =>
      by_cases w : m < t
      · exact ⟨m, w, rfl⟩
      · obtain ⟨j, j1, j2⟩ := ih (m - t) (by omega)
        refine ⟨j, j1, ?_⟩
        rw [j2, show m = (m - t) + t by omega, it_add, t3, show (m - t) + t - t = m - t by omega]
  intro y
  by_cases w : ∃ m, it (nx to at_) m x = y
  · obtain ⟨m, m1⟩ := w
    have := mk_orb hf hv hx (Uz (2 * n) a) (2 * n + 1) 0 a rfl (by have := U_le (2 * n) a; omega) (fun j hj => by omega) (fun m _ => (fr2 m).1) m
    rw [← m1]
    rw [show it (nx to at_) 0 x = x from rfl] at this
    rw [this]
    obtain ⟨j, j1, j2⟩ := rep m
    rw [← j2, aw_it (2 * n) x a j (by omega) (fun i _ => (fr2 i).2)]
  · rw [mk_only _ _ _ _ (fun j e => w ⟨j, e⟩), aw_only _ _ _ _ (fun j _ e => w ⟨j, e⟩)]
theorem ArI_2 (h : EdgA n sg lb nm fr to at_) : ∀ k, k ≤ 2 * n → ArI n fr to at_ (ar2 (nx to at_) (upTz to) (loF fr) (2 * n) k).1 ∧ (∀ y, y < 2 * n → loF fr y = true → 0 ≤ (ar2 (nx to at_) (upTz to) (loF fr) (2 * n) k).1 y) ∧ (∀ y, y < k → 0 ≤ (ar2 (nx to at_) (upTz to) (loF fr) (2 * n) k).1 y) := by
  have hf := nx_closed h
  intro k
  induction k with
  | zero => intro _; exact ⟨(ArI_1 h (2 * n) (Nat.le_refl _)).1, (ArI_1 h (2 * n) (Nat.le_refl _)).2, fun y hy => by omega⟩
  | succ k ih =>
    intro hk
    obtain ⟨i1, i2, i3⟩ := ih (by omega)
    rw [ar2_s]
    by_cases c : (ar2 (nx to at_) (upTz to) (loF fr) (2 * n) k).1 k < 0
    · rw [if_pos c]
      have hv : (0 : Int) ≤ ((ar2 (nx to at_) (upTz to) (loF fr) (2 * n) k).2 : Int) := by omega
      have e := mk_aw h i1 i2 (show k < 2 * n by omega) c hv
      have fr2 := free_round h i1 i2 (show k < 2 * n by omega) c
      refine ⟨fun y hy h0 hu => ?_, fun y hy hl => aw_ge hv _ _ _ _ (i2 y hy hl), fun y hy => ?_⟩
      · by_cases w : ∃ m, it (nx to at_) m k = y
        · obtain ⟨m, m1⟩ := w
          show 0 ≤ aw (nx to at_) (upTz to) _ (2 * n) k _ (nx to at_ y)
          rw [← e, ← m1, ← it_s (nx to at_) m k]
          have := mk_orb hf hv (show k < 2 * n by omega) (Uz (2 * n) (ar2 (nx to at_) (upTz to) (loF fr) (2 * n) k).1) (2 * n + 1) 0 (ar2 (nx to at_) (upTz to) (loF fr) (2 * n) k).1 rfl (by have := U_le (2 * n) (ar2 (nx to at_) (upTz to) (loF fr) (2 * n) k).1; omega) (fun j hj => by omega) (fun m _ => (fr2 m).1) (m + 1)
          rw [show it (nx to at_) 0 k = k from rfl] at this
          rw [this]; exact hv
        · have h0 : 0 ≤ aw (nx to at_) (upTz to) _ (2 * n) k _ y := h0
          rw [aw_only _ _ _ _ (fun j _ e => w ⟨j, e⟩)] at h0
          exact aw_ge hv _ _ _ _ (i1 y hy h0 hu)
      · by_cases w : y = k
        · rw [w]
          show 0 ≤ aw (nx to at_) (upTz to) _ (2 * n) k _ k
          rw [aw_at]; exact hv
        · exact aw_ge hv _ _ _ _ (i3 y (by omega))
    · rw [if_neg c]
      refine ⟨i1, i2, fun y hy => ?_⟩
      by_cases w : y = k
      · rw [w]; omega
      · exact i3 y (by omega)
/-- reference: one arc with endsz -/
theorem ma55 (fl : Nat) (hn : n ≤ 20) (h : EdgA n sg lb nm fr to at_) {fo : Nat → Int} (hfo : ∀ e, e < 2 * n → fo e = ((nx to at_ e : Nat) : Int)) (ci : Int) (kb : Int → Int → (Nat → Int) → Option (Int × (Nat → Int))) (x1 v : Int) (hv : 0 ≤ v ∧ v ≤ 100) (h1 : -100 ≤ x1 ∧ x1 ≤ 100) :
    ∀ (t nn x : Nat) (A : Nat → Int), t < nn → x < 2 * n → t ≤ 2 * n → (∀ i, i < t → upTz to (it (nx to at_) i x) = true) → upTz to (it (nx to at_) t x) = false → LB_Md_findArcs_55 fl ((2 * n : Nat) : Int) fr ci to fo kb nn x1 (x : Int) v A = kb (x1 + 1) (v + 1) (aw (nx to at_) (upTz to) v (2 * n) x A) := by
  intro t
  induction t with
  | zero =>
    intro nn x A hnn hx _ _ hP
    obtain ⟨nn, rfl⟩ : ∃ r, nn = r + 1 := ⟨nn - 1, by omega⟩
    obtain ⟨_, _, t1, t2, _⟩ := fr_ok h hx
    have hP2 : upTz to x = false := hP
    have u : ¬ (to x).toNat % 2 = 1 := by unfold upTz at hP2; simpa using hP2
    rw [LB_Md_findArcs_55, if_pos (by omega), Int.toNat_natCast, (isU fl t1).2, Option.bind_some, if_neg u, if_pos rfl, if_pos (by omega)]
    unfold LB_Md_findArcs_107
    rw [if_pos (by omega), aw_more 0 (2 * n) 0 x A (by omega) (by omega) (fun i hi => by omega) hP]
    rfl
  | succ t ih =>
    intro nn x A hnn hx ht h1' h2
    obtain ⟨nn, rfl⟩ : ∃ r, nn = r + 1 := ⟨nn - 1, by omega⟩
    obtain ⟨_, _, t1, t2, _⟩ := fr_ok h hx
    have p0 : upTz to x = true := h1' 0 (by omega)
    have u : (to x).toNat % 2 = 1 := by unfold upTz at p0; simpa using p0
    rw [LB_Md_findArcs_55, if_pos (by omega), Int.toNat_natCast, (isU fl t1).2, Option.bind_some, if_pos u, if_neg (by decide), hfo x hx]
    rw [ih nn (nx to at_ x) (up A x v) (by omega) ((nx_ok h hx).1) (by omega) (fun i hi => by rw [it_f, ← it_s (nx to at_) i x]; exact h1' (i + 1) (by omega)) (by rw [it_f, ← it_s (nx to at_) t x]; exact h2)]
    rw [aw_more (t + 1) (2 * n) (2 * n + 1) x A (by omega) (by omega) h1' h2, aw_s, if_pos p0]
theorem ma115 (fl : Nat) (hfl : 200 ≤ fl) (hn : n ≤ 20) (h : EdgA n sg lb nm fr to at_) {fo : Nat → Int} (hfo : ∀ e, e < 2 * n → fo e = ((nx to at_ e : Nat) : Int)) {ci : Int} (hci : 0 ≤ ci ∧ ci ≤ 100) : ∀ (r nn k : Nat) (A : Nat → Int), k + r = 2 * n → r < nn → like (2 * n) A (ar2 (nx to at_) (upTz to) (loF fr) (2 * n) k).1 → ∃ A', LB_Md_findArcs_115 fl ((2 * n : Nat) : Int) fr ci to fo nn (k : Int) ((ar2 (nx to at_) (upTz to) (loF fr) (2 * n) k).2 : Int) A = some ((arcN n fr to at_ : Int) + ci, A') ∧ like (2 * n) A' (arcA n fr to at_) := by
  have hf := nx_closed h
  intro r
  induction r with
  | zero =>
    intro nn k A hr hnn hA
    obtain ⟨nn, rfl⟩ : ∃ r, nn = r + 1 := ⟨nn - 1, by omega⟩
    have : k = 2 * n := by omega
    subst this
    have le := ar2_le (nx to at_) (upTz to) (loF fr) (2 * n) (2 * n)
    rw [LB_Md_findArcs_115, if_pos (by omega), if_pos (by omega)]
    exact ⟨A, rfl, hA⟩
  | succ r ih =>
    intro nn k A hr hnn hA
    obtain ⟨nn, rfl⟩ : ∃ r, nn = r + 1 := ⟨nn - 1, by omega⟩
    have le := ar2_le (nx to at_) (upTz to) (loF fr) (2 * n) k
    have inv := ArI_2 h k (by omega)
    rw [LB_Md_findArcs_115, if_neg (by omega), if_pos (by omega), Int.toNat_natCast, hA k (by omega)]
    by_cases c : (ar2 (nx to at_) (upTz to) (loF fr) (2 * n) k).1 k < 0
    · rw [if_pos c]
      have hv : (0 : Int) ≤ ((ar2 (nx to at_) (upTz to) (loF fr) (2 * n) k).2 : Int) := by omega
      have ul := U_le (2 * n) (ar2 (nx to at_) (upTz to) (loF fr) (2 * n) k).1
      obtain ⟨x', A', hx', L1, L2⟩ := mk_loop (N := 2 * n) (f := nx to at_) hv hf.1 (fun nn' x t A => LB_Md_findArcs_137 fl ((2 * n : Nat) : Int) fr ci to fo (LB_Md_findArcs_115 fl ((2 * n : Nat) : Int) fr ci to fo nn) nn' (k : Int) (x : Int) ((ar2 (nx to at_) (upTz to) (loF fr) (2 * n) k).2 : Int) A)
        (fun x t A => LB_Md_findArcs_176 fl ((2 * n : Nat) : Int) fr ci to fo (LB_Md_findArcs_115 fl ((2 * n : Nat) : Int) fr ci to fo nn) (k : Int) (((ar2 (nx to at_) (upTz to) (loF fr) (2 * n) k).2 : Int) + 1) A)
        (fun nn' x t A hx ht hA => by rw [LB_Md_findArcs_137, if_pos (by omega), Int.toNat_natCast, if_pos hA, if_pos (by omega)])
        (fun nn' x t A hx ht hA => by rw [LB_Md_findArcs_137, if_pos (by omega), Int.toNat_natCast, if_neg (by omega), hfo x hx])
        (Uz (2 * n) (ar2 (nx to at_) (upTz to) (loF fr) (2 * n) k).1) (2 * n + 1) fl k 0 A (ar2 (nx to at_) (upTz to) (loF fr) (2 * n) k).1 rfl (by omega) (by omega) (by omega) (by omega) hA
      rw [L1]
      unfold LB_Md_findArcs_176
      rw [if_pos (by omega), show ((k : Int) + 1) = ((k + 1 : Nat) : Int) by omega]
      have e := mk_aw h inv.1 inv.2.1 (show k < 2 * n by omega) c hv
      have := ih nn (k + 1) A' (by omega) (by omega) (by
        rw [ar2_s, if_pos c]
        intro y hy
        rw [L2 y hy, e])
      rw [ar2_s, if_pos c] at this
      rw [show (((ar2 (nx to at_) (upTz to) (loF fr) (2 * n) k).2 : Nat) : Int) + 1 = (((ar2 (nx to at_) (upTz to) (loF fr) (2 * n) k).2 + 1 : Nat) : Int) by omega]
      exact this
    · rw [if_neg c]
      unfold LB_Md_findArcs_176
      rw [if_pos (by omega), show ((k : Int) + 1) = ((k + 1 : Nat) : Int) by omega]
      have := ih nn (k + 1) A (by omega) (by omega) (by rw [ar2_s, if_neg c]; exact hA)
      rw [ar2_s, if_neg c] at this
      exact this
theorem ma30 (fl : Nat) (hfl : 200 ≤ fl) (hn : n ≤ 20) (h : EdgA n sg lb nm fr to at_) {fo : Nat → Int} (hfo : ∀ e, e < 2 * n → fo e = ((nx to at_ e : Nat) : Int)) {ci : Int} (hci : 0 ≤ ci ∧ ci ≤ 100) : ∀ (r nn k : Nat) (A : Nat → Int), k + r = 2 * n → r < nn → like (2 * n) A (ar1 (nx to at_) (upTz to) (loF fr) (2 * n) k).1 → ∃ A', LB_Md_findArcs_30 fl ((2 * n : Nat) : Int) fr ci to fo nn (k : Int) ((ar1 (nx to at_) (upTz to) (loF fr) (2 * n) k).2 : Int) A = some ((arcN n fr to at_ : Int) + ci, A') ∧ like (2 * n) A' (arcA n fr to at_) := by
  intro r
  induction r with
  | zero =>
    intro nn k A hr hnn hA
    obtain ⟨nn, rfl⟩ : ∃ r, nn = r + 1 := ⟨nn - 1, by omega⟩
    have : k = 2 * n := by omega
    subst this
    rw [LB_Md_findArcs_30, if_pos (by omega)]
    exact ma115 fl hfl hn h hfo hci (2 * n) fl 0 A (by omega) (by omega) hA
  | succ r ih =>
    intro nn k A hr hnn hA
    obtain ⟨nn, rfl⟩ : ∃ r, nn = r + 1 := ⟨nn - 1, by omega⟩
    have le := ar1_le (nx to at_) (upTz to) (loF fr) (2 * n) k
    obtain ⟨f1, f2, _⟩ := fr_ok h (show k < 2 * n by omega)
    rw [LB_Md_findArcs_30, if_neg (by omega), if_pos (by omega), Int.toNat_natCast, (isU fl f1).2, Option.bind_some]
    by_cases u : (fr k).toNat % 2 = 1
    · have q : ¬ loF fr k = true := by unfold loF; simp [u]
      rw [if_pos u, if_neg (by decide)]
      unfold LB_Md_findArcs_107
      rw [if_pos (by omega), show ((k : Int) + 1) = ((k + 1 : Nat) : Int) by omega]
      have := ih nn (k + 1) A (by omega) (by omega) (by rw [ar1_s, if_neg q]; exact hA)
      rw [ar1_s, if_neg q] at this
      exact this
    · have q : loF fr k = true := by unfold loF; simp; omega
      obtain ⟨t, t1, t2, t3⟩ := endsz h (show k < 2 * n by omega) q
      rw [if_neg u, if_pos rfl, ma55 fl hn h hfo ci _ (k : Int) _ (by omega) (by omega) t fl k A (by omega) (by omega) (by omega) t3 t2, show ((k : Int) + 1) = ((k + 1 : Nat) : Int) by omega]
      have := ih nn (k + 1) (aw (nx to at_) (upTz to) ((ar1 (nx to at_) (upTz to) (loF fr) (2 * n) k).2 : Int) (2 * n) k A) (by omega) (by omega) (by rw [ar1_s, if_pos q]; exact aw_like _ _ hA)
      rw [ar1_s, if_pos q] at this
      rw [show (((ar1 (nx to at_) (upTz to) (loF fr) (2 * n) k).2 : Nat) : Int) + 1 = (((ar1 (nx to at_) (upTz to) (loF fr) (2 * n) k).2 + 1 : Nat) : Int) by omega]
      exact this
theorem ma7 (fl : Nat) (hfl : 200 ≤ fl) (hn : n ≤ 20) (h : EdgA n sg lb nm fr to at_) {fo : Nat → Int} (hfo : ∀ e, e < 2 * n → fo e = ((nx to at_ e : Nat) : Int)) {ci : Int} (hci : 0 ≤ ci ∧ ci ≤ 100) : ∀ (r nn k : Nat) (A : Nat → Int), k + r = 2 * n → r < nn → (∀ y, y < k → A y = -1) → ∃ A', LB_Md_findArcs_7 fl ((2 * n : Nat) : Int) fr ci to fo nn (k : Int) 0 A = some ((arcN n fr to at_ : Int) + ci, A') ∧ like (2 * n) A' (arcA n fr to at_) := by
  intro r
  induction r with
  | zero =>
    intro nn k A hr hnn hA
    obtain ⟨nn, rfl⟩ : ∃ r, nn = r + 1 := ⟨nn - 1, by omega⟩
    rw [LB_Md_findArcs_7, if_pos (by omega)]
    exact ma30 fl hfl hn h hfo hci (2 * n) fl 0 A (by omega) (by omega) (fun y hy => hA y (by omega))
  | succ r ih =>
    intro nn k A hr hnn hA
    obtain ⟨nn, rfl⟩ : ∃ r, nn = r + 1 := ⟨nn - 1, by omega⟩
    rw [LB_Md_findArcs_7, if_neg (by omega), if_pos (by omega), if_pos (by omega), Int.toNat_natCast, show ((k : Int) + 1) = ((k + 1 : Nat) : Int) by omega]
    refine ih nn (k + 1) _ (by omega) (by omega) (fun y hy => ?_)
    by_cases w : y = k
    · rw [w, up_eq]
    · rw [up_ne _ _ w]; exact hA y (by omega)
theorem M_findArcs (fl : Nat) (hfl : 200 ≤ fl) (hn : n ≤ 20) (h : EdgA n sg lb nm fr to at_) {fo : Nat → Int} (hfo : ∀ e, e < 2 * n → fo e = ((nx to at_ e : Nat) : Int)) {ci : Int} (hci : 0 ≤ ci ∧ ci ≤ 100) (ar : Int) (A : Nat → Int) : ∃ A', LM_Md_findArcs fl ((2 * n : Nat) : Int) fr ci to fo ar A = some ((arcN n fr to at_ : Int) + ci, A') ∧ like (2 * n) A' (arcA n fr to at_) := by
  unfold LM_Md_findArcs LB_Md_findArcs_0
  exact ma7 fl hfl hn h hfo hci (2 * n) fl 0 A (by omega) (by omega) (fun y hy => by omega)
end
