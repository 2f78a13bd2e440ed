theorem pigeon {N : Nat} : ∀ {k : Nat} (g : Nat → Nat), (∀ j, j < k → g j < N) → (∀ i j, i < k → j < k → g i = g j → i = j) → k ≤ N := by
  have key : ∀ (k : Nat) (g : Nat → Nat), (∀ j, j < k → g j < N) → (∀ i j, i < k → j < k → g i = g j → i = j) → ∃ p : Nat → Bool, (∀ q, p q = true ↔ ∃ j, j < k ∧ g j = q) ∧ cntP p N = k := by
    intro k
    induction k with
    | zero => intro g _ _; exact ⟨fun _ => false, fun q => ⟨fun h => by simp at h, fun ⟨j, hj, _⟩ => by omega⟩, cnt_zero (fun _ _ => rfl)⟩
    | succ k ih =>
      intro g h1 h2
      obtain ⟨p, p1, p2⟩ := ih g (fun j hj => h1 j (by omega)) (fun i j hi hj => h2 i j (by omega) (by omega))
      refine ⟨fun q => p q || q == g k, fun q => ?_, ?_⟩
      · constructor
        · intro h
          simp at h
          rcases h with h | h
          · obtain ⟨j, j1, j2⟩ := (p1 q).1 h; exact ⟨j, by omega, j2⟩
          · exact ⟨k, by omega, h.symm⟩
        · intro ⟨j, j1, j2⟩
          by_cases w : j = k
          · simp [← j2, w]
          · have := (p1 q).2 ⟨j, by omega, j2⟩; simp [this]
      · rw [cnt_rm (x := g k) (by simp) (h1 k (by omega))]
        have : cntP (fun q => (p q || q == g k) && q != g k) N = cntP p N := cnt_congr (fun q _ => by
          by_cases w : q = g k
          · have : p q = false := by
              cases e : p q
              · rfl
              · obtain ⟨j, j1, j2⟩ := (p1 q).1 e
                have := h2 j k (by omega) (by omega) (by rw [j2, w]); omega
            have e1 : (q != g k) = false := by simp [w]
            rw [e1, Bool.and_false, this]
          · have e1 : (q == g k) = false := by simp [w]
            have e2 : (q != g k) = true := by simp [w]
            rw [e1, e2, Bool.or_false, Bool.and_true])
        rw [this, p2]
  intro k g h1 h2
  obtain ⟨p, _, p2⟩ := key k g h1 h2
  have := cnt_lez p N
  omega
theorem it_add (f : Nat → Nat) (a b x : Nat) : it f (a + b) x = it f a (it f b x) := by
  induction a with
  | zero => rw [Nat.zero_add]; rfl
  | succ a ih => rw [show a + 1 + b = (a + b) + 1 by omega, it_s, it_s, ih]
/-- rounds are no longer than what there is -/
theorem rnd_len {f : Nat → Nat} {N : Nat} (hf : closedz f N) {c : Nat} (hc : c < (rndz f N N).2.1) : (rndz f N N).2.2.2 c ≤ N ∧ (rndz f N N).2.2.1 c < N ∧ (∀ i j, i < (rndz f N N).2.2.2 c → j < (rndz f N N).2.2.2 c → it f i ((rndz f N N).2.2.1 c) = it f j ((rndz f N N).2.2.1 c) → i = j) := by
  obtain ⟨r1, r2, r3, r4, r5, r6⟩ := rnd_ok hf N (Nat.le_refl _)
  obtain ⟨a1, a2, a3, a4, a5, a6⟩ := r5 c hc
  have inj : ∀ i j, i < (rndz f N N).2.2.2 c → j < (rndz f N N).2.2.2 c → it f i ((rndz f N N).2.2.1 c) = it f j ((rndz f N N).2.2.1 c) → i = j := fun i j hi hj w => by
    rcases Nat.lt_trichotomy i j with x | x | x
    · have := it_inj hf a1 i (j - i) (by rw [w, show i + (j - i) = j by omega])
      exact absurd this (a5 _ (by omega) (by omega))
    · exact x
    · have := it_inj hf a1 j (i - j) (by rw [← w, show j + (i - j) = i by omega])
      exact absurd this (a5 _ (by omega) (by omega))
  exact ⟨pigeon (fun j => it f j ((rndz f N N).2.2.1 c)) (fun j _ => it_lt hf a1 j) inj, a1, inj⟩
/-- labels along a way -/
def wkz (fr to : Nat → Int) (f : Nat → Nat) : Nat → Nat → Int → (Nat → Int) → (Nat → Int)
  | 0, _, _, lb => lb
  | k + 1, x, l, lb => wkz fr to f k (f x) (l + 1) (up (up lb (fr x).toNat l) (to x).toNat l)
theorem wk_s (fr to : Nat → Int) (f : Nat → Nat) (k x : Nat) (l : Int) (lb : Nat → Int) : wkz fr to f (k + 1) x l lb = wkz fr to f k (f x) (l + 1) (up (up lb (fr x).toNat l) (to x).toNat l) := rfl
/-- what NUMBER makes of components 0 to c - 1 -/
def rnS (fr to : Nat → Int) (f : Nat → Nat) (st len : Nat → Nat) (lb : Nat → Int) : Nat → Int × (Nat → Int)
  | 0 => (1, lb)
  | c + 1 => ((rnS fr to f st len lb c).1 + (len c : Int), wkz fr to f (len c) (st c) (rnS fr to f st len lb c).1 (rnS fr to f st len lb c).2)
theorem rnS_s (fr to : Nat → Int) (f : Nat → Nat) (st len : Nat → Nat) (lb : Nat → Int) (c : Nat) : rnS fr to f st len lb (c + 1) = ((rnS fr to f st len lb c).1 + (len c : Int), wkz fr to f (len c) (st c) (rnS fr to f st len lb c).1 (rnS fr to f st len lb c).2) := rfl
theorem rnS_b (fr to : Nat → Int) (f : Nat → Nat) (st len : Nat → Nat) (lb : Nat → Int) {m : Nat} : ∀ c : Nat, (∀ k, k < c → len k ≤ m) → 1 ≤ (rnS fr to f st len lb c).1 ∧ (rnS fr to f st len lb c).1 ≤ 1 + ((c * m : Nat) : Int) := by
  intro c
  induction c with
  | zero => intro _; show (1 : Int) ≤ 1 ∧ (1 : Int) ≤ 1 + ((0 * m : Nat) : Int); rw [Nat.zero_mul]; decide
  | succ c ih =>
    intro h
    have := ih (fun k hk => h k (by omega))
    have hc := h c (by omega)
    rw [rnS_s, Nat.succ_mul]
    dsimp only
    omega
section
variable {n : Nat} {sg lb nm fr to at_ : Nat → Int}
/-- edges in V bear numbers of their own below l -/
def NumV (n : Nat) (fr to : Nat → Int) (V : Nat → Prop) (l : Int) (lb : Nat → Int) : Prop :=
  ∃ N : Nat → Int, (∀ e, V e → e < 2 * n ∧ lb (fr e).toNat = N e ∧ lb (to e).toNat = N e ∧ 1 ≤ N e ∧ N e < l) ∧ ∀ e f, V e → V f → N e = N f → e = f
theorem ends_ne (h : EdgA n sg lb nm fr to at_) {e f : Nat} (he : e < 2 * n) (hf : f < 2 * n) (hne : e ≠ f) : (fr e).toNat ≠ (fr f).toNat ∧ (fr e).toNat ≠ (to f).toNat ∧ (to e).toNat ≠ (fr f).toNat ∧ (to e).toNat ≠ (to f).toNat := by
  obtain ⟨_, _, _, _, a1, a2, a3, a4⟩ := fr_ok h he
  obtain ⟨_, _, _, _, b1, b2, b3, b4⟩ := fr_ok h hf
  have n0 : nm e ≠ nm f := fun w => hne (nm_inj h he hf w)
  exact ⟨fun w => n0 (by rw [← a4, ← b4, w]), (fun w => by rw [w, b1] at a3; cases a3), (fun w => by rw [w, b3] at a1; cases a1), fun w => n0 (by rw [← a2, ← b2, w])⟩
theorem Num_add (h : EdgA n sg lb nm fr to at_) {V : Nat → Prop} {l : Int} {B : Nat → Int} (hV : NumV n fr to V l B) (hl : 1 ≤ l) {x : Nat} (hx : x < 2 * n) (hn : ¬ V x) : NumV n fr to (fun e => V e ∨ e = x) (l + 1) (up (up B (fr x).toNat l) (to x).toNat l) := by
  obtain ⟨N, n1, n2⟩ := hV
  obtain ⟨_, _, _, _, a1, a2, a3, a4⟩ := fr_ok h hx
  have ft : (fr x).toNat ≠ (to x).toNat := fun w => by rw [w, a1] at a3; cases a3
  refine ⟨fun e => if e = x then l else N e, fun e he => ?_, fun e f he hf hl => ?_⟩
  · dsimp only
    by_cases w : e = x
    · rw [if_pos w, w]
      exact ⟨hx, by rw [up_ne _ _ ft, up_eq], by rw [up_eq], hl, by omega⟩
    · rw [if_neg w]
      rcases he with he | he
      · obtain ⟨b1, b2, b3, b4, b5⟩ := n1 e he
        obtain ⟨c1, c2, c3, c4⟩ := ends_ne h b1 hx w
        exact ⟨b1, by rw [up_ne _ _ c2, up_ne _ _ c1, b2], by rw [up_ne _ _ c4, up_ne _ _ c3, b3], b4, by omega⟩
      · exact absurd he w
  · dsimp only at hl
    by_cases w : e = x
    · by_cases w2 : f = x
      · rw [w, w2]
      · rcases hf with hf | hf
        · have := (n1 f hf).2.2.2.2
          rw [if_pos w, if_neg w2] at hl; omega
        · exact absurd hf w2
    · rcases he with he | he
      · by_cases w2 : f = x
        · have := (n1 e he).2.2.2.2
          rw [if_neg w, if_pos w2] at hl; omega
        · rcases hf with hf | hf
          · rw [if_neg w, if_neg w2] at hl; exact n2 e f he hf hl
          · exact absurd hf w2
      · exact absurd he w
theorem Num_iff {V W : Nat → Prop} {l : Int} {B : Nat → Int} (hV : NumV n fr to V l B) (h : ∀ e, W e → V e) : NumV n fr to W l B := by
  obtain ⟨N, n1, n2⟩ := hV
  exact ⟨N, fun e he => n1 e (h e he), fun e f he hf => n2 e f (h e he) (h f hf)⟩
theorem Num_wk (h : EdgA n sg lb nm fr to at_) {f : Nat → Nat} (hf : closedz f (2 * n)) : ∀ (k x : Nat) (l : Int) (B : Nat → Int) (V : Nat → Prop), x < 2 * n → 1 ≤ l → NumV n fr to V l B → (∀ j, j < k → ¬ V (it f j x)) → (∀ i j, i < k → j < k → it f i x = it f j x → i = j) → NumV n fr to (fun e => V e ∨ ∃ j, j < k ∧ it f j x = e) (l + (k : Int)) (wkz fr to f k x l B) := by
  intro k
  induction k with
  | zero =>
    intro x l B V hx hl hV _ _
    rw [show l + ((0 : Nat) : Int) = l by omega]
    exact Num_iff hV (fun e he => by
      rcases he with he | ⟨j, hj, _⟩
      · exact he
      · omega)
  | succ k ih =>
    intro x l B V hx hl hV h1 h2
    rw [wk_s, show l + ((k + 1 : Nat) : Int) = l + 1 + (k : Int) by omega]
    have := ih (f x) (l + 1) (up (up B (fr x).toNat l) (to x).toNat l) (fun e => V e ∨ e = x) (hf.1 x hx) (by omega) (Num_add h hV hl hx (h1 0 (by omega))) (fun j hj w => by
      rw [it_f] at w
      rcases w with w | w
      · exact h1 (j + 1) (by omega) w
      · have := h2 (j + 1) 0 (by omega) (by omega) w; omega) (fun i j hi hj w => by
      rw [it_f, it_f] at w
      have := h2 (i + 1) (j + 1) (by omega) (by omega) w; omega)
    refine Num_iff this (fun e he => ?_)
    rcases he with he | ⟨j, j1, j2⟩
    · exact Or.inl (Or.inl he)
    · by_cases w : j = 0
      · subst w; exact Or.inl (Or.inr j2.symm)
      · refine Or.inr ⟨j - 1, by omega, ?_⟩
        rw [it_f, ← it_s f (j - 1) x, show j - 1 + 1 = j by omega, j2]
/-- all edges numbered -/
theorem Num_all (h : EdgA n sg lb nm fr to at_) : NumV n fr to (fun e => e < 2 * n) (rnS fr to (nx to at_) (rndz (nx to at_) (2 * n) (2 * n)).2.2.1 (rndz (nx to at_) (2 * n) (2 * n)).2.2.2 lb (rndz (nx to at_) (2 * n) (2 * n)).2.1).1 (rnS fr to (nx to at_) (rndz (nx to at_) (2 * n) (2 * n)).2.2.1 (rndz (nx to at_) (2 * n) (2 * n)).2.2.2 lb (rndz (nx to at_) (2 * n) (2 * n)).2.1).2 := by
  have hf := nx_closed h
  obtain ⟨r1, r2, r3, r4, r5, r6⟩ := rnd_ok hf (2 * n) (Nat.le_refl _)
  have step : ∀ c, c ≤ (rndz (nx to at_) (2 * n) (2 * n)).2.1 → NumV n fr to (fun e => e < 2 * n ∧ (rndz (nx to at_) (2 * n) (2 * n)).1 e < (c : Int)) (rnS fr to (nx to at_) (rndz (nx to at_) (2 * n) (2 * n)).2.2.1 (rndz (nx to at_) (2 * n) (2 * n)).2.2.2 lb c).1 (rnS fr to (nx to at_) (rndz (nx to at_) (2 * n) (2 * n)).2.2.1 (rndz (nx to at_) (2 * n) (2 * n)).2.2.2 lb c).2 := by
    intro c
    induction c with
    | zero => intro _; exact ⟨fun _ => 0, fun e he => by have := r3 e he.1; omega, fun e f he _ _ => by have := r3 e he.1; omega⟩
    | succ c ih =>
      intro hc
      obtain ⟨a1, a2, a3, a4, a5, a6⟩ := r5 c (by omega)
      obtain ⟨l1, _, l3⟩ := rnd_len hf (show c < (rndz (nx to at_) (2 * n) (2 * n)).2.1 by omega)
      have cj : ∀ j, (rndz (nx to at_) (2 * n) (2 * n)).1 (it (nx to at_) j ((rndz (nx to at_) (2 * n) (2 * n)).2.2.1 c)) = (c : Int) := fun j => by
        induction j with
        | zero => exact a2
        | succ j ihj => rw [it_s, r1 _ (it_lt hf a1 j), ihj]
      rw [rnS_s]
      have := Num_wk h hf ((rndz (nx to at_) (2 * n) (2 * n)).2.2.2 c) ((rndz (nx to at_) (2 * n) (2 * n)).2.2.1 c) _ _ _ a1 (rnS_b fr to (nx to at_) _ _ lb c (fun k hk => (rnd_len hf (show k < (rndz (nx to at_) (2 * n) (2 * n)).2.1 by omega)).1)).1 (ih (by omega)) (fun j _ w => by have := w.2; rw [cj j] at this; omega) l3
      refine Num_iff this (fun e he => ?_)
      by_cases w : (rndz (nx to at_) (2 * n) (2 * n)).1 e < (c : Int)
      · exact Or.inl ⟨he.1, w⟩
      · exact Or.inr ((a6 e he.1 (by omega)).2)
  refine Num_iff (step _ (Nat.le_refl _)) (fun e he => ⟨he, ?_⟩)
  exact (r2 e he).2
end
def rnD (fr to at_ : Nat → Int) (d : Dg) : Dg := (d.1, d.2.1, (rnS fr to (nx to at_) (rndz (nx to at_) (2 * d.1) (2 * d.1)).2.2.1 (rndz (nx to at_) (2 * d.1) (2 * d.1)).2.2.2 d.2.2.1 (rndz (nx to at_) (2 * d.1) (2 * d.1)).2.1).2, d.2.2.2)
theorem okD_rn {d : Dg} (h : okD d) {nm fr to at_ : Nat → Int} (hE : EdgA d.1 d.2.2.2 d.2.2.1 nm fr to at_) : okD (rnD fr to at_ d) := by
  have hn := h.1
  have hf := nx_closed hE
  obtain ⟨r1, r2, r3, r4, r5, r6⟩ := rnd_ok hf (2 * d.1) (Nat.le_refl _)
  have hb := rnS_b fr to (nx to at_) (rndz (nx to at_) (2 * d.1) (2 * d.1)).2.2.1 (rndz (nx to at_) (2 * d.1) (2 * d.1)).2.2.2 d.2.2.1 (m := 40) (rndz (nx to at_) (2 * d.1) (2 * d.1)).2.1 (fun k hk => by have := (rnd_len hf hk).1; omega)
  have hm : (rndz (nx to at_) (2 * d.1) (2 * d.1)).2.1 * 40 ≤ 40 * 40 := Nat.mul_le_mul_right 40 (by omega)
  obtain ⟨N, n1, n2⟩ := Num_all hE
  have lab : ∀ q, q < 4 * d.1 → ∃ e, e < 2 * d.1 ∧ at_ q = (e : Int) ∧ (rnD fr to at_ d).2.2.1 q = N e := fun q hq => by
    obtain ⟨e, e1, e2, e3⟩ := hE.2.2 q hq
    obtain ⟨_, b2, b3, _⟩ := n1 e e1
    refine ⟨e, e1, e2, ?_⟩
    rcases e3 with e3 | e3
    · rw [e3, Int.toNat_natCast] at b2; exact b2
    · rw [e3, Int.toNat_natCast] at b3; exact b3
  refine ⟨h.1, h.2.1, h.2.2.1, fun q hq => ?_, fun q hq => ?_⟩
  · obtain ⟨e, e1, e2, e3⟩ := lab q hq
    have := (n1 e e1).2.2.2
    rw [e3]; omega
  · have hq : q < 4 * d.1 := hq
    obtain ⟨m, m1, m2, m3, m4⟩ := h.2.2.2.2 q hq
    have same : ∀ p, p < 4 * d.1 → ((rnD fr to at_ d).2.2.1 p = (rnD fr to at_ d).2.2.1 q ↔ d.2.2.1 p = d.2.2.1 q) := fun p hp => by
      obtain ⟨e, e1, e2, e3⟩ := lab p hp
      obtain ⟨f, f1, f2, f3⟩ := lab q hq
      obtain ⟨e', e1', e2', e3', _⟩ := Edg_at hE hp
      obtain ⟨f', f1', f2', f3', _⟩ := Edg_at hE hq
      have ee : e' = e := by omega
      have ff : f' = f := by omega
      subst ee ff
      rw [e3, f3, e3', f3']
      constructor
      · intro w; rw [n2 e' f' e1 f1 w]
      · intro w; rw [nm_inj hE e1 f1 w]
    exact ⟨m, m1, (same m m1).2 m2, m3, fun p hp hl => m4 p hp ((same p hp).1 hl)⟩
