def ufS (a b : Nat → Nat) (sel : Nat → Bool) : Nat → Nat → Nat
  | 0, c => c
  | e + 1, c => if sel e = true then mrg (ufS a b sel e (a e)) (ufS a b sel e (b e)) (ufS a b sel e c) else ufS a b sel e c
section
variable {a b : Nat → Nat} {sel : Nat → Bool}
theorem uf_y {e : Nat} (h : sel e = true) (c : Nat) : ufS a b sel (e + 1) c = mrg (ufS a b sel e (a e)) (ufS a b sel e (b e)) (ufS a b sel e c) := if_pos h
theorem uf_n {e : Nat} (h : ¬ sel e = true) (c : Nat) : ufS a b sel (e + 1) c = ufS a b sel e c := if_neg h
theorem uf_idem : ∀ e c, ufS a b sel e (ufS a b sel e c) = ufS a b sel e c := by
  intro e
  induction e with
  | zero => intro c; rfl
  | succ e ih =>
    intro c
    by_cases s : sel e = true
    · rw [uf_y s, uf_y s]
      exact mrg_idem ih (ih _) (ih _) c
    · rw [uf_n s, uf_n s]; exact ih c
theorem mrg_2 (x y : Nat) : mrg x y x = min x y ∧ mrg x y y = min x y := by
  unfold mrg; rw [if_pos (Or.inl rfl), if_pos (Or.inr rfl)]; exact ⟨rfl, rfl⟩
theorem uf_adj : ∀ e f, f < e → sel f = true → ufS a b sel e (a f) = ufS a b sel e (b f) := by
  intro e
  induction e with
  | zero => intro f hf; omega
  | succ e ih =>
    intro f hf hs
    by_cases s : sel e = true
    · rw [uf_y s, uf_y s]
      by_cases c : f = e
      · subst c; rw [(mrg_2 _ _).1, (mrg_2 _ _).2]
      · rw [ih f (by omega) hs]
    · have : f ≠ e := fun x => s (by rw [← x]; exact hs)
      rw [uf_n s, uf_n s]; exact ih f (by omega) hs
theorem uf_le : ∀ e c, ufS a b sel e c ≤ c := by
  intro e
  induction e with
  | zero => intro c; exact Nat.le_refl _
  | succ e ih =>
    intro c
    by_cases s : sel e = true
    · rw [uf_y s]
      have := ih c
      unfold mrg
      split
      · next x => rcases x with x | x <;> omega
      · exact this
    · rw [uf_n s]; exact ih c
/-- values with given differences along the chosen pairs, where each of these joins two classes -/
theorem uf_pot (om : Nat → Int) : ∀ E, (∀ e, e < E → sel e = true → ufS a b sel e (a e) ≠ ufS a b sel e (b e)) → ∃ P : Nat → Int, ∀ e, e < E → sel e = true → P (a e) - P (b e) = om e := by
  intro E
  induction E with
  | zero => intro _; exact ⟨fun _ => 0, fun e he => by omega⟩
  | succ E ih =>
    intro h
    obtain ⟨P, hP⟩ := ih (fun e he => h e (by omega))
    by_cases s : sel E = true
    · have hn := h E (by omega) s
      refine ⟨fun x => if ufS a b sel E x = ufS a b sel E (a E) then P x + (om E - (P (a E) - P (b E))) else P x, fun e he hs => ?_⟩
      show (if _ then _ else _) - (if _ then _ else _) = _
      by_cases c : e = E
      · subst c
        rw [if_pos rfl, if_neg (fun x => hn x.symm)]; omega
      · have := hP e (by omega) hs
        rw [uf_adj E e (by omega) hs]
        by_cases k : ufS a b sel E (b e) = ufS a b sel E (a E)
        · rw [if_pos k, if_pos k]; omega
        · rw [if_neg k, if_neg k]; exact this
    · refine ⟨P, fun e he hs => ?_⟩
      by_cases c : e = E
      · subst c; exact absurd hs s
      · exact hP e (by omega) hs
end
theorem cnt_imp {p r : Nat → Bool} : ∀ {m : Nat}, (∀ q, q < m → p q = true → r q = true) → cntP p m ≤ cntP r m := by
  intro m
  induction m with
  | zero => intro _; exact Nat.le_refl _
  | succ m ih =>
    intro h
    rw [cnt_s, cnt_s]
    have := ih (fun q hq => h q (by omega))
    cases c : p m
    · simp; omega
    · rw [h m (by omega) c]; simp; omega
theorem cnt_ex (p : Nat → Bool) (x m : Nat) : cntP p m ≤ cntP (fun q => p q && q != x) m + 1 := by
  by_cases h : x < m ∧ p x = true
  · exact Nat.le_of_eq (cnt_rm h.2 h.1)
  · have : cntP p m ≤ cntP (fun q => p q && q != x) m := cnt_imp (fun q hq hp => by
      have : q ≠ x := fun e => h ⟨by omega, by rw [← e]; exact hp⟩
      simp [hp, this])
    omega
theorem cnt_inj {n : Nat} {g : Nat → Nat} {p : Nat → Bool} : ∀ (F : Nat) (r : Nat → Bool), (∀ f, f < F → p f = true → g f < n ∧ r (g f) = true) → (∀ f f', f < F → f' < F → p f = true → p f' = true → g f = g f' → f = f') → cntP p F ≤ cntP r n := by
  intro F
  induction F with
  | zero => intro r _ _; exact Nat.zero_le _
  | succ F ih =>
    intro r h1 h2
    rw [cnt_s]
    cases c : p F
    · have := ih r (fun f hf => h1 f (by omega)) (fun f f' hf hf' => h2 f f' (by omega) (by omega))
      simp; exact this
    · obtain ⟨g1, g2⟩ := h1 F (by omega) c
      rw [cnt_rm g2 g1]
      have := ih (fun q => r q && q != g F) (fun f hf hp => by
        obtain ⟨x1, x2⟩ := h1 f (by omega) hp
        refine ⟨x1, ?_⟩
        have : g f ≠ g F := fun e => by have := h2 f F (by omega) (by omega) hp c e; omega
        simp [x2, this]) (fun f f' hf hf' => h2 f f' (by omega) (by omega))
      simp; exact this
theorem cnt_fib {n : Nat} (p : Nat → Nat) : ∀ K, (∀ f, f < K → p f < n) → smz (fun r => ((cntP (fun f => p f == r) K : Nat) : Int)) n = (K : Int) := by
  intro K
  induction K with
  | zero => intro _; exact sm_zero (fun x _ => rfl)
  | succ K ih =>
    intro h
    have e : smz (fun r => ((cntP (fun f => p f == r) (K + 1) : Nat) : Int)) n = smz (fun r => ((cntP (fun f => p f == r) K : Nat) : Int) + (if p K = r then 1 else 0)) n := sm_congr (fun r _ => by
      show ((cntP _ (K + 1) : Nat) : Int) = _
      rw [cnt_s]
      by_cases c : p K = r
      · simp [c]
      · simp [c])
    rw [e, sm_add, ih (fun f hf => h f (by omega)), sm_one (h K (by omega)) (fun y _ hy => if_neg (fun x => hy x.symm)), if_pos rfl]
    omega
section
variable {a b : Nat → Nat} {sel : Nat → Bool}
theorem uf_cls (N : Nat) : ∀ E, N ≤ cntP (fun c => ufS a b sel E c == c) N + cntP (fun e => sel e && ufS a b sel e (a e) != ufS a b sel e (b e)) E := by
  intro E
  induction E with
  | zero =>
    have : cntP (fun c => ufS a b sel 0 c == c) N = N := by
      have h0 : ∀ m, cntP (fun c => ufS a b sel 0 c == c) m = m := by
        intro m
        induction m with
        | zero => rfl
        | succ m ih => rw [cnt_s, ih]; have : (ufS a b sel 0 m == m) = true := by show (m == m) = true; simp
                       simp [this]
      exact h0 N
    omega
  | succ E ih =>
    rw [cnt_s]
    by_cases s : sel E = true
    · by_cases m : ufS a b sel E (a E) = ufS a b sel E (b E)
      · have : cntP (fun c => ufS a b sel E c == c) N ≤ cntP (fun c => ufS a b sel (E + 1) c == c) N := cnt_imp (fun q hq hp => by
          have hp : ufS a b sel E q = q := by simpa using hp
          have : ufS a b sel (E + 1) q = q := by
            rw [uf_y s, m, hp]; unfold mrg; split
            · next x => rcases x with x | x <;> omega
            · rfl
          simp [this])
        simp [m]; omega
      · have : cntP (fun c => ufS a b sel E c == c) N ≤ cntP (fun c => ufS a b sel (E + 1) c == c) N + 1 := by
          refine Nat.le_trans (cnt_ex _ (max (ufS a b sel E (a E)) (ufS a b sel E (b E))) N) (Nat.add_le_add_right (cnt_imp (fun q hq hp => ?_)) 1)
          have hp : ufS a b sel E q = q ∧ q ≠ max (ufS a b sel E (a E)) (ufS a b sel E (b E)) := by simpa using hp
          have : ufS a b sel (E + 1) q = q := by
            rw [uf_y s, hp.1]; unfold mrg; split
            · next x => rcases x with x | x <;> omega
            · rfl
          simp [this]
        have t : (sel E && ufS a b sel E (a E) != ufS a b sel E (b E)) = true := by simp [s, m]
        rw [t]
        simp only [if_true]
        omega
    · have : cntP (fun c => ufS a b sel (E + 1) c == c) N = cntP (fun c => ufS a b sel E c == c) N := cnt_congr (fun q _ => by rw [uf_n s])
      have t : (sel E && ufS a b sel E (a E) != ufS a b sel E (b E)) = false := by simp [s]
      rw [t, this]
      simp only [Bool.false_eq_true, if_false]
      omega
/-- with few classes left, each chosen pair joins two -/
theorem uf_all {N E C : Nat} (hC : cntP (fun c => ufS a b sel E c == c) N ≤ C) (hs : cntP sel E + C ≤ N) : ∀ e, e < E → sel e = true → ufS a b sel e (a e) ≠ ufS a b sel e (b e) := by
  intro e he s m
  have h1 := uf_cls (a := a) (b := b) (sel := sel) N E
  have h2 := cnt_rm s he
  have h3 : cntP (fun e => sel e && ufS a b sel e (a e) != ufS a b sel e (b e)) E ≤ cntP (fun q => sel q && q != e) E := cnt_imp (fun q hq hp => by
    have hp : sel q = true ∧ ufS a b sel q (a q) ≠ ufS a b sel q (b q) := by simpa using hp
    have : q ≠ e := fun x => by rw [x] at hp; exact hp.2 m
    simp [hp.1, this])
  omega
end
section
variable {n : Nat} {sg lb nm fr to at_ : Nat → Int}
theorem lvd_dep (h : EdgA n sg lb nm fr to at_) {g : Nat} (hg : g < 4 * n) : lvd fr at_ (dep fr to g) = g := by
  obtain ⟨p, q, b1, b2, b3, b4, b5, b6, b7, b8, b9, b10⟩ := Edg_fr h (show g / 2 < 2 * n by omega)
  unfold dep lvd
  by_cases c : g % 2 = 0
  · rw [if_pos c, b3, Int.toNat_natCast, b7, Int.toNat_natCast, b3, if_pos rfl]; omega
  · have hpq : ¬ ((p : Int) = (q : Int)) := fun e => by
      have : p = q := by omega
      rw [this, b6] at b5; cases b5
    rw [if_neg c, b4, Int.toNat_natCast, b8, Int.toNat_natCast, b3, if_neg hpq]; omega
theorem pc_const {α : Type} (V : Nat → α) : ∀ E, (∀ e, e < E → V ((fr e).toNat / 4) = V ((to e).toNat / 4)) → ∀ c, V (pcF fr to E c) = V c := by
  intro E
  induction E with
  | zero => intro _ c; rfl
  | succ E ih =>
    intro h c
    have ih' := ih (fun e he => h e (by omega))
    rw [pcF_s]
    unfold mrg
    have e1 := ih' ((fr E).toNat / 4)
    have e2 := ih' ((to E).toNat / 4)
    have e3 := h E (by omega)
    split
    · next x =>
      rcases Nat.le_total (pcF fr to E ((fr E).toNat / 4)) (pcF fr to E ((to E).toNat / 4)) with y | y
      · rw [Nat.min_eq_left y, e1]
        rcases x with x | x
        · rw [← ih' c, x, e1]
        · rw [← ih' c, x, e2, e3]
      · rw [Nat.min_eq_right y, e2]
        rcases x with x | x
        · rw [← ih' c, x, e1, e3]
        · rw [← ih' c, x, e2]
    · exact ih' c
def cotr (fr to : Nat → Int) (e : Nat) : Bool := decide (pcF fr to e ((fr e).toNat / 4) = pcF fr to e ((to e).toNat / 4))
theorem cot_cnt (h : EdgA n sg lb nm fr to at_) : ∀ E, E ≤ 2 * n → pcs fr to n E + E = n + cntP (cotr fr to) E := by
  intro E
  induction E with
  | zero => intro _; rw [pcs_0]; rfl
  | succ E ih =>
    intro hE
    have := ih (by omega)
    rw [cnt_s]
    obtain ⟨_, p1, _, q1, _⟩ := fr_ok h (show E < 2 * n by omega)
    by_cases c : pcF fr to E ((fr E).toNat / 4) = pcF fr to E ((to E).toNat / 4)
    · rw [(pcs_same c).2]
      have : cotr fr to E = true := by unfold cotr; simp [c]
      rw [this]; simp; omega
    · have x := pcs_less (n := n) (by omega) (by omega) c
      have : cotr fr to E = false := by unfold cotr; simp [c]
      rw [this]; simp; omega
/-- a flow on a forest is none -/
theorem treeflow (h : EdgA n sg lb nm fr to at_) {x : Nat → Int} (hk : KP n sg (fun q => x (at_ q).toNat)) (hx : ∀ e, e < 2 * n → cotr fr to e = true → x e = 0) : ∀ e, e < 2 * n → x e = 0 := by
  have key : ∀ j, j ≤ 2 * n → ∀ e, 2 * n - j ≤ e → e < 2 * n → x e = 0 := by
    intro j
    induction j with
    | zero => intro _ e h1 h2; omega
    | succ j ih =>
      intro hj e h1 h2
      by_cases c : 2 * n - j ≤ e
      · exact ih (by omega) e c h2
      · cases ct : cotr fr to e
        · have hne : pcF fr to e ((fr e).toNat / 4) ≠ pcF fr to e ((to e).toNat / 4) := by
            intro w; unfold cotr at ct; simp [w] at ct
          have S := cutS h hk (fun c => if pcF fr to e c = pcF fr to e ((fr e).toNat / 4) then 1 else 0)
          have at2 : ∀ g, g < 2 * n → x (at_ (to g).toNat).toNat = x g ∧ x (at_ (fr g).toNat).toNat = x g := fun g hg => by
            obtain ⟨p, q, b1, b2, b3, b4, b5, b6, b7, b8, b9, b10⟩ := Edg_fr h hg
            rw [b3, b4, Int.toNat_natCast, Int.toNat_natCast, b7, b8, Int.toNat_natCast]; exact ⟨rfl, rfl⟩
          rw [sm_one h2 (fun y hy hye => ?_)] at S
          · simp only [(at2 e h2).1, (at2 e h2).2, if_neg (fun w : pcF fr to e ((to e).toNat / 4) = pcF fr to e ((fr e).toNat / 4) => hne w.symm), if_true] at S
            omega
          · simp only [(at2 y hy).1, (at2 y hy).2]
            by_cases l : y < e
            · rw [pcF_adj fr to e y l]; omega
            · rw [ih (by omega) y (by omega) hy]; omega
        · exact hx e h2 ct
  intro e he
  exact key (2 * n) (Nat.le_refl _) e (by omega) he
end
