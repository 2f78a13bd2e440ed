/-- one crossing split: first 0 (A) or 1 (B) -/
def stp (c f : Nat) (s : (Nat → Nat) × Nat) : (Nat → Nat) × Nat :=
  (jn (jn s.1 (4 * c + f) (4 * c + (f + 1))) (4 * c + (f + 2)) (4 * c + (f + 3) % 4), s.2 + (if s.1 (4 * c + f) = 4 * c + (f + 1) then 1 else 0) + (if jn s.1 (4 * c + f) (4 * c + (f + 1)) (4 * c + (f + 2)) = 4 * c + (f + 3) % 4 then 1 else 0))
def cf : Nat → Nat → (Nat → Nat) × Nat → Nat → Nat
  | 0, _, s, _ => s.2
  | r + 1, c, s, y => cf r (c + 1) (stp c (if y % 2 = 1 then 0 else 1) s) (y / 2)
theorem cf_s (r c : Nat) (s : (Nat → Nat) × Nat) (y : Nat) : cf (r + 1) c s y = cf r (c + 1) (stp c (if y % 2 = 1 then 0 else 1) s) (y / 2) := rfl
def opn (n c p : Nat) : Prop := 4 * c ≤ p ∧ p < 4 * n
theorem Mat_eq {O P : Nat → Prop} {μ : Nat → Nat} (h : Mat O μ) (e : ∀ p, O p ↔ P p) : Mat P μ := fun p hp => by
  obtain ⟨a, b, c⟩ := h p ((e p).2 hp)
  exact ⟨(e _).1 a, b, c⟩
theorem Cls_eq {O P : Nat → Prop} {μ ed ρ : Nat → Nat} (h : Cls O μ ed ρ) (e : ∀ p, O p ↔ P p) : Cls P μ ed ρ := fun p q hp hq => h p q ((e p).2 hp) ((e q).2 hq)
theorem opn_4 {n c f : Nat} (hf : f < 2) (p : Nat) : ((opn n c p ∧ p ≠ 4 * c + f ∧ p ≠ 4 * c + (f + 1)) ∧ p ≠ 4 * c + (f + 2) ∧ p ≠ 4 * c + (f + 3) % 4) ↔ opn n (c + 1) p := by
  unfold opn
  have : f = 0 ∨ f = 1 := by omega
  rcases this with e | e <;> subst e <;> omega
theorem stp_Mat {n c f : Nat} (hf : f < 2) (hc : c < n) {s : (Nat → Nat) × Nat} (h : Mat (opn n c) s.1) : Mat (opn n (c + 1)) (stp c f s).1 := by
  have o : ∀ k, k < 4 → opn n c (4 * c + k) := fun k hk => by unfold opn; omega
  have h1 := jn_Mat h (o f (by omega)) (o (f + 1) (by omega)) (by omega)
  have h2 := jn_Mat h1 (a := 4 * c + (f + 2)) (b := 4 * c + (f + 3) % 4) ⟨o _ (by omega), by omega, by omega⟩ ⟨o _ (by omega), by omega, by omega⟩ (by omega)
  exact Mat_eq h2 (fun p => opn_4 hf p)
theorem stp_le (c f : Nat) (s : (Nat → Nat) × Nat) : s.2 ≤ (stp c f s).2 ∧ (stp c f s).2 ≤ s.2 + 2 := by
  unfold stp
  show s.2 ≤ s.2 + (if _ then 1 else 0) + (if _ then 1 else 0) ∧ s.2 + (if _ then 1 else 0) + (if _ then 1 else 0) ≤ s.2 + 2
  split <;> split <;> omega
theorem cf_le : ∀ (r c : Nat) (s : (Nat → Nat) × Nat) (y : Nat), cf r c s y ≤ s.2 + 2 * r := by
  intro r
  induction r with
  | zero => intro c s y; exact Nat.le_refl _
  | succ r ih =>
    intro c s y
    rw [cf_s]
    have a := ih (c + 1) (stp c (if y % 2 = 1 then 0 else 1) s) (y / 2)
    have b := (stp_le c (if y % 2 = 1 then 0 else 1) s).2
    omega
section
variable {n : Nat} {ed : Nat → Nat} {pl : Nat → Int}
/-- one join in the reference -/
theorem ci68 (fl : Nat) (hfl : 200 ≤ fl) (hn : n ≤ 10) (hpl : ∀ q, q < 4 * n → pl q = (ed q : Int) ∧ ed q < 2 * n) (E dn ci : Int) (kb : Int → Int → Int → (Nat → Int) → Option (Int × (Nat → Int))) {c f : Nat} (hf : f < 2) (hc : c < n) (st : Int) {s : (Nat → Nat) × Nat} (hM : Mat (opn n c) s.1) {rt : Nat → Int} {ρ : Nat → Nat} {D : Nat} (hD : D ≤ 50) (hR : RtI (2 * n) rt ρ D) (hC : Cls (opn n c) s.1 ed ρ) (hs : s.2 ≤ 100) (nn : Nat) (hnn : 5 ≤ nn) :
    ∃ rt' ρ', LB_Md_circlesOf_68 fl E dn ci pl kb nn st ((2 * (n - c) + s.2 : Nat) : Int) (c : Int) (f : Int) 0 rt = kb st ((2 * (n - (c + 1)) + (stp c f s).2 : Nat) : Int) ((c + 1 : Nat) : Int) rt' ∧ RtI (2 * n) rt' ρ' (D + 2) ∧ Cls (opn n (c + 1)) (stp c f s).1 ed ρ' := by
  have o : ∀ k, k < 4 → opn n c (4 * c + k) := fun k hk => by unfold opn; omega
  have q4 : ∀ k, k < 4 → pl (4 * c + k) = (ed (4 * c + k) : Int) ∧ ed (4 * c + k) < 2 * n := fun k hk => hpl _ (by omega)
  obtain ⟨nn, rfl⟩ : ∃ r, nn = r + 1 + 1 + 1 := ⟨nn - 3, by omega⟩
  -- first
  obtain ⟨C1, e1⟩ := jn_Cls hM hC (o f (by omega)) (o (f + 1) (by omega)) (by omega)
  have M1 := jn_Mat hM (o f (by omega)) (o (f + 1) (by omega)) (by omega)
  have R1 := RtI_uni hR (q4 f (by omega)).2 (q4 (f + 1) (by omega)).2
  obtain ⟨a1, a2⟩ := q4 f (by omega)
  obtain ⟨b1, b2⟩ := q4 (f + 1) (by omega)
  obtain ⟨g1, g2⟩ := q4 (f + 2) (by omega)
  obtain ⟨h1, h2⟩ := q4 ((f + 3) % 4) (by omega)
  have ra := M_rootOf fl hfl (N := 2 * n) (by omega) (by omega) hR a2
  have rb := M_rootOf fl hfl (N := 2 * n) (by omega) (by omega) hR b2
  obtain ⟨oa, ob⟩ : opn n c (4 * c + (f + 2)) ∧ opn n c (4 * c + (f + 3) % 4) := ⟨o _ (by omega), o _ (by omega)⟩
  obtain ⟨C2, e2⟩ := jn_Cls M1 C1 (a := 4 * c + (f + 2)) (b := 4 * c + (f + 3) % 4) ⟨oa, by omega, by omega⟩ ⟨ob, by omega, by omega⟩ (by omega)
  have R2 := RtI_uni R1 g2 h2
  have rg := M_rootOf fl hfl (N := 2 * n) (by omega) (by omega) R1 g2
  have rh := M_rootOf fl hfl (N := 2 * n) (by omega) (by omega) R1 h2
  obtain ⟨ρ1, hρ1⟩ : ∃ ρ1, ρ1 = uni ρ (ρ (ed (4 * c + f))) (ρ (ed (4 * c + (f + 1)))) := ⟨_, rfl⟩
  rw [← hρ1] at C2 e2 R2 rg rh R1
  have t1 : Int.toNat (4 * (c : Int) + (f : Int) + 2 * 0) = 4 * c + f := by omega
  have t2 : Int.toNat (4 * (c : Int) + ((f : Int) + 2 * 0 + 1) % 4) = 4 * c + (f + 1) := by omega
  have t3 : Int.toNat (4 * (c : Int) + (f : Int) + 2 * (0 + 1)) = 4 * c + (f + 2) := by omega
  have t4 : Int.toNat (4 * (c : Int) + ((f : Int) + 2 * (0 + 1) + 1) % 4) = 4 * c + (f + 3) % 4 := by omega
  have lt1 : ρ (ed (4 * c + f)) < 2 * n := (hR _ a2).1
  have lt2 : ρ1 (ed (4 * c + (f + 2))) < 2 * n := (R1 _ g2).1
  have fin : ∀ w : Int, w = ((2 * (n - (c + 1)) + (stp c f s).2 : Nat) : Int) → LB_Md_circlesOf_68 fl E dn ci pl kb (nn + 1) st w (c : Int) (f : Int) (0 + 1 + 1) (up (up rt (ρ (ed (4 * c + f))) (ρ (ed (4 * c + (f + 1))) : Int)) (ρ1 (ed (4 * c + (f + 2)))) (ρ1 (ed (4 * c + (f + 3) % 4)) : Int)) = kb st ((2 * (n - (c + 1)) + (stp c f s).2 : Nat) : Int) ((c + 1 : Nat) : Int) (up (up rt (ρ (ed (4 * c + f))) (ρ (ed (4 * c + (f + 1))) : Int)) (ρ1 (ed (4 * c + (f + 2)))) (ρ1 (ed (4 * c + (f + 3) % 4)) : Int)) := fun w hw => by
    rw [LB_Md_circlesOf_68, if_pos (by decide), if_pos (by omega), hw, show ((c : Int) + 1) = ((c + 1 : Nat) : Int) by omega]
  have snd : ∀ w : Int, w = ((2 * (n - c) + s.2 : Nat) : Int) - (if s.1 (4 * c + f) = 4 * c + (f + 1) then 0 else 1) → LB_Md_circlesOf_68 fl E dn ci pl kb (nn + 1 + 1) st w (c : Int) (f : Int) (0 + 1) (up rt (ρ (ed (4 * c + f))) (ρ (ed (4 * c + (f + 1))) : Int)) = kb st ((2 * (n - (c + 1)) + (stp c f s).2 : Nat) : Int) ((c + 1 : Nat) : Int) (up (up rt (ρ (ed (4 * c + f))) (ρ (ed (4 * c + (f + 1))) : Int)) (ρ1 (ed (4 * c + (f + 2)))) (ρ1 (ed (4 * c + (f + 3) % 4)) : Int)) := fun w hw => by
    have wb : -10 ≤ w ∧ w ≤ 200 := by rw [hw]; split <;> omega
    rw [LB_Md_circlesOf_68, if_neg (by omega), if_pos (by omega), if_pos (by omega), t3, g1, rg, Option.bind_some, if_pos (by omega), if_pos (by omega), t4, h1, rh, Option.bind_some]
    unfold LB_Md_circlesOf_135
    by_cases z : jn s.1 (4 * c + f) (4 * c + (f + 1)) (4 * c + (f + 2)) = 4 * c + (f + 3) % 4
    · have z' := e2.2 z
      rw [if_neg (show ¬ ¬ ((ρ1 (ed (4 * c + (f + 2))) : Int) = (ρ1 (ed (4 * c + (f + 3) % 4)) : Int)) by omega), if_pos (by omega), if_pos (by omega), Int.toNat_natCast]
      apply fin
      rw [hw]
      unfold stp
      show _ = ((2 * (n - (c + 1)) + (s.2 + (if s.1 (4 * c + f) = 4 * c + (f + 1) then 1 else 0) + (if jn s.1 (4 * c + f) (4 * c + (f + 1)) (4 * c + (f + 2)) = 4 * c + (f + 3) % 4 then 1 else 0)) : Nat) : Int)
      rw [if_pos z]
      split <;> omega
    · have z' : ρ1 (ed (4 * c + (f + 2))) ≠ ρ1 (ed (4 * c + (f + 3) % 4)) := fun w => z (e2.1 w)
      rw [if_pos (show ¬ ((ρ1 (ed (4 * c + (f + 2))) : Int) = (ρ1 (ed (4 * c + (f + 3) % 4)) : Int)) by omega), if_pos (by omega), if_pos (by omega), Int.toNat_natCast]
      apply fin
      rw [hw]
      unfold stp
      show _ = ((2 * (n - (c + 1)) + (s.2 + (if s.1 (4 * c + f) = 4 * c + (f + 1) then 1 else 0) + (if jn s.1 (4 * c + f) (4 * c + (f + 1)) (4 * c + (f + 2)) = 4 * c + (f + 3) % 4 then 1 else 0)) : Nat) : Int)
      rw [if_neg z]
      split <;> omega
  refine ⟨_, _, ?_, R2, Cls_eq C2 (fun p => opn_4 hf p)⟩
  rw [LB_Md_circlesOf_68, if_neg (by omega), if_pos (by omega), if_pos (by omega), t1, a1, ra, Option.bind_some, if_pos (by omega), if_pos (by omega), t2, b1, rb, Option.bind_some]
  unfold LB_Md_circlesOf_135
  by_cases z : s.1 (4 * c + f) = 4 * c + (f + 1)
  · have z' := e1.2 z
    rw [if_neg (show ¬ ¬ ((ρ (ed (4 * c + f)) : Int) = (ρ (ed (4 * c + (f + 1))) : Int)) by omega), if_pos (by omega), if_pos (by omega), Int.toNat_natCast]
    exact snd _ (by rw [if_pos z])
  · have z' : ρ (ed (4 * c + f)) ≠ ρ (ed (4 * c + (f + 1))) := fun w => z (e1.1 w)
    rw [if_pos (show ¬ ((ρ (ed (4 * c + f)) : Int) = (ρ (ed (4 * c + (f + 1))) : Int)) by omega), if_pos (by omega), if_pos (by omega), Int.toNat_natCast]
    exact snd _ (by rw [if_neg z])
theorem ci38 (fl : Nat) (hfl : 200 ≤ fl) (hn : n ≤ 10) (hpl : ∀ q, q < 4 * n → pl q = (ed q : Int) ∧ ed q < 2 * n) (E ci : Int) {st : Nat} (hst : st < 1024) :
    ∀ (r nn c : Nat) (s : (Nat → Nat) × Nat) (rt : Nat → Int) (ρ : Nat → Nat), c + r = n → r < nn → Mat (opn n c) s.1 → RtI (2 * n) rt ρ (2 * c) → Cls (opn n c) s.1 ed ρ → s.2 ≤ 30 + 2 * c → ∃ rt', LB_Md_circlesOf_38 fl E (n : Int) ci pl nn (st : Int) ((2 * (n - c) + s.2 : Nat) : Int) (c : Int) rt = some (((cf r c s (st / 2 ^ c) : Nat) : Int), rt') := by
  intro r
  induction r with
  | zero =>
    intro nn c s rt ρ hr hnn hM hR hC hs
    obtain ⟨nn, rfl⟩ : ∃ r, nn = r + 1 := ⟨nn - 1, by omega⟩
    rw [LB_Md_circlesOf_38, if_pos (by omega)]
    refine ⟨rt, ?_⟩
    rw [show 2 * (n - c) + s.2 = s.2 by omega]; rfl
  | succ r ih =>
    intro nn c s rt ρ hr hnn hM hR hC hs
    obtain ⟨nn, rfl⟩ : ∃ r, nn = r + 1 := ⟨nn - 1, by omega⟩
    have tb : st.testBit c = decide (st / 2 ^ c % 2 = 1) := Nat.testBit_eq_decide_div_mod_eq
    have go : ∀ f : Nat, f < 2 → f = (if st / 2 ^ c % 2 = 1 then 0 else 1) → ∃ rt', LB_Md_circlesOf_63 fl E (n : Int) ci pl (LB_Md_circlesOf_38 fl E (n : Int) ci pl nn) (f : Int) (st : Int) ((2 * (n - c) + s.2 : Nat) : Int) (c : Int) rt = some (((cf (r + 1) c s (st / 2 ^ c) : Nat) : Int), rt') := fun f hf hfe => by
      unfold LB_Md_circlesOf_63
      obtain ⟨rt1, ρ1, k1, k2, k3⟩ := ci68 fl hfl hn hpl E (n : Int) ci (LB_Md_circlesOf_38 fl E (n : Int) ci pl nn) hf (show c < n by omega) (st : Int) hM (by omega) hR hC (by omega) fl (by omega)
      rw [k1, cf_s, ← hfe, Nat.div_div_eq_div_mul, ← Nat.pow_succ]
      have sl := (stp_le c f s).2
      exact ih nn (c + 1) (stp c f s) rt1 ρ1 (by omega) (by omega) (stp_Mat hf (by omega) hM) (by rw [show 2 * (c + 1) = 2 * c + 2 by omega]; exact k2) k3 (by omega)
    rw [LB_Md_circlesOf_38, if_neg (by omega), b_test st (by omega) c (by omega), tb]
    by_cases c1 : st / 2 ^ c % 2 = 1
    · rw [if_neg (by simp [c1])]
      exact go 0 (by omega) (by rw [if_pos c1])
    · rw [if_pos (by simp [c1])]
      exact go 1 (by omega) (by rw [if_neg c1])
theorem ci15 (fl : Nat) (E : Nat) (hE : E ≤ 48) (dn ci : Int) (st w : Int) : ∀ (r nn i : Nat) (rt : Nat → Int), i + r = E → r < nn → (∀ e, e < i → rt e = (e : Int)) → ∃ rt', LB_Md_circlesOf_15 fl (E : Int) dn ci pl nn st w (i : Int) rt = LB_Md_circlesOf_38 fl (E : Int) dn ci pl fl st w 0 rt' ∧ ∀ e, e < E → rt' e = (e : Int) := by
  intro r
  induction r with
  | zero =>
    intro nn i rt hr hnn h
    obtain ⟨nn, rfl⟩ : ∃ r, nn = r + 1 := ⟨nn - 1, by omega⟩
    rw [LB_Md_circlesOf_15, if_pos (by omega)]
    exact ⟨rt, rfl, fun e he => h e (by omega)⟩
  | succ r ih =>
    intro nn i rt hr hnn h
    obtain ⟨nn, rfl⟩ : ∃ r, nn = r + 1 := ⟨nn - 1, by omega⟩
    rw [LB_Md_circlesOf_15, if_neg (by omega), if_pos (by omega), if_pos (by omega), Int.toNat_natCast, show ((i : Int) + 1) = ((i + 1 : Nat) : Int) by omega]
    exact ih nn (i + 1) _ (by omega) (by omega) (fun e he => by
      by_cases c : e = i
      · rw [c, up_eq]
      · rw [up_ne _ _ c]; exact h e (by omega))
theorem M_circ (fl : Nat) (hfl : 300 ≤ fl) (hn : n ≤ 10) (hpl : ∀ q, q < 4 * n → pl q = (ed q : Int) ∧ ed q < 2 * n) {μ : Nat → Nat} (hM : Mat (opn n 0) μ) (hC : Cls (opn n 0) μ ed (fun e => e)) {ci : Nat} (hci : ci ≤ 20) {st : Nat} (hst : st < 1024) (rt : Nat → Int) :
    ∃ rt', LM_Md_circlesOf fl ((2 * n : Nat) : Int) (n : Int) (ci : Int) pl (st : Int) rt = some (((cf n 0 (μ, ci) st : Nat) : Int), rt') := by
  unfold LM_Md_circlesOf LB_Md_circlesOf_0
  rw [if_pos (by omega)]
  obtain ⟨rt1, k1, k2⟩ := ci15 (pl := pl) fl (2 * n) (by omega) (n : Int) (ci : Int) (st : Int) (((2 * n : Nat) : Int) + (ci : Int)) (2 * n) fl 0 rt (by omega) (by omega) (fun e he => by omega)
  have k1 : LB_Md_circlesOf_15 fl ((2 * n : Nat) : Int) (n : Int) (ci : Int) pl fl (st : Int) (((2 * n : Nat) : Int) + (ci : Int)) 0 rt = _ := k1
  rw [k1, show ((2 * n : Nat) : Int) + (ci : Int) = ((2 * (n - 0) + ci : Nat) : Int) by omega]
  obtain ⟨rt', x⟩ := ci38 fl (by omega) hn hpl ((2 * n : Nat) : Int) (ci : Int) hst n fl 0 (μ, ci) rt1 (fun e => e) (by omega) (by omega) hM (fun e he => ⟨he, k2 e he, 0, by omega, fun _ => e, rfl, rfl, fun i hi => by omega⟩) hC (by show ci ≤ _; omega)
  refine ⟨rt', ?_⟩
  rw [show st / 2 ^ 0 = st by rw [Nat.pow_zero, Nat.div_one]] at x
  exact x
end
