/-- SLIDE at one edge: p where it comes out, q where it goes in; l its label; the labels as they were: old -/
def slE (p q : Nat) (l : Int) (old lb : Nat → Int) : Nat → Int := up (up (up (up lb (opp p) l) p (old (opp q))) q (old (opp p))) (opp q) l
theorem opp_ne (q : Nat) : opp q ≠ q := by unfold opp; split <;> omega
theorem slE_v {p q : Nat} (hne : p / 4 ≠ q / 4) (l : Int) (old lb : Nat → Int) : slE p q l old lb p = old (opp q) ∧ slE p q l old lb q = old (opp p) ∧ slE p q l old lb (opp p) = l ∧ slE p q l old lb (opp q) = l ∧ ∀ x, x ≠ p → x ≠ q → x ≠ opp p → x ≠ opp q → slE p q l old lb x = lb x := by
  have a := opp_div p
  have b := opp_div q
  have c := opp_ne p
  have e := opp_ne q
  have n1 : p ≠ opp q := fun w => hne (by rw [w, b])
  have n2 : p ≠ q := fun w => hne (by rw [w])
  have n3 : opp p ≠ opp q := fun w => hne (by rw [← a, w, b])
  have n4 : opp p ≠ q := fun w => hne (by rw [← a, w])
  unfold slE
  refine ⟨by rw [up_ne _ _ n1, up_ne _ _ n2, up_eq], by rw [up_ne _ _ (fun w => e w.symm), up_eq], by rw [up_ne _ _ n3, up_ne _ _ n4, up_ne _ _ c, up_eq], by rw [up_eq], fun x h1 h2 h3 h4 => by rw [up_ne _ _ h4, up_ne _ _ h2, up_ne _ _ h1, up_ne _ _ h3]⟩
def slP (p q : Nat) (x : Nat) : Nat := if x = p then opp q else if x = opp q then p else if x = q then opp p else if x = opp p then q else x
theorem slP_v {p q : Nat} (hne : p / 4 ≠ q / 4) : slP p q p = opp q ∧ slP p q (opp q) = p ∧ slP p q q = opp p ∧ slP p q (opp p) = q ∧ ∀ x, x ≠ p → x ≠ q → x ≠ opp p → x ≠ opp q → slP p q x = x := by
  have a := opp_div p
  have b := opp_div q
  have c := opp_ne p
  have e := opp_ne q
  have n1 : opp q ≠ p := fun w => hne (by rw [← w, b])
  have n2 : q ≠ p := fun w => hne (by rw [w])
  have n3 : opp p ≠ opp q := fun w => hne (by rw [← a, w, b])
  have n4 : opp p ≠ q := fun w => hne (by rw [← a, w])
  unfold slP
  refine ⟨by rw [if_pos rfl], by rw [if_neg n1, if_pos rfl], by rw [if_neg n2, if_neg (fun w => e w.symm), if_pos rfl], by rw [if_neg c, if_neg n3, if_neg n4, if_pos rfl], fun x h1 h2 h3 h4 => by rw [if_neg h1, if_neg h4, if_neg h2, if_neg h3]⟩
theorem slP_slP {p q : Nat} (hne : p / 4 ≠ q / 4) (x : Nat) : slP p q (slP p q x) = x := by
  obtain ⟨a, b, c, e, f⟩ := slP_v hne
  by_cases h1 : x = p
  · rw [h1, a, b]
  · by_cases h2 : x = q
    · rw [h2, c, e]
    · by_cases h3 : x = opp p
      · rw [h3, e, c]
      · by_cases h4 : x = opp q
        · rw [h4, b, a]
        · rw [f x h1 h2 h3 h4, f x h1 h2 h3 h4]
theorem sl_perm {p q : Nat} (hne : p / 4 ≠ q / 4) {lb old : Nat → Int} {l : Int} (hp : lb p = l) (hq : lb q = l) (o1 : old (opp p) = lb (opp p)) (o2 : old (opp q) = lb (opp q)) (x : Nat) : slE p q l old lb x = lb (slP p q x) := by
  obtain ⟨a, b, c, e, f⟩ := slP_v hne
  obtain ⟨a', b', c', e', f'⟩ := slE_v hne l old lb
  by_cases h1 : x = p
  · rw [h1, a, a', o2]
  · by_cases h2 : x = q
    · rw [h2, c, b', o1]
    · by_cases h3 : x = opp p
      · rw [h3, e, c', hq]
      · by_cases h4 : x = opp q
        · rw [h4, b, e', hp]
        · rw [f x h1 h2 h3 h4, f' x h1 h2 h3 h4]
theorem sl_step {n : Nat} {sg lb : Nat → Int} (h : WF0 n sg lb) {p q : Nat} (hp : p < 4 * n) (hq : q < 4 * n) (op : outQ sg p = true) (oq : outQ sg q = false) {l : Int} (lp : lb p = l) (lq : lb q = l) (hne : p / 4 ≠ q / 4) {old : Nat → Int} (o1 : old (opp p) = lb (opp p)) (o2 : old (opp q) = lb (opp q)) :
    WF0 n sg (slE p q l old lb) := by
  obtain ⟨a, b, c, e, f⟩ := slP_v hne
  have lt : ∀ x, x < 4 * n → slP p q x < 4 * n := fun x hx => by
    by_cases h1 : x = p
    · rw [h1, a]; exact opp_lt hq
    · by_cases h2 : x = q
      · rw [h2, c]; exact opp_lt hp
      · by_cases h3 : x = opp p
        · rw [h3, e]; exact hq
        · by_cases h4 : x = opp q
          · rw [h4, b]; exact hp
          · rw [f x h1 h2 h3 h4]; exact hx
  refine WF_perm h (slP p q) (slP p q) (fun _ => false) lt (fun x hx => ⟨lt x hx, slP_slP hne x⟩) (fun x y _ _ w => by rw [← slP_slP hne x, w, slP_slP hne y]) (fun x _ => sl_perm hne lp lq o1 o2 x) (fun x hx => ?_)
  have : outQ sg (slP p q x) = outQ sg x := by
    by_cases h1 : x = p
    · rw [h1, a, opp_out, oq, op]; rfl
    · by_cases h2 : x = q
      · rw [h2, c, opp_out, oq, op]; rfl
      · by_cases h3 : x = opp p
        · rw [h3, e, opp_out, oq, op]; rfl
        · by_cases h4 : x = opp q
          · rw [h4, b, opp_out, oq, op]; rfl
          · rw [f x h1 h2 h3 h4]
  rw [this]
  cases outQ sg x <;> rfl
section
variable {n : Nat} {sg lb nm fr to at_ : Nat → Int}
/-- where a dart leaves -/
def dep (fr to : Nat → Int) (d : Nat) : Nat := if d % 2 = 0 then (fr (d / 2)).toNat else (to (d / 2)).toNat
theorem dep_tn (h : EdgA n sg lb nm fr to at_) {d : Nat} (hd : d < 4 * n) : dep fr to (tnz fr to at_ d) = lv (arrz fr to d) := by
  have hr := lv_ltz (arr_ok h hd).1
  obtain ⟨e, he, a1, a2, a3, a4⟩ := Edg_at h hr
  obtain ⟨p, q, b1, b2, b3, b4, b5, b6, b7, b8, b9, b10⟩ := Edg_fr h he
  unfold tnz lvd dep
  rw [a1, Int.toNat_natCast]
  by_cases c : fr e = ((lv (arrz fr to d) : Nat) : Int)
  · rw [if_pos c, if_pos (by omega), show 2 * e / 2 = e by omega, c, Int.toNat_natCast]
  · rw [if_neg c, if_neg (by omega), show (2 * e + 1) / 2 = e by omega]
    have o : outQ sg (lv (arrz fr to d)) = false := by
      cases o : outQ sg (lv (arrz fr to d))
      · rfl
      · exact absurd (a3 o) c
    rw [a4 o, Int.toNat_natCast]
theorem arr_dep (d : Nat) : (arrz fr to d = (to (d / 2)).toNat ∧ dep fr to d = (fr (d / 2)).toNat) ∨ (arrz fr to d = (fr (d / 2)).toNat ∧ dep fr to d = (to (d / 2)).toNat) := by
  unfold arrz dep
  by_cases c : d % 2 = 0
  · rw [if_pos c, if_pos c]; exact Or.inl ⟨rfl, rfl⟩
  · rw [if_neg c, if_neg c]; exact Or.inr ⟨rfl, rfl⟩
/-- which strand of which crossing -/
def std (q : Nat) : Nat := 2 * (q / 4) + q % 2
theorem std_opp (q : Nat) : std (opp q) = std q := by unfold std opp; split <;> omega
theorem std_lv (q : Nat) : std (lv q) / 2 = q / 4 ∧ std (lv q) ≠ std q := by unfold std lv; omega
theorem std_2 (q : Nat) : std q / 2 = q / 4 := by unfold std; omega
theorem std_ne {x p : Nat} (h : std x ≠ std p) : x ≠ p ∧ x ≠ opp p := ⟨fun w => h (by rw [w]), fun w => h (by rw [w, std_opp])⟩
def sl1z (fr to nm : Nat → Int) (e : Nat) (old lb : Nat → Int) : Nat → Int := slE (fr e).toNat (to e).toNat (nm e) old lb
def slD (fr to nm : Nat → Int) (e f g : Nat) (d : Dg) : Dg := (d.1, d.2.1, sl1z fr to nm g d.2.2.1 (sl1z fr to nm f d.2.2.1 (sl1z fr to nm e d.2.2.1 d.2.2.1)), d.2.2.2)
theorem sl1_like {N : Nat} {e : Nat} {old lb lb' : Nat → Int} (h : like N lb lb') : like N (sl1z fr to nm e old lb) (sl1z fr to nm e old lb') := fun q hq => by
  unfold sl1z slE
  unfold up
  split
  · rfl
  · split
    · rfl
    · split
      · rfl
      · split
        · rfl
        · exact h q hq
/-- the three edges of a triangle have strands of their own -/
theorem triz (h : EdgA n sg lb nm fr to at_) {s : Nat} (hs : s < 4 * n) (h3 : it (tnz fr to at_) 3 s = s) (c12 : arrz fr to s / 4 ≠ arrz fr to (tnz fr to at_ s) / 4) (c23 : arrz fr to (tnz fr to at_ s) / 4 ≠ arrz fr to (tnz fr to at_ (tnz fr to at_ s)) / 4) (c13 : arrz fr to s / 4 ≠ arrz fr to (tnz fr to at_ (tnz fr to at_ s)) / 4) :
    ∀ e f : Nat, (e = s / 2 ∧ f = tnz fr to at_ s / 2) ∨ (e = s / 2 ∧ f = tnz fr to at_ (tnz fr to at_ s) / 2) ∨ (e = tnz fr to at_ s / 2 ∧ f = tnz fr to at_ (tnz fr to at_ s) / 2) → (std (fr e).toNat ≠ std (fr f).toNat ∧ std (fr e).toNat ≠ std (to f).toNat ∧ std (to e).toNat ≠ std (fr f).toNat ∧ std (to e).toNat ≠ std (to f).toNat) := by
  have h2 := (tn_closed h).1 s hs
  have h22 := (tn_closed h).1 _ h2
  have d2 := dep_tn h hs
  have d3 := dep_tn h h2
  have d1 := dep_tn h h22
  have hh : tnz fr to at_ (tnz fr to at_ (tnz fr to at_ s)) = s := h3
  rw [hh] at d1
  have z1 := std_lv (arrz fr to s)
  have z2 := std_lv (arrz fr to (tnz fr to at_ s))
  have z3 := std_lv (arrz fr to (tnz fr to at_ (tnz fr to at_ s)))
  rw [← d2] at z1
  rw [← d3] at z2
  rw [← d1] at z3
  have y1 := std_2 (arrz fr to s)
  have y2 := std_2 (arrz fr to (tnz fr to at_ s))
  have y3 := std_2 (arrz fr to (tnz fr to at_ (tnz fr to at_ s)))
  have k1 := arr_dep (fr := fr) (to := to) s
  have k2 := arr_dep (fr := fr) (to := to) (tnz fr to at_ s)
  have k3 := arr_dep (fr := fr) (to := to) (tnz fr to at_ (tnz fr to at_ s))
  have n12 : std (arrz fr to s) ≠ std (arrz fr to (tnz fr to at_ s)) := fun w => c12 (by rw [← y1, ← y2, w])
  have n13 : std (arrz fr to s) ≠ std (arrz fr to (tnz fr to at_ (tnz fr to at_ s))) := fun w => c13 (by rw [← y1, ← y3, w])
  have n23 : std (arrz fr to (tnz fr to at_ s)) ≠ std (arrz fr to (tnz fr to at_ (tnz fr to at_ s))) := fun w => c23 (by rw [← y2, ← y3, w])
  have m12 : std (arrz fr to s) ≠ std (dep fr to (tnz fr to at_ s)) := fun w => z1.2 w.symm
  have m13 : std (arrz fr to s) ≠ std (dep fr to (tnz fr to at_ (tnz fr to at_ s))) := fun w => c12 (by rw [← y1, ← z2.1, w])
  have m23 : std (arrz fr to (tnz fr to at_ s)) ≠ std (dep fr to (tnz fr to at_ (tnz fr to at_ s))) := fun w => z2.2 w.symm
  have l12 : std (dep fr to s) ≠ std (arrz fr to (tnz fr to at_ s)) := fun w => c23 (by rw [← y2, ← z3.1, w])
  have l13 : std (dep fr to s) ≠ std (arrz fr to (tnz fr to at_ (tnz fr to at_ s))) := z3.2
  have l23 : std (dep fr to (tnz fr to at_ s)) ≠ std (arrz fr to (tnz fr to at_ (tnz fr to at_ s))) := fun w => c13 (by rw [← y3, ← z1.1, w])
  have k12 : std (dep fr to s) ≠ std (dep fr to (tnz fr to at_ s)) := fun w => c13 (by rw [← z1.1, ← z3.1, w])
  have k13 : std (dep fr to s) ≠ std (dep fr to (tnz fr to at_ (tnz fr to at_ s))) := fun w => c23 (by rw [← z2.1, ← z3.1, w])
  have k23 : std (dep fr to (tnz fr to at_ s)) ≠ std (dep fr to (tnz fr to at_ (tnz fr to at_ s))) := fun w => c12 (by rw [← z1.1, ← z2.1, w])
  clear z1 z2 z3 y1 y2 y3 d1 d2 d3 c12 c23 c13
  intro e f hef
  rcases hef with ⟨x, y⟩ | ⟨x, y⟩ | ⟨x, y⟩
  · rw [x, y]
    rcases k1 with ⟨a, b⟩ | ⟨a, b⟩ <;> rcases k2 with ⟨a', b'⟩ | ⟨a', b'⟩ <;> rw [← a, ← b, ← a', ← b'] <;> refine ⟨?_, ?_, ?_, ?_⟩ <;> assumption
  · rw [x, y]
    rcases k1 with ⟨a, b⟩ | ⟨a, b⟩ <;> rcases k3 with ⟨a', b'⟩ | ⟨a', b'⟩ <;> rw [← a, ← b, ← a', ← b'] <;> refine ⟨?_, ?_, ?_, ?_⟩ <;> assumption
  · rw [x, y]
    rcases k2 with ⟨a, b⟩ | ⟨a, b⟩ <;> rcases k3 with ⟨a', b'⟩ | ⟨a', b'⟩ <;> rw [← a, ← b, ← a', ← b'] <;> refine ⟨?_, ?_, ?_, ?_⟩ <;> assumption
theorem tri2z (h : EdgA n sg lb nm fr to at_) {s : Nat} (hs : s < 4 * n) (h3 : it (tnz fr to at_) 3 s = s) (c12 : arrz fr to s / 4 ≠ arrz fr to (tnz fr to at_ s) / 4) (c23 : arrz fr to (tnz fr to at_ s) / 4 ≠ arrz fr to (tnz fr to at_ (tnz fr to at_ s)) / 4) (c13 : arrz fr to s / 4 ≠ arrz fr to (tnz fr to at_ (tnz fr to at_ s)) / 4) :
    ∀ e : Nat, e = s / 2 ∨ e = tnz fr to at_ s / 2 ∨ e = tnz fr to at_ (tnz fr to at_ s) / 2 → (fr e).toNat / 4 ≠ (to e).toNat / 4 := by
  have h2 := (tn_closed h).1 s hs
  have h22 := (tn_closed h).1 _ h2
  have d2 := dep_tn h hs
  have d3 := dep_tn h h2
  have d1 := dep_tn h h22
  have hh : tnz fr to at_ (tnz fr to at_ (tnz fr to at_ s)) = s := h3
  rw [hh] at d1
  have lq : ∀ q, lv q / 4 = q / 4 := fun q => by unfold lv; omega
  have k1 := arr_dep (fr := fr) (to := to) s
  have k2 := arr_dep (fr := fr) (to := to) (tnz fr to at_ s)
  have k3 := arr_dep (fr := fr) (to := to) (tnz fr to at_ (tnz fr to at_ s))
  have m1 := lq (arrz fr to s)
  have m2 := lq (arrz fr to (tnz fr to at_ s))
  have m3 := lq (arrz fr to (tnz fr to at_ (tnz fr to at_ s)))
  rw [← d2] at m1
  rw [← d3] at m2
  rw [← d1] at m3
  have x1 : arrz fr to s / 4 ≠ dep fr to s / 4 := fun w => c13 (by rw [w, m3])
  have x2 : arrz fr to (tnz fr to at_ s) / 4 ≠ dep fr to (tnz fr to at_ s) / 4 := fun w => c12 (by rw [w, m1])
  have x3 : arrz fr to (tnz fr to at_ (tnz fr to at_ s)) / 4 ≠ dep fr to (tnz fr to at_ (tnz fr to at_ s)) / 4 := fun w => c23 (by rw [w, m2])
  intro e he
  rcases he with he | he | he
  · rw [he]; rcases k1 with ⟨a, b⟩ | ⟨a, b⟩ <;> rw [← a, ← b]
    · exact fun w => x1 w.symm
    · exact x1
  · rw [he]; rcases k2 with ⟨a, b⟩ | ⟨a, b⟩ <;> rw [← a, ← b]
    · exact fun w => x2 w.symm
    · exact x2
  · rw [he]; rcases k3 with ⟨a, b⟩ | ⟨a, b⟩ <;> rw [← a, ← b]
    · exact fun w => x3 w.symm
    · exact x3
theorem deed_3 {s k : Nat} (hk : 1 ≤ k) (h : deedS fr to at_ s k = 3) : k = 3 ∧ arrz fr to s / 4 ≠ arrz fr to (tnz fr to at_ s) / 4 ∧ arrz fr to (tnz fr to at_ s) / 4 ≠ arrz fr to (tnz fr to at_ (tnz fr to at_ s)) / 4 ∧ arrz fr to s / 4 ≠ arrz fr to (tnz fr to at_ (tnz fr to at_ s)) / 4 := by
  unfold deedS at h
  by_cases k1 : k = 1
  · rw [if_pos k1] at h; exact absurd h (by decide)
  · rw [if_neg k1] at h
    by_cases k3 : 3 < k
    · rw [if_pos k3] at h; exact absurd h (by decide)
    · rw [if_neg k3] at h
      by_cases k2 : k = 2
      · rw [if_pos k2] at h
        split at h <;> exact absurd h (by decide)
      · rw [if_neg k2] at h
        split at h
        · next w => exact ⟨by omega, w.1⟩
        · exact absurd h (by decide)
theorem okD_sl {d : Dg} (h : okD d) (hE : EdgA d.1 d.2.2.2 d.2.2.1 nm fr to at_) {s : Nat} (hs : s < 4 * d.1) (h3 : it (tnz fr to at_) 3 s = s) (c12 : arrz fr to s / 4 ≠ arrz fr to (tnz fr to at_ s) / 4) (c23 : arrz fr to (tnz fr to at_ s) / 4 ≠ arrz fr to (tnz fr to at_ (tnz fr to at_ s)) / 4) (c13 : arrz fr to s / 4 ≠ arrz fr to (tnz fr to at_ (tnz fr to at_ s)) / 4) :
    okD (slD fr to nm (s / 2) (tnz fr to at_ s / 2) (tnz fr to at_ (tnz fr to at_ s) / 2) d) := by
  have T := triz hE hs h3 c12 c23 c13
  have T2 := tri2z hE hs h3 c12 c23 c13
  have h2 := (tn_closed hE).1 s hs
  have h22 := (tn_closed hE).1 _ h2
  obtain ⟨e, he⟩ : ∃ e, e = s / 2 := ⟨_, rfl⟩
  obtain ⟨f, hf⟩ : ∃ f, f = tnz fr to at_ s / 2 := ⟨_, rfl⟩
  obtain ⟨g, hg⟩ : ∃ g, g = tnz fr to at_ (tnz fr to at_ s) / 2 := ⟨_, rfl⟩
  have Tef := T e f (Or.inl ⟨he, hf⟩)
  have Teg := T e g (Or.inr (Or.inl ⟨he, hg⟩))
  have Tfg := T f g (Or.inr (Or.inr ⟨hf, hg⟩))
  have e4 := T2 e (Or.inl he)
  have f4 := T2 f (Or.inr (Or.inl hf))
  have g4 := T2 g (Or.inr (Or.inr hg))
  rw [← he, ← hf, ← hg]
  obtain ⟨_, pe1, _, qe1, qe2, qe3, pe2, pe3⟩ := fr_ok hE (show e < 2 * d.1 by omega)
  obtain ⟨_, pf1, _, qf1, qf2, qf3, pf2, pf3⟩ := fr_ok hE (show f < 2 * d.1 by omega)
  obtain ⟨_, pg1, _, qg1, qg2, qg3, pg2, pg3⟩ := fr_ok hE (show g < 2 * d.1 by omega)
  have w1 := sl_step h.2.2.2.2 pe1 qe1 pe2 qe2 pe3 qe3 e4 (old := d.2.2.1) rfl rfl
  have out1 : ∀ x, std x ≠ std (fr e).toNat → std x ≠ std (to e).toNat → sl1z fr to nm e d.2.2.1 d.2.2.1 x = d.2.2.1 x := fun x a b => (slE_v e4 (nm e) d.2.2.1 d.2.2.1).2.2.2.2 x (std_ne a).1 (std_ne b).1 (std_ne a).2 (std_ne b).2
  have out2 : ∀ x, std x ≠ std (fr e).toNat → std x ≠ std (to e).toNat → std x ≠ std (fr f).toNat → std x ≠ std (to f).toNat → sl1z fr to nm f d.2.2.1 (sl1z fr to nm e d.2.2.1 d.2.2.1) x = d.2.2.1 x := fun x a b a2 b2 => ((slE_v f4 (nm f) d.2.2.1 (sl1z fr to nm e d.2.2.1 d.2.2.1)).2.2.2.2 x (std_ne a2).1 (std_ne b2).1 (std_ne a2).2 (std_ne b2).2).trans (out1 x a b)
  have sy : ∀ {a b : Nat}, a ≠ b → b ≠ a := fun h w => h w.symm
  have w2 := sl_step w1 pf1 qf1 pf2 qf2 (l := nm f) ((out1 _ (sy Tef.1) (sy Tef.2.2.1)).trans pf3) ((out1 _ (sy Tef.2.1) (sy Tef.2.2.2)).trans qf3) f4 (old := d.2.2.1) (out1 _ (by rw [std_opp]; exact sy Tef.1) (by rw [std_opp]; exact sy Tef.2.2.1)).symm (out1 _ (by rw [std_opp]; exact sy Tef.2.1) (by rw [std_opp]; exact sy Tef.2.2.2)).symm
  have w3 := sl_step w2 pg1 qg1 pg2 qg2 (l := nm g) ((out2 _ (sy Teg.1) (sy Teg.2.2.1) (sy Tfg.1) (sy Tfg.2.2.1)).trans pg3) ((out2 _ (sy Teg.2.1) (sy Teg.2.2.2) (sy Tfg.2.1) (sy Tfg.2.2.2)).trans qg3) g4 (old := d.2.2.1)
    (out2 _ (by rw [std_opp]; exact sy Teg.1) (by rw [std_opp]; exact sy Teg.2.2.1) (by rw [std_opp]; exact sy Tfg.1) (by rw [std_opp]; exact sy Tfg.2.2.1)).symm (out2 _ (by rw [std_opp]; exact sy Teg.2.1) (by rw [std_opp]; exact sy Teg.2.2.2) (by rw [std_opp]; exact sy Tfg.2.1) (by rw [std_opp]; exact sy Tfg.2.2.2)).symm
  have nmb : ∀ e, e < 2 * d.1 → 1 ≤ nm e ∧ nm e ≤ 9999 := fun e he => by
    obtain ⟨_, _, _, a, _, b, _⟩ := fr_ok hE he
    rw [← b]; exact h.2.2.2.1 _ a
  have bl : ∀ e, e < 2 * d.1 → ∀ lb : Nat → Int, (∀ q, q < 4 * d.1 → 1 ≤ lb q ∧ lb q ≤ 9999) → ∀ q, q < 4 * d.1 → 1 ≤ sl1z fr to nm e d.2.2.1 lb q ∧ sl1z fr to nm e d.2.2.1 lb q ≤ 9999 := fun e he lb hl q hq => by
    obtain ⟨_, p1, _, q1, _⟩ := fr_ok hE he
    unfold sl1z slE up
    split
    · exact nmb e he
    · split
      · exact h.2.2.2.1 _ (opp_lt p1)
      · split
        · exact h.2.2.2.1 _ (opp_lt q1)
        · split
          · exact nmb e he
          · exact hl q hq
  exact ⟨h.1, h.2.1, h.2.2.1, bl g (by omega) _ (bl f (by omega) _ (bl e (by omega) _ h.2.2.2.1)), w3⟩
end
