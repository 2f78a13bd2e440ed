theorem J_VR {d : Dg} {w L : Int → Int} (hk : KFz d w) (hL : PTz d w L) : VR d.1 d.2.2.2 (fun q => w (d.2.2.1 q)) (cv d.2.2.2 d.2.2.1 w L) := pt_VR (n := d.1) (sg := d.2.2.2) (lb := d.2.2.1) (w := w) (L := L) hk hL
section
variable {nm fr to at_ : Nat → Int}
theorem J_lift1 {d : Dg} (hE : EdgA d.1 d.2.2.2 d.2.2.1 nm fr to at_) (h : Jd d) {s : Nat} (hs : s < 4 * d.1) (h1 : tnz fr to at_ s = s) : Jd (liftD (arrz fr to s / 4) d) := by
  intro w hw
  obtain ⟨a1, a2, a3, a4⟩ := arr_ok hE hs
  have hc : arrz fr to s / 4 < d.1 := by omega
  have hk := lift_KF hc hw
  obtain ⟨L, hL⟩ := h _ hk
  have hv := J_VR hk hL
  have hd : dep fr to s = lv (arrz fr to s) := by have := dep_tn hE hs; rw [h1] at this; exact this
  have hst : ∀ q, q / 4 = arrz fr to s / 4 → (fun l => w (lm d (arrz fr to s / 4) l)) (d.2.2.1 (opp q)) = (fun l => w (lm d (arrz fr to s / 4) l)) (d.2.2.1 q) := fun q hq => by
    show w (lm _ _ _) = w (lm _ _ _)
    rw [lm_opp d _ hq]
  have hb := bg_val hE hv hs (by rw [h1, h1]) hst (by rw [h1]; exact hst)
  obtain ⟨c1, c2, c3⟩ := dep_ok hE hs
  rw [hd] at hb c1 c2
  obtain ⟨r, hr⟩ : ∃ r, r = arrz fr to s := ⟨_, rfl⟩
  rw [← hr] at a1 a2 a3 a4 hb c1 c2 hk hL hv hst hc hd
  rw [← hr]
  have hno : ∀ q, q < 4 * d.1 → d.2.2.1 q = nm (s / 2) → q = r ∨ q = lv r := fun q hq e => by
    have := lab_two hE hs hq e
    rw [hd, ← hr] at this
    exact this
  have lq : lv r / 4 = r / 4 := by unfold lv; omega
  refine ⟨fun l => if l = nm (s / 2) then L (d.2.2.1 (opp r)) else L l, fun f hf => ?_⟩
  have e1 : ∀ q, q / 4 = r / 4 → (fun l => if l = nm (s / 2) then L (d.2.2.1 (opp r)) else L l) (d.2.2.1 q) = L (d.2.2.1 (opp r)) := fun q hq => by
    show (if d.2.2.1 q = nm (s / 2) then L (d.2.2.1 (opp r)) else L (d.2.2.1 q)) = _
    by_cases k : d.2.2.1 q = nm (s / 2)
    · rw [if_pos k]
    · rw [if_neg k]
      have : q = r ∨ q = lv r ∨ q = opp r ∨ q = opp (lv r) := by
        unfold opp lv at *; (repeat' split) <;> omega
      rcases this with x | x | x | x
      · subst x; exact absurd a4 k
      · subst x; exact absurd c2 k
      · rw [x]
      · rw [x]; exact hb.symm
  refine lift_pt (w := w) (fun q hq => ?_) ?_
  · exact (e1 (opp q) (by rw [opp_div]; exact hq)).trans (e1 q hq).symm
  · have := sk1_lt hc (show f < d.1 - 1 from hf)
    refine (pt_map (w := fun l => w (lm d (r / 4) l)) (L := L) rfl (fun k hk => ⟨rfl, ?_⟩)).2 (hL (sk1 (r / 4) f) this.1)
    show (if _ then _ else _) = _
    rw [if_neg]
    intro e
    have := hno _ (by omega) e
    omega
theorem lift_two {d : Dg} {c1 c2 : Nat} (h12 : c1 < c2) (h2 : c2 < d.1)
    (H : ∀ w0, KFz d w0 → (∀ q, (q / 4 = c1 ∨ q / 4 = c2) → w0 (d.2.2.1 (opp q)) = w0 (d.2.2.1 q)) → ∃ M : Int → Int, (∀ q, (q / 4 = c1 ∨ q / 4 = c2) → M (d.2.2.1 (opp q)) = M (d.2.2.1 q)) ∧ ∀ e, e < d.1 → e ≠ c1 → e ≠ c2 → pt d.2.2.2 d.2.2.1 w0 M e) :
    Jd (liftD (c2 - 1) (liftD c1 d)) := by
  intro w hw
  have h1 : c1 < d.1 := by omega
  have hD1 : (liftD c1 d).1 = d.1 - 1 := rfl
  have hk1 := lift_KF (d := liftD c1 d) (c := c2 - 1) (by rw [hD1]; omega) hw
  have hk := lift_KF h1 hk1
  have s2 : sk1 c1 (c2 - 1) = c2 := by unfold sk1; split <;> omega
  have hl2 : ∀ k, k < 4 → (liftD c1 d).2.2.1 (4 * (c2 - 1) + k) = lm d c1 (d.2.2.1 (4 * c2 + k)) := fun k hk => by rw [lift_lab d c1 (c2 - 1) k hk, s2]
  have op : ∀ c k, k < 4 → ∃ j, j < 4 ∧ opp (4 * c + k) = 4 * c + j ∧ j = (if k < 2 then k + 2 else k - 2) := fun c k hk => by
    refine ⟨if k < 2 then k + 2 else k - 2, ?_, ?_, rfl⟩
    · split <;> omega
    · unfold opp; (repeat' split) <;> omega
  obtain ⟨M, hM, hp⟩ := H _ hk (fun q hq => by
    show w (lm _ _ (lm _ _ _)) = w (lm _ _ (lm _ _ _))
    rcases hq with hq | hq
    · rw [lm_opp d c1 hq]
    · obtain ⟨k, hk4, hqk⟩ : ∃ k, k < 4 ∧ q = 4 * c2 + k := ⟨q % 4, by omega, by omega⟩
      obtain ⟨j, hj, e1, e2⟩ := op c2 k hk4
      obtain ⟨j', hj', e1', e2'⟩ := op (c2 - 1) k hk4
      have hjj : j' = j := by rw [e2, e2']
      subst hjj
      rw [hqk, e1, ← hl2 k hk4, ← hl2 j' hj, ← e1']
      rw [lm_opp (liftD c1 d) (c2 - 1) (by omega)])
  have v1 : ∀ e k, k < 4 → M ((liftD c1 d).2.2.1 (4 * e + k)) = M (d.2.2.1 (4 * sk1 c1 e + k)) := fun e k hk => by
    rw [lift_lab d c1 e k hk]
    exact lm_val (fun q hq => hM q (Or.inl hq)) _
  refine ⟨M, fun f hf => ?_⟩
  have hf' : f < d.1 - 1 - 1 := hf
  refine lift_pt (d := liftD c1 d) (w := w) (fun q hq => ?_) ?_
  · obtain ⟨k, hk4, hqk⟩ : ∃ k, k < 4 ∧ q = 4 * (c2 - 1) + k := ⟨q % 4, by omega, by omega⟩
    obtain ⟨j, hj, e1, e2⟩ := op c2 k hk4
    obtain ⟨j', hj', e1', e2'⟩ := op (c2 - 1) k hk4
    have hjj : j' = j := by rw [e2, e2']
    subst hjj
    rw [hqk, e1', v1 _ _ hj, v1 _ _ hk4, s2, ← e1]
    exact hM _ (by right; omega)
  · have g1 := sk1_lt (n := d.1 - 1) (c := c2 - 1) (e := f) (by omega) hf'
    have g2 := sk1_lt (n := d.1) (c := c1) (e := sk1 (c2 - 1) f) h1 g1.1
    refine lift_pt (d := d) (fun q hq => hM q (Or.inl hq)) (hp _ g2.1 g2.2 (fun e => g1.2 ?_))
    have := s2
    unfold sk1 at e this ⊢
    (repeat' split at e) <;> (repeat' split) <;> omega
theorem J_lift2 {d : Dg} (hE : EdgA d.1 d.2.2.2 d.2.2.1 nm fr to at_) (h : Jd d) {s : Nat} (hs : s < 4 * d.1) (h2 : tnz fr to at_ (tnz fr to at_ s) = s) (hab : arrz fr to s / 4 ≠ arrz fr to (tnz fr to at_ s) / 4) :
    Jd (liftD (max (arrz fr to s / 4) (arrz fr to (tnz fr to at_ s) / 4) - 1) (liftD (min (arrz fr to s / 4) (arrz fr to (tnz fr to at_ s) / 4)) d)) := by
  have ht := (tn_closed hE).1 s hs
  obtain ⟨a1, a2, a3, a4⟩ := arr_ok hE hs
  obtain ⟨b1, b2, b3, b4⟩ := arr_ok hE ht
  obtain ⟨c1, c2, c3⟩ := dep_ok hE hs
  obtain ⟨e1, e2, e3⟩ := dep_ok hE ht
  have d1 := dep_tn hE hs
  have d2 := dep_tn hE ht
  rw [h2] at d2
  have two1 : ∀ q, q < 4 * d.1 → d.2.2.1 q = nm (s / 2) → q = arrz fr to s ∨ q = dep fr to s := fun q hq e => lab_two hE hs hq e
  have two2 : ∀ q, q < 4 * d.1 → d.2.2.1 q = nm (tnz fr to at_ s / 2) → q = arrz fr to (tnz fr to at_ s) ∨ q = dep fr to (tnz fr to at_ s) := fun q hq e => lab_two hE ht hq e
  have bg1 : ∀ {w L : Int → Int}, VR d.1 d.2.2.2 (fun q => w (d.2.2.1 q)) (cv d.2.2.2 d.2.2.1 w L) → (∀ q, q / 4 = arrz fr to s / 4 → w (d.2.2.1 (opp q)) = w (d.2.2.1 q)) → (∀ q, q / 4 = arrz fr to (tnz fr to at_ s) / 4 → w (d.2.2.1 (opp q)) = w (d.2.2.1 q)) → L (d.2.2.1 (opp (arrz fr to s))) = L (d.2.2.1 (opp (dep fr to s))) ∧ L (d.2.2.1 (opp (arrz fr to (tnz fr to at_ s)))) = L (d.2.2.1 (opp (dep fr to (tnz fr to at_ s)))) := fun hv x y =>
    ⟨bg_val hE hv hs h2 x y, bg_val hE hv ht (by rw [h2]) y (by rw [h2]; exact x)⟩
  obtain ⟨t, htt⟩ : ∃ t, t = tnz fr to at_ s := ⟨_, rfl⟩
  rw [← htt] at hab ht b1 b2 b3 b4 e1 e2 e3 d1 d2 two2 bg1 ⊢
  obtain ⟨a, ha⟩ : ∃ a, a = arrz fr to s := ⟨_, rfl⟩
  obtain ⟨b, hb⟩ : ∃ b, b = arrz fr to t := ⟨_, rfl⟩
  rw [d1] at e1 e2 e3 two2 bg1
  rw [d2] at c1 c2 c3 two1 bg1
  rw [← ha] at a1 a2 a3 a4 d1 hab e1 e2 e3 two1 two2 bg1 ⊢
  rw [← hb] at b1 b2 b3 b4 d2 hab c1 c2 c3 two1 two2 bg1 ⊢
  have la : lv a / 4 = a / 4 := by unfold lv; omega
  have lb' : lv b / 4 = b / 4 := by unfold lv; omega
  have hne : nm (s / 2) ≠ nm (t / 2) := fun e => by
    have := two2 a a1 (by rw [a4, e])
    rcases this with x | x
    · exact hab (by rw [x])
    · unfold lv at x; omega
  refine lift_two (c1 := min (a / 4) (b / 4)) (c2 := max (a / 4) (b / 4)) (by omega) (by omega) (fun w0 hk hst => ?_)
  obtain ⟨L, hL⟩ := h w0 hk
  have hv := J_VR hk hL
  have hst' : ∀ q, (q / 4 = a / 4 ∨ q / 4 = b / 4) → w0 (d.2.2.1 (opp q)) = w0 (d.2.2.1 q) := fun q hq => hst q (by omega)
  obtain ⟨g1, g2⟩ := bg1 hv (fun q hq => hst' q (Or.inl hq)) (fun q hq => hst' q (Or.inr hq))
  obtain ⟨M, hM⟩ : ∃ M : Int → Int, M = fun l => if l = nm (s / 2) then L (d.2.2.1 (opp a)) else if l = nm (t / 2) then L (d.2.2.1 (opp b)) else L l := ⟨_, rfl⟩
  have m1 : M (nm (s / 2)) = L (d.2.2.1 (opp a)) := by rw [hM]; exact if_pos rfl
  have m2 : M (nm (t / 2)) = L (d.2.2.1 (opp b)) := by rw [hM]; show (if _ then _ else _) = _; rw [if_neg (fun e => hne e.symm), if_pos rfl]
  have m3 : ∀ q, q < 4 * d.1 → q ≠ a → q ≠ lv b → q ≠ b → q ≠ lv a → M (d.2.2.1 q) = L (d.2.2.1 q) := fun q hq n1 n2 n3 n4 => by
    rw [hM]
    show (if _ then _ else _) = _
    rw [if_neg (fun e => by have := two1 q hq e; omega), if_neg (fun e => by have := two2 q hq e; omega)]
  have oa : opp a ≠ a ∧ opp a ≠ lv a ∧ opp (lv a) ≠ a ∧ opp (lv a) ≠ lv a ∧ opp a / 4 = a / 4 ∧ opp (lv a) / 4 = a / 4 := by unfold opp lv; (repeat' split) <;> omega
  have ob : opp b ≠ b ∧ opp b ≠ lv b ∧ opp (lv b) ≠ b ∧ opp (lv b) ≠ lv b ∧ opp b / 4 = b / 4 ∧ opp (lv b) / 4 = b / 4 := by unfold opp lv; (repeat' split) <;> omega
  have na : M (d.2.2.1 (opp a)) = L (d.2.2.1 (opp a)) := m3 _ (opp_lt a1) (by omega) (fun e => hab (by rw [← oa.2.2.2.2.1, e]; omega)) (fun e => hab (by rw [← oa.2.2.2.2.1, e])) (by omega)
  have nb : M (d.2.2.1 (opp b)) = L (d.2.2.1 (opp b)) := m3 _ (opp_lt b1) (fun e => hab (by rw [← ob.2.2.2.2.1, e])) (by omega) (by omega) (fun e => hab (by rw [← ob.2.2.2.2.1, e]; omega))
  have nla : M (d.2.2.1 (opp (lv a))) = L (d.2.2.1 (opp (lv a))) := m3 _ (opp_lt e1) (by omega) (fun e => hab (by rw [← oa.2.2.2.2.2, e]; omega)) (fun e => hab (by rw [← oa.2.2.2.2.2, e])) (by omega)
  have nlb : M (d.2.2.1 (opp (lv b))) = L (d.2.2.1 (opp (lv b))) := m3 _ (opp_lt c1) (fun e => hab (by rw [← ob.2.2.2.2.2, e])) (by omega) (by omega) (fun e => hab (by rw [← ob.2.2.2.2.2, e]; omega))
  have four : ∀ x q : Nat, q / 4 = x / 4 → q = x ∨ q = lv x ∨ q = opp x ∨ q = opp (lv x) := fun x q hq => by
    unfold opp lv; (repeat' split) <;> omega
  refine ⟨M, fun q hq => ?_, fun e he n1 n2 => ?_⟩
  · have hq' : q / 4 = a / 4 ∨ q / 4 = b / 4 := by omega
    rcases hq' with hq' | hq'
    · rcases four a q hq' with x | x | x | x <;> subst x
      · rw [na, a4, m1]
      · rw [nla, e2, m2, g2]
      · rw [opp_opp, na, a4, m1]
      · rw [opp_opp, nla, e2, m2, g2]
    · rcases four b q hq' with x | x | x | x <;> subst x
      · rw [nb, b4, m2]
      · rw [nlb, c2, m1, g1]
      · rw [opp_opp, nb, b4, m2]
      · rw [opp_opp, nlb, c2, m1, g1]
  · refine (pt_map (w := w0) (L := L) rfl (fun k hk4 => ⟨rfl, ?_⟩)).2 (hL e he)
    exact m3 _ (by omega) (by omega) (by omega) (by omega) (by omega)
theorem J_undo {d : Dg} (hE : EdgA d.1 d.2.2.2 d.2.2.1 nm fr to at_) (h : Jd d) {s k : Nat} (hs : s < 4 * d.1) (hk : 1 ≤ k) (hk1 : k = 1 → tnz fr to at_ s = s) (hk2 : k = 2 → tnz fr to at_ (tnz fr to at_ s) = s) : Jd (undoS d fr to at_ s k).2 := by
  by_cases c1 : deedS fr to at_ s k = 1
  · rw [undoS_1 c1]
    split
    · exact J_lift1 hE h hs (hk1 (deed_1 hk c1))
    · exact h
  · by_cases c2 : deedS fr to at_ s k = 2
    · rw [undoS_2 c2]
      split
      · exact J_lift2 hE h hs (hk2 (deed_2 c2).1) (deed_2 c2).2.1
      · exact h
    · rw [undoS_0 c1 c2]; exact h
end
