theorem labfun {n : Nat} {lb : Nat → Int} (F : Nat → Int) (hF : ∀ p q, p < 4 * n → q < 4 * n → lb p = lb q → F p = F q) : ∃ w : Int → Int, ∀ q, q < 4 * n → w (lb q) = F q := by
  refine ⟨fun l => if h : ∃ q, q < 4 * n ∧ lb q = l then F (Classical.choose h) else 0, fun q hq => ?_⟩
  have hx : ∃ p, p < 4 * n ∧ lb p = lb q := ⟨q, hq, rfl⟩
  show (if h : ∃ p, p < 4 * n ∧ lb p = lb q then F (Classical.choose h) else 0) = F q
  rw [dif_pos hx]
  have := Classical.choose_spec hx
  exact hF _ _ this.1 hq this.2
section
variable {n : Nat} {sg lb nm fr to at_ : Nat → Int}
theorem pair_eq (h : EdgA n sg lb nm fr to at_) {F : Nat → Int} (hF : ∀ g, g < 2 * n → F (fr g).toNat = F (to g).toNat) : ∀ p q, p < 4 * n → q < 4 * n → lb p = lb q → F p = F q := by
  intro p q hp hq e
  obtain ⟨a, ha, a1, a2, a3, a4⟩ := Edg_at h hp
  obtain ⟨b, hb, b1, b2, b3, b4⟩ := Edg_at h hq
  have hab := Edg_nm h ha hb (by rw [← a2, ← b2, e])
  subst hab
  have fa := hF a ha
  have pa : F p = F (to a).toNat := by
    by_cases o : outQ sg p = true
    · have := a3 o; rw [← fa, this, Int.toNat_natCast]
    · have := a4 (by simpa using o); rw [this, Int.toNat_natCast]
  have qa : F q = F (to a).toNat := by
    by_cases o : outQ sg q = true
    · have := b3 o; rw [← fa, this, Int.toNat_natCast]
    · have := b4 (by simpa using o); rw [this, Int.toNat_natCast]
  rw [pa, qa]
theorem ite_cg {p q : Prop} [dp : Decidable p] [dq : Decidable q] (h : p ↔ q) (x : Int) : (@ite Int p dp x 0) = (@ite Int q dq x 0) := by
  by_cases c : q
  · rw [if_pos c, if_pos (h.2 c)]
  · rw [if_neg c, if_neg (fun w => c (h.1 w))]
/-- J for weights of places -/
def Jp (n : Nat) (sg fr to at_ : Nat → Int) : Prop := ∀ om, KP n sg om → (∀ g, g < 2 * n → om (fr g).toNat = om (to g).toNat) → ∃ P, VR n sg om P ∧ ∀ g, g < 4 * n → P (dep fr to (tnz fr to at_ g)) = P (dep fr to g)
theorem Jd_p {d : Dg} (hE : EdgA d.1 d.2.2.2 d.2.2.1 nm fr to at_) (hJ : Jd d) : Jp d.1 d.2.2.2 fr to at_ := by
  intro om hk hm
  obtain ⟨w, hw⟩ := labfun om (pair_eq hE hm)
  have hkf := (KF_KP hw).2 hk
  obtain ⟨L, hL⟩ := hJ w hkf
  have hv := pt_VR hkf hL
  refine ⟨cv d.2.2.2 d.2.2.1 w L, fun r hr => ?_, fun g hg => cv_tn hE hv hg⟩
  rw [hv r hr]
  unfold fo_
  show (if _ then w (d.2.2.1 r) else -(w (d.2.2.1 r))) = _
  rw [hw r hr]
/-- the labels' values out of the corners' -/
theorem lf_lab (h : EdgA n sg lb nm fr to at_) {P : Nat → Int} (hP : ∀ g, g < 2 * n → P (dep fr to (tnz fr to at_ (2 * g))) = P (dep fr to (2 * g))) : ∃ L : Int → Int, ∀ q, q < 4 * n → L (lb q) = lfz sg P q := by
  apply labfun
  apply pair_eq h
  intro g hg
  obtain ⟨p, q, b1, b2, b3, b4, b5, b6, b7, b8, b9, b10⟩ := Edg_fr h hg
  have e := hP g hg
  rw [dep_tn h (by omega)] at e
  unfold arrz dep at e
  rw [if_pos (by omega), if_pos (by omega), show 2 * g / 2 = g by omega] at e
  rw [b3, b4, Int.toNat_natCast, Int.toNat_natCast] at e ⊢
  rw [lf_out b5, lf_in b6]
  exact e.symm
theorem Jp_d {d : Dg} (hE : EdgA d.1 d.2.2.2 d.2.2.1 nm fr to at_) (hJ : Jp d.1 d.2.2.2 fr to at_) : Jd d := by
  intro w hw
  obtain ⟨P, h1, h2⟩ := hJ (fun q => w (d.2.2.1 q)) ((KF_KP (fun _ _ => rfl)).1 hw) (fun g hg => by
    obtain ⟨p, q, b1, b2, b3, b4, b5, b6, b7, b8, b9, b10⟩ := Edg_fr hE hg
    show w (d.2.2.1 _) = w (d.2.2.1 _)
    rw [b3, b4, Int.toNat_natCast, Int.toNat_natCast, b9, b10])
  obtain ⟨L, hL⟩ := lf_lab hE (fun g hg => h2 (2 * g) (by omega))
  exact ⟨L, VR_pt h1 (fun _ _ => rfl) hL⟩
/-- what flows in at the middle of one edge of a face and out at that of another -/
theorem dip (h : EdgA n sg lb nm fr to at_) (hJ : Jp n sg fr to at_) (δ : Int) : ∀ (j d0 : Nat) (om : Nat → Int), d0 < 4 * n → KP n sg om → (∀ g, g < 2 * n → om (to g).toNat - om (fr g).toNat = (if g = d0 / 2 then δ else 0) - (if g = it (tnz fr to at_) j d0 / 2 then δ else 0)) → (∀ i, 0 < i → i ≤ j → it (tnz fr to at_) i d0 ≠ d0) →
    ∃ P, VR n sg om P ∧ (∀ g, g < 4 * n → P (dep fr to (tnz fr to at_ g)) = P (dep fr to g) + (if g = d0 then δ else 0) - (if g = it (tnz fr to at_) j d0 then δ else 0)) ∧ P (dep fr to (it (tnz fr to at_) j d0)) = P (dep fr to d0) + (if j = 0 then 0 else δ) := by
  intro j
  induction j with
  | zero =>
    intro d0 om hd hk hm _
    have e : it (tnz fr to at_) 0 d0 = d0 := rfl
    obtain ⟨P, h1, h2⟩ := hJ om hk (fun g hg => by have := hm g hg; rw [e] at this; omega)
    refine ⟨P, h1, fun g hg => ?_, ?_⟩
    · rw [h2 g hg, e]; omega
    · rw [e, if_pos rfl]; omega
  | succ j ih =>
    intro d0 om hd hk hm hne
    have hcl := tn_closed h
    obtain ⟨d1, hd1⟩ : ∃ d1, d1 = tnz fr to at_ d0 := ⟨_, rfl⟩
    obtain ⟨d2, hd2⟩ : ∃ d2, d2 = it (tnz fr to at_) (j + 1) d0 := ⟨_, rfl⟩
    have e2 : it (tnz fr to at_) j d1 = d2 := by rw [hd2, hd1, it_f, it_s]
    have h1 : d1 < 4 * n := by rw [hd1]; exact hcl.1 d0 hd
    have h2 : d2 < 4 * n := by rw [hd2]; exact it_lt hcl hd _
    rw [← hd2] at hm ⊢
    obtain ⟨a1, a2, a3, a4⟩ := arr_ok h hd
    obtain ⟨b1, b2, b3⟩ := dep_ok h h1
    have dl : dep fr to d1 = lv (arrz fr to d0) := by rw [hd1]; exact dep_tn h hd
    obtain ⟨a, ha⟩ : ∃ a, a = arrz fr to d0 := ⟨_, rfl⟩
    obtain ⟨r, hr⟩ : ∃ r, r = lv a := ⟨_, rfl⟩
    rw [← ha] at a1 a2 a3 a4 dl
    rw [← hr] at dl
    rw [dl] at b1 b2 b3
    have ar : a ≠ r := by rw [hr]; unfold lv; omega
    have r4 : r / 4 = a / 4 := by rw [hr]; unfold lv; omega
    have d01 : d1 ≠ d0 := by rw [hd1]; exact hne 1 (by omega) (by omega)
    have d02 : d2 ≠ d0 := by rw [hd2]; exact hne _ (by omega) (by omega)
    obtain ⟨om', hom⟩ : ∃ om' : Nat → Int, om' = fun q => om q + (if q = a then (if outQ sg a = true then δ else -δ) else 0) + (if q = r then (if outQ sg r = true then -δ else δ) else 0) := ⟨_, rfl⟩
    have fo' : ∀ q, fo_ sg om' q = fo_ sg om q + (if q = a then δ else 0) - (if q = r then δ else 0) := fun q => by
      unfold fo_
      rw [hom]
      by_cases qa : q = a
      · subst qa
        simp only [if_pos rfl, if_neg ar]
        cases outQ sg q <;> simp <;> omega
      · by_cases qr : q = r
        · subst qr
          simp only [if_pos rfl, if_neg qa]
          cases outQ sg q <;> simp <;> omega
        · simp only [if_neg qa, if_neg qr]
          cases outQ sg q <;> simp
    have hk' : KP n sg om' := fun c hc => by
      have := hk c hc
      rw [fo', fo', fo', fo']
      by_cases ca : c = a / 4
      · have x1 : a = 4 * c ∨ a = 4 * c + 1 ∨ a = 4 * c + 2 ∨ a = 4 * c + 3 := by omega
        have x2 : r = 4 * c ∨ r = 4 * c + 1 ∨ r = 4 * c + 2 ∨ r = 4 * c + 3 := by omega
        have y1 : (if 4 * c = a then δ else 0) + (if 4 * c + 1 = a then δ else 0) + (if 4 * c + 2 = a then δ else 0) + (if 4 * c + 3 = a then δ else 0) = δ := by
          rcases x1 with e | e | e | e <;> rw [e] <;> simp
        have y2 : (if 4 * c = r then δ else 0) + (if 4 * c + 1 = r then δ else 0) + (if 4 * c + 2 = r then δ else 0) + (if 4 * c + 3 = r then δ else 0) = δ := by
          rcases x2 with e | e | e | e <;> rw [e] <;> simp
        omega
      · simp only [if_neg (show ¬ 4 * c = a by omega), if_neg (show ¬ 4 * c + 1 = a by omega), if_neg (show ¬ 4 * c + 2 = a by omega), if_neg (show ¬ 4 * c + 3 = a by omega), if_neg (show ¬ 4 * c = r by omega), if_neg (show ¬ 4 * c + 1 = r by omega), if_neg (show ¬ 4 * c + 2 = r by omega), if_neg (show ¬ 4 * c + 3 = r by omega)]
        omega
    have hm' : ∀ g, g < 2 * n → om' (to g).toNat - om' (fr g).toNat = (if g = d1 / 2 then δ else 0) - (if g = it (tnz fr to at_) j d1 / 2 then δ else 0) := by
      intro g hg
      rw [e2]
      have m := hm g hg
      obtain ⟨p, q, p1, p2, p3, p4, p5, p6, p7, p8, p9, p10⟩ := Edg_fr h hg
      rw [p3, p4, Int.toNat_natCast, Int.toNat_natCast] at m ⊢
      have ga : (if q = a then (if outQ sg a = true then δ else -δ) else 0) - (if p = a then (if outQ sg a = true then δ else -δ) else 0) = -(if g = d0 / 2 then δ else 0) := by
        by_cases gd : g = d0 / 2
        · rw [if_pos gd]
          by_cases c : d0 % 2 = 0
          · have o : outQ sg a = false := by rw [a3]; simp; omega
            have : a = q := by rw [ha]; unfold arrz; rw [if_pos c, ← gd, p4, Int.toNat_natCast]
            rw [if_pos this.symm, if_neg (show ¬ p = a from fun e => by rw [e, o] at p5; exact absurd p5 (by decide)), o]
            simp
          · have o : outQ sg a = true := by rw [a3]; simp; omega
            have : a = p := by rw [ha]; unfold arrz; rw [if_neg c, ← gd, p3, Int.toNat_natCast]
            rw [if_pos this.symm, if_neg (show ¬ q = a from fun e => by rw [e, o] at p6; exact absurd p6 (by decide)), o]
            simp
        · have na : ∀ x, at_ x = (g : Int) → x ≠ a := fun x hx e => gd (by rw [e, a2] at hx; omega)
          rw [if_neg gd, if_neg (na q p8), if_neg (na p p7)]; simp
      have gr : (if q = r then (if outQ sg r = true then -δ else δ) else 0) - (if p = r then (if outQ sg r = true then -δ else δ) else 0) = (if g = d1 / 2 then δ else 0) := by
        by_cases gd : g = d1 / 2
        · rw [if_pos gd]
          by_cases c : d1 % 2 = 0
          · have o : outQ sg r = true := by rw [b3]; simp [c]
            have : r = p := by rw [← dl]; unfold dep; rw [if_pos c, ← gd, p3, Int.toNat_natCast]
            rw [if_pos this.symm, if_neg (show ¬ q = r from fun e => by rw [e, o] at p6; exact absurd p6 (by decide)), o]
            simp
          · have o : outQ sg r = false := by rw [b3]; simp [c]
            have : r = q := by rw [← dl]; unfold dep; rw [if_neg c, ← gd, p4, Int.toNat_natCast]
            rw [if_pos this.symm, if_neg (show ¬ p = r from fun e => by rw [e, o] at p5; exact absurd p5 (by decide)), o]
            simp
        · have na : ∀ x, lb x = nm g → x ≠ r := fun x hx e => gd (Edg_nm h hg (by omega) (by rw [← hx, e, b2]))
          rw [if_neg gd, if_neg (na q p10), if_neg (na p p9)]; simp
      rw [hom]
      show om q + _ + _ - (om p + _ + _) = _
      omega
    obtain ⟨P, v1, v2, v3⟩ := ih d1 om' h1 hk' hm' (fun i hi hij e => hne i hi (by omega) (by
      rw [hd1, it_f] at e
      exact hcl.2 _ _ (it_lt hcl hd i) hd e))
    rw [e2] at v2 v3
    refine ⟨fun q => P q + (if q = r then δ else 0), ?_, ?_, ?_⟩
    · intro q hq
      have := v1 q hq
      rw [fo'] at this
      show P q + _ - (P (lv q) + _) = _
      have lq : lv q = r ↔ q = a := by rw [hr]; exact ⟨fun e => lv_inj e, fun e => by rw [e]⟩
      rw [ite_cg lq]
      omega
    · intro g hg
      have := v2 g hg
      show P _ + _ = P _ + _ + _ - _
      have x1 : dep fr to (tnz fr to at_ g) = r ↔ g = d0 := by
        rw [← dl]
        exact ⟨fun e => hcl.2 _ _ hg hd (by rw [← hd1]; exact dep_inj h (hcl.1 g hg) h1 e), fun e => by rw [e, hd1]⟩
      have x2 : dep fr to g = r ↔ g = d1 := by
        rw [← dl]
        exact ⟨fun e => dep_inj h hg h1 e, fun e => by rw [e]⟩
      rw [ite_cg x1, ite_cg x2]
      omega
    · show P _ + _ = P _ + _ + _
      have x2 : ∀ g, g < 4 * n → (dep fr to g = r ↔ g = d1) := fun g hg => by
        rw [← dl]
        exact ⟨fun e => dep_inj h hg h1 e, fun e => by rw [e]⟩
      have z := v2 d0 hd
      rw [← hd1, if_neg (fun e => d01 e.symm), if_neg (fun e => d02 e.symm)] at z
      rw [ite_cg (x2 d0 hd), ite_cg (x2 d2 h2), if_neg (show ¬ d0 = d1 from fun e => d01 e.symm), if_neg (show ¬ j + 1 = 0 by omega)]
      by_cases jz : j = 0
      · have : d2 = d1 := by rw [← e2, jz]; rfl
        rw [if_pos this]
        rw [if_pos jz] at v3
        omega
      · have : d2 ≠ d1 := fun e => by
          apply hne j (by omega) (by omega)
          apply hcl.2 _ _ (it_lt hcl hd j) hd
          rw [← it_s (tnz fr to at_) j d0, ← hd2, ← hd1, e]
        rw [if_neg this]
        rw [if_neg jz] at v3
        omega
end
