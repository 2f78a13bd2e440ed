section
variable {nm fr to at_ : Nat → Int}
/-- one piece's values may be raised -/
theorem VR_shift {n : Nat} {sg om P : Nat → Int} (h : VR n sg om P) (K : Nat → Int) : VR n sg om (fun q => P q + K (q / 4)) := fun r hr => by
  have := h r hr
  show P r + K (r / 4) - (P (lv r) + K (lv r / 4)) = _
  rw [show lv r / 4 = r / 4 by unfold lv; omega]
  omega
/-- the corners' values when an edge is pushed over another -/
theorem pu_core {n : Nat} {sg lb : Nat → Int} (h : EdgA n sg lb nm fr to at_) (hJ : Jp n sg fr to at_) {x y : Int} {e f : Nat} (he : e < 2 * n) (hf : f < 2 * n) (hne : e ≠ f) (hm : meetP n fr to at_ x y e f) {om : Nat → Int} {δ : Int} (hk : KP n sg om) (hom : ∀ g, g < 2 * n → om (to g).toNat - om (fr g).toNat = (if g = e then δ else 0) - (if g = f then δ else 0)) :
    ∃ P, VR n sg om P ∧ (∀ g, g < 2 * n → g ≠ e → g ≠ f → P (lv (to g).toNat) = P (fr g).toNat) ∧
      P (lv (to e).toNat) = P (fr e).toNat + (if x < 0 then 0 else δ) ∧ P (lv (to f).toNat) = P (fr f).toNat - (if y < 0 then 0 else δ) ∧
      (if y < 0 then P (to f).toNat else P (fr f).toNat) = (if x < 0 then P (to e).toNat else P (fr e).toNat) + δ := by
  have dt : ∀ g, g < 2 * n → dep fr to (tnz fr to at_ (2 * g)) = lv (to g).toNat ∧ dep fr to (2 * g) = (fr g).toNat ∧ dep fr to (2 * g + 1) = (to g).toNat := fun g hg => by
    refine ⟨?_, ?_, ?_⟩
    · rw [dep_tn h (by omega)]; unfold arrz; rw [if_pos (by omega), show 2 * g / 2 = g by omega]
    · unfold dep; rw [if_pos (by omega), show 2 * g / 2 = g by omega]
    · unfold dep; rw [if_neg (by omega), show (2 * g + 1) / 2 = g by omega]
  obtain ⟨d0, hd0⟩ : ∃ d0, d0 = 2 * e + (if x < 0 then 1 else 0) := ⟨_, rfl⟩
  obtain ⟨d1, hd1⟩ : ∃ d1, d1 = 2 * f + (if y < 0 then 1 else 0) := ⟨_, rfl⟩
  have b0 : d0 < 4 * n ∧ d0 / 2 = e := by rw [hd0]; split <;> omega
  have b1 : d1 < 4 * n ∧ d1 / 2 = f := by rw [hd1]; split <;> omega
  have D0 : dep fr to d0 = if x < 0 then (to e).toNat else (fr e).toNat := by
    rw [hd0]; split
    · exact (dt e he).2.2
    · exact (dt e he).2.1
  have D1 : dep fr to d1 = if y < 0 then (to f).toNat else (fr f).toNat := by
    rw [hd1]; split
    · exact (dt f hf).2.2
    · exact (dt f hf).2.1
  have fin : ∀ P : Nat → Int, VR n sg om P → (∀ g, g < 4 * n → P (dep fr to (tnz fr to at_ g)) = P (dep fr to g) + (if g = d0 then δ else 0) - (if g = d1 then δ else 0)) → P (dep fr to d1) = P (dep fr to d0) + δ →
    ∃ P, VR n sg om P ∧ (∀ g, g < 2 * n → g ≠ e → g ≠ f → P (lv (to g).toNat) = P (fr g).toNat) ∧
      P (lv (to e).toNat) = P (fr e).toNat + (if x < 0 then 0 else δ) ∧ P (lv (to f).toNat) = P (fr f).toNat - (if y < 0 then 0 else δ) ∧
      (if y < 0 then P (to f).toNat else P (fr f).toNat) = (if x < 0 then P (to e).toNat else P (fr e).toNat) + δ := by
    intro P h1 h2 h3
    refine ⟨P, h1, fun g hg ge gf => ?_, ?_, ?_, ?_⟩
    · have := h2 (2 * g) (by omega)
      rw [(dt g hg).1, (dt g hg).2.1, if_neg (by omega), if_neg (by omega)] at this
      omega
    · have := h2 (2 * e) (by omega)
      rw [(dt e he).1, (dt e he).2.1, if_neg (show ¬ 2 * e = d1 by omega)] at this
      rw [this]
      by_cases c : x < 0
      · rw [if_pos c, if_neg (by rw [hd0, if_pos c]; omega)]; omega
      · rw [if_neg c, if_pos (by rw [hd0, if_neg c]; rfl)]; omega
    · have := h2 (2 * f) (by omega)
      rw [(dt f hf).1, (dt f hf).2.1, if_neg (show ¬ 2 * f = d0 by omega)] at this
      rw [this]
      by_cases c : y < 0
      · rw [if_pos c, if_neg (by rw [hd1, if_pos c]; omega)]; omega
      · rw [if_neg c, if_pos (by rw [hd1, if_neg c]; rfl)]; omega
    · rw [D0, D1] at h3
      by_cases c : x < 0 <;> by_cases c2 : y < 0
      · rw [if_pos c, if_pos c2] at h3 ⊢; exact h3
      · rw [if_pos c, if_neg c2] at h3 ⊢; exact h3
      · rw [if_neg c, if_pos c2] at h3 ⊢; exact h3
      · rw [if_neg c, if_neg c2] at h3 ⊢; exact h3
  rcases hm with hm | hm
  · rw [← hd0, ← hd1] at hm
    obtain ⟨j, hj, hnr⟩ := it_ex h b0.1 b1.1 hm
    have jz : j ≠ 0 := fun z => hne (by rw [z] at hj; have : d0 = d1 := hj; rw [← b0.2, ← b1.2, this])
    obtain ⟨P, v1, v2, v3⟩ := dip h hJ δ j d0 om b0.1 hk (fun g hg => by rw [hj, b0.2, b1.2]; exact hom g hg) hnr
    rw [hj] at v2 v3
    rw [if_neg jz] at v3
    exact fin P v1 v2 v3
  · have adj : ∀ g, g < 2 * n → pcF fr to (2 * n) ((fr g).toNat / 4) = pcF fr to (2 * n) ((to g).toNat / 4) := fun g hg => pcF_adj fr to (2 * n) g hg
    have hδ : δ = 0 := by
      have z := cutS h hk (fun c => if pcF fr to (2 * n) c = pcF fr to (2 * n) ((fr e).toNat / 4) then 1 else 0)
      have z2 : smz (fun g => (if pcF fr to (2 * n) ((to g).toNat / 4) = pcF fr to (2 * n) ((fr e).toNat / 4) then 1 else 0) * om (to g).toNat - (if pcF fr to (2 * n) ((fr g).toNat / 4) = pcF fr to (2 * n) ((fr e).toNat / 4) then 1 else 0) * om (fr g).toNat) (2 * n) = δ := by
        rw [sm_one he (fun g hg hge => ?_)]
        · rw [← adj e he, if_pos rfl]
          have := hom e he
          rw [if_pos rfl, if_neg hne] at this
          omega
        · rw [← adj g hg]
          have m := hom g hg
          rw [if_neg hge] at m
          by_cases c : pcF fr to (2 * n) ((fr g).toNat / 4) = pcF fr to (2 * n) ((fr e).toNat / 4)
          · rw [if_pos c]
            rw [if_neg (fun q => hm (by rw [← c, q]))] at m
            omega
          · rw [if_neg c]; omega
      rw [← z2]; exact z
    subst hδ
    obtain ⟨P, v1, v2⟩ := hJ om hk (fun g hg => by have := hom g hg; rw [show (if g = e then (0 : Int) else 0) = 0 by split <;> rfl, show (if g = f then (0 : Int) else 0) = 0 by split <;> rfl] at this; omega)
    have pk : ∀ g, g < 4 * n → pcF fr to (2 * n) (dep fr to (tnz fr to at_ g) / 4) = pcF fr to (2 * n) (dep fr to g / 4) := fun g hg => by
      rw [dep_tn h hg, show lv (arrz fr to g) / 4 = arrz fr to g / 4 by unfold lv; omega]
      have := adj (g / 2) (by omega)
      rcases arr_dep (fr := fr) (to := to) g with ⟨a, b⟩ | ⟨a, b⟩ <;> rw [a, b]
      · exact this.symm
      · exact this
    refine fin (fun q => P q + (if pcF fr to (2 * n) (q / 4) = pcF fr to (2 * n) ((fr f).toNat / 4) then P (dep fr to d0) - P (dep fr to d1) else 0)) (VR_shift v1 (fun c => if pcF fr to (2 * n) c = pcF fr to (2 * n) ((fr f).toNat / 4) then P (dep fr to d0) - P (dep fr to d1) else 0)) (fun g hg => ?_) ?_
    · show P _ + _ = P _ + _ + _ - _
      rw [pk g hg, v2 g hg, show (if g = d0 then (0 : Int) else 0) = 0 by split <;> rfl, show (if g = d1 then (0 : Int) else 0) = 0 by split <;> rfl]
      omega
    · show P _ + _ = P _ + _ + _
      have q1 : pcF fr to (2 * n) (dep fr to d1 / 4) = pcF fr to (2 * n) ((fr f).toNat / 4) := by
        rw [D1]; split
        · exact (adj f hf).symm
        · rfl
      have q0 : pcF fr to (2 * n) (dep fr to d0 / 4) = pcF fr to (2 * n) ((fr e).toNat / 4) := by
        rw [D0]; split
        · exact (adj e he).symm
        · rfl
      rw [q1, q0, if_pos rfl, if_neg hm]
      omega
end
