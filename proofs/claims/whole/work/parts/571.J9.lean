theorem opp_4 (sg : Nat → Int) (c : Nat) : opp (4 * c) = 4 * c + 2 ∧ opp (4 * c + 2) = 4 * c ∧ opp (upI sg c) = upO sg c ∧ opp (upO sg c) = upI sg c := by
  unfold opp upI upO
  refine ⟨by rw [if_pos (by omega)], by rw [if_neg (by omega)]; omega, ?_, ?_⟩
  · by_cases h : sg c ≤ 0
    · simp only [if_pos h]; rw [if_pos (by omega)]
    · simp only [if_neg h]; rw [if_neg (by omega)]; omega
  · by_cases h : sg c ≤ 0
    · simp only [if_pos h]; rw [if_neg (by omega)]; omega
    · simp only [if_neg h]; rw [if_pos (by omega)]
/-- the names after a crossing's strands are lifted off each other -/
def lm (d : Dg) (c : Nat) (l : Int) : Int := gm d.2.2.1 (4 * c) (4 * c + 2) (upI d.2.2.2 c) (upO d.2.2.2 c) l
theorem lm_opp (d : Dg) (c : Nat) {q : Nat} (hq : q / 4 = c) : lm d c (d.2.2.1 (opp q)) = lm d c (d.2.2.1 q) := by
  have g1 := gm_1 d.2.2.1 (4 * c) (4 * c + 2) (upI d.2.2.2 c) (upO d.2.2.2 c)
  have g2 := gm_2 d.2.2.1 (4 * c) (4 * c + 2) (upI d.2.2.2 c) (upO d.2.2.2 c)
  obtain ⟨o1, o2, o3, o4⟩ := opp_4 d.2.2.2 c
  unfold lm
  have h4 : q = 4 * c ∨ q = 4 * c + 2 ∨ q = upI d.2.2.2 c ∨ q = upO d.2.2.2 c := by
    unfold upI upO
    by_cases h : d.2.2.2 c ≤ 0
    · rw [if_pos h, if_pos h]; omega
    · rw [if_neg h, if_neg h]; omega
  rcases h4 with e | e | e | e <;> rw [e]
  · rw [o1]; exact g1.symm
  · rw [o2]; exact g1
  · rw [o3]; exact g2.symm
  · rw [o4]; exact g2
theorem lm_val {d : Dg} {c : Nat} {M : Int → Int} (h : ∀ q, q / 4 = c → M (d.2.2.1 (opp q)) = M (d.2.2.1 q)) (l : Int) : M (lm d c l) = M l := by
  obtain ⟨o1, o2, o3, o4⟩ := opp_4 d.2.2.2 c
  unfold lm
  refine gm_val ?_ ?_ l
  · have := h (4 * c) (by omega); rw [o1] at this; exact this.symm
  · have := h (upI d.2.2.2 c) (by unfold upI; split <;> omega); rw [o3] at this; exact this.symm
theorem lift_lab (d : Dg) (c e k : Nat) (hk : k < 4) : (liftD c d).2.2.1 (4 * e + k) = lm d c (d.2.2.1 (4 * sk1 c e + k)) := by
  show goL _ _ _ _ _ _ _ = _
  rw [goL_gm, sk_at c e k hk]; rfl
theorem lift_sg (d : Dg) (c e : Nat) : (liftD c d).2.2.2 e = d.2.2.2 (sk1 c e) := rfl
theorem lift_KF {d : Dg} {c : Nat} (hc : c < d.1) {w : Int → Int} (h : KFz (liftD c d) w) : KFz d (fun l => w (lm d c l)) := by
  intro e he
  by_cases hec : e = c
  · subst hec
    obtain ⟨o1, o2, o3, o4⟩ := opp_4 d.2.2.2 e
    have x1 := lm_opp d e (show 4 * e / 4 = e by omega)
    have x2 := lm_opp d e (show upI d.2.2.2 e / 4 = e by unfold upI; split <;> omega)
    rw [o1] at x1
    rw [o3] at x2
    show w (lm _ _ _) + w (lm _ _ _) = w (lm _ _ _) + w (lm _ _ _)
    rw [x1, x2]
  · exact go_kf (x1 := 4 * c) (y1 := 4 * c + 2) (x2 := upI d.2.2.2 c) (y2 := upO d.2.2.2 c) hc h e he hec
/-- at one crossing that stays -/
theorem lift_pt {d : Dg} {c f : Nat} {w M : Int → Int} (hM : ∀ q, q / 4 = c → M (d.2.2.1 (opp q)) = M (d.2.2.1 q)) (hp : pt d.2.2.2 d.2.2.1 (fun l => w (lm d c l)) M (sk1 c f)) : pt (liftD c d).2.2.2 (liftD c d).2.2.1 w M f := by
  have hr := lift_sg d c f
  refine (pt_map (w := fun l => w (lm d c l)) (L := M) hr (fun k hk => ?_)).2 hp
  rw [lift_lab d c f k hk]
  exact ⟨rfl, lm_val hM _⟩
section
variable {n : Nat} {sg lb nm fr to at_ : Nat → Int}
theorem lab_two (h : EdgA n sg lb nm fr to at_) {g q : Nat} (hg : g < 4 * n) (hq : q < 4 * n) (e : lb q = nm (g / 2)) : q = arrz fr to g ∨ q = dep fr to g := by
  obtain ⟨a, ha, a1, a2, a3, a4⟩ := Edg_at h hq
  have : a = g / 2 := nm_inj h ha (by omega) (by rw [← a2, e])
  subst this
  rcases arr_dep (fr := fr) (to := to) g with ⟨x, y⟩ | ⟨x, y⟩ <;> rw [x, y] <;> cases o : outQ sg q
  · have := a4 o; left; rw [this, Int.toNat_natCast]
  · have := a3 o; right; rw [this, Int.toNat_natCast]
  · have := a4 o; right; rw [this, Int.toNat_natCast]
  · have := a3 o; left; rw [this, Int.toNat_natCast]
theorem lv_opp (q : Nat) : lv (lv q) = opp q ∧ lv (opp q) = opp (lv q) ∧ lv (opp (lv q)) = q := by
  unfold opp lv
  refine ⟨?_, ?_, ?_⟩
  · split <;> omega
  · split <;> split <;> omega
  · split <;> omega
/-- the regions beside a strand, before and behind an edge whose dart has a face of at most two -/
theorem bg_val (h : EdgA n sg lb nm fr to at_) {w L : Int → Int} (hv : VR n sg (fun q => w (lb q)) (cv sg lb w L)) {s : Nat} (hs : s < 4 * n) (h2 : tnz fr to at_ (tnz fr to at_ s) = s) (hw1 : ∀ q, q / 4 = arrz fr to s / 4 → w (lb (opp q)) = w (lb q)) (hw2 : ∀ q, q / 4 = arrz fr to (tnz fr to at_ s) / 4 → w (lb (opp q)) = w (lb q)) : L (lb (opp (arrz fr to s))) = L (lb (opp (dep fr to s))) := by
  have hcl := tn_closed h
  have ht := hcl.1 s hs
  obtain ⟨a1, a2, a3, a4⟩ := arr_ok h hs
  obtain ⟨b1, b2, b3, b4⟩ := arr_ok h ht
  obtain ⟨c1, c2, c3⟩ := dep_ok h hs
  obtain ⟨e1, e2, e3⟩ := dep_ok h ht
  have d1 := dep_tn h hs
  have d2 := dep_tn h ht
  rw [h2] at d2
  have f1 := cv_tn h hv hs
  obtain ⟨t, htt⟩ : ∃ t, t = tnz fr to at_ s := ⟨_, rfl⟩
  rw [← htt] at ht b1 b2 b3 b4 e1 e2 e3 d1 d2 f1 hw2
  obtain ⟨a, ha⟩ : ∃ a, a = arrz fr to s := ⟨_, rfl⟩
  obtain ⟨b, hb⟩ : ∃ b, b = arrz fr to t := ⟨_, rfl⟩
  rw [← ha] at a1 a2 a3 a4 d1 hw1 ⊢
  rw [← hb] at b1 b2 b3 b4 d2 hw2
  rw [d1] at e1 e2 e3 f1
  rw [d2] at c1 c2 c3 f1 ⊢
  have oo : outQ sg (opp a) = !outQ sg a := opp_out sg a
  have ob : outQ sg (opp (lv b)) = !outQ sg (lv b) := opp_out sg (lv b)
  obtain ⟨x1, x2, x3⟩ := lv_opp a
  obtain ⟨y1, y2, y3⟩ := lv_opp b
  have va := hv a a1
  have va' := hv (lv a) e1
  have vo := hv (opp a) (opp_lt a1)
  have voa := hv (opp (lv a)) (opp_lt e1)
  have vb := hv b b1
  have vb' := hv (lv b) c1
  have vob := hv (opp (lv b)) (opp_lt c1)
  rw [x1] at va'
  rw [x2] at vo
  rw [x3] at voa
  rw [y3] at vob
  rw [y1] at vb'
  have w1 := hw1 a rfl
  have w2 := hw1 (lv a) (by unfold lv; omega)
  have w3 := hw2 b rfl
  have w4 := hw2 (lv b) (by unfold lv; omega)
  have oe : ∀ q, outQ sg (opp q) = !outQ sg q := opp_out sg
  by_cases c : s % 2 = 0
  · have oa : outQ sg a = false := by rw [a3]; simp; omega
    have obb : outQ sg (lv b) = true := by rw [c3]; simp [c]
    have q1 : outQ sg (opp a) = true := by rw [oo, oa]; rfl
    have q2 : outQ sg (opp (lv b)) = false := by rw [ob, obb]; rfl
    rw [← cv_out (w := w) (L := L) q1]
    rw [fo_in q2, cv_in q2] at vob
    have vob' : L (lb (opp (lv b))) - w (lb (opp (lv b))) - cv sg lb w L b = -(w (lb (opp (lv b)))) := vob
    have hh : fo_ sg (fun q => w (lb q)) (lv a) = - fo_ sg (fun q => w (lb q)) b := by
      unfold fo_
      rw [e3, b3]
      show (if _ then w (lb (lv a)) else -(w (lb (lv a)))) = -(if _ then w (lb b) else -(w (lb b)))
      rw [e2, b4]
      by_cases k : t % 2 = 0
      · rw [if_pos (by simp [k]), if_neg (by simp; omega)]; omega
      · rw [if_neg (by simp [k]), if_pos (by simp; omega)]
    omega
  · have oa : outQ sg a = true := by rw [a3]; simp; omega
    have obb : outQ sg (lv b) = false := by rw [c3]; simp [c]
    have q1 : outQ sg (opp a) = false := by rw [oo, oa]; rfl
    have q2 : outQ sg (opp (lv b)) = true := by rw [ob, obb]; rfl
    rw [← cv_out (w := w) (L := L) q2]
    rw [fo_in q1, cv_in q1] at vo
    have vo' : L (lb (opp a)) - w (lb (opp a)) - cv sg lb w L (opp (lv a)) = -(w (lb (opp a))) := vo
    have h1 : fo_ sg (fun q => w (lb q)) (opp (lv a)) = - fo_ sg (fun q => w (lb q)) (lv a) := by
      unfold fo_
      rw [oe]
      show (if _ then w (lb (opp (lv a))) else -(w (lb (opp (lv a))))) = -(if _ then w (lb (lv a)) else -(w (lb (lv a))))
      rw [w2]
      cases outQ sg (lv a) <;> simp
    have h3 : fo_ sg (fun q => w (lb q)) (opp (lv b)) = - fo_ sg (fun q => w (lb q)) (lv b) := by
      unfold fo_
      rw [oe]
      show (if _ then w (lb (opp (lv b))) else -(w (lb (opp (lv b))))) = -(if _ then w (lb (lv b)) else -(w (lb (lv b))))
      rw [w4]
      cases outQ sg (lv b) <;> simp
    have hh : fo_ sg (fun q => w (lb q)) (lv a) = - fo_ sg (fun q => w (lb q)) b := by
      unfold fo_
      rw [e3, b3]
      show (if _ then w (lb (lv a)) else -(w (lb (lv a)))) = -(if _ then w (lb b) else -(w (lb b)))
      rw [e2, b4]
      by_cases k : t % 2 = 0
      · rw [if_pos (by simp [k]), if_neg (by simp; omega)]; omega
      · rw [if_neg (by simp [k]), if_pos (by simp; omega)]
    have h4 : fo_ sg (fun q => w (lb q)) a = - fo_ sg (fun q => w (lb q)) (lv b) := by
      rw [fo_out oa, fo_in obb]
      show w (lb a) = -(-(w (lb (lv b))))
      rw [a4, c2]; omega
    omega
end
