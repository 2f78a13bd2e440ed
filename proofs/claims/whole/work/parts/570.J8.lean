section
variable {nm fr to at_ : Nat → Int}
theorem J_pu {d : Dg} (hE : EdgA d.1 d.2.2.2 d.2.2.1 nm fr to at_) (hJ : Jd d) {x y ov u v w z : Int} {e f : Nat} (he : e < 2 * d.1) (hf : f < 2 * d.1) (hne : e ≠ f) (hm : meetP d.1 fr to at_ x y e f) (hu : ¬ usedL d.1 d.2.2.1 u) (hv : ¬ usedL d.1 d.2.2.1 v) (hw : ¬ usedL d.1 d.2.2.1 w) (hz : ¬ usedL d.1 d.2.2.1 z) (uv : u < v) (vw : v < w) (wz : w < z) : Jd (puX x y ov (nm e) (nm f) u v w z (stDz (to f).toNat z (stDz (to e).toNat v d))) := by
  intro o ho
  obtain ⟨pe, te, e1, e2, e3, e4, e5, e6, e7, e8, e9, e10⟩ := Edg_fr hE he
  obtain ⟨pf, tf, f1, f2, f3, f4, f5, f6, f7, f8, f9, f10⟩ := Edg_fr hE hf
  rw [e4, f4, Int.toNat_natCast, Int.toNat_natCast] at ho ⊢
  obtain ⟨D, hD⟩ : ∃ D, D = stDz tf z (stDz te v d) := ⟨_, rfl⟩
  rw [← hD] at ho ⊢
  have D1 : D.1 = d.1 := by rw [hD]; rfl
  have D2 : D.2.2.2 = d.2.2.2 := by rw [hD]; rfl
  have etf : te ≠ tf := fun q => hne (by rw [q, f8] at e8; omega)
  have ept : pe ≠ te ∧ pe ≠ tf := ⟨fun q => by rw [q, e6] at e5; exact absurd e5 (by decide), fun q => by rw [q, f6] at e5; exact absurd e5 (by decide)⟩
  have fpt : pf ≠ te ∧ pf ≠ tf := ⟨fun q => by rw [q, e6] at f5; exact absurd f5 (by decide), fun q => by rw [q, f6] at f5; exact absurd f5 (by decide)⟩
  have lt : D.2.2.1 te = v := by rw [hD]; show up (up d.2.2.1 te v) tf z te = v; rw [up_ne _ _ etf, up_eq]
  have lt2 : D.2.2.1 tf = z := by rw [hD]; show up (up d.2.2.1 te v) tf z tf = z; rw [up_eq]
  have lo : ∀ q, q ≠ te → q ≠ tf → D.2.2.1 q = d.2.2.1 q := fun q a b => by rw [hD]; show up (up d.2.2.1 te v) tf z q = _; rw [up_ne _ _ b, up_ne _ _ a]
  have nu : ∀ q, q < 4 * d.1 → d.2.2.1 q ≠ u ∧ d.2.2.1 q ≠ v ∧ d.2.2.1 q ≠ w ∧ d.2.2.1 q ≠ z := fun q hq => ⟨fun c => hu ⟨q, hq, c⟩, fun c => hv ⟨q, hq, c⟩, fun c => hw ⟨q, hq, c⟩, fun c => hz ⟨q, hq, c⟩⟩
  have main : ∀ (δ : Int), KFz D o → o v = o (nm e) + δ → o z = o (nm f) - δ → ∃ L : Int → Int, (∀ a b, PTz D o (vL u w a b L)) ∧ L v = L (nm e) + (if x < 0 then 0 else δ) ∧ L z = L (nm f) - (if y < 0 then 0 else δ) ∧ (if y < 0 then L z - o z else L (nm f)) = (if x < 0 then L v - o v else L (nm e)) + δ := by
    intro δ hk q1 q2
    have hkp : KP d.1 d.2.2.2 (fun q => o (D.2.2.1 q)) := by
      have := (KF_KP (n := d.1) (sg := d.2.2.2) (lb := D.2.2.1) (om := fun q => o (D.2.2.1 q)) (w := o) (fun _ _ => rfl)).1 (fun c hc => by
        have := hk c (by rw [D1]; exact hc)
        rw [D2] at this
        exact this)
      exact this
    obtain ⟨P, p1, p2, p3, p4, p5⟩ := pu_core hE (Jd_p hE hJ) (x := x) (y := y) he hf hne hm hkp (δ := δ) (fun g hg => by
      obtain ⟨pg, tg, g1, g2, g3, g4, g5, g6, g7, g8, g9, g10⟩ := Edg_fr hE hg
      rw [g3, g4, Int.toNat_natCast, Int.toNat_natCast]
      have pn : pg ≠ te ∧ pg ≠ tf := ⟨fun q => by rw [q, e6] at g5; exact absurd g5 (by decide), fun q => by rw [q, f6] at g5; exact absurd g5 (by decide)⟩
      show o (D.2.2.1 tg) - o (D.2.2.1 pg) = _
      rw [lo pg pn.1 pn.2, g9]
      by_cases ge : g = e
      · subst ge
        rw [e4] at g4
        have : tg = te := by omega
        rw [this, lt, if_pos rfl, if_neg hne]; omega
      · by_cases gf : g = f
        · subst gf
          rw [f4] at g4
          have : tg = tf := by omega
          rw [this, lt2, if_pos rfl, if_neg ge]; omega
        · have t1 : tg ≠ te := fun q => ge (by rw [q, e8] at g8; omega)
          have t2 : tg ≠ tf := fun q => gf (by rw [q, f8] at g8; omega)
          rw [lo tg t1 t2, g10, if_neg ge, if_neg gf]; omega)
    rw [e3, e4, Int.toNat_natCast, Int.toNat_natCast] at p3
    rw [f3, f4, Int.toNat_natCast, Int.toNat_natCast] at p4
    rw [e3, e4, f3, f4, Int.toNat_natCast, Int.toNat_natCast, Int.toNat_natCast, Int.toNat_natCast] at p5
    obtain ⟨L, hL⟩ := labfun (n := d.1) (lb := D.2.2.1) (lfz d.2.2.2 P) (fun a b ha hb hab => by
      by_cases a1 : a = te
      · rw [a1, lt] at hab
        by_cases b1 : b = te
        · rw [a1, b1]
        · by_cases b2 : b = tf
          · rw [b2, lt2] at hab; omega
          · rw [lo b b1 b2] at hab; exact absurd hab.symm (nu b hb).2.1
      · by_cases a2 : a = tf
        · rw [a2, lt2] at hab
          by_cases b2 : b = tf
          · rw [a2, b2]
          · by_cases b1 : b = te
            · rw [b1, lt] at hab; omega
            · rw [lo b b1 b2] at hab; exact absurd hab.symm (nu b hb).2.2.2
        · rw [lo a a1 a2] at hab
          by_cases b1 : b = te
          · rw [b1, lt] at hab; exact absurd hab (nu a ha).2.1
          · by_cases b2 : b = tf
            · rw [b2, lt2] at hab; exact absurd hab (nu a ha).2.2.2
            · rw [lo b b1 b2] at hab
              obtain ⟨g, hg, x1, x2, x3, x4⟩ := Edg_at hE ha
              obtain ⟨g', hg', y1, y2, y3, y4⟩ := Edg_at hE hb
              have : g' = g := nm_inj hE hg' hg (by rw [← x2, ← y2, hab])
              subst this
              cases oa : outQ d.2.2.2 a <;> cases ob : outQ d.2.2.2 b
              · have z1 := x4 oa; have z2 := y4 ob
                have : a = b := by omega
                rw [this]
              · have z1 := x4 oa; have z2 := y3 ob
                have ne : g' ≠ e := fun q => a1 (by rw [q, e4] at z1; omega)
                have nf : g' ≠ f := fun q => a2 (by rw [q, f4] at z1; omega)
                have := p2 g' hg ne nf
                rw [z1, z2, Int.toNat_natCast, Int.toNat_natCast] at this
                rw [lf_in oa, lf_out ob, this]
              · have z1 := x3 oa; have z2 := y4 ob
                have ne : g' ≠ e := fun q => b1 (by rw [q, e4] at z2; omega)
                have nf : g' ≠ f := fun q => b2 (by rw [q, f4] at z2; omega)
                have := p2 g' hg ne nf
                rw [z1, z2, Int.toNat_natCast, Int.toNat_natCast] at this
                rw [lf_out oa, lf_in ob, this]
              · have z1 := x3 oa; have z2 := y3 ob
                have : a = b := by omega
                rw [this])
    have Lv : L v = P (lv te) := by rw [← lt, hL te e2, lf_in e6]
    have Lz : L z = P (lv tf) := by rw [← lt2, hL tf f2, lf_in f6]
    have Lx : L (nm e) = P pe := by rw [← e9, ← lo pe ept.1 ept.2, hL pe e1, lf_out e5]
    have Ly : L (nm f) = P pf := by rw [← f9, ← lo pf fpt.1 fpt.2, hL pf f1, lf_out f5]
    refine ⟨L, fun a b c hc => ?_, by rw [Lv, Lx]; exact p3, by rw [Lz, Ly]; exact p4, ?_⟩
    · have hc' : c < d.1 := by rw [← D1]; exact hc
      show pt D.2.2.2 D.2.2.1 o (vL u w a b L) c
      rw [D2]
      refine VR_pt p1 (fun _ _ => rfl) (fun q hq => ?_) c hc'
      have nq : D.2.2.1 q ≠ u ∧ D.2.2.1 q ≠ w := by
        by_cases a1 : q = te
        · rw [a1, lt]; omega
        · by_cases a2 : q = tf
          · rw [a2, lt2]; omega
          · rw [lo q a1 a2]; exact ⟨(nu q hq).1, (nu q hq).2.2.1⟩
      rw [vL_o nq.1 nq.2, hL q hq]
    · have v1 := p1 te e2
      have v2 := p1 tf f2
      rw [fo_in e6] at v1
      rw [fo_in f6] at v2
      have v1' : P te - P (lv te) = -(o (D.2.2.1 te)) := v1
      have v2' : P tf - P (lv tf) = -(o (D.2.2.1 tf)) := v2
      rw [lt] at v1'
      rw [lt2] at v2'
      rw [Lv, Lz, Lx, Ly, show P (lv te) - o v = P te by omega, show P (lv tf) - o z = P tf by omega]
      exact p5
  have nx : nm e ≠ u ∧ nm e ≠ v ∧ nm e ≠ w ∧ nm e ≠ z := by rw [← e9]; exact nu pe e1
  have ny : nm f ≠ u ∧ nm f ≠ v ∧ nm f ≠ w ∧ nm f ≠ z := by rw [← f9]; exact nu pf f1
  have vl : ∀ (a b : Int) (L : Int → Int), vL u w a b L u = a ∧ vL u w a b L w = b ∧ vL u w a b L v = L v ∧ vL u w a b L z = L z ∧ vL u w a b L (nm e) = L (nm e) ∧ vL u w a b L (nm f) = L (nm f) := fun a b L => ⟨vL_u _ _ _ _ _, vL_v (by omega) _ _ _, vL_o (by omega) (by omega) _ _ _, vL_o (by omega) (by omega) _ _ _, vL_o nx.1 nx.2.2.1 _ _ _, vL_o ny.1 ny.2.2.1 _ _ _⟩
  have s1 : (1 : Int) = 1 ∨ (1 : Int) = -1 := Or.inl rfl
  have s2 : (-1 : Int) = 1 ∨ (-1 : Int) = -1 := Or.inr rfl
  have s3 : (-(1 : Int)) = 1 ∨ (-(1 : Int)) = -1 := Or.inr rfl
  have s4 : (-(-1 : Int)) = 1 ∨ (-(-1 : Int)) = -1 := Or.inl rfl
  have mn : (-(-1 : Int)) = 1 := rfl
  unfold puX at ho ⊢
  by_cases cx : x < 0 <;> by_cases cy : y < 0 <;> by_cases co : ov = 0
  all_goals simp only [cx, cy, co, if_true, if_false, decide_true, decide_false, ne_eq, not_true_eq_false, not_false_eq_true, bne_self_eq_false, Bool.true_bne, Bool.false_bne, Bool.not_false, Bool.false_eq_true, mn] at ho ⊢
  · obtain ⟨k, k2⟩ := (cr_KF s1).1 ho
    obtain ⟨k0, k1⟩ := (cr_KF s2).1 k
    obtain ⟨L, l1, l2, l3, l4⟩ := main (o v - o (nm e)) k0 (by omega) (by omega)
    simp only [cx, cy, if_true, if_false] at l2 l3 l4
    obtain ⟨v1, v2, v3, v4, v5, v6⟩ := vl (L (nm f) + o u) (L (nm f) + o u) L
    refine ⟨_, (cr_PT s1).2 ⟨(cr_PT s2).2 ⟨l1 (L (nm f) + o u) (L (nm f) + o u), ?_⟩, ?_⟩⟩
    · rw [Pc_neg (by decide)]; refine ⟨?_, ?_, ?_⟩ <;> omega
    · rw [Pc_pos (by decide)]; refine ⟨?_, ?_, ?_⟩ <;> omega
  · obtain ⟨k, k2⟩ := (cr_KF s3).1 ho
    obtain ⟨k0, k1⟩ := (cr_KF s1).1 k
    obtain ⟨L, l1, l2, l3, l4⟩ := main (o v - o (nm e)) k0 (by omega) (by omega)
    simp only [cx, cy, if_true, if_false] at l2 l3 l4
    obtain ⟨v1, v2, v3, v4, v5, v6⟩ := vl (L (nm f) + o u) (L (nm f) + o u) L
    refine ⟨_, (cr_PT s3).2 ⟨(cr_PT s1).2 ⟨l1 (L (nm f) + o u) (L (nm f) + o u), ?_⟩, ?_⟩⟩
    · rw [Pc_pos (by decide)]; refine ⟨?_, ?_, ?_⟩ <;> omega
    · rw [Pc_neg (by decide)]; refine ⟨?_, ?_, ?_⟩ <;> omega
  · obtain ⟨k, k2⟩ := (cr_KF s3).1 ho
    obtain ⟨k0, k1⟩ := (cr_KF s1).1 k
    obtain ⟨L, l1, l2, l3, l4⟩ := main (o v - o (nm e)) k0 (by omega) (by omega)
    simp only [cx, cy, if_true, if_false] at l2 l3 l4
    obtain ⟨v1, v2, v3, v4, v5, v6⟩ := vl (L (nm e) - o w) (L (nm e)) L
    refine ⟨_, (cr_PT s3).2 ⟨(cr_PT s1).2 ⟨l1 (L (nm e) - o w) (L (nm e)), ?_⟩, ?_⟩⟩
    · rw [Pc_pos (by decide)]; refine ⟨?_, ?_, ?_⟩ <;> omega
    · rw [Pc_neg (by decide)]; refine ⟨?_, ?_, ?_⟩ <;> omega
  · obtain ⟨k, k2⟩ := (cr_KF s1).1 ho
    obtain ⟨k0, k1⟩ := (cr_KF s2).1 k
    obtain ⟨L, l1, l2, l3, l4⟩ := main (o v - o (nm e)) k0 (by omega) (by omega)
    simp only [cx, cy, if_true, if_false] at l2 l3 l4
    obtain ⟨v1, v2, v3, v4, v5, v6⟩ := vl (L (nm e) - o w) (L (nm e)) L
    refine ⟨_, (cr_PT s1).2 ⟨(cr_PT s2).2 ⟨l1 (L (nm e) - o w) (L (nm e)), ?_⟩, ?_⟩⟩
    · rw [Pc_neg (by decide)]; refine ⟨?_, ?_, ?_⟩ <;> omega
    · rw [Pc_pos (by decide)]; refine ⟨?_, ?_, ?_⟩ <;> omega
  · obtain ⟨k, k2⟩ := (cr_KF s3).1 ho
    obtain ⟨k0, k1⟩ := (cr_KF s1).1 k
    obtain ⟨L, l1, l2, l3, l4⟩ := main (o v - o (nm e)) k0 (by omega) (by omega)
    simp only [cx, cy, if_true, if_false] at l2 l3 l4
    obtain ⟨v1, v2, v3, v4, v5, v6⟩ := vl (L (nm f)) (L (nm f) - o u) L
    refine ⟨_, (cr_PT s3).2 ⟨(cr_PT s1).2 ⟨l1 (L (nm f)) (L (nm f) - o u), ?_⟩, ?_⟩⟩
    · rw [Pc_pos (by decide)]; refine ⟨?_, ?_, ?_⟩ <;> omega
    · rw [Pc_neg (by decide)]; refine ⟨?_, ?_, ?_⟩ <;> omega
  · obtain ⟨k, k2⟩ := (cr_KF s1).1 ho
    obtain ⟨k0, k1⟩ := (cr_KF s2).1 k
    obtain ⟨L, l1, l2, l3, l4⟩ := main (o v - o (nm e)) k0 (by omega) (by omega)
    simp only [cx, cy, if_true, if_false] at l2 l3 l4
    obtain ⟨v1, v2, v3, v4, v5, v6⟩ := vl (L (nm f)) (L (nm f) - o u) L
    refine ⟨_, (cr_PT s1).2 ⟨(cr_PT s2).2 ⟨l1 (L (nm f)) (L (nm f) - o u), ?_⟩, ?_⟩⟩
    · rw [Pc_neg (by decide)]; refine ⟨?_, ?_, ?_⟩ <;> omega
    · rw [Pc_pos (by decide)]; refine ⟨?_, ?_, ?_⟩ <;> omega
  · obtain ⟨k, k2⟩ := (cr_KF s1).1 ho
    obtain ⟨k0, k1⟩ := (cr_KF s2).1 k
    obtain ⟨L, l1, l2, l3, l4⟩ := main (o v - o (nm e)) k0 (by omega) (by omega)
    simp only [cx, cy, if_true, if_false] at l2 l3 l4
    obtain ⟨v1, v2, v3, v4, v5, v6⟩ := vl (L z - o z) (L (nm e) - o (nm e)) L
    refine ⟨_, (cr_PT s1).2 ⟨(cr_PT s2).2 ⟨l1 (L z - o z) (L (nm e) - o (nm e)), ?_⟩, ?_⟩⟩
    · rw [Pc_neg (by decide)]; refine ⟨?_, ?_, ?_⟩ <;> omega
    · rw [Pc_pos (by decide)]; refine ⟨?_, ?_, ?_⟩ <;> omega
  · obtain ⟨k, k2⟩ := (cr_KF s3).1 ho
    obtain ⟨k0, k1⟩ := (cr_KF s1).1 k
    obtain ⟨L, l1, l2, l3, l4⟩ := main (o v - o (nm e)) k0 (by omega) (by omega)
    simp only [cx, cy, if_true, if_false] at l2 l3 l4
    obtain ⟨v1, v2, v3, v4, v5, v6⟩ := vl (L z - o z) (L (nm e) - o (nm e)) L
    refine ⟨_, (cr_PT s3).2 ⟨(cr_PT s1).2 ⟨l1 (L z - o z) (L (nm e) - o (nm e)), ?_⟩, ?_⟩⟩
    · rw [Pc_pos (by decide)]; refine ⟨?_, ?_, ?_⟩ <;> omega
    · rw [Pc_neg (by decide)]; refine ⟨?_, ?_, ?_⟩ <;> omega
end
section
variable {nm fr to at_ : Nat → Int}
theorem J_puS {d : Dg} (hE : EdgA d.1 d.2.2.2 d.2.2.1 nm fr to at_) (h : Jd d) {x y ov u v w z : Int} {ex ey : Option Nat} (hx : edN d.1 nm (absI x) ex) (hy : edN d.1 nm (absI y) ey) (hu : IsFree d.1 d.2.2.1 0 u) (hv : IsFree d.1 d.2.2.1 u v) (hw : IsFree d.1 d.2.2.1 v w) (hz : IsFree d.1 d.2.2.1 w z) : Jd (puS nm fr to at_ x y ov u v w z ex ey d).2 := by
  unfold puS
  cases ex with
  | none => exact h
  | some e =>
    cases ey with
    | none => exact h
    | some f =>
      dsimp only
      split
      · rename_i c
        exact J_pu hE h hx.1 hy.1 c.1 c.2.2 hu.2.1 hv.2.1 hw.2.1 hz.2.1 hv.1 hw.1 hz.1
      · exact h
end
