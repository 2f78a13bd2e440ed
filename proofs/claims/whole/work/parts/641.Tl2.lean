section
variable {d : Dg} {nm fr to at_ : Nat → Int} {k m : Nat} {nuv : Nat → Int}
theorem J_rvS (h : okD d) (hJ : Jd d) (hE : EdgA d.1 d.2.2.2 d.2.2.1 nm fr to at_) (k : Nat) : Jd (rvS to at_ k d).2 := by
  unfold rvS
  split
  · obtain ⟨φ, hφ⟩ := phi_ok hE (co := coR d.1 to at_) (like_refl _ _) (k : Int)
    exact J_rev h.2.2.1 hJ _ _ φ hφ
  · exact hJ
theorem Mv_ok (h : okD d) (hJ : Jd d) (hE : EdgA d.1 d.2.2.2 d.2.2.1 nm fr to at_) (ha : Arg k m nuv) {r : Int × Dg} (a : MvR k nuv d nm fr to at_ r) : okD r.2 ∧ Jd r.2 := by
  obtain ⟨u0, v0, w0, z0, fu, fv, fw, fz, bu, bv, bw, bz⟩ := free_ex h hE
  rcases a with ⟨e, a⟩ | ⟨e, u, v, t, ⟨u1, v1⟩, t1, a⟩ | ⟨e, u, v, w, z, ex, ey, ⟨u1, v1, w1, z1⟩, x1, y1, a⟩ | ⟨e, a⟩ | ⟨e, a⟩ | ⟨e, a⟩ | ⟨e, a⟩ | ⟨e, a⟩ <;> rw [a]
  · unfold slS
    by_cases c : (nuv 0).toNat < (rndz (tnz fr to at_) (4 * d.1) (4 * d.1)).2.1 ∧ deedS fr to at_ ((rndz (tnz fr to at_) (4 * d.1) (4 * d.1)).2.2.1 (nuv 0).toNat) ((rndz (tnz fr to at_) (4 * d.1) (4 * d.1)).2.2.2 (nuv 0).toNat) = 3
    · rw [if_pos c]
      obtain ⟨k1, k2, k3, k4, k5⟩ := face_ok hE c.1
      obtain ⟨_, _, i3⟩ := face_it hE c.1
      obtain ⟨g1, g2, g3, g4⟩ := deed_3 k2 c.2
      exact ⟨okD_sl h hE k1 (i3 g1) g2 g3 g4, J_sl hE hJ k1 (i3 g1) g2 g3 g4⟩
    · rw [if_neg c]; exact ⟨h, hJ⟩
  · have q1 := free_uniq u1 fu; subst q1
    have q2 := free_uniq v1 fv; subst q2
    have hs := (ha.2.2.2.1 e).2.2.1
    exact ⟨tw_ok h hs t1 u1 v1 bu bv, J_twS hJ hs t1 u1 v1⟩
  · have q1 := free_uniq u1 fu; subst q1
    have q2 := free_uniq v1 fv; subst q2
    have q3 := free_uniq w1 fw; subst q3
    have q4 := free_uniq z1 fz; subst q4
    exact ⟨pu_ok h hE x1 y1 u1 v1 w1 z1 bz, J_puS hE hJ x1 y1 u1 v1 w1 z1⟩
  · exact ⟨(mir_ok h d.1 (Nat.le_refl _)).1, J_mir h hJ d.1 (Nat.le_refl _)⟩
  · exact ⟨rv_ok h hE _, J_rvS h hJ hE _⟩
  · refine ⟨ch_ok h _, ?_⟩
    unfold chS; split
    · exact J_ch h.2.2.1 hJ
    · exact hJ
  · refine ⟨sm_ok h _, ?_⟩
    unfold smS; split
    · split
      · exact J_smoo hJ (by assumption)
      · exact hJ
    · exact hJ
  · exact ⟨okD_rn h hE, J_rn hJ hE⟩
theorem atx_ex (hE : EdgA d.1 d.2.2.2 d.2.2.1 nm fr to at_) (l : Int) : ∃ t, atL d l t := by
  by_cases c : ∃ q, q < 4 * d.1 ∧ d.2.2.1 q = l
  · obtain ⟨q, q1, q2⟩ := c
    obtain ⟨e, e1, e2, e3, e4, e5⟩ := Edg_at hE q1
    obtain ⟨_, _, f3, f4, f5, f6, _, _⟩ := fr_ok hE e1
    exact ⟨some (to e).toNat, f4, f5, by rw [f6, ← e3, q2]⟩
  · exact ⟨none, fun q hq w => c ⟨q, hq, w⟩⟩
theorem ed_ex (n : Nat) (nm : Nat → Int) (l : Int) : ∃ o, edN n nm l o := by
  by_cases c : ∃ e, e < 2 * n ∧ nm e = l
  · obtain ⟨e, e1, e2⟩ := c
    exact ⟨some e, e1, e2⟩
  · exact ⟨none, fun e he w => c ⟨e, he, w⟩⟩
theorem sl_DA {n ci : Int} {A S : Nat → Int} (hD : DA d n ci A S) (e f g : Nat) : DA (slD fr to nm e f g d) n ci (sl1z fr to nm g d.2.2.1 (sl1z fr to nm f d.2.2.1 (sl1z fr to nm e d.2.2.1 A))) S := by
  obtain ⟨e1, e2, hA, hS⟩ := hD
  exact ⟨e1, e2, sl1_like (sl1_like (sl1_like hA)), hS⟩
theorem rn_DA {n ci : Int} {A S : Nat → Int} (hD : DA d n ci A S) : DA (rnD fr to at_ d) n ci (rnS fr to (nx to at_) (rndz (nx to at_) (2 * d.1) (2 * d.1)).2.2.1 (rndz (nx to at_) (2 * d.1) (2 * d.1)).2.2.2 A (rndz (nx to at_) (2 * d.1) (2 * d.1)).2.1).2 S := by
  obtain ⟨e1, e2, hA, hS⟩ := hD
  exact ⟨e1, e2, (rnS_like hA _).2, hS⟩
end
theorem C_move (fl : Nat) (hfl : 2000 ≤ fl) {d : Dg} (h : okD d) {k m : Nat} {nuv : Nat → Int} (hk : k = 4 ∨ k = 5 ∨ k = 6 ∨ k = 8 ∨ k = 9 ∨ k = 10 ∨ k = 11 ∨ k = 12) (ha : Arg k m nuv) {cnt dn : Int} {st vl : Nat → Int} (hL : LnC cnt dn st vl m nuv) {n ci : Int} {A S : Nat → Int} (kn ed cm pc fa br cu : Int) (cO aT fO sZ sT fR kY nM pO sC tO : Nat → Int) (hD : DA d n ci A S) (hK : ShK d (kn, ed, cm, pc, fa, br, cu, cO, aT, fO, sZ, sT, fR, kY, nM, pO, sC, tO)) {n2 c2 : Int} {A2 S2 : Nat → Int} (hX : DA d n2 c2 A2 S2) (f0 : Nat → Int) :
    ∃ (o : ShT) (r : Int × Dg) (f' : Nat → Int) (n' c' : Int) (A' S' : Nat → Int), MvR k nuv d o.2.2.2.2.2.2.2.2.2.2.2.2.2.2.1 o.2.2.2.2.2.2.2.2.2.2.2.2.1 o.2.2.2.2.2.2.2.2.2.2.2.2.2.2.2.2.2 o.2.2.2.2.2.2.2.2.1 r ∧ LM_En_move fl n A S cnt dn st vl (k : Int) f0 n2 c2 0 A2 S2 kn ed cm pc fa br cu cO aT fO sZ sT fR kY nM pO sC tO = some (r.1, f', n', c', 0, A', S', o.1, o.2.1, o.2.2.1, o.2.2.2.1, o.2.2.2.2.1, o.2.2.2.2.2.1, o.2.2.2.2.2.2.1, o.2.2.2.2.2.2.2.1, o.2.2.2.2.2.2.2.2.1, o.2.2.2.2.2.2.2.2.2.1, o.2.2.2.2.2.2.2.2.2.2.1, o.2.2.2.2.2.2.2.2.2.2.2.1, o.2.2.2.2.2.2.2.2.2.2.2.2.1, o.2.2.2.2.2.2.2.2.2.2.2.2.2.1, o.2.2.2.2.2.2.2.2.2.2.2.2.2.2.1, o.2.2.2.2.2.2.2.2.2.2.2.2.2.2.2.1, o.2.2.2.2.2.2.2.2.2.2.2.2.2.2.2.2.1, o.2.2.2.2.2.2.2.2.2.2.2.2.2.2.2.2.2) ∧ (r.1 = 1 → DA r.2 n' c' A' S') ∧ ShO d o := by
  obtain ⟨⟨kn', ed', cm', pc', fa', br', cu', cO', aT', fO', sZ', sT', fR', kY', nM', pO', sC', tO'⟩, s1, s2⟩ := C_shape fl (by omega) h n A S kn ed cm pc fa br cu cO aT fO sZ sT fR kY nM pO sC tO hD hK
  have s3 := s2
  obtain ⟨k1, k2, k3, k4, k5, k6, k7, k8, k9, k10, k11⟩ := s2
  dsimp only at k1 k2 k3 k4 k5 k6 k7 k8 k9 k10 k11
  have F4 := cnt_F k3
  have hn := h.1
  have f01 : ∀ {r : Int × Dg}, MvR k nuv d nM' fR' tO' aT' r → r.1 = 0 ∨ r.1 = 1 := fun a => by
    rcases Mv_01 a with ⟨w, _⟩ | w
    · exact Or.inl w
    · exact Or.inr w
  unfold LM_En_move LB_En_move_0
  rw [s1, Option.bind_some]
  dsimp only
  have one : (k = 4 ∨ k = 9 ∨ k = 10 ∨ k = 11) → LM_Li_number fl cnt dn st vl 0 = some (((nuv 0).toNat : Nat) : Int) := fun w => by
    obtain ⟨e1, e2⟩ := ha.2.2.1 (by omega)
    unfold isN at e2
    have := C_num fl hL (i := 0) (by omega) (by omega)
    rw [show ((0 : Nat) : Int) = 0 from rfl] at this
    rw [this, Int.toNat_of_nonneg e2.1]
  have zero : (k = 8 ∨ k = 12) → LM_Li_number fl cnt dn st vl 0 = some 0 := fun w => by
    have e1 := ha.2.2.2.2.2.2 (by omega)
    exact C_num0 fl hL (by omega)
  rcases hk with w | w | w | w | w | w | w | w
  · -- slide
    rw [one (Or.inl w), Option.bind_some, w, if_pos (by decide)]
    have mr : MvR k nuv d nM' fR' tO' aT' (slS nM' fR' tO' aT' (nuv 0).toNat d) := Or.inl ⟨w, rfl⟩
    rw [w] at mr
    by_cases c : (nuv 0).toNat < (rndz (tnz fR' tO' aT') (4 * d.1) (4 * d.1)).2.1
    · obtain ⟨q1, q2, q3, q4, q5⟩ := face_ok k3 c
      rw [k6, C_slide fl (by omega) h k3 sZ' sT' (F := (rndz (tnz fR' tO' aT') (4 * d.1) (4 * d.1)).2.1) (by omega) c (k10 _ c) (k9 _ c) q1 q2 A2, Option.bind_some]
      by_cases c3 : deedS fR' tO' aT' ((rndz (tnz fR' tO' aT') (4 * d.1) (4 * d.1)).2.2.1 (nuv 0).toNat) ((rndz (tnz fR' tO' aT') (4 * d.1) (4 * d.1)).2.2.2 (nuv 0).toNat) = 3
      · have es : slS nM' fR' tO' aT' (nuv 0).toNat d = (1, slD fR' tO' nM' ((rndz (tnz fR' tO' aT') (4 * d.1) (4 * d.1)).2.2.1 (nuv 0).toNat / 2) (tnz fR' tO' aT' ((rndz (tnz fR' tO' aT') (4 * d.1) (4 * d.1)).2.2.1 (nuv 0).toNat) / 2) (tnz fR' tO' aT' (tnz fR' tO' aT' ((rndz (tnz fR' tO' aT') (4 * d.1) (4 * d.1)).2.2.1 (nuv 0).toNat)) / 2) d) := if_pos ⟨c, c3⟩
        rw [es] at mr
        rw [if_pos c3, if_pos (Or.inr rfl)]
        exact ⟨(kn', ed', cm', pc', fa', br', cu', cO', aT', fO', sZ', sT', fR', kY', nM', pO', sC', tO'), _, f0, n2, c2, _, S2, mr, by rw [k6], fun _ => sl_DA hX _ _ _, s3⟩
      · have es : slS nM' fR' tO' aT' (nuv 0).toNat d = (0, d) := if_neg (fun g => c3 g.2)
        rw [es] at mr
        rw [if_neg c3, if_pos (Or.inl rfl)]
        exact ⟨(kn', ed', cm', pc', fa', br', cu', cO', aT', fO', sZ', sT', fR', kY', nM', pO', sC', tO'), _, f0, n2, c2, _, S2, mr, by rw [k6], fun g => absurd (show (0 : Int) = 1 from g) (by decide), s3⟩
    · have es : slS nM' fR' tO' aT' (nuv 0).toNat d = (0, d) := if_neg (fun g => c g.1)
      rw [es] at mr
      rw [C_slide0 fl fa' _ (by omega) (by omega) sZ' sT' A2, Option.bind_some, if_pos (Or.inl rfl)]
      exact ⟨(kn', ed', cm', pc', fa', br', cu', cO', aT', fO', sZ', sT', fR', kY', nM', pO', sC', tO'), _, f0, n2, c2, _, S2, mr, rfl, fun g => absurd (show (0 : Int) = 1 from g) (by decide), s3⟩
  · -- twist
    obtain ⟨e0, e1, e2, e3⟩ := ha.2.2.2.1 w
    unfold isN at e1
    unfold isS at e2
    unfold is01 at e3
    have g0 := C_num fl hL (i := 0) (by omega) (by omega)
    have g1 := C_num fl hL (i := 1) (by omega) (by omega)
    have g2 := C_num fl hL (i := 2) (by omega) (by omega)
    rw [show ((0 : Nat) : Int) = 0 from rfl] at g0
    rw [show ((1 : Nat) : Int) = 1 from rfl] at g1
    rw [show ((2 : Nat) : Int) = 2 from rfl] at g2
    obtain ⟨u0, v0, w0, z0, fu, fv, fw, fz, bu, bv, bw, bz⟩ := free_ex h k3
    obtain ⟨t, ht⟩ := atx_ex k3 (nuv 0)
    have mr : MvR k nuv d nM' fR' tO' aT' (twS (nuv 0) (nuv 1) (nuv 2) u0 v0 t d) := Or.inr (Or.inl ⟨w, u0, v0, t, ⟨fu, fv⟩, ht, rfl⟩)
    have m01 := f01 mr
    obtain ⟨f', n', c', kn2, A', S', r1, r2, r3⟩ := C_twist fl (by omega) h k3 hX (s := nuv 1) (ov := nuv 2) ht fu fv f0 0
    have kn0 : kn2 = 0 := by omega
    rw [kn0, ← k2] at r1
    have key : LB_En_move_117 fl n A S cnt dn st vl (nuv 2) (nuv 1) (nuv 0) (k : Int) (nuv 0) f0 n2 c2 0 A2 S2 kn' ed' cm' pc' fa' br' cu' cO' aT' fO' sZ' sT' fR' kY' nM' pO' sC' tO' = some ((twS (nuv 0) (nuv 1) (nuv 2) u0 v0 t d).1, f', n', c', 0, A', S', kn', ed', cm', pc', fa', br', cu', cO', aT', fO', sZ', sT', fR', kY', nM', pO', sC', tO') := by
      unfold LB_En_move_117
      rw [r1, Option.bind_some, if_pos m01]
    rw [g0, Option.bind_some, w, if_neg (by decide), if_pos (by decide), g1, Option.bind_some, g2, Option.bind_some]
    rw [w] at mr key
    refine ⟨(kn', ed', cm', pc', fa', br', cu', cO', aT', fO', sZ', sT', fR', kY', nM', pO', sC', tO'), _, f', n', c', A', S', mr, ?_, fun _ => r2, s3⟩
    rcases e3 with e3 | e3
    · rw [if_neg (by omega)]
      rw [e3] at key ⊢
      exact key
    · rw [if_pos (by omega)]
      rw [e3] at key ⊢
      exact key
  · -- push
    obtain ⟨e0, e1, e2, e3⟩ := ha.2.2.2.2.1 w
    unfold isB at e1 e3
    unfold is01 at e2
    have g0 := C_num fl hL (i := 0) (by omega) (by omega)
    have g1 := C_num fl hL (i := 1) (by omega) (by omega)
    have g2 := C_num fl hL (i := 2) (by omega) (by omega)
    rw [show ((0 : Nat) : Int) = 0 from rfl] at g0
    rw [show ((1 : Nat) : Int) = 1 from rfl] at g1
    rw [show ((2 : Nat) : Int) = 2 from rfl] at g2
    obtain ⟨u0, v0, w0, z0, fu, fv, fw, fz, bu, bv, bw, bz⟩ := free_ex h k3
    obtain ⟨ex, hx⟩ := ed_ex d.1 nM' (absI (nuv 0))
    obtain ⟨ey, hy⟩ := ed_ex d.1 nM' (absI (nuv 2))
    have mr : MvR k nuv d nM' fR' tO' aT' (puS nM' fR' tO' aT' (nuv 0) (nuv 2) (nuv 1) u0 v0 w0 z0 ex ey d) := Or.inr (Or.inr (Or.inl ⟨w, u0, v0, w0, z0, ex, ey, ⟨fu, fv, fw, fz⟩, hx, hy, rfl⟩))
    have m01 := f01 mr
    obtain ⟨f', n', kn2, A', S', r1, r2, r3⟩ := C_push fl (by omega) h k3 k8 k11 hX (x := nuv 0) (y := nuv 2) (ov := nuv 1) (by omega) (by omega) (by omega) hx hy fu fv fw fz f0 0
    have kn0 : kn2 = 0 := by omega
    rw [kn0, ← k2] at r1
    have key : LB_En_move_156 fl n A S cnt dn st vl (nuv 1) (nuv 2) (nuv 0) (k : Int) (nuv 0) f0 n2 c2 0 A2 S2 kn' ed' cm' pc' fa' br' cu' cO' aT' fO' sZ' sT' fR' kY' nM' pO' sC' tO' = some ((puS nM' fR' tO' aT' (nuv 0) (nuv 2) (nuv 1) u0 v0 w0 z0 ex ey d).1, f', n', c2, 0, A', S', kn', ed', cm', pc', fa', br', cu', cO', aT', fO', sZ', sT', fR', kY', nM', pO', sC', tO') := by
      unfold LB_En_move_156
      rw [r1, Option.bind_some, if_pos m01]
    rw [g0, Option.bind_some, w, if_neg (by decide), if_neg (by decide), if_pos (by decide), g2, Option.bind_some, g1, Option.bind_some]
    rw [w] at mr key
    refine ⟨(kn', ed', cm', pc', fa', br', cu', cO', aT', fO', sZ', sT', fR', kY', nM', pO', sC', tO'), _, f', n', c2, A', S', mr, ?_, fun _ => r2, s3⟩
    rcases e2 with e3 | e3
    · rw [if_neg (by omega)]
      rw [e3] at key ⊢
      exact key
    · rw [if_pos (by omega)]
      rw [e3] at key ⊢
      exact key
  · -- mirror
    have mr : MvR k nuv d nM' fR' tO' aT' (1, mirD d.1 d) := Or.inr (Or.inr (Or.inr (Or.inl ⟨w, rfl⟩)))
    obtain ⟨kn2, A', S', r1, r2, r3⟩ := C_mirror fl (by omega) h hX 0
    have kn0 : kn2 = 0 := by omega
    rw [kn0] at r1
    rw [w] at mr
    rw [zero (Or.inl w), Option.bind_some, w, if_neg (by decide), if_neg (by decide), if_neg (by decide), if_neg (by decide), if_pos (by decide), r1, Option.bind_some, if_pos (Or.inr rfl)]
    exact ⟨(kn', ed', cm', pc', fa', br', cu', cO', aT', fO', sZ', sT', fR', kY', nM', pO', sC', tO'), _, f0, n2, c2, A', S', mr, rfl, fun _ => r2, s3⟩
  · -- reverse
    have mr : MvR k nuv d nM' fR' tO' aT' (rvS tO' aT' (nuv 0).toNat d) := Or.inr (Or.inr (Or.inr (Or.inr (Or.inl ⟨w, rfl⟩))))
    have m01 := f01 mr
    obtain ⟨kn2, A', S', r1, r2, r3⟩ := C_reverse fl (by omega) h k3 (co := cO') k7 hX (nuv 0).toNat 0
    have kn0 : kn2 = 0 := by omega
    have ec : cm' = (cmR d.1 tO' aT' : Int) := k4
    rw [kn0, ← ec] at r1
    rw [w] at mr
    rw [one (Or.inr (Or.inl w)), Option.bind_some, w, if_neg (by decide), if_neg (by decide), if_neg (by decide), if_neg (by decide), if_neg (by decide), if_pos (by decide), r1, Option.bind_some, if_pos m01]
    exact ⟨(kn', ed', cm', pc', fa', br', cu', cO', aT', fO', sZ', sT', fR', kY', nM', pO', sC', tO'), _, f0, n2, c2, A', S', mr, rfl, fun _ => r2, s3⟩
  · -- change
    have mr : MvR k nuv d nM' fR' tO' aT' (chS (nuv 0).toNat d) := Or.inr (Or.inr (Or.inr (Or.inr (Or.inr (Or.inl ⟨w, rfl⟩)))))
    have m01 := f01 mr
    obtain ⟨kn2, A', S', r1, r2, r3⟩ := C_changeS fl (by omega) h hX (nuv 0).toNat 0
    have kn0 : kn2 = 0 := by omega
    rw [kn0] at r1
    rw [w] at mr
    rw [one (Or.inr (Or.inr (Or.inl w))), Option.bind_some, w, if_neg (by decide), if_neg (by decide), if_neg (by decide), if_neg (by decide), if_neg (by decide), if_neg (by decide), if_pos (by decide), r1, Option.bind_some, if_pos m01]
    exact ⟨(kn', ed', cm', pc', fa', br', cu', cO', aT', fO', sZ', sT', fR', kY', nM', pO', sC', tO'), _, f0, n2, c2, A', S', mr, rfl, fun _ => r2, s3⟩
  · -- smooth
    have mr : MvR k nuv d nM' fR' tO' aT' (smS (nuv 0).toNat d) := Or.inr (Or.inr (Or.inr (Or.inr (Or.inr (Or.inr (Or.inl ⟨w, rfl⟩))))))
    have m01 := f01 mr
    obtain ⟨n', c', kn2, A', S', r1, r2, r3⟩ := C_smoothS fl (by omega) h hX (nuv 0).toNat 0
    have kn0 : kn2 = 0 := by omega
    rw [kn0] at r1
    rw [w] at mr
    rw [one (Or.inr (Or.inr (Or.inr w))), Option.bind_some, w, if_neg (by decide), if_neg (by decide), if_neg (by decide), if_neg (by decide), if_neg (by decide), if_neg (by decide), if_neg (by decide), if_pos (by decide), r1, Option.bind_some, if_pos m01]
    exact ⟨(kn', ed', cm', pc', fa', br', cu', cO', aT', fO', sZ', sT', fR', kY', nM', pO', sC', tO'), _, f0, n', c', A', S', mr, rfl, r2, s3⟩
  · -- number
    have mr : MvR k nuv d nM' fR' tO' aT' (1, rnD fR' tO' aT' d) := Or.inr (Or.inr (Or.inr (Or.inr (Or.inr (Or.inr (Or.inr ⟨w, rfl⟩))))))
    have r1 := C_renumber fl (by omega) hn k3 k7 A2
    rw [← k2] at r1
    rw [w] at mr
    rw [zero (Or.inr w), Option.bind_some, w, if_neg (by decide), if_neg (by decide), if_neg (by decide), if_neg (by decide), if_neg (by decide), if_neg (by decide), if_neg (by decide), if_neg (by decide), if_pos (by decide), r1, Option.bind_some, if_pos (Or.inr rfl)]
    exact ⟨(kn', ed', cm', pc', fa', br', cu', cO', aT', fO', sZ', sT', fR', kY', nM', pO', sC', tO'), _, f0, n2, c2, _, S2, mr, rfl, fun _ => rn_DA hX, s3⟩
