section
variable {m_next : Int} {m_begins m_numbers nuv : Nat → Int} {m n : Nat}
/-- the reference's last part of CODE: the diagram as read is looked at -/
theorem mkEnd (fl : Nat) (hfl : 2000 ≤ fl) {d : Dg} (hd : okD d) (hL : lnCode m n nuv) (hg : good0z n nuv) (x1 x2 x3 : Int) (m_madeSize : Int) (m_edges : Int) (m_comps : Int) (m_faces : Int) (m_pieces : Int) (m_begin : (Nat → Int)) (m_compOf : (Nat → Int)) (m_d_label : (Nat → Int)) (m_d_sign : (Nat → Int)) (m_faceOf : (Nat → Int)) (m_finish : (Nat → Int)) (m_firstDart : (Nat → Int)) (m_follow : (Nat → Int)) (m_labelOf : (Nat → Int)) (m_made : (Nat → Int)) (m_old_n : Int) (m_old_circles : Int) (m_old_label : (Nat → Int)) (m_old_sign : (Nat → Int)) (m_pieceOf : (Nat → Int)) (m_placed : (Nat → Int)) (hA : like (4 * n) m_d_label (cdL nuv)) (hS : like n m_d_sign (cdS nuv)) (hO : DA d m_old_n m_old_circles m_old_label m_old_sign) (hms : 0 ≤ m_madeSize ∧ m_madeSize ≤ 7000) :
    ∃ o L d', ((LM_Md_loose fl (n : Int) m_d_label).bind fun o0 => (if o0 ≤ 0 then (LB_Md_setCode_205 fl m_next m_begins m_numbers x1 x2 x3 0 o0 m_madeSize m_edges m_comps m_faces m_pieces m_begin m_compOf (n : Int) (nuv (5 * n)) m_d_label m_d_sign m_faceOf m_finish m_firstDart m_follow m_labelOf m_made m_old_n m_old_circles m_old_label m_old_sign m_pieceOf m_placed) else (LB_Md_setCode_205 fl m_next m_begins m_numbers x1 x2 x3 1 o0 m_madeSize m_edges m_comps m_faces m_pieces m_begin m_compOf (n : Int) (nuv (5 * n)) m_d_label m_d_sign m_faceOf m_finish m_firstDart m_follow m_labelOf m_made m_old_n m_old_circles m_old_label m_old_sign m_pieceOf m_placed))) = some o ∧ (o.1, o.2.2.2.2.2.2.2.2.2.2.2.2.2.2.2.2.1) = mm L (m_madeSize, m_made) ∧ DA d' o.2.2.2.2.2.2.2.1 o.2.2.2.2.2.2.2.2.1 o.2.2.2.2.2.2.2.2.2.1 o.2.2.2.2.2.2.2.2.2.2.1 ∧ CodeR n nuv d L d' := by
  have hn := hL.2.1
  have pos : ∀ q, q < 4 * n → 1 ≤ cdL nuv q ∧ cdL nuv q ≤ 9999 := fun q hq => by
    have := hL.2.2.2 (5 * (q / 4) + 1 + q % 4) (by have := hL.1; omega) (Or.inl (by omega))
    have z := hg.1 q hq
    unfold cdL at z ⊢
    omega
  have posA : ∀ q, q < 4 * n → 0 < m_d_label q := fun q hq => by rw [hA q hq]; have := pos q hq; omega
  have sgA : ∀ c, c < n → m_d_sign c = 1 ∨ m_d_sign c = -1 := fun c hc => by rw [hS c hc]; exact hL.2.2.1 c hc
  have bad : ∀ r l : Int, r ≠ 0 → r.natAbs < 10 ^ 18 → l.natAbs < 10 ^ 18 → CodeR n nuv d (noRL r l) d → ∀ (m_edges : Int) (m_comps : Int) (m_faces : Int) (m_pieces : Int) (m_begin : (Nat → Int)) (m_compOf : (Nat → Int)) (m_d_n : Int) (m_d_circles : Int) (m_d_label : (Nat → Int)) (m_d_sign : (Nat → Int)) (m_faceOf : (Nat → Int)) (m_finish : (Nat → Int)) (m_firstDart : (Nat → Int)) (m_follow : (Nat → Int)) (m_labelOf : (Nat → Int)) (m_pieceOf : (Nat → Int)) (m_placed : (Nat → Int)), ∃ o L d', (LB_Md_setCode_255 fl m_next m_begins m_numbers x1 x2 x3 r l m_madeSize m_edges m_comps m_faces m_pieces m_begin m_compOf m_d_n m_d_circles m_d_label m_d_sign m_faceOf m_finish m_firstDart m_follow m_labelOf m_made m_old_n m_old_circles m_old_label m_old_sign m_pieceOf m_placed) = some o ∧ (o.1, o.2.2.2.2.2.2.2.2.2.2.2.2.2.2.2.2.1) = mm L (m_madeSize, m_made) ∧ DA d' o.2.2.2.2.2.2.2.1 o.2.2.2.2.2.2.2.2.1 o.2.2.2.2.2.2.2.2.2.1 o.2.2.2.2.2.2.2.2.2.2.1 ∧ CodeR n nuv d L d' := by
    intro r l r0 hr hl hC
    intros
    unfold LB_Md_setCode_255
    rename_i m_edges m_comps m_faces m_pieces m_begin m_compOf m_d_n m_d_circles m_d_label m_d_sign m_faceOf m_finish m_firstDart m_follow m_labelOf m_pieceOf m_placed
    obtain ⟨A1, S1, b1, b2⟩ := M_become fl (by omega) hd.1 hO m_d_n m_d_circles m_d_label m_d_sign
    rw [if_pos r0, b1, Option.bind_some, M_noRL fl hfl hr hl (m_madeSize, m_made) hms]
    exact ⟨_, noRL r l, d, rfl, rfl, b2, hC⟩
  have lb : ∀ {l : Int}, (∃ q, q < 4 * n ∧ cdL nuv q = l) → l.natAbs < 10 ^ 18 := fun ⟨q, q1, q2⟩ => by
    have := pos q q1
    rw [q2] at this
    have : (10 : Nat) ^ 18 = 1000000000000000000 := by decide
    omega
  obtain ⟨r, l1, l2⟩ := M_loose fl (by omega) hn m_d_label posA
  rw [l1, Option.bind_some]
  rcases l2 with ⟨l2, l3⟩ | ⟨l2, l3⟩
  · rw [if_pos (by omega)]
    obtain ⟨r2, t1, t2⟩ := M_turned fl (by omega) hn m_d_sign m_d_label sgA posA
    unfold LB_Md_setCode_205
    rw [if_neg (by decide), t1, Option.bind_some]
    have cn : ∀ q, q < 4 * n → cntL n (cdL nuv) (cdL nuv q) = 2 := fun q hq => by
      have := l3 q hq
      rw [cnt_like hA, hA q hq] at this; exact this
    rcases t2 with ⟨t2, t3⟩ | ⟨t2, t3⟩
    · rw [if_pos (by omega)]
      unfold LB_Md_setCode_226 LB_Md_setCode_228
      rw [if_neg (by decide)]
      obtain ⟨nm, fr, to, at_, hE⟩ := Edg_cnts hn (sg := m_d_sign) (fun q hq => by rw [hA q hq]; have := pos q hq; omega) l3 t3
      obtain ⟨be, co, fo, fi, fd, fw, la, pA, pl, s1, s2, s3, s4, s5, s6, s7⟩ := M_survey fl (by omega) hn sgA hE m_edges m_comps m_faces m_pieces m_begin m_compOf m_faceOf m_finish m_firstDart m_follow m_labelOf m_pieceOf m_placed
      rw [s1, Option.bind_some]
      dsimp only
      have hE2 : EdgA n (cdS nuv) (cdL nuv) la be fi pl := Edg_like (like_sy hS) (like_sy hA) s2
      rw [← rt_congr hE s2] at s6 ⊢
      rcases M_broken fl (by omega) hn s2 pA fd (fun y hy => by rw [s7 y hy, pc_congr hE s2]) s6 with ⟨k1, k2⟩ | ⟨b, k1, k2⟩
      · rw [k1, Option.bind_some, if_pos (by decide)]
        unfold LB_Md_setCode_253 LB_Md_setCode_255
        rw [if_neg (by decide), M_answer fl hfl (by decide) (m_madeSize, m_made) hms, Option.bind_some]
        exact ⟨_, okL, cdD n nuv, rfl, rfl, ⟨rfl, rfl, hA, hS⟩, Or.inr ⟨hg, Or.inr (Or.inr (Or.inr ⟨la, be, fi, pl, hE2, k2, rfl, rfl⟩))⟩⟩
      · rw [k1, Option.bind_some, if_neg (by omega)]
        unfold LB_Md_setCode_253
        have := k2.1
        refine bad 3 (b : Int) (by decide) (by decide) ?_ (Or.inr ⟨hg, Or.inr (Or.inr (Or.inl ⟨b, la, be, fi, pl, hE2, k2, rfl, rfl⟩))⟩) _ _ _ _ _ _ _ _ _ _ _ _ _ _ _ _ _
        have : (10 : Nat) ^ 18 = 1000000000000000000 := by decide
        omega
    · rw [if_neg (by omega)]
      unfold LB_Md_setCode_226 LB_Md_setCode_228
      rw [if_pos (by decide)]
      have t4 := Bad2_like hA hS t3
      exact bad 2 r2 (by decide) (by decide) (lb t4.1) (Or.inr ⟨hg, Or.inr (Or.inl ⟨r2, cn, t4, rfl, rfl⟩)⟩) _ _ _ _ _ _ _ _ _ _ _ _ _ _ _ _ _
  · rw [if_neg (by omega)]
    unfold LB_Md_setCode_205 LB_Md_setCode_228
    rw [if_pos (by decide), if_pos (by decide)]
    have t4 := Bad1_like hA l3
    exact bad 1 r (by decide) (by decide) (lb t4.1) (Or.inr ⟨hg, Or.inl ⟨r, t4, rfl, rfl⟩⟩) _ _ _ _ _ _ _ _ _ _ _ _ _ _ _ _ _
end
