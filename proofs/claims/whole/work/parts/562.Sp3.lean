/-- what the printing of COUNT leaves -/
theorem C_count (fl : Nat) (hfl : 2000 ≤ fl) {d : Dg} (h : okD d) (c_now_count : Int) (c_now_circles : Int) (c_now_label : (Nat → Int)) (c_now_sign : (Nat → Int)) (c_now_shapeIsKnown : Int) (c_now_shape_edges : Int) (c_now_shape_components : Int) (c_now_shape_pieces : Int) (c_now_shape_faces : Int) (c_now_shape_brokenRule : Int) (c_now_shape_culprit : Int) (c_now_shape_arcOf : (Nat → Int)) (c_now_shape_componentOf : (Nat → Int)) (c_now_shape_edgeAt : (Nat → Int)) (c_now_shape_faceOf : (Nat → Int)) (c_now_shape_faceSize : (Nat → Int)) (c_now_shape_faceStart : (Nat → Int)) (c_now_shape_from : (Nat → Int)) (c_now_shape_key : (Nat → Int)) (c_now_shape_name : (Nat → Int)) (c_now_shape_pieceOf : (Nat → Int)) (c_now_shape_scratch : (Nat → Int)) (c_now_shape_to : (Nat → Int)) (c_paper_size : Int) (c_paper_overflown : Int) (c_paper_bytes : (Nat → Int)) (c_paper_digits : (Nat → Int)) (hD : DA d c_now_count c_now_circles c_now_label c_now_sign) (hK : ShK d (c_now_shapeIsKnown, c_now_shape_edges, c_now_shape_components, c_now_shape_pieces, c_now_shape_faces, c_now_shape_brokenRule, c_now_shape_culprit, c_now_shape_componentOf, c_now_shape_edgeAt, c_now_shape_faceOf, c_now_shape_faceSize, c_now_shape_faceStart, c_now_shape_from, c_now_shape_key, c_now_shape_name, c_now_shape_pieceOf, c_now_shape_scratch, c_now_shape_to)) (hp : pok (c_paper_size, c_paper_overflown, c_paper_bytes)) :
    ∃ o, LM_En_printCount fl c_now_count c_now_circles c_now_label c_now_sign c_now_shapeIsKnown c_now_shape_edges c_now_shape_components c_now_shape_pieces c_now_shape_faces c_now_shape_brokenRule c_now_shape_culprit c_now_shape_arcOf c_now_shape_componentOf c_now_shape_edgeAt c_now_shape_faceOf c_now_shape_faceSize c_now_shape_faceStart c_now_shape_from c_now_shape_key c_now_shape_name c_now_shape_pieceOf c_now_shape_scratch c_now_shape_to c_paper_size c_paper_overflown c_paper_bytes c_paper_digits = some o ∧ (o.2.2.2.2.2.2.2.2.2.2.2.2.2.2.2.2.2.2.2.1, o.2.2.2.2.2.2.2.2.2.2.2.2.2.2.2.2.2.2.2.2.1, o.2.2.2.2.2.2.2.2.2.2.2.2.2.2.2.2.2.2.2.2.2.1) = pp (cntS d o.2.2.2.2.2.2.2.2.2.2.2.2.2.1 o.2.2.2.2.2.2.2.2.2.2.2.2.2.2.2.2.2.2.1 o.2.2.2.2.2.2.2.2.2.1) (c_paper_size, c_paper_overflown, c_paper_bytes) ∧ ShO d (o.1, o.2.1, o.2.2.1, o.2.2.2.1, o.2.2.2.2.1, o.2.2.2.2.2.1, o.2.2.2.2.2.2.1, o.2.2.2.2.2.2.2.2.1, o.2.2.2.2.2.2.2.2.2.1, o.2.2.2.2.2.2.2.2.2.2.1, o.2.2.2.2.2.2.2.2.2.2.2.1, o.2.2.2.2.2.2.2.2.2.2.2.2.1, o.2.2.2.2.2.2.2.2.2.2.2.2.2.1, o.2.2.2.2.2.2.2.2.2.2.2.2.2.2.1, o.2.2.2.2.2.2.2.2.2.2.2.2.2.2.2.1, o.2.2.2.2.2.2.2.2.2.2.2.2.2.2.2.2.1, o.2.2.2.2.2.2.2.2.2.2.2.2.2.2.2.2.2.1, o.2.2.2.2.2.2.2.2.2.2.2.2.2.2.2.2.2.2.1) := by
  obtain ⟨o, s1, s2⟩ := C_shape fl (by omega) h c_now_count c_now_label c_now_sign c_now_shapeIsKnown c_now_shape_edges c_now_shape_components c_now_shape_pieces c_now_shape_faces c_now_shape_brokenRule c_now_shape_culprit c_now_shape_componentOf c_now_shape_edgeAt c_now_shape_faceOf c_now_shape_faceSize c_now_shape_faceStart c_now_shape_from c_now_shape_key c_now_shape_name c_now_shape_pieceOf c_now_shape_scratch c_now_shape_to hD hK
  obtain ⟨k1, k2, k3, k4, k5, k6, k7, k8, k9, k10, k11⟩ := s2
  have hn := h.1
  have hci := h.2.1
  obtain ⟨e1, e2, hA, hS⟩ := hD
  have hE := k3
  have r4 := (rnd_ok (nx_closed hE) (2 * d.1) (Nat.le_refl _)).2.2.2.1
  have rF := cnt_F hE
  have pL : pcs o.2.2.2.2.2.2.2.2.2.2.2.2.1 o.2.2.2.2.2.2.2.2.2.2.2.2.2.2.2.2.2 d.1 (2 * d.1) ≤ d.1 := cnt_lez _ _
  have aL := ar2_le (nx o.2.2.2.2.2.2.2.2.2.2.2.2.2.2.2.2.2 o.2.2.2.2.2.2.2.2.1) (upTz o.2.2.2.2.2.2.2.2.2.2.2.2.2.2.2.2.2) (loF o.2.2.2.2.2.2.2.2.2.2.2.2.1) (2 * d.1) (2 * d.1)
  have aL2 : arcN d.1 o.2.2.2.2.2.2.2.2.2.2.2.2.1 o.2.2.2.2.2.2.2.2.2.2.2.2.2.2.2.2.2 o.2.2.2.2.2.2.2.2.1 ≤ 4 * d.1 := by unfold arcN; omega
  have sL := sfR_le (sfn d.2.2.2 o.2.2.2.2.2.2.2.2.2.2.2.2.2.2.2.2.2 o.2.2.2.2.2.2.2.2.1) (2 * d.1) (2 * d.1)
  have gB := sgs_b d.1 h.2.2.1
  unfold LM_En_printCount LB_En_printCount_0
  rw [s1, Option.bind_some, P_text fl hfl (by decide) (c_paper_size, c_paper_overflown, c_paper_bytes) hp, Option.bind_some]
  have t34 : lit 34 = [35] := by decide
  rw [t34]
  have step : ∀ (v : Int) (s : Pap) (di : Nat → Int), (-1000000 ≤ v ∧ v ≤ 1000000) → pok s → ∃ di', LM_Pa_putSpaced fl v s.1 s.2.1 s.2.2 di = some ((pp (32 :: num v) s).1, (pp (32 :: num v) s).2.1, (pp (32 :: num v) s).2.2, di') ∧ pok (pp (32 :: num v) s) := fun v s di hv hs => by
    obtain ⟨di', g⟩ := P_spaced fl (by omega) v (na_lt hv) s hs di
    exact ⟨di', g, pok_pp _ _ hs⟩
  have q0 := pok_pp [35] _ hp
  obtain ⟨d1, p1, q1⟩ := step c_now_count (pp [35] (c_paper_size, c_paper_overflown, c_paper_bytes)) c_paper_digits (by omega) q0
  rw [p1, Option.bind_some]
  obtain ⟨d2, p2, q2⟩ := step c_now_circles _ d1 (by omega) q1
  dsimp only
  rw [p2, Option.bind_some, k4, k5, k6, if_pos (by omega)]
  dsimp only
  obtain ⟨d3, p3, q3⟩ := step ((((rndz (nx o.2.2.2.2.2.2.2.2.2.2.2.2.2.2.2.2.2 o.2.2.2.2.2.2.2.2.1) (2 * d.1) (2 * d.1)).2.1 : Nat) : Int) + c_now_circles) _ d2 (by omega) q2
  rw [p3, Option.bind_some, if_pos (by omega)]
  dsimp only
  obtain ⟨d4, p4, q4⟩ := step (((pcs o.2.2.2.2.2.2.2.2.2.2.2.2.1 o.2.2.2.2.2.2.2.2.2.2.2.2.2.2.2.2.2 d.1 (2 * d.1) : Nat) : Int) + c_now_circles) _ d3 (by omega) q3
  rw [p4, Option.bind_some]
  dsimp only
  obtain ⟨d5, p5, q5⟩ := step (((rndz (tnz o.2.2.2.2.2.2.2.2.2.2.2.2.1 o.2.2.2.2.2.2.2.2.2.2.2.2.2.2.2.2.2 o.2.2.2.2.2.2.2.2.1) (4 * d.1) (4 * d.1)).2.1 : Nat) : Int) _ d4 (by omega) q4
  obtain ⟨A', a1, a2⟩ := C_findArcs fl (by omega) hn hE c_now_shape_arcOf
  rw [p5, Option.bind_some, k2, a1, Option.bind_some, if_pos (by omega)]
  dsimp only
  obtain ⟨d6, p6, q6⟩ := step (((arcN d.1 o.2.2.2.2.2.2.2.2.2.2.2.2.1 o.2.2.2.2.2.2.2.2.2.2.2.2.2.2.2.2.2 o.2.2.2.2.2.2.2.2.1 : Nat) : Int) + c_now_circles) _ d5 (by omega) q5
  obtain ⟨B', b1⟩ := C_seifert fl (by omega) hn hE c_now_sign o.2.2.2.2.2.2.2.2.2.2.2.2.2.2.2.2.1
  rw [sf_like hE hS] at b1
  rw [p6, Option.bind_some, b1, Option.bind_some, if_pos (by omega)]
  dsimp only
  obtain ⟨d7, p7, q7⟩ := step ((((sfR (sfn d.2.2.2 o.2.2.2.2.2.2.2.2.2.2.2.2.2.2.2.2.2 o.2.2.2.2.2.2.2.2.1) (2 * d.1) (2 * d.1)).2 : Nat) : Int) + c_now_circles) _ d6 (by omega) q6
  have sg1 := (CM_signs fl (by omega) hn (S := c_now_sign) (fun c hc => by rw [hS c hc]; exact h.2.2.1 c hc)).1
  rw [← e1, sgs_like d.1 hS] at sg1
  rw [p7, Option.bind_some, sg1, Option.bind_some]
  dsimp only
  obtain ⟨d8, p8, q8⟩ := step (sgs d.2.2.2 d.1) _ d7 (by omega) q7
  rw [p8, Option.bind_some, C_alt fl (by omega) hn hE, Option.bind_some]
  dsimp only
  unfold LB_En_printCount_175
  have fin : ∀ (v : Int) (s : Pap), 0 ≤ v ∧ v ≤ 1 → pok s → ∃ di', LM_Pa_putSpaced fl v s.1 s.2.1 s.2.2 d8 = some ((pp (32 :: num v) s).1, (pp (32 :: num v) s).2.1, (pp (32 :: num v) s).2.2, di') ∧ LM_Pa_putEnd fl (pp (32 :: num v) s).1 (pp (32 :: num v) s).2.1 (pp (32 :: num v) s).2.2 = some (pp [10] (pp (32 :: num v) s)) := fun v s hv hs => by
    obtain ⟨di', g1, g2⟩ := step v s d8 (by omega) hs
    exact ⟨di', g1, P_end fl _ g2⟩
  unfold cntS
  by_cases hb : altB o.2.2.2.2.2.2.2.2.2.2.2.2.1 o.2.2.2.2.2.2.2.2.2.2.2.2.2.2.2.2.2 (2 * d.1) = true
  · obtain ⟨di', f1, f2⟩ := fin 1 _ (by decide) q8
    rw [if_pos hb, if_neg (by decide), f1, Option.bind_some, f2, Option.bind_some]
    refine ⟨_, rfl, ?_, ⟨k1, rfl, k3, rfl, rfl, rfl, k7, k8, k9, k10, k11⟩⟩
    dsimp only
    rw [if_pos hb, pp_hs, e1, e2]
    simp only [pp_bh, pp_bh0]
    rfl
  · obtain ⟨di', f1, f2⟩ := fin 0 _ (by decide) q8
    rw [if_neg hb, if_pos rfl, f1, Option.bind_some, f2, Option.bind_some]
    refine ⟨_, rfl, ?_, ⟨k1, rfl, k3, rfl, rfl, rfl, k7, k8, k9, k10, k11⟩⟩
    dsimp only
    rw [if_neg hb, pp_hs, e1, e2]
    simp only [pp_bh, pp_bh0]
    rfl
