section
variable {m_next : Int} {m_begins m_numbers nuv : Nat → Int} {m n : Nat}
theorem mk115 (fl : Nat) (hfl : 2000 ≤ fl) (h : LnM m_next m_begins m_numbers m nuv) {d : Dg} (hd : okD d) (hL : lnCode m n nuv) (hg : good0z n nuv) (x3 : Int) (m_madeSize : Int) (m_edges : Int) (m_comps : Int) (m_faces : Int) (m_pieces : Int) (m_begin : (Nat → Int)) (m_compOf : (Nat → Int)) (m_faceOf : (Nat → Int)) (m_finish : (Nat → Int)) (m_firstDart : (Nat → Int)) (m_follow : (Nat → Int)) (m_labelOf : (Nat → Int)) (m_made : (Nat → Int)) (m_old_n : Int) (m_old_circles : Int) (m_old_label : (Nat → Int)) (m_old_sign : (Nat → Int)) (m_pieceOf : (Nat → Int)) (m_placed : (Nat → Int)) (hO : DA d m_old_n m_old_circles m_old_label m_old_sign) (hms : 0 ≤ m_madeSize ∧ m_madeSize ≤ 7000) :
    ∀ (r nn c : Nat) (A S : Nat → Int), c + r = n → r < nn → like (4 * c) A (cdL nuv) → like c S (cdS nuv) →
    ∃ o L d', (LB_Md_setCode_115 fl m_next m_begins m_numbers nn (n : Int) (nuv (5 * n)) x3 (c : Int) m_madeSize m_edges m_comps m_faces m_pieces m_begin m_compOf (n : Int) (nuv (5 * n)) A S m_faceOf m_finish m_firstDart m_follow m_labelOf m_made m_old_n m_old_circles m_old_label m_old_sign m_pieceOf m_placed) = some o ∧ (o.1, o.2.2.2.2.2.2.2.2.2.2.2.2.2.2.2.2.1) = mm L (m_madeSize, m_made) ∧ DA d' o.2.2.2.2.2.2.2.1 o.2.2.2.2.2.2.2.2.1 o.2.2.2.2.2.2.2.2.2.1 o.2.2.2.2.2.2.2.2.2.2.1 ∧ CodeR n nuv d L d' := by
  have hb := ln_b hL
  have hn := hL.2.1
  have hm := hL.1
  intro r
  induction r with
  | zero =>
    intro nn c A S hr hnn hA hS
    obtain ⟨nn, rfl⟩ : ∃ r, nn = r + 1 := ⟨nn - 1, by omega⟩
    have : c = n := by omega
    subst this
    rw [LB_Md_setCode_115, if_pos (by omega)]
    exact mkEnd (m := m) fl hfl hd hL hg (c : Int) (nuv (5 * c)) x3 m_madeSize m_edges m_comps m_faces m_pieces m_begin m_compOf A S m_faceOf m_finish m_firstDart m_follow m_labelOf m_made m_old_n m_old_circles m_old_label m_old_sign m_pieceOf m_placed hA hS hO hms
  | succ r ih =>
    intro nn c A S hr hnn hA hS
    obtain ⟨nn, rfl⟩ : ∃ r, nn = r + 1 := ⟨nn - 1, by omega⟩
    have bi := hb (5 * c) (by omega)
    rw [LB_Md_setCode_115, if_neg (by omega), if_pos (by omega), show 5 * (c : Int) = ((5 * c : Nat) : Int) by omega, M_given fl h (show 5 * c < m by omega) (by omega), Option.bind_some, if_pos (by omega), Int.toNat_natCast]
    obtain ⟨A', g1, g2⟩ := mk142 fl h hL (show c < n by omega) (LB_Md_setCode_115 fl m_next m_begins m_numbers nn) (n : Int) (nuv (5 * n)) x3 m_madeSize m_edges m_comps m_faces m_pieces m_begin m_compOf (n : Int) (nuv (5 * n)) (up S c (nuv (5 * c))) m_faceOf m_finish m_firstDart m_follow m_labelOf m_made m_old_n m_old_circles m_old_label m_old_sign m_pieceOf m_placed 4 fl 0 A (by omega) (by omega) hA
    rw [show ((0 : Nat) : Int) = 0 from rfl] at g1
    rw [g1, show ((c : Int) + 1) = ((c + 1 : Nat) : Int) by omega]
    refine ih nn (c + 1) A' _ (by omega) (by omega) (by rw [show 4 * (c + 1) = 4 * c + 4 by omega]; exact g2) (fun y hy => ?_)
    by_cases w : y = c
    · rw [w, up_eq]; rfl
    · rw [up_ne _ _ w]; exact hS y (by omega)
theorem mk33 (fl : Nat) (hfl : 2000 ≤ fl) (h : LnM m_next m_begins m_numbers m nuv) {d : Dg} (hd : okD d) (hL : lnCode m n nuv) (m_madeSize : Int) (m_edges : Int) (m_comps : Int) (m_faces : Int) (m_pieces : Int) (m_begin : (Nat → Int)) (m_compOf : (Nat → Int)) (m_d_n : Int) (m_d_circles : Int) (m_d_label : (Nat → Int)) (m_d_sign : (Nat → Int)) (m_faceOf : (Nat → Int)) (m_finish : (Nat → Int)) (m_firstDart : (Nat → Int)) (m_follow : (Nat → Int)) (m_labelOf : (Nat → Int)) (m_made : (Nat → Int)) (m_old_n : Int) (m_old_circles : Int) (m_old_label : (Nat → Int)) (m_old_sign : (Nat → Int)) (m_pieceOf : (Nat → Int)) (m_placed : (Nat → Int)) (hD : DA d m_d_n m_d_circles m_d_label m_d_sign) (hms : 0 ≤ m_madeSize ∧ m_madeSize ≤ 7000) :
    ∀ (r nn k : Nat) (g : Int), k + r = 5 * n → r < nn → (g = 1 ∧ nuv (5 * n) ≤ 20 ∧ (∀ i, i < k → i % 5 ≠ 0 → nuv i ≠ 0) ∨ g = 0 ∧ ¬ good0z n nuv) →
    ∃ o L d', (LB_Md_setCode_33 fl m_next m_begins m_numbers nn (n : Int) (nuv (5 * n)) g (k : Int) m_madeSize m_edges m_comps m_faces m_pieces m_begin m_compOf m_d_n m_d_circles m_d_label m_d_sign m_faceOf m_finish m_firstDart m_follow m_labelOf m_made m_old_n m_old_circles m_old_label m_old_sign m_pieceOf m_placed) = some o ∧ (o.1, o.2.2.2.2.2.2.2.2.2.2.2.2.2.2.2.2.1) = mm L (m_madeSize, m_made) ∧ DA d' o.2.2.2.2.2.2.2.1 o.2.2.2.2.2.2.2.2.1 o.2.2.2.2.2.2.2.2.2.1 o.2.2.2.2.2.2.2.2.2.2.1 ∧ CodeR n nuv d L d' := by
  have hb := ln_b hL
  have hn := hL.2.1
  have hm := hL.1
  intro r
  induction r with
  | zero =>
    intro nn k g hr hnn hg
    obtain ⟨nn, rfl⟩ : ∃ r, nn = r + 1 := ⟨nn - 1, by omega⟩
    rw [LB_Md_setCode_33, if_pos (by omega), if_pos (by omega)]
    rcases hg with ⟨g1, g2, g3⟩ | ⟨g1, g2⟩
    · obtain ⟨A1, S1, b1, b2⟩ := M_become fl (by omega) hd.1 hD m_old_n m_old_circles m_old_label m_old_sign
      rw [if_pos (by omega), b1, Option.bind_some]
      dsimp only
      refine mk115 fl hfl h hd hL ⟨fun q hq => ?_, g2⟩ g m_madeSize m_edges m_comps m_faces m_pieces m_begin m_compOf m_faceOf m_finish m_firstDart m_follow m_labelOf m_made m_d_n m_d_circles A1 S1 m_pieceOf m_placed b2 hms n fl 0 m_d_label m_d_sign (by omega) (by omega) (fun q hq => by omega) (fun q hq => by omega)
      unfold cdL
      exact g3 _ (by omega) (by omega)
    · rw [if_neg (by omega), M_answer fl hfl (by decide) (m_madeSize, m_made) hms, Option.bind_some]
      exact ⟨_, ansL 65, d, rfl, rfl, hD, Or.inl ⟨g2, rfl, rfl⟩⟩
  | succ r ih =>
    intro nn k g hr hnn hg
    obtain ⟨nn, rfl⟩ : ∃ r, nn = r + 1 := ⟨nn - 1, by omega⟩
    have bi := hb k (by omega)
    have e65 : ¬ good0z n nuv → ∀ x3 : Int, ∃ o L d', (LB_Md_setCode_65 fl m_next m_begins m_numbers (LB_Md_setCode_33 fl m_next m_begins m_numbers nn) (n : Int) (nuv (5 * n)) x3 (k : Int) m_madeSize m_edges m_comps m_faces m_pieces m_begin m_compOf m_d_n m_d_circles m_d_label m_d_sign m_faceOf m_finish m_firstDart m_follow m_labelOf m_made m_old_n m_old_circles m_old_label m_old_sign m_pieceOf m_placed) = some o ∧ (o.1, o.2.2.2.2.2.2.2.2.2.2.2.2.2.2.2.2.1) = mm L (m_madeSize, m_made) ∧ DA d' o.2.2.2.2.2.2.2.1 o.2.2.2.2.2.2.2.2.1 o.2.2.2.2.2.2.2.2.2.1 o.2.2.2.2.2.2.2.2.2.2.1 ∧ CodeR n nuv d L d' := fun ng x3 => by
      unfold LB_Md_setCode_65 LB_Md_setCode_66
      rw [if_pos (by omega), show ((k : Int) + 1) = ((k + 1 : Nat) : Int) by omega]
      exact ih nn (k + 1) 0 (by omega) (by omega) (Or.inr ⟨rfl, ng⟩)
    have et : Int.tmod (k : Int) 5 = ((k % 5 : Nat) : Int) := by rw [Int.tmod_eq_emod_of_nonneg (by omega)]; omega
    rw [LB_Md_setCode_33, if_pos (by omega), if_neg (by omega)]
    rcases hg with ⟨g1, g2, g3⟩ | ⟨g1, g2⟩
    · have e61 : (k % 5 ≠ 0 → nuv k ≠ 0) → ∃ o L d', (LB_Md_setCode_61 fl m_next m_begins m_numbers (LB_Md_setCode_33 fl m_next m_begins m_numbers nn) (n : Int) (nuv (5 * n)) g (k : Int) m_madeSize m_edges m_comps m_faces m_pieces m_begin m_compOf m_d_n m_d_circles m_d_label m_d_sign m_faceOf m_finish m_firstDart m_follow m_labelOf m_made m_old_n m_old_circles m_old_label m_old_sign m_pieceOf m_placed) = some o ∧ (o.1, o.2.2.2.2.2.2.2.2.2.2.2.2.2.2.2.2.1) = mm L (m_madeSize, m_made) ∧ DA d' o.2.2.2.2.2.2.2.1 o.2.2.2.2.2.2.2.2.1 o.2.2.2.2.2.2.2.2.2.1 o.2.2.2.2.2.2.2.2.2.2.1 ∧ CodeR n nuv d L d' := fun hk => by
        unfold LB_Md_setCode_61 LB_Md_setCode_66
        rw [if_pos (by omega), show ((k : Int) + 1) = ((k + 1 : Nat) : Int) by omega]
        refine ih nn (k + 1) 1 (by omega) (by omega) (Or.inl ⟨rfl, g2, fun i hi h5 => ?_⟩)
        by_cases w : i = k
        · rw [w]; exact hk (by rw [← w]; exact h5)
        · exact g3 i (by omega) h5
      rw [if_neg (by omega), if_pos (by decide), et]
      by_cases c5 : k % 5 = 0
      · rw [if_pos (by omega)]
        exact e61 (fun w => absurd c5 w)
      · have nk := hL.2.2.2 k (by omega) (Or.inl c5)
        rw [if_neg (by omega), M_given fl h (show k < m by omega) (by omega), Option.bind_some]
        by_cases c0 : nuv k ≤ 0
        · rw [if_pos c0]
          refine e65 (fun w => ?_) g
          have := w.1 (4 * (k / 5) + (k % 5 - 1)) (by omega)
          unfold cdL at this
          rw [show 5 * ((4 * (k / 5) + (k % 5 - 1)) / 4) + 1 + (4 * (k / 5) + (k % 5 - 1)) % 4 = k by omega] at this
          omega
        · rw [if_neg c0]
          exact e61 (fun _ => by omega)
    · rw [if_pos g1]
      exact e65 g2 g
theorem M_setCode (fl : Nat) (hfl : 2000 ≤ fl) (h : LnM m_next m_begins m_numbers m nuv) {d : Dg} (hd : okD d) (hL : lnCode m n nuv) (m_madeSize : Int) (m_edges : Int) (m_comps : Int) (m_faces : Int) (m_pieces : Int) (m_begin : (Nat → Int)) (m_compOf : (Nat → Int)) (m_d_n : Int) (m_d_circles : Int) (m_d_label : (Nat → Int)) (m_d_sign : (Nat → Int)) (m_faceOf : (Nat → Int)) (m_finish : (Nat → Int)) (m_firstDart : (Nat → Int)) (m_follow : (Nat → Int)) (m_labelOf : (Nat → Int)) (m_made : (Nat → Int)) (m_old_n : Int) (m_old_circles : Int) (m_old_label : (Nat → Int)) (m_old_sign : (Nat → Int)) (m_pieceOf : (Nat → Int)) (m_placed : (Nat → Int)) (hD : DA d m_d_n m_d_circles m_d_label m_d_sign) (hms : 0 ≤ m_madeSize ∧ m_madeSize ≤ 7000) :
    ∃ o L d', (LM_Md_setCode fl m_next m_begins m_numbers m_madeSize m_edges m_comps m_faces m_pieces m_begin m_compOf m_d_n m_d_circles m_d_label m_d_sign m_faceOf m_finish m_firstDart m_follow m_labelOf m_made m_old_n m_old_circles m_old_label m_old_sign m_pieceOf m_placed) = some o ∧ (o.1, o.2.2.2.2.2.2.2.2.2.2.2.2.2.2.2.2.1) = mm L (m_madeSize, m_made) ∧ DA d' o.2.2.2.2.2.2.2.1 o.2.2.2.2.2.2.2.2.1 o.2.2.2.2.2.2.2.2.2.1 o.2.2.2.2.2.2.2.2.2.2.1 ∧ CodeR n nuv d L d' := by
  have hb := ln_b hL
  have hn := hL.2.1
  have hm := hL.1
  have bi := hb (5 * n) (by omega)
  have et : Int.tdiv (m : Int) 5 = (n : Int) := by rw [Int.tdiv_eq_ediv_of_nonneg (by omega)]; omega
  unfold LM_Md_setCode LB_Md_setCode_0 LB_Md_setCode_29
  rw [M_many fl h, Option.bind_some, if_pos (by decide), Option.bind_some, if_pos (by omega), show ((m : Int) - 1) = ((5 * n : Nat) : Int) by omega, M_given fl h (show 5 * n < m by omega) (by omega), Option.bind_some, et]
  by_cases c : 20 < nuv (5 * n)
  · rw [if_pos c, if_pos (by omega)]
    exact mk33 fl hfl h hd hL m_madeSize m_edges m_comps m_faces m_pieces m_begin m_compOf m_d_n m_d_circles m_d_label m_d_sign m_faceOf m_finish m_firstDart m_follow m_labelOf m_made m_old_n m_old_circles m_old_label m_old_sign m_pieceOf m_placed hD hms (5 * n) fl 0 0 (by omega) (by omega) (Or.inr ⟨rfl, fun w => by have := w.2; omega⟩)
  · rw [if_neg c, if_pos (by omega)]
    exact mk33 fl hfl h hd hL m_madeSize m_edges m_comps m_faces m_pieces m_begin m_compOf m_d_n m_d_circles m_d_label m_d_sign m_faceOf m_finish m_firstDart m_follow m_labelOf m_made m_old_n m_old_circles m_old_label m_old_sign m_pieceOf m_placed hD hms (5 * n) fl 0 1 (by omega) (by omega) (Or.inl ⟨rfl, by omega, fun i hi => by omega⟩)
theorem Code_ok {d d' : Dg} {L : List Int} (hd : okD d) (hL : lnCode m n nuv) (h : CodeR n nuv d L d') : okD d' := by
  rcases h with ⟨_, _, e⟩ | ⟨hg, ⟨_, _, _, e⟩ | ⟨_, _, _, _, e⟩ | ⟨_, _, _, _, _, _, _, _, e⟩ | ⟨nm, fr, to, at_, hE, _, _, e⟩⟩
  · rw [e]; exact hd
  · rw [e]; exact hd
  · rw [e]; exact hd
  · rw [e]; exact hd
  · rw [e]
    have b := hL.2.2.2 (5 * n) (by have := hL.1; omega) (Or.inr rfl)
    refine ⟨hL.2.1, ⟨b.1, hg.2⟩, hL.2.2.1, fun q hq => ?_, WF_Edg hE⟩
    have hq : q < 4 * n := hq
    have := hL.2.2.2 (5 * (q / 4) + 1 + q % 4) (by have := hL.1; omega) (Or.inl (by omega))
    have z := hg.1 q hq
    show 1 ≤ cdL nuv q ∧ cdL nuv q ≤ 9999
    unfold cdL at z ⊢
    omega
end
