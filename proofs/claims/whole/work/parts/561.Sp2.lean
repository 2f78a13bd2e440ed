abbrev ShT := Int × Int × Int × Int × Int × Int × Int × (Nat → Int) × (Nat → Int) × (Nat → Int) × (Nat → Int) × (Nat → Int) × (Nat → Int) × (Nat → Int) × (Nat → Int) × (Nat → Int) × (Nat → Int) × (Nat → Int)
/-- the class knows the shape of d -/
def ShO (d : Dg) (o : ShT) : Prop := o.1 = 1 ∧ ShC d.1 d.2.2.2 d.2.2.1 o.2.1 o.2.2.1 o.2.2.2.1 o.2.2.2.2.1 o.2.2.2.2.2.2.2.1 o.2.2.2.2.2.2.2.2.1 o.2.2.2.2.2.2.2.2.2.1 o.2.2.2.2.2.2.2.2.2.2.1 o.2.2.2.2.2.2.2.2.2.2.2.1 o.2.2.2.2.2.2.2.2.2.2.2.2.1 o.2.2.2.2.2.2.2.2.2.2.2.2.2.2.1 o.2.2.2.2.2.2.2.2.2.2.2.2.2.2.2.1 o.2.2.2.2.2.2.2.2.2.2.2.2.2.2.2.2.2
def ShK (d : Dg) (o : ShT) : Prop := o.1 = 0 ∨ ShO d o
theorem ShC_like {n : Nat} {sg lb S A : Nat → Int} (hS : like n S sg) (hA : like (4 * n) A lb) {ed cm pc fa : Int} {co at_ fo sz st fr nm pA to : Nat → Int} (h : ShC n S A ed cm pc fa co at_ fo sz st fr nm pA to) : ShC n sg lb ed cm pc fa co at_ fo sz st fr nm pA to := ⟨h.1, Edg_like (like_sy hS) (like_sy hA) h.2.1, h.2.2⟩
theorem C_shape (fl : Nat) (hfl : 200 ≤ fl) {d : Dg} (h : okD d) (c_count : Int) (c_label : (Nat → Int)) (c_sign : (Nat → Int)) (c_shapeIsKnown : Int) (c_shape_edges : Int) (c_shape_components : Int) (c_shape_pieces : Int) (c_shape_faces : Int) (c_shape_brokenRule : Int) (c_shape_culprit : Int) (c_shape_componentOf : (Nat → Int)) (c_shape_edgeAt : (Nat → Int)) (c_shape_faceOf : (Nat → Int)) (c_shape_faceSize : (Nat → Int)) (c_shape_faceStart : (Nat → Int)) (c_shape_from : (Nat → Int)) (c_shape_key : (Nat → Int)) (c_shape_name : (Nat → Int)) (c_shape_pieceOf : (Nat → Int)) (c_shape_scratch : (Nat → Int)) (c_shape_to : (Nat → Int)) {ci : Int} (hD : DA d c_count ci c_label c_sign) (hK : ShK d (c_shapeIsKnown, c_shape_edges, c_shape_components, c_shape_pieces, c_shape_faces, c_shape_brokenRule, c_shape_culprit, c_shape_componentOf, c_shape_edgeAt, c_shape_faceOf, c_shape_faceSize, c_shape_faceStart, c_shape_from, c_shape_key, c_shape_name, c_shape_pieceOf, c_shape_scratch, c_shape_to)) : ∃ o, LM_Di_shape fl c_count c_label c_sign c_shapeIsKnown c_shape_edges c_shape_components c_shape_pieces c_shape_faces c_shape_brokenRule c_shape_culprit c_shape_componentOf c_shape_edgeAt c_shape_faceOf c_shape_faceSize c_shape_faceStart c_shape_from c_shape_key c_shape_name c_shape_pieceOf c_shape_scratch c_shape_to = some o ∧ ShO d o := by
  rcases hK with hK | hK
  · have hK : c_shapeIsKnown = 0 := hK
    obtain ⟨e1, e2, hA, hS⟩ := hD
    subst hK e1
    have hl : ∀ q, q < 4 * d.1 → 0 ≤ c_label q ∧ c_label q ≤ 9999 := fun q hq => by rw [hA q hq]; have := h.2.2.2.1 q hq; omega
    obtain ⟨nm, fr, to, at_, hE⟩ := okD_Edg (okD_C h)
    have hE2 := Edg_like hS hA hE
    rcases C_shape0 fl hfl h.1 c_sign c_label hl c_shape_edges c_shape_components c_shape_pieces c_shape_faces c_shape_brokenRule c_shape_culprit c_shape_componentOf c_shape_edgeAt c_shape_faceOf c_shape_faceSize c_shape_faceStart c_shape_from c_shape_key c_shape_name c_shape_pieceOf c_shape_scratch c_shape_to with ⟨l, _, _, _, _, _, _, _, _, _, _, _, _, _, _, _, _, b⟩ | ⟨l, _, _, _, _, _, _, _, _, _, _, _, _, _, _, _, _, b, _⟩ | ⟨c, ed', cm', pc', fa', a1, a2, a3, a4, a5, a6, a7, a8, a9, a10, a11, e, s, _⟩ | ⟨ed', cm', pc', fa', a1, a2, a3, a4, a5, a6, a7, a8, a9, a10, a11, e, s, _⟩
    · obtain ⟨⟨q, q1, q2⟩, b2, _⟩ := b
      have := (Edg_cnt hE2 q1).1
      rw [q2] at this; exact absurd this b2
    · obtain ⟨⟨q, q1, q2⟩, b2, _⟩ := b
      have := (Edg_cnt hE2 q1).2
      rw [q2] at this; exact absurd this b2
    · exact ⟨_, e, rfl, ShC_like hS hA s⟩
    · exact ⟨_, e, rfl, ShC_like hS hA s⟩
  · have k1 : c_shapeIsKnown = 1 := hK.1
    unfold LM_Di_shape LB_Di_shape_0
    rw [if_pos (by omega)]
    exact ⟨_, rfl, hK⟩
/-- numbers behind each other -/
def bhL : List Int → List Int
  | [] => []
  | v :: l => (32 :: num v) ++ bhL l
theorem mm_bh (v : Int) (l : List Int) (s : Int × (Nat → Int)) : mm (bhL (v :: l)) s = mm (bhL l) (mm (32 :: num v) s) := mm_app (32 :: num v) (bhL l) s
theorem mm_bh0 (s : Int × (Nat → Int)) : mm (bhL []) s = s := rfl
theorem pp_bh (v : Int) (l : List Int) (s : Pap) : pp (bhL (v :: l)) s = pp (bhL l) (pp (32 :: num v) s) := pp_app (32 :: num v) (bhL l) s
theorem pp_bh0 (s : Pap) : pp (bhL []) s = s := rfl
/-- a line of numbers -/
def hsL (L : List Int) : List Int := 35 :: (bhL L ++ [10])
theorem mm_hs (L : List Int) (s : Int × (Nat → Int)) : mm (hsL L) s = mm [10] (mm (bhL L) (mm [35] s)) := by
  show mm ([35] ++ (bhL L ++ [10])) s = _
  rw [mm_app, mm_app]
theorem pp_hs (L : List Int) (s : Pap) : pp (hsL L) s = pp [10] (pp (bhL L) (pp [35] s)) := by
  show pp ([35] ++ (bhL L ++ [10])) s = _
  rw [pp_app, pp_app]
/-- what COUNT says -/
def cntS (d : Dg) (fr to at_ : Nat → Int) : List Int :=
  hsL [(d.1 : Int), d.2.1, (cmR d.1 to at_ : Int) + d.2.1, (pcs fr to d.1 (2 * d.1) : Int) + d.2.1, ((rndz (tnz fr to at_) (4 * d.1) (4 * d.1)).2.1 : Int), (arcN d.1 fr to at_ : Int) + d.2.1, ((sfR (sfn d.2.2.2 to at_) (2 * d.1) (2 * d.1)).2 : Int) + d.2.1, sgs d.2.2.2 d.1, if altB fr to (2 * d.1) = true then 1 else 0]
section
variable {nm fr to at_ : Nat → Int}
theorem sfn_like {n : Nat} {sg lb : Nat → Int} (h : EdgA n sg lb nm fr to at_) {S T : Nat → Int} (hS : like n S T) {e : Nat} (he : e < 2 * n) : sfn S to at_ e = sfn T to at_ e := by
  obtain ⟨_, _, _, t2, _⟩ := fr_ok h he
  unfold sfn upO
  rw [hS _ (show (to e).toNat / 4 < n by omega)]
theorem sfR_congr {f g : Nat → Nat} {N : Nat} (h : ∀ x, x < N → f x = g x) (hf : ∀ x, x < N → f x < N) : ∀ k, k ≤ N → sfR f N k = sfR g N k := by
  intro k
  induction k with
  | zero => intro _; rfl
  | succ k ih =>
    intro hk
    rw [sfR_s, sfR_s, ih (by omega), mk_congr h hf (N + 1) k _ (by omega)]
theorem sf_like {n : Nat} {sg lb : Nat → Int} (h : EdgA n sg lb nm fr to at_) {S T : Nat → Int} (hS : like n S T) : sfR (sfn S to at_) (2 * n) (2 * n) = sfR (sfn T to at_) (2 * n) (2 * n) :=
  sfR_congr (fun x hx => sfn_like h hS hx) (fun x hx => (sfn_ok h S hx).2.2.2.2) (2 * n) (Nat.le_refl _)
theorem na_lt {v : Int} (h : -1000000 ≤ v ∧ v ≤ 1000000) : v.natAbs < 10 ^ 18 := by
  have : (10 : Nat) ^ 18 = 1000000000000000000 := by decide
  omega
theorem bh_len : ∀ l : List Int, (bhL l).length ≤ 20 * l.length := by
  intro l
  induction l with
  | nil => exact Nat.le_refl _
  | cons v l ih =>
    show ((32 :: num v) ++ bhL l).length ≤ 20 * (l.length + 1)
    have := num_len v
    rw [List.length_append, List.length_cons]
    omega
theorem M_count (fl : Nat) (hfl : 2000 ≤ fl) {d : Dg} (h : okD d) (hE : EdgA d.1 d.2.2.2 d.2.2.1 nm fr to at_) (m_d_n : Int) (m_d_circles : Int) (m_d_sign : (Nat → Int)) (m_follow : (Nat → Int)) (m_madeSize : Int) (m_arcs : Int) (m_arcOf : (Nat → Int)) (m_made : (Nat → Int)) (m_root : (Nat → Int)) {A : Nat → Int} (hD : DA d m_d_n m_d_circles A m_d_sign) (hfo : ∀ e, e < 2 * d.1 → m_follow e = ((nx to at_ e : Nat) : Int)) (hms : 0 ≤ m_madeSize ∧ m_madeSize ≤ 7000) :
    ∃ o, LM_Md_count fl ((2 * d.1 : Nat) : Int) ((cmR d.1 to at_ : Nat) : Int) (((rndz (tnz fr to at_) (4 * d.1) (4 * d.1)).2.1 : Nat) : Int) ((pcs fr to d.1 (2 * d.1) : Nat) : Int) fr m_d_n m_d_circles m_d_sign to m_follow at_ m_madeSize m_arcs m_arcOf m_made m_root = some o ∧ (o.1, o.2.2.2.1) = mm (cntS d fr to at_) (m_madeSize, m_made) := by
  have hn := h.1
  have hci := h.2.1
  obtain ⟨e1, e2, hA, hS⟩ := hD
  have r4 : cmR d.1 to at_ ≤ 2 * d.1 := (rnd_ok (nx_closed hE) (2 * d.1) (Nat.le_refl _)).2.2.2.1
  have rF := cnt_F hE
  have pL : pcs fr to d.1 (2 * d.1) ≤ d.1 := cnt_lez _ _
  have aL := ar2_le (nx to at_) (upTz to) (loF fr) (2 * d.1) (2 * d.1)
  have aL2 : arcN d.1 fr to at_ ≤ 4 * d.1 := by unfold arcN; omega
  have sL := sfR_le (sfn d.2.2.2 to at_) (2 * d.1) (2 * d.1)
  have gB := sgs_b d.1 h.2.2.1
  unfold LM_Md_count LB_Md_count_0
  obtain ⟨A', a1, a2⟩ := M_findArcs fl (by omega) hn hE hfo (ci := m_d_circles) (by omega) m_arcs m_arcOf
  rw [a1, Option.bind_some]
  have S0 : (mm [35] (m_madeSize, m_made)).1 = m_madeSize + 1 := mm_size [35] _
  have step : ∀ (v : Int) (s : Int × (Nat → Int)), (-1000000 ≤ v ∧ v ≤ 1000000) → 0 ≤ s.1 → s.1 ≤ 7900 → LM_Md_sayBehind fl v s.1 s.2 = some (mm (32 :: num v) s) ∧ (mm (32 :: num v) s).1 ≤ s.1 + 20 ∧ s.1 ≤ (mm (32 :: num v) s).1 := fun v s hv h0 h1 => by
    have sz := mm_size (32 :: num v) s
    rw [List.length_cons] at sz
    have := num_len v
    exact ⟨M_behind fl (by omega) v (na_lt hv) s (by omega), by omega, by omega⟩
  rw [M_say fl 35 (m_madeSize, m_made) (by show 0 ≤ m_madeSize ∧ m_madeSize < 8000; omega) (by decide), Option.bind_some]
  obtain ⟨p1, q1, q1'⟩ := step m_d_n (mm [35] (m_madeSize, m_made)) (by omega) (by omega) (by omega)
  rw [p1, Option.bind_some]
  obtain ⟨p2, q2, q2'⟩ := step m_d_circles _ (by omega) (show 0 ≤ (mm (32 :: num m_d_n) (mm [35] (m_madeSize, m_made))).1 by omega) (by omega)
  rw [p2, Option.bind_some, if_pos (by omega)]
  obtain ⟨p3, q3, q3'⟩ := step (((cmR d.1 to at_ : Nat) : Int) + m_d_circles) (mm (32 :: num m_d_circles) (mm (32 :: num m_d_n) (mm [35] (m_madeSize, m_made)))) (by omega) (by omega) (by omega)
  rw [p3, Option.bind_some, if_pos (by omega)]
  obtain ⟨p4, q4, q4'⟩ := step (((pcs fr to d.1 (2 * d.1) : Nat) : Int) + m_d_circles) _ (by omega) (show 0 ≤ (mm (32 :: num (((cmR d.1 to at_ : Nat) : Int) + m_d_circles)) (mm (32 :: num m_d_circles) (mm (32 :: num m_d_n) (mm [35] (m_madeSize, m_made))))).1 by omega) (by omega)
  rw [p4, Option.bind_some]
  generalize hs5 : (mm (32 :: num (((pcs fr to d.1 (2 * d.1) : Nat) : Int) + m_d_circles)) (mm (32 :: num (((cmR d.1 to at_ : Nat) : Int) + m_d_circles)) (mm (32 :: num m_d_circles) (mm (32 :: num m_d_n) (mm [35] (m_madeSize, m_made)))))) = s5 at q4 q4' ⊢
  obtain ⟨p5, q5, q5'⟩ := step (((rndz (tnz fr to at_) (4 * d.1) (4 * d.1)).2.1 : Nat) : Int) s5 (by omega) (by omega) (by omega)
  rw [p5, Option.bind_some]
  obtain ⟨p6, q6, q6'⟩ := step (((arcN d.1 fr to at_ : Nat) : Int) + m_d_circles) (mm (32 :: num (((rndz (tnz fr to at_) (4 * d.1) (4 * d.1)).2.1 : Nat) : Int)) s5) (by omega) (by omega) (by omega)
  rw [p6, Option.bind_some]
  obtain ⟨B', b1⟩ := M_seifert fl (by omega) hn hE (S := m_d_sign) (fun c hc => by rw [hS c hc]; exact h.2.2.1 c hc) (ci := m_d_circles) (by omega) m_root
  rw [sf_like hE hS] at b1
  rw [b1, Option.bind_some]
  dsimp only
  obtain ⟨p7, q7, q7'⟩ := step ((((sfR (sfn d.2.2.2 to at_) (2 * d.1) (2 * d.1)).2 : Nat) : Int) + m_d_circles) (mm (32 :: num (((arcN d.1 fr to at_ : Nat) : Int) + m_d_circles)) (mm (32 :: num (((rndz (tnz fr to at_) (4 * d.1) (4 * d.1)).2.1 : Nat) : Int)) s5)) (by omega) (by omega) (by omega)
  have sg1 := (CM_signs fl (by omega) hn (S := m_d_sign) (fun c hc => by rw [hS c hc]; exact h.2.2.1 c hc)).2
  rw [← e1, sgs_like d.1 hS] at sg1
  rw [p7, Option.bind_some, sg1, Option.bind_some]
  generalize hs8 : (mm (32 :: num ((((sfR (sfn d.2.2.2 to at_) (2 * d.1) (2 * d.1)).2 : Nat) : Int) + m_d_circles)) (mm (32 :: num (((arcN d.1 fr to at_ : Nat) : Int) + m_d_circles)) (mm (32 :: num (((rndz (tnz fr to at_) (4 * d.1) (4 * d.1)).2.1 : Nat) : Int)) s5))) = s8 at q7 q7' ⊢
  obtain ⟨p8, q8, q8'⟩ := step (sgs d.2.2.2 d.1) s8 (by omega) (by omega) (by omega)
  rw [p8, Option.bind_some, M_alt fl (by omega) hn hE, Option.bind_some]
  have fin : ∀ v : Int, 0 ≤ v ∧ v ≤ 1 → ∃ o, LB_Md_count_117 fl ((2 * d.1 : Nat) : Int) ((cmR d.1 to at_ : Nat) : Int) (((rndz (tnz fr to at_) (4 * d.1) (4 * d.1)).2.1 : Nat) : Int) ((pcs fr to d.1 (2 * d.1) : Nat) : Int) fr m_d_n m_d_circles m_d_sign to m_follow at_ v (mm (32 :: num (sgs d.2.2.2 d.1)) s8).1 (((arcN d.1 fr to at_ : Nat) : Int) + m_d_circles) A' (mm (32 :: num (sgs d.2.2.2 d.1)) s8).2 B' = some o ∧ (o.1, o.2.2.2.1) = mm [10] (mm (32 :: num v) (mm (32 :: num (sgs d.2.2.2 d.1)) s8)) := fun v hv => by
    unfold LB_Md_count_117
    obtain ⟨p9, q9, q9'⟩ := step v (mm (32 :: num (sgs d.2.2.2 d.1)) s8) (by omega) (by omega) (by omega)
    rw [p9, Option.bind_some, M_say fl 10 _ (by omega) (by decide), Option.bind_some]
    exact ⟨_, rfl, rfl⟩
  have fin2 : ∀ v : Int, mm [10] (mm (32 :: num v) (mm (32 :: num (sgs d.2.2.2 d.1)) s8)) = mm (hsL [(d.1 : Int), d.2.1, (cmR d.1 to at_ : Int) + d.2.1, (pcs fr to d.1 (2 * d.1) : Int) + d.2.1, ((rndz (tnz fr to at_) (4 * d.1) (4 * d.1)).2.1 : Int), (arcN d.1 fr to at_ : Int) + d.2.1, ((sfR (sfn d.2.2.2 to at_) (2 * d.1) (2 * d.1)).2 : Int) + d.2.1, sgs d.2.2.2 d.1, v]) (m_madeSize, m_made) := fun v => by
    rw [← hs8, ← hs5, e1, e2]
    rw [mm_hs]
    simp only [mm_bh, mm_bh0]
  unfold cntS
  by_cases hb : altB fr to (2 * d.1) = true
  · rw [if_pos hb, if_neg (by decide), ← fin2 1]
    exact fin 1 (by decide)
  · rw [if_neg hb, if_pos rfl, ← fin2 0]
    exact fin 0 (by decide)
end
