section
variable {n : Nat}
theorem cnt_like {A lb : Nat → Int} (h : like (4 * n) A lb) (l : Int) : cntL n A l = cntL n lb l := cnt_congr (fun q hq => by rw [h q hq])
theorem ins_like {A lb S sg : Nat → Int} (h : like (4 * n) A lb) (hs : like n S sg) (l : Int) : insL n S A l = insL n sg lb l := cnt_congr (fun q hq => by rw [h q hq, outQ_like hs hq])
theorem Bad1_like {A lb : Nat → Int} (h : like (4 * n) A lb) {l : Int} (hb : Bad1 n A l) : Bad1 n lb l := by
  obtain ⟨⟨q, q1, q2⟩, b2, b3⟩ := hb
  refine ⟨⟨q, q1, by rw [← h q q1]; exact q2⟩, by rw [← cnt_like h]; exact b2, fun p hp hl => ?_⟩
  have := b3 p hp (by rw [h p hp]; exact hl)
  rw [cnt_like h, h p hp] at this; exact this
theorem Bad2_like {A lb S sg : Nat → Int} (h : like (4 * n) A lb) (hs : like n S sg) {l : Int} (hb : Bad2 n S A l) : Bad2 n sg lb l := by
  obtain ⟨⟨q, q1, q2⟩, b2, b3⟩ := hb
  refine ⟨⟨q, q1, by rw [← h q q1]; exact q2⟩, by rw [← ins_like h hs]; exact b2, fun p hp hl => ?_⟩
  have := b3 p hp (by rw [h p hp]; exact hl)
  rw [ins_like h hs, h p hp] at this; exact this
theorem fac_congr {sg lb nm fr to at_ nm' fr' to' at' : Nat → Int} (h : EdgA n sg lb nm fr to at_) (h' : EdgA n sg lb nm' fr' to' at') (r : Nat) : facP fr' to' n (rndz (tnz fr' to' at') (4 * n) (4 * n)) r (rndz (tnz fr' to' at') (4 * n) (4 * n)).2.1 = facP fr to n (rndz (tnz fr to at_) (4 * n) (4 * n)) r (rndz (tnz fr to at_) (4 * n) (4 * n)).2.1 := by
  rw [rt_congr h h']
  unfold facP
  refine cnt_congr (fun f hf => ?_)
  have := st_lt h hf
  rw [pc_congr h h', ((Edg_one h h').1 _ (show (rndz (tnz fr to at_) (4 * n) (4 * n)).2.2.1 f / 2 < 2 * n by omega)).2.1]
theorem cro_congr {sg lb nm fr to at_ nm' fr' to' at' : Nat → Int} (h : EdgA n sg lb nm fr to at_) (h' : EdgA n sg lb nm' fr' to' at') (r k : Nat) : croP fr' to' n r k = croP fr to n r k := by
  unfold croP
  exact cnt_congr (fun c _ => by rw [pc_congr h h'])
theorem All3_congr {sg lb nm fr to at_ nm' fr' to' at' : Nat → Int} (h : EdgA n sg lb nm fr to at_) (h' : EdgA n sg lb nm' fr' to' at') (a : All3 fr' to' n (rndz (tnz fr' to' at') (4 * n) (4 * n))) : All3 fr to n (rndz (tnz fr to at_) (4 * n) (4 * n)) := fun b hb => by
  have := a b hb
  rw [pc_congr h h', fac_congr h h', cro_congr h h'] at this
  exact this
theorem Bad3_congr {sg lb nm fr to at_ nm' fr' to' at' : Nat → Int} (h : EdgA n sg lb nm fr to at_) (h' : EdgA n sg lb nm' fr' to' at') {c : Nat} (a : Bad3 fr' to' n (rndz (tnz fr' to' at') (4 * n) (4 * n)) c) : Bad3 fr to n (rndz (tnz fr to at_) (4 * n) (4 * n)) c := by
  obtain ⟨a1, a2, a3⟩ := a
  rw [pc_congr h h', fac_congr h h', cro_congr h h'] at a2
  refine ⟨a1, a2, fun b hb => ?_⟩
  have := a3 b hb
  rw [pc_congr h h', fac_congr h h', cro_congr h h'] at this
  exact this
/-- what a line CODE says, and the diagram behind it -/
def CodeR (n : Nat) (nuv : Nat → Int) (d : Dg) (L : List Int) (d' : Dg) : Prop :=
  (¬ good0z n nuv ∧ L = ansL 65 ∧ d' = d) ∨ (good0z n nuv ∧ ((∃ l, Bad1 n (cdL nuv) l ∧ L = noRL 1 l ∧ d' = d) ∨ (∃ l, (∀ q, q < 4 * n → cntL n (cdL nuv) (cdL nuv q) = 2) ∧ Bad2 n (cdS nuv) (cdL nuv) l ∧ L = noRL 2 l ∧ d' = d) ∨
    (∃ (c : Nat) (nm fr to at_ : Nat → Int), EdgA n (cdS nuv) (cdL nuv) nm fr to at_ ∧ Bad3 fr to n (rndz (tnz fr to at_) (4 * n) (4 * n)) c ∧ L = noRL 3 (c : Int) ∧ d' = d) ∨ (∃ (nm fr to at_ : Nat → Int), EdgA n (cdS nuv) (cdL nuv) nm fr to at_ ∧ All3 fr to n (rndz (tnz fr to at_) (4 * n) (4 * n)) ∧ L = okL ∧ d' = cdD n nuv)))
theorem Code_one {nuv : Nat → Int} {d d1 d2 : Dg} {L1 L2 : List Int} (h1 : CodeR n nuv d L1 d1) (h2 : CodeR n nuv d L2 d2) : L1 = L2 ∧ d1 = d2 := by
  rcases h1 with ⟨g1, a1, b1⟩ | ⟨g1, h1⟩
  · rcases h2 with ⟨g2, a2, b2⟩ | ⟨g2, _⟩
    · exact ⟨by rw [a1, a2], by rw [b1, b2]⟩
    · exact absurd g2 g1
  · rcases h2 with ⟨g2, _⟩ | ⟨g2, h2⟩
    · exact absurd g1 g2
    · have x1 : ∀ {l}, Bad1 n (cdL nuv) l → (∀ q, q < 4 * n → cntL n (cdL nuv) (cdL nuv q) = 2) → False := fun b w => by
        obtain ⟨⟨q, q1, q2⟩, b2, _⟩ := b
        have := w q q1
        rw [q2] at this; exact b2 this
      have x2 : ∀ {l nm fr to at_}, Bad2 n (cdS nuv) (cdL nuv) l → EdgA n (cdS nuv) (cdL nuv) nm fr to at_ → False := fun b w => by
        obtain ⟨⟨q, q1, q2⟩, b2, _⟩ := b
        have := (Edg_cnt w q1).2
        rw [q2] at this; exact b2 this
      rcases h1 with ⟨l, a1, a2, a3⟩ | ⟨l, a0, a1, a2, a3⟩ | ⟨c, nm, fr, to, at_, a0, a1, a2, a3⟩ | ⟨nm, fr, to, at_, a0, a1, a2, a3⟩ <;> rcases h2 with ⟨l', b1, b2, b3⟩ | ⟨l', b0, b1, b2, b3⟩ | ⟨c', nm', fr', to', at', b0, b1, b2, b3⟩ | ⟨nm', fr', to', at', b0, b1, b2, b3⟩
      · have := Bad1_one a1 b1; subst this; exact ⟨by rw [a2, b2], by rw [a3, b3]⟩
      · exact (x1 a1 b0).elim
      · exact (x1 a1 (fun q hq => (Edg_cnt b0 hq).1)).elim
      · exact (x1 a1 (fun q hq => (Edg_cnt b0 hq).1)).elim
      · exact (x1 b1 a0).elim
      · have := Bad2_one a1 b1; subst this; exact ⟨by rw [a2, b2], by rw [a3, b3]⟩
      · exact (x2 a1 b0).elim
      · exact (x2 a1 b0).elim
      · exact (x1 b1 (fun q hq => (Edg_cnt a0 hq).1)).elim
      · exact (x2 b1 a0).elim
      · have := Bad3_one a1 (Bad3_congr a0 b0 b1); subst this; exact ⟨by rw [a2, b2], by rw [a3, b3]⟩
      · exact (Bad3_not a1 (All3_congr a0 b0 b1)).elim
      · exact (x1 b1 (fun q hq => (Edg_cnt a0 hq).1)).elim
      · exact (x2 b1 a0).elim
      · exact (Bad3_not (Bad3_congr a0 b0 b1) a1).elim
      · exact ⟨by rw [a2, b2], by rw [a3, b3]⟩
theorem Edg_cnts (hn : n ≤ 20) {sg lb : Nat → Int} (hl : ∀ q, q < 4 * n → 0 ≤ lb q ∧ lb q ≤ 9999) (h1 : ∀ q, q < 4 * n → cntL n lb (lb q) = 2) (h2 : ∀ q, q < 4 * n → insL n sg lb (lb q) = 1) : ∃ nm fr to at_, EdgA n sg lb nm fr to at_ := by
  rcases C_shape0 200 (by omega) hn sg lb hl 0 0 0 0 0 0 (fun _ => 0) (fun _ => 0) (fun _ => 0) (fun _ => 0) (fun _ => 0) (fun _ => 0) (fun _ => 0) (fun _ => 0) (fun _ => 0) (fun _ => 0) (fun _ => 0) with ⟨l, _, _, _, _, _, _, _, _, _, _, _, _, _, _, _, _, b⟩ | ⟨l, _, _, _, _, _, _, _, _, _, _, _, _, _, _, _, _, b, _⟩ | ⟨c, ed', cm', pc', fa', a1, a2, a3, a4, a5, a6, a7, a8, a9, a10, a11, _, s, _⟩ | ⟨ed', cm', pc', fa', a1, a2, a3, a4, a5, a6, a7, a8, a9, a10, a11, _, s, _⟩
  · obtain ⟨⟨q, q1, q2⟩, b2, _⟩ := b
    have := h1 q q1
    rw [q2] at this; exact absurd this b2
  · obtain ⟨⟨q, q1, q2⟩, b2, _⟩ := b
    have := h2 q q1
    rw [q2] at this; exact absurd this b2
  · exact ⟨_, _, _, _, s.2.1⟩
  · exact ⟨_, _, _, _, s.2.1⟩
end
theorem M_noRL (fl : Nat) (hfl : 2000 ≤ fl) {r l : Int} (hr : r.natAbs < 10 ^ 18) (hl : l.natAbs < 10 ^ 18) (s : Int × (Nat → Int)) (hs : 0 ≤ s.1 ∧ s.1 ≤ 7000) {R : Type} (k : Int × (Nat → Int) → Option R) :
    ((LM_Md_sayAll fl 68 s.1 s.2).bind fun o1 => (LM_Md_sayBehind fl r o1.1 o1.2).bind fun o2 => (LM_Md_sayBehind fl l o2.1 o2.2).bind fun o3 => (LM_Md_say fl 10 o3.1 o3.2).bind fun o4 => k o4) = k (mm (noRL r l) s) := by
  have l68 : (lit 68).length = 4 := by decide
  have n1 := num_len r
  have n2 := num_len l
  rw [M_all fl hfl (by decide) s (by omega), Option.bind_some]
  have s1 := mm_size (lit 68) s
  rw [M_behind fl (by omega) r hr _ (by rw [s1, l68]; omega), Option.bind_some]
  have s2 := mm_size (32 :: num r) (mm (lit 68) s)
  rw [List.length_cons] at s2
  rw [M_behind fl (by omega) l hl _ (by rw [s2, s1, l68]; omega), Option.bind_some]
  have s3 := mm_size (32 :: num l) (mm (32 :: num r) (mm (lit 68) s))
  rw [List.length_cons] at s3
  rw [M_say fl 10 _ (by rw [s3, s2, s1, l68]; omega) (by decide), Option.bind_some]
  unfold noRL
  rw [mm_app, mm_app, mm_app]
section
variable {m_next : Int} {m_begins m_numbers nuv : Nat → Int} {m n : Nat}
/-- the reference's CODE, when all numbers may stand -/
theorem mk142 (fl : Nat) (h : LnM m_next m_begins m_numbers m nuv) (hL : lnCode m n nuv) {c : Nat} (hc : c < n) (kb : Int → Int → Int → Int → Int → Int → Int → Int → Int → (Nat → Int) → (Nat → Int) → Int → Int → (Nat → Int) → (Nat → Int) → (Nat → Int) → (Nat → Int) → (Nat → Int) → (Nat → Int) → (Nat → Int) → (Nat → Int) → Int → Int → (Nat → Int) → (Nat → Int) → (Nat → Int) → (Nat → Int) → Option (Int × Int × Int × Int × Int × (Nat → Int) × (Nat → Int) × Int × Int × (Nat → Int) × (Nat → Int) × (Nat → Int) × (Nat → Int) × (Nat → Int) × (Nat → Int) × (Nat → Int) × (Nat → Int) × Int × Int × (Nat → Int) × (Nat → Int) × (Nat → Int) × (Nat → Int))) (x1 x2 x3 : Int) (m_madeSize : Int) (m_edges : Int) (m_comps : Int) (m_faces : Int) (m_pieces : Int) (m_begin : (Nat → Int)) (m_compOf : (Nat → Int)) (m_d_n : Int) (m_d_circles : Int) (m_d_sign : (Nat → Int)) (m_faceOf : (Nat → Int)) (m_finish : (Nat → Int)) (m_firstDart : (Nat → Int)) (m_follow : (Nat → Int)) (m_labelOf : (Nat → Int)) (m_made : (Nat → Int)) (m_old_n : Int) (m_old_circles : Int) (m_old_label : (Nat → Int)) (m_old_sign : (Nat → Int)) (m_pieceOf : (Nat → Int)) (m_placed : (Nat → Int)) :
    ∀ (r nn q : Nat) (A : Nat → Int), q + r = 4 → r < nn → like (4 * c + q) A (cdL nuv) →
    ∃ A', LB_Md_setCode_142 fl m_next m_begins m_numbers kb nn x1 x2 x3 (c : Int) (q : Int) m_madeSize m_edges m_comps m_faces m_pieces m_begin m_compOf m_d_n m_d_circles A m_d_sign m_faceOf m_finish m_firstDart m_follow m_labelOf m_made m_old_n m_old_circles m_old_label m_old_sign m_pieceOf m_placed = kb x1 x2 x3 ((c : Int) + 1) m_madeSize m_edges m_comps m_faces m_pieces m_begin m_compOf m_d_n m_d_circles A' m_d_sign m_faceOf m_finish m_firstDart m_follow m_labelOf m_made m_old_n m_old_circles m_old_label m_old_sign m_pieceOf m_placed ∧ like (4 * c + 4) A' (cdL nuv) := by
  have hb := ln_b hL
  have hn := hL.2.1
  have hm := hL.1
  intro r
  induction r with
  | zero =>
    intro nn q A hr hnn hA
    obtain ⟨nn, rfl⟩ : ∃ r, nn = r + 1 := ⟨nn - 1, by omega⟩
    have : q = 4 := by omega
    subst this
    rw [LB_Md_setCode_142, if_pos (by omega), if_pos (by omega)]
    exact ⟨A, rfl, hA⟩
  | succ r ih =>
    intro nn q A hr hnn hA
    obtain ⟨nn, rfl⟩ : ∃ r, nn = r + 1 := ⟨nn - 1, by omega⟩
    have ei : 5 * (c : Int) + 1 + (q : Int) = ((5 * c + 1 + q : Nat) : Int) := by omega
    have bi := hb (5 * c + 1 + q) (by omega)
    have el : cdL nuv (4 * c + q) = nuv (5 * c + 1 + q) := by unfold cdL; rw [show (4 * c + q) / 4 = c by omega, show (4 * c + q) % 4 = q by omega]
    rw [LB_Md_setCode_142, if_neg (by omega), if_pos (by omega), ei, M_given fl h (show 5 * c + 1 + q < m by omega) (by omega), Option.bind_some, if_pos (by omega), if_pos (by omega), if_pos (by omega), show Int.toNat (4 * (c : Int) + (q : Int)) = 4 * c + q by omega, ← el, show ((q : Int) + 1) = ((q + 1 : Nat) : Int) by omega]
    refine ih nn (q + 1) _ (by omega) (by omega) (fun y hy => ?_)
    by_cases w : y = 4 * c + q
    · rw [w, up_eq]
    · rw [up_ne _ _ w]; exact hA y (by omega)
end
