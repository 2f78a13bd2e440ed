abbrev MpT := Int × Int × Int × Int × Int × Int × (Nat → Int) × (Nat → Int) × (Nat → Int) × Int × Int × (Nat → Int) × (Nat → Int) × Int × Int × (Nat → Int) × (Nat → Int) × (Nat → Int) × (Nat → Int) × (Nat → Int) × (Nat → Int) × (Nat → Int) × (Nat → Int) × Int × Int × (Nat → Int) × (Nat → Int) × (Nat → Int) × (Nat → Int) × Int × Int × (Nat → Int) × (Nat → Int) × (Nat → Int) × (Nat → Int) × (Nat → Int) × (Nat → Int) × (Nat → Int) × (Nat → Int) × (Nat → Int) × (Nat → Int)
def MpP (k m : Nat) (nuv : Nat → Int) (earlier_strands earlier_count : Int) (earlier_letters : Nat → Int) (latest_strands latest_count : Int) (latest_letters : Nat → Int) (s : Int × (Nat → Int)) (o : MpT) (L : List Int) (d' : Dg) : Prop := (o.1, o.2.2.2.2.2.2.2.2.2.2.2.2.2.2.2.2.2.2.2.2.2.2.2.2.2.2.2.1) = mm L s ∧ DA d' o.2.2.2.2.2.2.2.2.2.1 o.2.2.2.2.2.2.2.2.2.2.1 o.2.2.2.2.2.2.2.2.2.2.2.1 o.2.2.2.2.2.2.2.2.2.2.2.2.1 ∧ ((k = 2 ∧ goodW m nuv) ∧ (o.2.2.2.2.2.2.2.2.2.2.2.2.2.1 = latest_strands ∧ o.2.2.2.2.2.2.2.2.2.2.2.2.2.2.1 = latest_count ∧ ∀ j, j < 20 → o.2.2.2.2.2.2.2.2.2.2.2.2.2.2.2.1 j = latest_letters j) ∧ (o.2.2.2.2.2.2.2.2.2.2.2.2.2.2.2.2.2.2.2.2.2.2.2.1 = nuv 0 ∧ o.2.2.2.2.2.2.2.2.2.2.2.2.2.2.2.2.2.2.2.2.2.2.2.2.1 = ((m - 1 : Nat) : Int) ∧ ∀ j, j + 1 < m → o.2.2.2.2.2.2.2.2.2.2.2.2.2.2.2.2.2.2.2.2.2.2.2.2.2.1 j = nuv (j + 1)) ∨ ¬ (k = 2 ∧ goodW m nuv) ∧ (o.2.2.2.2.2.2.2.2.2.2.2.2.2.1 = earlier_strands ∧ o.2.2.2.2.2.2.2.2.2.2.2.2.2.2.1 = earlier_count ∧ o.2.2.2.2.2.2.2.2.2.2.2.2.2.2.2.1 = earlier_letters) ∧ (o.2.2.2.2.2.2.2.2.2.2.2.2.2.2.2.2.2.2.2.2.2.2.2.1 = latest_strands ∧ o.2.2.2.2.2.2.2.2.2.2.2.2.2.2.2.2.2.2.2.2.2.2.2.2.1 = latest_count ∧ o.2.2.2.2.2.2.2.2.2.2.2.2.2.2.2.2.2.2.2.2.2.2.2.2.2.1 = latest_letters))
theorem M_undoAt (fl : Nat) (hfl : 2000 ≤ fl) {d : Dg} {nm fr to at_ fd : Nat → Int} (h : okD d) (hE : EdgA d.1 d.2.2.2 d.2.2.1 nm fr to at_) (hT : rArr (rndz (tnz fr to at_) (4 * d.1) (4 * d.1)) fd) {n ci : Int} {A S : Nat → Int} (hD : DA d n ci A S) (f : Nat) (s : Int × (Nat → Int)) (hs : 0 ≤ s.1 ∧ s.1 ≤ 7000) (n0 c0 : Int) (A0 S0 : Nat → Int) :
    ∃ (n' c' : Int) (A' S' : Nat → Int) (n1 c1 : Int) (A1 S1 : Nat → Int), LM_Md_undoAt fl (((rndz (tnz fr to at_) (4 * d.1) (4 * d.1)).2.1 : Nat) : Int) fr to fd at_ (f : Int) s.1 n ci A S s.2 n0 c0 A0 S0 = some ((mm (unF d fr to at_ f).1 s).1, n', c', A', S', (mm (unF d fr to at_ f).1 s).2, n1, c1, A1, S1) ∧ DA (unF d fr to at_ f).2 n' c' A' S' := by
  have F4 := cnt_F hE
  have hn := h.1
  unfold LM_Md_undoAt LB_Md_undoAt_0 LB_Md_undoAt_17 LB_Md_undoAt_28 LB_Md_undoAt_45
  have no : ∀ (n1 c1 : Int) (A1 S1 : Nat → Int) (n2 c2 : Int) (A2 S2 : Nat → Int), ((LM_Md_answer fl 69 s.1 s.2).bind fun o0 => (some (o0.1, n1, c1, A1, S1, o0.2, n2, c2, A2, S2))) = some ((mm noL s).1, n1, c1, A1, S1, (mm noL s).2, n2, c2, A2, S2) := fun n1 c1 A1 S1 n2 c2 A2 S2 => by
    rw [M_answer fl hfl (by decide) s hs, Option.bind_some]
    rfl
  by_cases c : f < (rndz (tnz fr to at_) (4 * d.1) (4 * d.1)).2.1
  · obtain ⟨k1, k2, k3, k4, k5⟩ := face_ok hE c
    obtain ⟨i1, i2, _⟩ := face_it hE c
    have e1 := M_what fl (by omega) hn hE fd (f := f) (by omega) (hT f c) k1 (by omega) k2 k4 k5
    obtain ⟨ud1, ud2⟩ := undo_deed (d := d) (fr := fr) (to := to) (at_ := at_) (s := (rndz (tnz fr to at_) (4 * d.1) (4 * d.1)).2.2.1 f) (k := (rndz (tnz fr to at_) (4 * d.1) (4 * d.1)).2.2.2 f)
    have uok := (undo_ok h hE (k := (rndz (tnz fr to at_) (4 * d.1) (4 * d.1)).2.2.2 f) k1).2.2
    have eu0 : (undoS d fr to at_ ((rndz (tnz fr to at_) (4 * d.1) (4 * d.1)).2.2.1 f) ((rndz (tnz fr to at_) (4 * d.1) (4 * d.1)).2.2.2 f)).1 = 0 → unF d fr to at_ f = (noL, d) := fun c0 => by unfold unF; rw [if_pos c, if_pos c0]
    rw [if_neg (by omega), e1, Option.bind_some]
    have go : (deedS fr to at_ ((rndz (tnz fr to at_) (4 * d.1) (4 * d.1)).2.2.1 f) ((rndz (tnz fr to at_) (4 * d.1) (4 * d.1)).2.2.2 f) = 1 ∨ deedS fr to at_ ((rndz (tnz fr to at_) (4 * d.1) (4 * d.1)).2.2.1 f) ((rndz (tnz fr to at_) (4 * d.1) (4 * d.1)).2.2.2 f) = 2) → ∃ (n' c' : Int) (A' S' : Nat → Int) (n1 c1 : Int) (A1 S1 : Nat → Int), ((LM_Md_undo fl fr to fd at_ (f : Int) (deedS fr to at_ ((rndz (tnz fr to at_) (4 * d.1) (4 * d.1)).2.2.1 f) ((rndz (tnz fr to at_) (4 * d.1) (4 * d.1)).2.2.2 f)) n ci A S n0 c0 A0 S0).bind fun o0 => (if o0.1 = (0 : Int) then ((LM_Md_answer fl 69 s.1 s.2).bind fun o1 => (some (o1.1, o0.2.1, o0.2.2.1, o0.2.2.2.1, o0.2.2.2.2.1, o1.2, o0.2.2.2.2.2.1, o0.2.2.2.2.2.2.1, o0.2.2.2.2.2.2.2.1, o0.2.2.2.2.2.2.2.2))) else ((LM_Md_answerUndone fl (deedS fr to at_ ((rndz (tnz fr to at_) (4 * d.1) (4 * d.1)).2.2.1 f) ((rndz (tnz fr to at_) (4 * d.1) (4 * d.1)).2.2.2 f)) s.1 s.2).bind fun o1 => (some (o1.1, o0.2.1, o0.2.2.1, o0.2.2.2.1, o0.2.2.2.2.1, o1.2, o0.2.2.2.2.2.1, o0.2.2.2.2.2.2.1, o0.2.2.2.2.2.2.2.1, o0.2.2.2.2.2.2.2.2))))) = some ((mm (unF d fr to at_ f).1 s).1, n', c', A', S', (mm (unF d fr to at_ f).1 s).2, n1, c1, A1, S1) ∧ DA (unF d fr to at_ f).2 n' c' A' S' := fun hdd => by
      obtain ⟨n', c', A', S', n1, c1, A1, S1, u1, u2⟩ := M_undo fl (by omega) h hE hD fd (f := f) (by omega) (hT f c) k1 i1 hdd k2 n0 c0 A0 S0
      rw [u1, Option.bind_some]
      dsimp only
      by_cases c0 : (undoS d fr to at_ ((rndz (tnz fr to at_) (4 * d.1) (4 * d.1)).2.2.1 f) ((rndz (tnz fr to at_) (4 * d.1) (4 * d.1)).2.2.2 f)).1 = 0
      · rw [if_pos c0, if_pos rfl, no, eu0 c0]
        rw [ud2 c0] at u2
        exact ⟨n', c', A', S', n1, c1, A1, S1, rfl, u2⟩
      · have eu : unF d fr to at_ f = (undL ((undoS d fr to at_ ((rndz (tnz fr to at_) (4 * d.1) (4 * d.1)).2.2.1 f) ((rndz (tnz fr to at_) (4 * d.1) (4 * d.1)).2.2.2 f)).1 : Int), (undoS d fr to at_ ((rndz (tnz fr to at_) (4 * d.1) (4 * d.1)).2.2.1 f) ((rndz (tnz fr to at_) (4 * d.1) (4 * d.1)).2.2.2 f)).2) := by unfold unF; rw [if_pos c, if_neg c0]
        rw [if_neg c0, if_neg (by decide), ← (ud1 c0).1, M_undone fl hfl (by omega) s hs, Option.bind_some, eu]
        exact ⟨n', c', A', S', n1, c1, A1, S1, rfl, u2⟩
    by_cases d1 : deedS fr to at_ ((rndz (tnz fr to at_) (4 * d.1) (4 * d.1)).2.2.1 f) ((rndz (tnz fr to at_) (4 * d.1) (4 * d.1)).2.2.2 f) = 1
    · rw [if_pos d1]
      exact go (Or.inl d1)
    · rw [if_neg d1]
      by_cases d2 : deedS fr to at_ ((rndz (tnz fr to at_) (4 * d.1) (4 * d.1)).2.2.1 f) ((rndz (tnz fr to at_) (4 * d.1) (4 * d.1)).2.2.2 f) = 2
      · rw [if_neg (fun w => w d2)]
        exact go (Or.inr d2)
      · rw [if_pos d2, no, eu0 (by rw [undoS_0 d1 d2])]
        exact ⟨n, ci, A, S, n0, c0, A0, S0, rfl, hD⟩
  · have eu : unF d fr to at_ f = (noL, d) := by unfold unF; rw [if_neg c]
    rw [if_pos (by omega), if_neg (by decide), if_pos (by decide), no, eu]
    exact ⟨n, ci, A, S, n0, c0, A0, S0, rfl, hD⟩
theorem mp201 (fl : Nat) (hfl : 2000 ≤ fl) {d : Dg} (h : okD d) (k : Nat) (s : Int × (Nat → Int)) (hs : 0 ≤ s.1 ∧ s.1 ≤ 7000) (next : Int) (begins numbers : Nat → Int) (edges comps faces pieces arcs : Int) (arcOf begin compOf : (Nat → Int)) (earlier_strands earlier_count : Int) (earlier_letters faceOf finish firstDart follow gcd high labelOf : (Nat → Int)) (latest_strands latest_count : Int) (latest_letters low minor : (Nat → Int)) (old_n old_circles : Int) (old_label old_sign one other pieceOf placed poly root top ways : (Nat → Int)) :
    ∀ (r nn c : Nat) (d_n d_circles : Int) (d_label d_sign : Nat → Int), c + r = d.1 → r < nn → DA (mirD c d) d_n d_circles d_label d_sign → ∃ A' S', LB_Md_perform_201 fl next begins numbers nn (k : Int) (c : Int) s.1 edges comps faces pieces arcs arcOf begin compOf d_n d_circles d_label d_sign earlier_strands earlier_count earlier_letters faceOf finish firstDart follow gcd high labelOf latest_strands latest_count latest_letters low s.2 minor old_n old_circles old_label old_sign one other pieceOf placed poly root top ways = some ((mm okL s).1, edges, comps, faces, pieces, arcs, arcOf, begin, compOf, d_n, d_circles, A', S', earlier_strands, earlier_count, earlier_letters, faceOf, finish, firstDart, follow, gcd, high, labelOf, latest_strands, latest_count, latest_letters, low, (mm okL s).2, minor, old_n, old_circles, old_label, old_sign, one, other, pieceOf, placed, poly, root, top, ways) ∧ DA (mirD d.1 d) d_n d_circles A' S' := by
  have hn := h.1
  intro r
  induction r with
  | zero =>
    intro nn c d_n d_circles d_label d_sign hc hnn hD
    obtain ⟨nn, rfl⟩ : ∃ r, nn = r + 1 := ⟨nn - 1, by omega⟩
    have e : c = d.1 := by omega
    have m2 := (mir_ok h c (by omega)).2.1
    rw [e] at hD
    have hN := hD.1
    rw [LB_Md_perform_201, if_pos (by rw [hN, ← e, m2]; omega), M_answer fl hfl (by decide) s hs, Option.bind_some]
    exact ⟨d_label, d_sign, rfl, hD⟩
  | succ r ih =>
    intro nn c d_n d_circles d_label d_sign hc hnn hD
    obtain ⟨nn, rfl⟩ : ∃ r, nn = r + 1 := ⟨nn - 1, by omega⟩
    obtain ⟨m1, m2, m3⟩ := mir_ok h c (by omega)
    have hN := hD.1
    obtain ⟨A', S', g1, g2⟩ := M_change fl (by omega) m1 hD (c := c) (by omega)
    rw [LB_Md_perform_201, if_neg (by rw [hN, m2]; omega), g1, Option.bind_some, if_pos (by omega), show ((c : Int) + 1) = ((c + 1 : Nat) : Int) by omega]
    exact ih nn (c + 1) d_n d_circles A' S' (by omega) (by omega) g2
theorem M_perform (fl : Nat) (hfl : 20000000 ≤ fl) {d d' : Dg} (h : okD d) (hJ : Jd d) {k m : Nat} {nuv : Nat → Int} (ha : Arg k m nuv) {L : List Int} (R : RunR k m nuv d L d') (s : Int × (Nat → Int)) (hs : s.1 = 0) (next : Int) (begins numbers : (Nat → Int)) (edges comps faces pieces arcs : Int) (arcOf begin compOf : (Nat → Int)) (d_n d_circles : Int) (d_label d_sign : (Nat → Int)) (earlier_strands earlier_count : Int) (earlier_letters faceOf finish firstDart follow gcd high labelOf : (Nat → Int)) (latest_strands latest_count : Int) (latest_letters low minor : (Nat → Int)) (old_n old_circles : Int) (old_label old_sign one other pieceOf placed poly root top ways : (Nat → Int)) (hL : LnM next begins numbers m nuv) (hD : DA d d_n d_circles d_label d_sign) :
    ∃ o : MpT, LM_Md_perform fl next begins numbers (k : Int) s.1 edges comps faces pieces arcs arcOf begin compOf d_n d_circles d_label d_sign earlier_strands earlier_count earlier_letters faceOf finish firstDart follow gcd high labelOf latest_strands latest_count latest_letters low s.2 minor old_n old_circles old_label old_sign one other pieceOf placed poly root top ways = some o ∧ MpP k m nuv earlier_strands earlier_count earlier_letters latest_strands latest_count latest_letters s o L d' := by
  have hn := h.1
  have hci := h.2.1
  have hm4 : m ≤ 4000 := by
    by_cases w1 : k = 1
    · obtain ⟨n, hN⟩ := ha.1 w1
      have := hN.1; have := hN.2.1; omega
    · by_cases w2 : k = 2
      · have := ha.2.1 w2; omega
      · by_cases w3 : k = 3 ∨ k = 4 ∨ k = 9 ∨ k = 10 ∨ k = 11
        · have := (ha.2.2.1 w3).1; omega
        · by_cases w5 : k = 5
          · have := (ha.2.2.2.1 w5).1; omega
          · by_cases w6 : k = 6
            · have := (ha.2.2.2.2.1 w6).1; omega
            · by_cases w7 : k = 16 ∨ k = 17 ∨ k = 18
              · obtain ⟨p, e, hp⟩ := ha.2.2.2.2.2.1 w7
                have := hp.1; omega
              · rcases R with ⟨e, _⟩ | ⟨e, _⟩ | ⟨e, _⟩ | ⟨e, _⟩ | ⟨e, _⟩ | ⟨e, _⟩ | ⟨e, _⟩ | ⟨e, _⟩ | ⟨e, _⟩ <;> (have := ha.2.2.2.2.2.2; omega)
  obtain ⟨⟨edges', comps', faces', pieces', begin', compOf', faceOf', finish', firstDart', follow', labelOf', pieceOf', placed'⟩, s1, s2⟩ := M_surv fl (by omega) h hD edges comps faces pieces begin compOf faceOf finish firstDart follow labelOf pieceOf placed
  have s3 := s2
  obtain ⟨v1, v2, v3, v4, v5, v6, v7, v8, v9, v10⟩ := s2
  dsimp only at v1 v2 v3 v4 v5 v6 v7 v8 v9 v10
  have F4 := cnt_F v2
  unfold LM_Md_perform LB_Md_perform_0
  rw [s1, Option.bind_some]
  dsimp only
  have hD0 := hD
  obtain ⟨e1, e2, hA, hS⟩ := hD0
  have gOne : (k = 3 ∨ k = 4 ∨ k = 9 ∨ k = 10 ∨ k = 11) → LM_Md_given fl next begins numbers 0 = some (((nuv 0).toNat : Nat) : Int) := fun w => by
    obtain ⟨e1, e2⟩ := ha.2.2.1 w
    unfold isN at e2
    have := M_given fl hL (i := 0) (by omega) (by omega)
    rw [show ((0 : Nat) : Int) = 0 from rfl] at this
    rw [this, Int.toNat_of_nonneg e2.1]
  rcases R with ⟨e, n, hN, r⟩ | ⟨e, r⟩ | ⟨e, nm, fr, to, at_, hE, r⟩ | ⟨e, nm, fr, to, at_, r, hE, hr, hl, hd⟩ | ⟨e, g, r, hl⟩ | ⟨e, hl, r⟩ | ⟨e, ⟨nm, fr, to, at_, hE, hl⟩, r⟩ | ⟨e, ⟨nm, fr, to, at_, hE, hl⟩, r⟩ | ⟨e, hl, r⟩
  · obtain ⟨o, L1, d1, p1, p2, p3, p4⟩ := M_setCode fl (by omega) hL h hN s.1 edges' comps' faces' pieces' begin' compOf' d_n d_circles d_label d_sign faceOf' finish' firstDart' follow' labelOf' s.2 old_n old_circles old_label old_sign pieceOf' placed' hD (by omega)
    obtain ⟨q1, q2⟩ := Code_one r p4
    subst q1 q2
    rw [if_pos (by omega), p1, Option.bind_some]
    exact ⟨_, rfl, p2, p3, Or.inr ⟨fun w => by omega, ⟨rfl, rfl, rfl⟩, ⟨rfl, rfl, rfl⟩⟩⟩
  · obtain ⟨m1, m2, m3⟩ := ha.2.1 e
    rw [if_neg (by omega), if_pos (by omega)]
    rcases M_setBraid fl (by omega) hL m3 m1 hm4 s.1 d_n d_circles d_label d_sign earlier_strands earlier_count earlier_letters latest_strands latest_count latest_letters s.2 top (by omega) with ⟨g, A, S, to', E, L', p1, p2, p3, p4⟩ | ⟨g, p1⟩
    · rcases r with ⟨_, r1, r2⟩ | ⟨r, _⟩
      · rw [p1, Option.bind_some, r1, r2]
        exact ⟨_, rfl, rfl, p2, Or.inl ⟨⟨e, g⟩, ⟨rfl, rfl, p4⟩, ⟨rfl, rfl, p3⟩⟩⟩
      · exact absurd g r
    · rcases r with ⟨r, _⟩ | ⟨_, r1, r2⟩
      · exact absurd r g
      · rw [p1, Option.bind_some, r1, r2]
        exact ⟨_, rfl, rfl, hD, Or.inr ⟨fun w => g w.2, ⟨rfl, rfl, rfl⟩, ⟨rfl, rfl, rfl⟩⟩⟩
  · rw [← unF_congr hE v2] at r
    have r1 : L = (unF d begin' finish' placed' (nuv 0).toNat).1 := congrArg Prod.fst r
    have r2 : d' = (unF d begin' finish' placed' (nuv 0).toNat).2 := congrArg Prod.snd r
    obtain ⟨n', c', A', S', n1, c1, A1, S1, p1, p2⟩ := M_undoAt fl (by omega) h v2 v9 hD (nuv 0).toNat s (by omega) old_n old_circles old_label old_sign
    rw [← v4] at p1
    rw [if_neg (by omega), if_neg (by omega), if_pos (by omega), gOne (Or.inl e), Option.bind_some, p1, Option.bind_some, r1, r2]
    exact ⟨_, rfl, rfl, p2, Or.inr ⟨fun w => by omega, ⟨rfl, rfl, rfl⟩, ⟨rfl, rfl, rfl⟩⟩⟩
  · have ai := fun (x : Int) => M_ansIf fl (by omega) x s (by omega)
    have k2 : ¬ (k = 2 ∧ goodW m nuv) := fun w => by omega
    have e67 : okL = ansL 67 := rfl
    rcases e with w | w | w | w | w | w | w | w
    · -- slide
      have mr : MvR k nuv d labelOf' begin' finish' placed' (slS labelOf' begin' finish' placed' (nuv 0).toNat d) := Or.inl ⟨w, rfl⟩
      have q1 := Mv_one hE v2 hr mr
      rw [if_neg (by omega), if_neg (by omega), if_neg (by omega), if_pos (by omega), gOne (by omega), Option.bind_some]
      by_cases c : (nuv 0).toNat < (rndz (tnz begin' finish' placed') (4 * d.1) (4 * d.1)).2.1
      · obtain ⟨f1, f2, f3, f4, f5⟩ := face_ok v2 c
        obtain ⟨n1, c1, A1, S1, p1⟩ := M_slideAt fl (by omega) h v2 hD firstDart' (F := (rndz (tnz begin' finish' placed') (4 * d.1) (4 * d.1)).2.1) (by omega) c (v9 _ c) f1 f2 (by omega) f4 f5 old_n old_circles old_label old_sign
        rw [← v4] at p1
        rw [p1, Option.bind_some]
        by_cases c3 : deedS begin' finish' placed' ((rndz (tnz begin' finish' placed') (4 * d.1) (4 * d.1)).2.2.1 (nuv 0).toNat) ((rndz (tnz begin' finish' placed') (4 * d.1) (4 * d.1)).2.2.2 (nuv 0).toNat) = 3
        · have es : slS labelOf' begin' finish' placed' (nuv 0).toNat d = (1, slD begin' finish' labelOf' ((rndz (tnz begin' finish' placed') (4 * d.1) (4 * d.1)).2.2.1 (nuv 0).toNat / 2) (tnz begin' finish' placed' ((rndz (tnz begin' finish' placed') (4 * d.1) (4 * d.1)).2.2.1 (nuv 0).toNat) / 2) (tnz begin' finish' placed' (tnz begin' finish' placed' ((rndz (tnz begin' finish' placed') (4 * d.1) (4 * d.1)).2.2.1 (nuv 0).toNat)) / 2) d) := if_pos ⟨c, c3⟩
          rw [es] at q1
          rw [if_pos c3]
          dsimp only
          rw [ai, Option.bind_some, hl, hd, q1]
          exact ⟨_, rfl, rfl, sl_DA hD _ _ _, Or.inr ⟨k2, ⟨rfl, rfl, rfl⟩, ⟨rfl, rfl, rfl⟩⟩⟩
        · have es : slS labelOf' begin' finish' placed' (nuv 0).toNat d = (0, d) := if_neg (fun g => c3 g.2)
          rw [es] at q1
          rw [if_neg c3]
          dsimp only
          rw [ai, Option.bind_some, hl, hd, q1]
          exact ⟨_, rfl, rfl, hD, Or.inr ⟨k2, ⟨rfl, rfl, rfl⟩, ⟨rfl, rfl, rfl⟩⟩⟩
      · have es : slS labelOf' begin' finish' placed' (nuv 0).toNat d = (0, d) := if_neg (fun g => c g.1)
        rw [es] at q1
        rw [M_slideAt0 fl faces' _ d_n d_circles (by omega), Option.bind_some]
        dsimp only
        rw [ai, Option.bind_some, hl, hd, q1]
        exact ⟨_, rfl, rfl, hD, Or.inr ⟨k2, ⟨rfl, rfl, rfl⟩, ⟨rfl, rfl, rfl⟩⟩⟩
    · -- twist
      obtain ⟨a0, a1, a2, a3⟩ := ha.2.2.2.1 w
      unfold isN at a1
      unfold isS at a2
      unfold is01 at a3
      have g0 := M_given fl hL (i := 0) (by omega) (by omega)
      have g1 := M_given fl hL (i := 1) (by omega) (by omega)
      have g2 := M_given fl hL (i := 2) (by omega) (by omega)
      rw [show ((0 : Nat) : Int) = 0 from rfl] at g0
      rw [show ((1 : Nat) : Int) = 1 from rfl] at g1
      rw [show ((2 : Nat) : Int) = 2 from rfl] at g2
      obtain ⟨u0, v0, w0, z0, fu, fv, fw, fz, bu, bv, bw, bz⟩ := free_ex h v2
      obtain ⟨t, ht⟩ := atx_ex v2 (nuv 0)
      have mr : MvR k nuv d labelOf' begin' finish' placed' (twS (nuv 0) (nuv 1) (nuv 2) u0 v0 t d) := Or.inr (Or.inl ⟨w, u0, v0, t, ⟨fu, fv⟩, ht, rfl⟩)
      have q1 := Mv_one hE v2 hr mr
      obtain ⟨n', c', A', S', r1, r2⟩ := M_twist fl (by omega) h v2 hD (ov := nuv 2) a2 ht fu fv bu bv
      rw [← v1] at r1
      rw [if_neg (by omega), if_neg (by omega), if_neg (by omega), if_neg (by omega), if_pos (by omega), g0, Option.bind_some, g1, Option.bind_some, g2, Option.bind_some]
      unfold LB_Md_perform_148
      have fin : ∀ v, v = nuv 2 → ∃ o : MpT, ((LM_Md_twist fl edges' finish' labelOf' (nuv 0) (nuv 1) v d_n d_circles d_label d_sign).bind fun o0 => ((LM_Md_answerIf fl o0.1 s.1 s.2).bind fun o1 => (some (o1.1, edges', comps', faces', pieces', arcs, arcOf, begin', compOf', o0.2.1, o0.2.2.1, o0.2.2.2.1, o0.2.2.2.2, earlier_strands, earlier_count, earlier_letters, faceOf', finish', firstDart', follow', gcd, high, labelOf', latest_strands, latest_count, latest_letters, low, o1.2, minor, old_n, old_circles, old_label, old_sign, one, other, pieceOf', placed', poly, root, top, ways)))) = some o ∧ MpP k m nuv earlier_strands earlier_count earlier_letters latest_strands latest_count latest_letters s o L d' := fun v hv => by
        rw [hv, r1, Option.bind_some]
        dsimp only
        rw [ai, Option.bind_some, hl, hd, q1]
        exact ⟨_, rfl, rfl, r2, Or.inr ⟨k2, ⟨rfl, rfl, rfl⟩, ⟨rfl, rfl, rfl⟩⟩⟩
      rcases a3 with a3 | a3
      · rw [if_neg (by omega)]; exact fin 1 a3.symm
      · rw [if_pos (by omega)]; exact fin 0 a3.symm
    · -- push
      obtain ⟨a0, a1, a2, a3⟩ := ha.2.2.2.2.1 w
      unfold isB at a1 a3
      unfold is01 at a2
      have g0 := M_given fl hL (i := 0) (by omega) (by omega)
      have g1 := M_given fl hL (i := 1) (by omega) (by omega)
      have g2 := M_given fl hL (i := 2) (by omega) (by omega)
      rw [show ((0 : Nat) : Int) = 0 from rfl] at g0
      rw [show ((1 : Nat) : Int) = 1 from rfl] at g1
      rw [show ((2 : Nat) : Int) = 2 from rfl] at g2
      obtain ⟨u0, v0, w0, z0, fu, fv, fw, fz, bu, bv, bw, bz⟩ := free_ex h v2
      obtain ⟨ex, hx⟩ := ed_ex d.1 labelOf' (absI (nuv 0))
      obtain ⟨ey, hy⟩ := ed_ex d.1 labelOf' (absI (nuv 2))
      have mr : MvR k nuv d labelOf' begin' finish' placed' (puS labelOf' begin' finish' placed' (nuv 0) (nuv 2) (nuv 1) u0 v0 w0 z0 ex ey d) := Or.inr (Or.inr (Or.inl ⟨w, u0, v0, w0, z0, ex, ey, ⟨fu, fv, fw, fz⟩, hx, hy, rfl⟩))
      have q1 := Mv_one hE v2 hr mr
      obtain ⟨n', A', S', r1, r2⟩ := M_push fl (by omega) h v2 v8 v10 hD (x := nuv 0) (y := nuv 2) (ov := nuv 1) (by omega) (by omega) (by omega) hx hy fu fv fw fz bz
      rw [← v1] at r1
      rw [if_neg (by omega), if_neg (by omega), if_neg (by omega), if_neg (by omega), if_neg (by omega), if_pos (by omega), g0, Option.bind_some, g1, Option.bind_some]
      unfold LB_Md_perform_178
      have fin : ∀ v, v = nuv 1 → ∃ o : MpT, ((LM_Md_given fl next begins numbers (2 : Int)).bind fun o0 => ((LM_Md_push fl edges' begin' faceOf' finish' labelOf' pieceOf' (nuv 0) v o0 d_n d_label d_sign).bind fun o1 => ((LM_Md_answerIf fl o1.1 s.1 s.2).bind fun o2 => (some (o2.1, edges', comps', faces', pieces', arcs, arcOf, begin', compOf', o1.2.1, d_circles, o1.2.2.1, o1.2.2.2, earlier_strands, earlier_count, earlier_letters, faceOf', finish', firstDart', follow', gcd, high, labelOf', latest_strands, latest_count, latest_letters, low, o2.2, minor, old_n, old_circles, old_label, old_sign, one, other, pieceOf', placed', poly, root, top, ways))))) = some o ∧ MpP k m nuv earlier_strands earlier_count earlier_letters latest_strands latest_count latest_letters s o L d' := fun v hv => by
        rw [g2, Option.bind_some, hv, r1, Option.bind_some]
        dsimp only
        rw [ai, Option.bind_some, hl, hd, q1]
        exact ⟨_, rfl, rfl, r2, Or.inr ⟨k2, ⟨rfl, rfl, rfl⟩, ⟨rfl, rfl, rfl⟩⟩⟩
      rcases a2 with a3 | a3
      · rw [if_neg (by omega)]; exact fin 1 a3.symm
      · rw [if_pos (by omega)]; exact fin 0 a3.symm
    · -- mirror
      have mr : MvR k nuv d labelOf' begin' finish' placed' (1, mirD d.1 d) := Or.inr (Or.inr (Or.inr (Or.inl ⟨w, rfl⟩)))
      have q1 := Mv_one hE v2 hr mr
      obtain ⟨A', S', r1, r2⟩ := mp201 fl (by omega) h k s (by omega) next begins numbers edges' comps' faces' pieces' arcs arcOf begin' compOf' earlier_strands earlier_count earlier_letters faceOf' finish' firstDart' follow' gcd high labelOf' latest_strands latest_count latest_letters low minor old_n old_circles old_label old_sign one other pieceOf' placed' poly root top ways d.1 fl 0 d_n d_circles d_label d_sign (Nat.zero_add _) (by omega) hD
      rw [show ((0 : Nat) : Int) = 0 from rfl] at r1
      rw [if_neg (by omega), if_neg (by omega), if_neg (by omega), if_neg (by omega), if_neg (by omega), if_neg (by omega), if_neg (by omega), if_pos (by omega), r1, hl, hd, q1]
      exact ⟨_, rfl, rfl, r2, Or.inr ⟨k2, ⟨rfl, rfl, rfl⟩, ⟨rfl, rfl, rfl⟩⟩⟩
    · -- reverse
      have mr : MvR k nuv d labelOf' begin' finish' placed' (rvS finish' placed' (nuv 0).toNat d) := Or.inr (Or.inr (Or.inr (Or.inr (Or.inl ⟨w, rfl⟩))))
      have q1 := Mv_one hE v2 hr mr
      obtain ⟨A', S', r1, r2⟩ := M_reverseAt fl (by omega) h v2 (co := compOf') v7 hD (nuv 0).toNat
      rw [← v3] at r1
      rw [if_neg (by omega), if_neg (by omega), if_neg (by omega), if_neg (by omega), if_neg (by omega), if_neg (by omega), if_neg (by omega), if_neg (by omega), if_pos (by omega), gOne (by omega), Option.bind_some, r1, Option.bind_some]
      dsimp only
      rw [ai, Option.bind_some, hl, hd, q1]
      exact ⟨_, rfl, rfl, r2, Or.inr ⟨k2, ⟨rfl, rfl, rfl⟩, ⟨rfl, rfl, rfl⟩⟩⟩
    · -- change
      have mr : MvR k nuv d labelOf' begin' finish' placed' (chS (nuv 0).toNat d) := Or.inr (Or.inr (Or.inr (Or.inr (Or.inr (Or.inl ⟨w, rfl⟩)))))
      have q1 := Mv_one hE v2 hr mr
      obtain ⟨A', S', r1, r2⟩ := M_changeS fl (by omega) h hD (nuv 0).toNat
      rw [if_neg (by omega), if_neg (by omega), if_neg (by omega), if_neg (by omega), if_neg (by omega), if_neg (by omega), if_neg (by omega), if_neg (by omega), if_neg (by omega), if_pos (by omega), gOne (by omega), Option.bind_some, r1, Option.bind_some]
      dsimp only
      rw [ai, Option.bind_some, hl, hd, q1]
      exact ⟨_, rfl, rfl, r2, Or.inr ⟨k2, ⟨rfl, rfl, rfl⟩, ⟨rfl, rfl, rfl⟩⟩⟩
    · -- smooth
      have mr : MvR k nuv d labelOf' begin' finish' placed' (smS (nuv 0).toNat d) := Or.inr (Or.inr (Or.inr (Or.inr (Or.inr (Or.inr (Or.inl ⟨w, rfl⟩))))))
      have q1 := Mv_one hE v2 hr mr
      obtain ⟨n', c', A', S', n1, c1, A1, S1, r1, r2⟩ := M_smoothS fl (by omega) h hD (nuv 0).toNat old_n old_circles old_label old_sign
      rw [if_neg (by omega), if_neg (by omega), if_neg (by omega), if_neg (by omega), if_neg (by omega), if_neg (by omega), if_neg (by omega), if_neg (by omega), if_neg (by omega), if_neg (by omega), if_pos (by omega), gOne (by omega), Option.bind_some, r1, Option.bind_some]
      dsimp only
      rw [ai, Option.bind_some, hl, hd, q1]
      exact ⟨_, rfl, rfl, r2, Or.inr ⟨k2, ⟨rfl, rfl, rfl⟩, ⟨rfl, rfl, rfl⟩⟩⟩
    · -- number
      have mr : MvR k nuv d labelOf' begin' finish' placed' (1, rnD begin' finish' placed' d) := Or.inr (Or.inr (Or.inr (Or.inr (Or.inr (Or.inr (Or.inr ⟨w, rfl⟩))))))
      have q1 := Mv_one hE v2 hr mr
      have r1 := M_renumber fl (by omega) hn v2 v6 v7 d_label
      have v3' : comps' = (((rndz (nx finish' placed') (2 * d.1) (2 * d.1)).2.1 : Nat) : Int) := v3
      rw [← v3'] at r1
      rw [if_neg (by omega), if_neg (by omega), if_neg (by omega), if_neg (by omega), if_neg (by omega), if_neg (by omega), if_neg (by omega), if_neg (by omega), if_neg (by omega), if_neg (by omega), if_neg (by omega), if_pos (by omega), r1, Option.bind_some, M_answer fl (by omega) (by decide) s (by omega), Option.bind_some, hl, hd, q1]
      exact ⟨_, rfl, rfl, rn_DA hD, Or.inr ⟨k2, ⟨rfl, rfl, rfl⟩, ⟨rfl, rfl, rfl⟩⟩⟩
  · obtain ⟨o, p1, p2, p3⟩ := M_simplify fl (by omega) (ms := s.1) (ma := s.2) (by omega) r h hJ edges' comps' faces' pieces' begin' compOf' faceOf' finish' firstDart' follow' labelOf' old_n old_circles old_label old_sign pieceOf' placed' hD
    rw [if_neg (by omega), if_neg (by omega), if_neg (by omega), if_neg (by omega), if_neg (by omega), if_neg (by omega), if_pos (by omega), p1, Option.bind_some, hl]
    exact ⟨_, rfl, p2, p3, Or.inr ⟨fun w => by omega, ⟨rfl, rfl, rfl⟩, ⟨rfl, rfl, rfl⟩⟩⟩
  · have lb : ∀ q, q < 4 * d.1 → (d_label q).natAbs < 10 ^ 18 := fun q hq => by rw [hA q hq]; have := h.2.2.2.1 q hq; exact na_lt (by omega)
    have p1 := M_dia fl (by omega) hn d_circles (na_lt (by omega)) d_label d_sign (fun c hc => by rw [hS c hc]; exact h.2.2.1 c hc) lb s.2
    rw [← e1, codeL_like hA hS, ← hs] at p1
    rw [if_neg (by omega), if_neg (by omega), if_neg (by omega), if_neg (by omega), if_neg (by omega), if_neg (by omega), if_neg (by omega), if_neg (by omega), if_neg (by omega), if_neg (by omega), if_neg (by omega), if_neg (by omega), if_pos (by omega), p1, Option.bind_some, hl, r]
    refine ⟨_, rfl, ?_, hD, Or.inr ⟨fun w => by omega, ⟨rfl, rfl, rfl⟩, ⟨rfl, rfl, rfl⟩⟩⟩
    rw [e2]
  · obtain ⟨o, p1, p2⟩ := M_count fl (by omega) h v2 d_n d_circles d_sign follow' s.1 arcs arcOf s.2 root hD v6 (by omega)
    rw [← v1, ← v3, ← v4, ← v5] at p1
    rw [cnt_congr2 hE v2] at p2
    rw [if_neg (by omega), if_neg (by omega), if_neg (by omega), if_neg (by omega), if_neg (by omega), if_neg (by omega), if_neg (by omega), if_neg (by omega), if_neg (by omega), if_neg (by omega), if_neg (by omega), if_neg (by omega), if_neg (by omega), if_pos (by omega), p1, Option.bind_some, hl, r]
    exact ⟨_, rfl, p2, hD, Or.inr ⟨fun w => by omega, ⟨rfl, rfl, rfl⟩, ⟨rfl, rfl, rfl⟩⟩⟩
  · have p1 := M_faces fl (by omega) hn v2 h.2.2.2.1 v9 s (by omega)
    rw [← v4, facS_congr hE v2] at p1
    rw [if_neg (by omega), if_neg (by omega), if_neg (by omega), if_neg (by omega), if_neg (by omega), if_neg (by omega), if_neg (by omega), if_neg (by omega), if_neg (by omega), if_neg (by omega), if_neg (by omega), if_neg (by omega), if_neg (by omega), if_neg (by omega), if_pos (by omega), p1, Option.bind_some, hl, r]
    exact ⟨_, rfl, rfl, hD, Or.inr ⟨fun w => by omega, ⟨rfl, rfl, rfl⟩, ⟨rfl, rfl, rfl⟩⟩⟩
  · obtain ⟨o, p1, p2⟩ := M_measure fl hfl h hJ e ha hL hD s3 hl hs arcs arcOf gcd high low minor one other poly root ways
    dsimp only at p1
    rw [if_neg (by omega), if_neg (by omega), if_neg (by omega), if_neg (by omega), if_neg (by omega), if_neg (by omega), if_neg (by omega), if_neg (by omega), if_neg (by omega), if_neg (by omega), if_neg (by omega), if_neg (by omega), if_neg (by omega), if_neg (by omega), if_neg (by omega), p1, Option.bind_some, r]
    exact ⟨_, rfl, p2, hD, Or.inr ⟨fun w => by omega, ⟨rfl, rfl, rfl⟩, ⟨rfl, rfl, rfl⟩⟩⟩
