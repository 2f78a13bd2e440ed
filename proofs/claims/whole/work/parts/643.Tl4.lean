abbrev MsT := Int × Int × Int × Int × Int × (Nat → Int) × (Nat → Int) × Int × Int × (Nat → Int) × (Nat → Int) × (Nat → Int) × (Nat → Int) × (Nat → Int) × (Nat → Int) × (Nat → Int) × (Nat → Int) × Int × Int × (Nat → Int) × (Nat → Int) × (Nat → Int) × (Nat → Int)
theorem undo_deed {d : Dg} {fr to at_ : Nat → Int} {s k : Nat} : ((undoS d fr to at_ s k).1 ≠ 0 → ((undoS d fr to at_ s k).1 : Int) = deedS fr to at_ s k ∧ (deedS fr to at_ s k = 1 ∨ deedS fr to at_ s k = 2)) ∧ ((undoS d fr to at_ s k).1 = 0 → (undoS d fr to at_ s k).2 = d) := by
  by_cases d1 : deedS fr to at_ s k = 1
  · rw [undoS_1 d1, d1]
    split
    · exact ⟨fun _ => ⟨rfl, Or.inl rfl⟩, fun w => absurd w (by show ¬ (1 : Nat) = 0; decide)⟩
    · exact ⟨fun w => absurd rfl w, fun _ => rfl⟩
  · by_cases d2 : deedS fr to at_ s k = 2
    · rw [undoS_2 d2, d2]
      split
      · exact ⟨fun _ => ⟨rfl, Or.inr rfl⟩, fun w => absurd w (by show ¬ (2 : Nat) = 0; decide)⟩
      · exact ⟨fun w => absurd rfl w, fun _ => rfl⟩
    · rw [undoS_0 d1 d2]
      exact ⟨fun w => absurd rfl w, fun _ => rfl⟩
section
variable {d : Dg} {nm fr to at_ fd : Nat → Int}
theorem si16 (fl : Nat) (hfl : 2000 ≤ fl) (h : okD d) (hE : EdgA d.1 d.2.2.2 d.2.2.1 nm fr to at_) (hT : rArr (rndz (tnz fr to at_) (4 * d.1) (4 * d.1)) fd) (kb : Int → Int → Int → Int → Int → Int → Int → (Nat → Int) → (Nat → Int) → Int → Int → (Nat → Int) → (Nat → Int) → (Nat → Int) → (Nat → Int) → (Nat → Int) → (Nat → Int) → (Nat → Int) → (Nat → Int) → Int → Int → (Nat → Int) → (Nat → Int) → (Nat → Int) → (Nat → Int) → Option MsT) (g : Nat) (hg : g ≤ 100) (ms ed cm pc : Int) (co fo fw ma pA : Nat → Int) :
    ∀ (r nn f : Nat) (n ci : Int) (A S : Nat → Int) (n0 c0 : Int) (A0 S0 : Nat → Int), f + r = (rndz (tnz fr to at_) (4 * d.1) (4 * d.1)).2.1 → r + 1 < nn → DA d n ci A S →
    ∃ (n' c' : Int) (A' S' : Nat → Int) (n1 c1 : Int) (A1 S1 : Nat → Int), LB_Md_simplify_16 fl kb nn (g : Int) 0 (f : Int) ms ed cm (((rndz (tnz fr to at_) (4 * d.1) (4 * d.1)).2.1 : Nat) : Int) pc fr co n ci A S fo to fd fw nm ma n0 c0 A0 S0 pA at_ = kb ((g + (stF d fr to at_ r f).1 : Nat) : Int) (if (stF d fr to at_ r f).1 = 0 then 0 else 1) ms ed cm (((rndz (tnz fr to at_) (4 * d.1) (4 * d.1)).2.1 : Nat) : Int) pc fr co n' c' A' S' fo to fd fw nm ma n1 c1 A1 S1 pA at_ ∧ DA (stF d fr to at_ r f).2 n' c' A' S' := by
  have F4 := cnt_F hE
  have hn := h.1
  intro r
  induction r with
  | zero =>
    intro nn f n ci A S n0 c0 A0 S0 hf hnn hD
    obtain ⟨nn, rfl⟩ : ∃ r, nn = r + 1 := ⟨nn - 1, by omega⟩
    refine ⟨n, ci, A, S, n0, c0, A0, S0, ?_, hD⟩
    rw [LB_Md_simplify_16, if_pos (by omega)]
    rfl
  | succ r ih =>
    intro nn f n ci A S n0 c0 A0 S0 hf hnn hD
    obtain ⟨nn, rfl⟩ : ∃ r, nn = r + 2 := ⟨nn - 2, by omega⟩
    have hf' : f < (rndz (tnz fr to at_) (4 * d.1) (4 * d.1)).2.1 := by omega
    obtain ⟨k1, k2, k3, k4, k5⟩ := face_ok hE hf'
    obtain ⟨i1, i2, _⟩ := face_it hE hf'
    have e1 := M_what fl (by omega) hn hE fd (f := f) (by omega) (hT f hf') k1 (by omega) k2 k4 k5
    obtain ⟨ud1, ud2⟩ := undo_deed (d := d) (fr := fr) (to := to) (at_ := at_) (s := (rndz (tnz fr to at_) (4 * d.1) (4 * d.1)).2.2.1 f) (k := (rndz (tnz fr to at_) (4 * d.1) (4 * d.1)).2.2.2 f)
    have uok := (undo_ok h hE (k := (rndz (tnz fr to at_) (4 * d.1) (4 * d.1)).2.2.2 f) k1).2.2
    rw [LB_Md_simplify_16, if_neg (by omega), if_neg (fun g => g rfl), e1, Option.bind_some]
    have stay : ∀ (n' c' : Int) (A' S' : Nat → Int) (n1 c1 : Int) (A1 S1 : Nat → Int), DA d n' c' A' S' → (undoS d fr to at_ ((rndz (tnz fr to at_) (4 * d.1) (4 * d.1)).2.2.1 f) ((rndz (tnz fr to at_) (4 * d.1) (4 * d.1)).2.2.2 f)).1 = 0 → ∃ (n3 c3 : Int) (A3 S3 : Nat → Int) (n2 c2 : Int) (A2 S2 : Nat → Int), LB_Md_simplify_61 fl kb (LB_Md_simplify_16 fl kb (nn + 1)) (g : Int) 0 (f : Int) (deedS fr to at_ ((rndz (tnz fr to at_) (4 * d.1) (4 * d.1)).2.2.1 f) ((rndz (tnz fr to at_) (4 * d.1) (4 * d.1)).2.2.2 f)) ms ed cm (((rndz (tnz fr to at_) (4 * d.1) (4 * d.1)).2.1 : Nat) : Int) pc fr co n' c' A' S' fo to fd fw nm ma n1 c1 A1 S1 pA at_ = kb ((g + (stF d fr to at_ (r + 1) f).1 : Nat) : Int) (if (stF d fr to at_ (r + 1) f).1 = 0 then 0 else 1) ms ed cm (((rndz (tnz fr to at_) (4 * d.1) (4 * d.1)).2.1 : Nat) : Int) pc fr co n3 c3 A3 S3 fo to fd fw nm ma n2 c2 A2 S2 pA at_ ∧ DA (stF d fr to at_ (r + 1) f).2 n3 c3 A3 S3 := fun n' c' A' S' n1 c1 A1 S1 hD' c => by
      have es : stF d fr to at_ (r + 1) f = stF d fr to at_ r (f + 1) := if_pos c
      unfold LB_Md_simplify_61 LB_Md_simplify_62 LB_Md_simplify_74
      rw [if_pos rfl, if_pos (by omega), show ((f : Int) + 1) = ((f + 1 : Nat) : Int) by omega, Int.add_zero, es]
      exact ih (nn + 1) (f + 1) n' c' A' S' n1 c1 A1 S1 (by omega) (by omega) hD'
    have go : (deedS fr to at_ ((rndz (tnz fr to at_) (4 * d.1) (4 * d.1)).2.2.1 f) ((rndz (tnz fr to at_) (4 * d.1) (4 * d.1)).2.2.2 f) = 1 ∨ deedS fr to at_ ((rndz (tnz fr to at_) (4 * d.1) (4 * d.1)).2.2.1 f) ((rndz (tnz fr to at_) (4 * d.1) (4 * d.1)).2.2.2 f) = 2) → ∃ (n3 c3 : Int) (A3 S3 : Nat → Int) (n2 c2 : Int) (A2 S2 : Nat → Int), LB_Md_simplify_47 fl kb (LB_Md_simplify_16 fl kb (nn + 1)) (g : Int) 0 (f : Int) (deedS fr to at_ ((rndz (tnz fr to at_) (4 * d.1) (4 * d.1)).2.2.1 f) ((rndz (tnz fr to at_) (4 * d.1) (4 * d.1)).2.2.2 f)) ms ed cm (((rndz (tnz fr to at_) (4 * d.1) (4 * d.1)).2.1 : Nat) : Int) pc fr co n ci A S fo to fd fw nm ma n0 c0 A0 S0 pA at_ = kb ((g + (stF d fr to at_ (r + 1) f).1 : Nat) : Int) (if (stF d fr to at_ (r + 1) f).1 = 0 then 0 else 1) ms ed cm (((rndz (tnz fr to at_) (4 * d.1) (4 * d.1)).2.1 : Nat) : Int) pc fr co n3 c3 A3 S3 fo to fd fw nm ma n2 c2 A2 S2 pA at_ ∧ DA (stF d fr to at_ (r + 1) f).2 n3 c3 A3 S3 := fun hdd => by
      obtain ⟨n', c', A', S', n1, c1, A1, S1, u1, u2⟩ := M_undo fl (by omega) h hE hD fd (f := f) (by omega) (hT f hf') k1 i1 hdd k2 n0 c0 A0 S0
      unfold LB_Md_simplify_47
      rw [u1, Option.bind_some]
      dsimp only
      by_cases c : (undoS d fr to at_ ((rndz (tnz fr to at_) (4 * d.1) (4 * d.1)).2.2.1 f) ((rndz (tnz fr to at_) (4 * d.1) (4 * d.1)).2.2.2 f)).1 = 0
      · rw [if_pos c, if_pos rfl]
        rw [ud2 c] at u2
        exact stay n' c' A' S' n1 c1 A1 S1 u2 c
      · have es : stF d fr to at_ (r + 1) f = undoS d fr to at_ ((rndz (tnz fr to at_) (4 * d.1) (4 * d.1)).2.2.1 f) ((rndz (tnz fr to at_) (4 * d.1) (4 * d.1)).2.2.2 f) := if_neg c
        have ed1 := (ud1 c).1
        rw [if_neg c, if_neg (by decide)]
        unfold LB_Md_simplify_62 LB_Md_simplify_74
        rw [if_neg (by decide), if_pos (by omega), ← ed1, es, if_neg c, show ((f : Int) + 1) = ((f + 1 : Nat) : Int) by omega]
        refine ⟨n', c', A', S', n1, c1, A1, S1, ?_, u2⟩
        rw [LB_Md_simplify_16]
        unfold LB_Md_simplify_82
        rw [show (g : Int) + (((undoS d fr to at_ ((rndz (tnz fr to at_) (4 * d.1) (4 * d.1)).2.2.1 f) ((rndz (tnz fr to at_) (4 * d.1) (4 * d.1)).2.2.2 f)).1 : Nat) : Int) = ((g + (undoS d fr to at_ ((rndz (tnz fr to at_) (4 * d.1) (4 * d.1)).2.2.1 f) ((rndz (tnz fr to at_) (4 * d.1) (4 * d.1)).2.2.2 f)).1 : Nat) : Int) by omega]
        by_cases c2 : (((rndz (tnz fr to at_) (4 * d.1) (4 * d.1)).2.1 : Nat) : Int) ≤ ((f + 1 : Nat) : Int)
        · rw [if_pos c2]
        · rw [if_neg c2, if_pos (by decide)]
    by_cases d1 : deedS fr to at_ ((rndz (tnz fr to at_) (4 * d.1) (4 * d.1)).2.2.1 f) ((rndz (tnz fr to at_) (4 * d.1) (4 * d.1)).2.2.2 f) = 1
    · rw [if_pos d1]
      exact go (Or.inl d1)
    · rw [if_neg d1]
      by_cases d2 : deedS fr to at_ ((rndz (tnz fr to at_) (4 * d.1) (4 * d.1)).2.2.1 f) ((rndz (tnz fr to at_) (4 * d.1) (4 * d.1)).2.2.2 f) = 2
      · rw [if_neg (fun w => w d2)]
        exact go (Or.inr d2)
      · rw [if_pos d2]
        exact stay n ci A S n0 c0 A0 S0 hD (by rw [undoS_0 d1 d2])
end
theorem si4 (fl : Nat) (hfl : 2000 ≤ fl) (ms : Int) (ma : Nat → Int) (hms : 0 ≤ ms ∧ ms ≤ 7000) :
    ∀ (t nn : Nat) (d : Dg) (g g' : Nat) (e' : Dg), SiR t d g' e' → okD d → Jd d → g + d.1 ≤ 20 → t + 1 < nn → ∀ (ed cm fa pc : Int) (be co : Nat → Int) (n ci : Int) (A S fo fi fd fw la : Nat → Int) (n0 c0 : Int) (A0 S0 pA pl : Nat → Int), DA d n ci A S →
    ∃ o : MsT, LB_Md_simplify_4 fl nn (g : Int) 1 ms ed cm fa pc be co n ci A S fo fi fd fw la ma n0 c0 A0 S0 pA pl = some o ∧ (o.1, o.2.2.2.2.2.2.2.2.2.2.2.2.2.2.2.2.1) = mm (undL ((g + g' : Nat) : Int)) (ms, ma) ∧ DA e' o.2.2.2.2.2.2.2.1 o.2.2.2.2.2.2.2.2.1 o.2.2.2.2.2.2.2.2.2.1 o.2.2.2.2.2.2.2.2.2.2.1 := by
  intro t
  induction t with
  | zero => intro nn d g g' e' h; exact absurd h id
  | succ t ih =>
    intro nn d g g' e' h ho hJ hg hnn ed cm fa pc be co n ci A S fo fi fd fw la n0 c0 A0 S0 pA pl hD
    obtain ⟨nn, rfl⟩ : ∃ r, nn = r + 2 := ⟨nn - 2, by omega⟩
    obtain ⟨nm, fr, to, at_, hE, h⟩ := h
    obtain ⟨⟨ed', cm', fa', pc', be', co', fo', fi', fd', fw', la', pA', pl'⟩, s1, s2⟩ := M_surv fl (by omega) ho hD ed cm fa pc be co fo fi fd fw la pA pl
    obtain ⟨v1, v2, v3, v4, v5, v6, v7, v8, v9, v10⟩ := s2
    dsimp only at v1 v2 v3 v4 v5 v6 v7 v8 v9 v10
    rw [← stS_congr hE v2] at h
    obtain ⟨n', c', A', S', n1, c1, A1, S1, p1, p2⟩ := si16 fl hfl ho v2 v9 (LB_Md_simplify_4 fl (nn + 1)) g (by omega) ms ed' cm' pc' co' fo' fw' ma pA' _ fl 0 n ci A S n0 c0 A0 S0 (Nat.zero_add _) (by have := cnt_F v2; have := ho.1; omega) hD
    rw [← v4, show ((0 : Nat) : Int) = 0 from rfl] at p1
    rw [LB_Md_simplify_4, if_neg (by decide), s1, Option.bind_some]
    dsimp only
    rw [p1]
    have so := stF_ok ho hJ v2 (rndz (tnz be' fi' pl') (4 * d.1) (4 * d.1)).2.1 0 (Nat.zero_add _)
    have eS : stS d be' fi' pl' = stF d be' fi' pl' (rndz (tnz be' fi' pl') (4 * d.1) (4 * d.1)).2.1 0 := rfl
    rw [← eS] at p2 so ⊢
    rcases h with ⟨a1, a2, a3⟩ | ⟨a1, g1, a2, a3⟩
    · have d0 : (stS d be' fi' pl').2 = d := by
        have : ∀ r f, (stF d be' fi' pl' r f).1 = 0 → (stF d be' fi' pl' r f).2 = d := by
          intro r
          induction r with
          | zero => intro f _; rfl
          | succ r ih2 =>
            intro f w
            unfold stF at w ⊢
            split
            · rename_i c; rw [if_pos c] at w; exact ih2 _ w
            · rename_i c; rw [if_neg c] at w; exact absurd w c
        exact this _ _ a1
      rw [d0] at p2
      rw [if_pos a1, LB_Md_simplify_4, if_pos rfl, a1, Nat.add_zero, M_undone fl hfl (by omega) (ms, ma) hms, Option.bind_some]
      refine ⟨_, rfl, ?_, ?_⟩
      · rw [a2, Nat.add_zero]
      · rw [a3]; exact p2
    · rw [if_neg a1]
      obtain ⟨o, q1, q2, q3⟩ := ih (nn + 1) _ (g + (stS d be' fi' pl').1) g1 e' a3 so.1.1 so.1.2 (by omega) (by omega) ed' cm' fa' pc' be' co' n' c' A' S' fo' fi' fd' fw' la' n1 c1 A1 S1 pA' pl' p2
      refine ⟨o, q1, ?_, q3⟩
      rw [q2, a2, Nat.add_assoc]
theorem M_simplify (fl : Nat) (hfl : 2000 ≤ fl) {ms : Int} {ma : Nat → Int} (hms : 0 ≤ ms ∧ ms ≤ 7000) {d : Dg} {g' : Nat} {e' : Dg} (h : SiR 21 d g' e') (ho : okD d) (hJ : Jd d) (ed cm fa pc : Int) (be co : Nat → Int) {n ci : Int} {A S : Nat → Int} (fo fi fd fw la : Nat → Int) (n0 c0 : Int) (A0 S0 pA pl : Nat → Int) (hD : DA d n ci A S) :
    ∃ o : MsT, LM_Md_simplify fl ms ed cm fa pc be co n ci A S fo fi fd fw la ma n0 c0 A0 S0 pA pl = some o ∧ (o.1, o.2.2.2.2.2.2.2.2.2.2.2.2.2.2.2.2.1) = mm (undL (g' : Int)) (ms, ma) ∧ DA e' o.2.2.2.2.2.2.2.1 o.2.2.2.2.2.2.2.2.1 o.2.2.2.2.2.2.2.2.2.1 o.2.2.2.2.2.2.2.2.2.2.1 := by
  have := si4 fl hfl ms ma hms 21 fl d 0 g' e' h ho hJ (by have := ho.1; omega) (by omega) ed cm fa pc be co n ci A S fo fi fd fw la n0 c0 A0 S0 pA pl hD
  rw [Nat.zero_add, show ((0 : Nat) : Int) = 0 from rfl] at this
  exact this
