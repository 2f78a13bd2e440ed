/-- the text of UNDO, SIMPLIFY -/
def undL (g : Int) : List Int := lit 29 ++ ((32 :: num g) ++ [10])
theorem C_undone (fl : Nat) (hfl : 2000 ≤ fl) {g : Int} (hg : -1000000 ≤ g ∧ g ≤ 1000000) (s : Pap) (hs : pok s) (di : Nat → Int) : ∃ di', LM_En_printUndone fl g s.1 s.2.1 s.2.2 di = some ((pp (undL g) s).1, (pp (undL g) s).2.1, (pp (undL g) s).2.2, di') := by
  obtain ⟨d1, p1⟩ := P_spaced fl (by omega) g (na_lt hg) (pp (lit 29) s) (pok_pp _ _ hs) di
  unfold LM_En_printUndone LB_En_printUndone_0
  rw [P_text fl hfl (by decide) s hs, Option.bind_some, p1, Option.bind_some]
  dsimp only
  rw [P_end fl _ (pok_pp _ _ (pok_pp _ _ hs)), Option.bind_some]
  refine ⟨d1, ?_⟩
  unfold undL
  rw [pp_app (lit 29), pp_app (32 :: num g)]
theorem M_undone (fl : Nat) (hfl : 2000 ≤ fl) {g : Int} (hg : -1000000 ≤ g ∧ g ≤ 1000000) (s : Int × (Nat → Int)) (hs : 0 ≤ s.1 ∧ s.1 ≤ 7000) : LM_Md_answerUndone fl g s.1 s.2 = some (mm (undL g) s) := by
  have e70 : lit 70 = lit 29 := by decide
  have l29 : (lit 29).length = 8 := by decide
  have z1 := mm_size (lit 29) s
  have z2 := mm_size (32 :: num g) (mm (lit 29) s)
  have n1 := num_len g
  rw [List.length_cons] at z2
  unfold LM_Md_answerUndone LB_Md_answerUndone_0
  rw [M_all fl hfl (by decide) s (by omega), Option.bind_some, e70, M_behind fl (by omega) g (na_lt hg) _ (by omega), Option.bind_some, M_say fl 10 _ (by omega) (by decide), Option.bind_some]
  unfold undL
  rw [mm_app (lit 29), mm_app (32 :: num g)]
/-- what UNDO does -/
def unF (d : Dg) (fr to at_ : Nat → Int) (f : Nat) : List Int × Dg :=
  if f < (rndz (tnz fr to at_) (4 * d.1) (4 * d.1)).2.1 then
    (if (undoS d fr to at_ ((rndz (tnz fr to at_) (4 * d.1) (4 * d.1)).2.2.1 f) ((rndz (tnz fr to at_) (4 * d.1) (4 * d.1)).2.2.2 f)).1 = 0 then (noL, d)
     else (undL ((undoS d fr to at_ ((rndz (tnz fr to at_) (4 * d.1) (4 * d.1)).2.2.1 f) ((rndz (tnz fr to at_) (4 * d.1) (4 * d.1)).2.2.2 f)).1 : Int), (undoS d fr to at_ ((rndz (tnz fr to at_) (4 * d.1) (4 * d.1)).2.2.1 f) ((rndz (tnz fr to at_) (4 * d.1) (4 * d.1)).2.2.2 f)).2))
  else (noL, d)
section
variable {d : Dg} {nm fr to at_ nm' fr' to' at' : Nat → Int}
theorem unF_congr (h : EdgA d.1 d.2.2.2 d.2.2.1 nm fr to at_) (h' : EdgA d.1 d.2.2.2 d.2.2.1 nm' fr' to' at') (f : Nat) : unF d fr' to' at' f = unF d fr to at_ f := by
  unfold unF
  rw [rt_congr h h']
  by_cases c : f < (rndz (tnz fr to at_) (4 * d.1) (4 * d.1)).2.1
  · rw [if_pos c, if_pos c, undo_congr h h' (face_ok h c).1]
  · rw [if_neg c, if_neg c]
theorem face_it (h : EdgA d.1 d.2.2.2 d.2.2.1 nm fr to at_) {f : Nat} (hf : f < (rndz (tnz fr to at_) (4 * d.1) (4 * d.1)).2.1) : ((rndz (tnz fr to at_) (4 * d.1) (4 * d.1)).2.2.2 f = 1 → tnz fr to at_ ((rndz (tnz fr to at_) (4 * d.1) (4 * d.1)).2.2.1 f) = (rndz (tnz fr to at_) (4 * d.1) (4 * d.1)).2.2.1 f) ∧ ((rndz (tnz fr to at_) (4 * d.1) (4 * d.1)).2.2.2 f = 2 → tnz fr to at_ (tnz fr to at_ ((rndz (tnz fr to at_) (4 * d.1) (4 * d.1)).2.2.1 f)) = (rndz (tnz fr to at_) (4 * d.1) (4 * d.1)).2.2.1 f) ∧ ((rndz (tnz fr to at_) (4 * d.1) (4 * d.1)).2.2.2 f = 3 → it (tnz fr to at_) 3 ((rndz (tnz fr to at_) (4 * d.1) (4 * d.1)).2.2.1 f) = (rndz (tnz fr to at_) (4 * d.1) (4 * d.1)).2.2.1 f) := by
  obtain ⟨k1, k2, k3, k4, k5⟩ := face_ok h hf
  refine ⟨fun w => ?_, fun w => ?_, fun w => ?_⟩
  · rw [w] at k4; exact k4
  · rw [w] at k4; exact k4
  · rw [w] at k4; exact k4
theorem unF_ok (h : okD d) (hJ : Jd d) (hE : EdgA d.1 d.2.2.2 d.2.2.1 nm fr to at_) (f : Nat) : okD (unF d fr to at_ f).2 ∧ Jd (unF d fr to at_ f).2 := by
  unfold unF
  by_cases c : f < (rndz (tnz fr to at_) (4 * d.1) (4 * d.1)).2.1
  · obtain ⟨k1, k2, k3, k4, k5⟩ := face_ok hE c
    obtain ⟨i1, i2, _⟩ := face_it hE c
    rw [if_pos c]
    split
    · exact ⟨h, hJ⟩
    · exact ⟨(undo_ok h hE k1).1, J_undo hE hJ k1 k2 i1 i2⟩
  · rw [if_neg c]; exact ⟨h, hJ⟩
end
/-- a line's numbers, by its kind -/
def Arg (k m : Nat) (nuv : Nat → Int) : Prop :=
  (k = 1 → ∃ n, lnCode m n nuv) ∧ (k = 2 → 1 ≤ m ∧ m ≤ 33 ∧ nmB m nuv) ∧ ((k = 3 ∨ k = 4 ∨ k = 9 ∨ k = 10 ∨ k = 11) → m = 1 ∧ isN (nuv 0)) ∧ (k = 5 → m = 3 ∧ isN (nuv 0) ∧ isS (nuv 1) ∧ is01 (nuv 2)) ∧ (k = 6 → m = 3 ∧ isB (nuv 0) ∧ is01 (nuv 1) ∧ isB (nuv 2)) ∧ ((k = 16 ∨ k = 17 ∨ k = 18) → ∃ p, m = 2 * p ∧ trB p nuv) ∧ ((k = 7 ∨ k = 8 ∨ k = 12 ∨ k = 13 ∨ k = 14 ∨ k = 15) → m = 0)
theorem gd_Arg {k : Nat} {l : List Int} (h : gdL k l) : Arg k l.length (fun i => l.getD i 0) := by
  obtain ⟨h1, h2, h3, h4, h5, h6, h7⟩ := h
  refine ⟨fun w => ?_, fun w => ?_, fun w => ?_, fun w => ?_, fun w => ?_, fun w => ?_, fun w => ?_⟩
  · obtain ⟨n, a1, a2, a3, a4⟩ := h1 w
    exact ⟨n, a2, a1, a3, fun i hi hi2 => a4 i (by omega) hi2⟩
  · obtain ⟨v, y, e, hv, hy⟩ := h2 w
    rw [e]
    have y1 := hy.1
    refine ⟨by rw [List.length_cons]; omega, by rw [List.length_cons]; omega, fun i hi => ?_⟩
    cases i with
    | zero => exact ⟨by show -9999 ≤ v; have := hv.1; omega, hv.2⟩
    | succ i => exact hy.2 i (by rw [List.length_cons] at hi; omega)
  · obtain ⟨v, e, hv⟩ := h3 w
    rw [e]; exact ⟨rfl, hv⟩
  · obtain ⟨a, b, c, e, g⟩ := h4 w
    rw [e]; exact ⟨rfl, g⟩
  · obtain ⟨a, b, c, e, g⟩ := h5 w
    rw [e]; exact ⟨rfl, g⟩
  · obtain ⟨p, a1, a2, a3⟩ := h6 w
    exact ⟨p, a2, a1, fun i hi => a3 i hi⟩
  · rw [h7 w]; rfl
/-- what the moves do -/
def slS (nm fr to at_ : Nat → Int) (f : Nat) (d : Dg) : Int × Dg :=
  if f < (rndz (tnz fr to at_) (4 * d.1) (4 * d.1)).2.1 ∧ deedS fr to at_ ((rndz (tnz fr to at_) (4 * d.1) (4 * d.1)).2.2.1 f) ((rndz (tnz fr to at_) (4 * d.1) (4 * d.1)).2.2.2 f) = 3 then (1, slD fr to nm ((rndz (tnz fr to at_) (4 * d.1) (4 * d.1)).2.2.1 f / 2) (tnz fr to at_ ((rndz (tnz fr to at_) (4 * d.1) (4 * d.1)).2.2.1 f) / 2) (tnz fr to at_ (tnz fr to at_ ((rndz (tnz fr to at_) (4 * d.1) (4 * d.1)).2.2.1 f)) / 2) d) else (0, d)
def MvR (k : Nat) (nuv : Nat → Int) (d : Dg) (nm fr to at_ : Nat → Int) (r : Int × Dg) : Prop :=
  (k = 4 ∧ r = slS nm fr to at_ (nuv 0).toNat d) ∨
  (k = 5 ∧ ∃ u v t, (IsFree d.1 d.2.2.1 0 u ∧ IsFree d.1 d.2.2.1 u v) ∧ atL d (nuv 0) t ∧ r = twS (nuv 0) (nuv 1) (nuv 2) u v t d) ∨
  (k = 6 ∧ ∃ u v w z ex ey, (IsFree d.1 d.2.2.1 0 u ∧ IsFree d.1 d.2.2.1 u v ∧ IsFree d.1 d.2.2.1 v w ∧ IsFree d.1 d.2.2.1 w z) ∧ edN d.1 nm (absI (nuv 0)) ex ∧ edN d.1 nm (absI (nuv 2)) ey ∧ r = puS nm fr to at_ (nuv 0) (nuv 2) (nuv 1) u v w z ex ey d) ∨
  (k = 8 ∧ r = (1, mirD d.1 d)) ∨ (k = 9 ∧ r = rvS to at_ (nuv 0).toNat d) ∨ (k = 10 ∧ r = chS (nuv 0).toNat d) ∨ (k = 11 ∧ r = smS (nuv 0).toNat d) ∨ (k = 12 ∧ r = (1, rnD fr to at_ d))
section
variable {d : Dg} {nm fr to at_ nm' fr' to' at' : Nat → Int} {k : Nat} {nuv : Nat → Int}
theorem sl_congr (h : EdgA d.1 d.2.2.2 d.2.2.1 nm fr to at_) (h' : EdgA d.1 d.2.2.2 d.2.2.1 nm' fr' to' at') (f : Nat) : slS nm' fr' to' at' f d = slS nm fr to at_ f d := by
  unfold slS
  rw [rt_congr h h']
  by_cases c : f < (rndz (tnz fr to at_) (4 * d.1) (4 * d.1)).2.1
  · have k1 := (face_ok h c).1
    have c1 := (tn_closed h).1 _ k1
    have c2 := (tn_closed h).1 _ c1
    have es : slD fr' to' nm' ((rndz (tnz fr to at_) (4 * d.1) (4 * d.1)).2.2.1 f / 2) (tnz fr' to' at' ((rndz (tnz fr to at_) (4 * d.1) (4 * d.1)).2.2.1 f) / 2) (tnz fr' to' at' (tnz fr' to' at' ((rndz (tnz fr to at_) (4 * d.1) (4 * d.1)).2.2.1 f)) / 2) d = slD fr to nm ((rndz (tnz fr to at_) (4 * d.1) (4 * d.1)).2.2.1 f / 2) (tnz fr to at_ ((rndz (tnz fr to at_) (4 * d.1) (4 * d.1)).2.2.1 f) / 2) (tnz fr to at_ (tnz fr to at_ ((rndz (tnz fr to at_) (4 * d.1) (4 * d.1)).2.2.1 f)) / 2) d := by
      rw [tn_congr h h' k1, tn_congr h h' c1]
      unfold slD
      rw [sl1_congr h h' (by omega), sl1_congr h h' (by omega), sl1_congr h h' (by omega)]
    rw [deed_congr h h' k1, es]
  · rw [if_neg (fun w => c w.1), if_neg (fun w => c w.1)]
theorem rnD_congr (h : EdgA d.1 d.2.2.2 d.2.2.1 nm fr to at_) (h' : EdgA d.1 d.2.2.2 d.2.2.1 nm' fr' to' at') : rnD fr' to' at' d = rnD fr to at_ d := by
  unfold rnD
  rw [rn_congr h h', rnS_congr (N := 2 * d.1) (fun x hx => nx_congr h h' hx) (fun x hx => (nx_closed h).1 x hx) (fun x hx => ((Edg_one h h').1 x hx).2) _ _ _ _ (fun i hi => (rnd_len (nx_closed h) hi).2.1)]
theorem at_one (h : EdgA d.1 d.2.2.2 d.2.2.1 nm fr to at_) {l : Int} {t t' : Option Nat} (a : atL d l t) (a' : atL d l t') : t = t' := by
  cases t with
  | none =>
    cases t' with
    | none => rfl
    | some t' => exact absurd a'.2.2 (a t' a'.1)
  | some t =>
    cases t' with
    | none => exact absurd a.2.2 (a' t a.1)
    | some t' =>
      obtain ⟨e, e1, e2, e3, e4, e5⟩ := Edg_at h a.1
      obtain ⟨f, f1, f2, f3, f4, f5⟩ := Edg_at h a'.1
      have ef : e = f := Edg_nm h e1 f1 (by rw [← e3, ← f3, a.2.2, a'.2.2])
      have w1 := e5 a.2.1
      have w2 := f5 a'.2.1
      rw [ef, w2] at w1
      have : t' = t := by omega
      rw [this]
theorem ed_one (h : EdgA d.1 d.2.2.2 d.2.2.1 nm fr to at_) (h' : EdgA d.1 d.2.2.2 d.2.2.1 nm' fr' to' at') {l : Int} {t t' : Option Nat} (a : edN d.1 nm l t) (a' : edN d.1 nm' l t') : t = t' := by
  have one := (Edg_one h h').1
  cases t with
  | none =>
    cases t' with
    | none => rfl
    | some t' => exact absurd (by rw [← (one t' a'.1).1]; exact a'.2) (a t' a'.1)
  | some t =>
    cases t' with
    | none => exact absurd (by rw [(one t a.1).1]; exact a.2) (a' t a.1)
    | some t' =>
      have : t = t' := Edg_nm h a.1 a'.1 (by rw [a.2, ← (one t' a'.1).1, a'.2])
      rw [this]
theorem edN_lt {n : Nat} {nm : Nat → Int} {l : Int} {o : Option Nat} (h : edN n nm l o) : ∀ e, o = some e → e < 2 * n := fun e he => by
  rw [he] at h; exact h.1
theorem Mv_one (h : EdgA d.1 d.2.2.2 d.2.2.1 nm fr to at_) (h' : EdgA d.1 d.2.2.2 d.2.2.1 nm' fr' to' at') {r r' : Int × Dg} (a : MvR k nuv d nm fr to at_ r) (a' : MvR k nuv d nm' fr' to' at' r') : r = r' := by
  rcases a with ⟨e, a⟩ | ⟨e, u, v, t, ⟨u1, v1⟩, t1, a⟩ | ⟨e, u, v, w, z, ex, ey, ⟨u1, v1, w1, z1⟩, x1, y1, a⟩ | ⟨e, a⟩ | ⟨e, a⟩ | ⟨e, a⟩ | ⟨e, a⟩ | ⟨e, a⟩ <;> rcases a' with ⟨e', b⟩ | ⟨e', u', v', t', ⟨u2, v2⟩, t2, b⟩ | ⟨e', u', v', w', z', ex', ey', ⟨u2, v2, w2, z2⟩, x2, y2, b⟩ | ⟨e', b⟩ | ⟨e', b⟩ | ⟨e', b⟩ | ⟨e', b⟩ | ⟨e', b⟩ <;> first | (exfalso; omega) | skip
  · rw [a, b, sl_congr h h']
  · have q1 := free_uniq u1 u2; subst q1
    have q2 := free_uniq v1 v2; subst q2
    have q3 := at_one h t1 t2; subst q3
    rw [a, b]
  · have q1 := free_uniq u1 u2; subst q1
    have q2 := free_uniq v1 v2; subst q2
    have q3 := free_uniq w1 w2; subst q3
    have q4 := free_uniq z1 z2; subst q4
    have q5 := ed_one h h' x1 x2; subst q5
    have q6 := ed_one h h' y1 y2; subst q6
    rw [a, b, pu_congr h h' _ _ _ _ _ _ _ (edN_lt x1) (edN_lt y1)]
  · rw [a, b]
  · rw [a, b, rv_congr h h']
  · rw [a, b]
  · rw [a, b]
  · rw [a, b, rnD_congr h h']
theorem Mv_01 {r : Int × Dg} (a : MvR k nuv d nm fr to at_ r) : (r.1 = 0 ∧ r.2 = d) ∨ r.1 = 1 := by
  rcases a with ⟨e, a⟩ | ⟨e, u, v, t, ⟨u1, v1⟩, t1, a⟩ | ⟨e, u, v, w, z, ex, ey, ⟨u1, v1, w1, z1⟩, x1, y1, a⟩ | ⟨e, a⟩ | ⟨e, a⟩ | ⟨e, a⟩ | ⟨e, a⟩ | ⟨e, a⟩ <;> rw [a]
  · unfold slS; split
    · exact Or.inr rfl
    · exact Or.inl ⟨rfl, rfl⟩
  · unfold twS; split
    · exact Or.inl ⟨rfl, rfl⟩
    · split
      · split
        · exact Or.inl ⟨rfl, rfl⟩
        · exact Or.inr rfl
      · cases t with
        | none => exact Or.inl ⟨rfl, rfl⟩
        | some t => exact Or.inr rfl
  · cases ex with
    | none => exact Or.inl ⟨rfl, rfl⟩
    | some e =>
      cases ey with
      | none => exact Or.inl ⟨rfl, rfl⟩
      | some f =>
        unfold puS
        dsimp only
        split
        · exact Or.inr rfl
        · exact Or.inl ⟨rfl, rfl⟩
  · exact Or.inr rfl
  · unfold rvS; split
    · exact Or.inr rfl
    · exact Or.inl ⟨rfl, rfl⟩
  · unfold chS; split
    · exact Or.inr rfl
    · exact Or.inl ⟨rfl, rfl⟩
  · unfold smS; split
    · split
      · exact Or.inr rfl
      · exact Or.inl ⟨rfl, rfl⟩
    · exact Or.inl ⟨rfl, rfl⟩
  · exact Or.inr rfl
end
