theorem bh_asc : ∀ l : List Int, asc (bhL l) := by
  intro l
  induction l with
  | nil => exact asc_nil
  | cons v l ih => exact asc_app (asc_cons (by decide) (num_asc v)) ih
theorem hs_asc (l : List Int) : asc (hsL l) := asc_cons (by decide) (asc_app (bh_asc l) (asc_cons (by decide) asc_nil))
theorem li_asc {i : Nat} (h : i < 79) : asc (lit i) := lit_asc i h
theorem und_asc (g : Int) : asc (undL g) := asc_app (li_asc (by decide)) (asc_app (asc_cons (by decide) (num_asc g)) (asc_cons (by decide) asc_nil))
theorem noRL_asc (r l : Int) : asc (noRL r l) := asc_app (li_asc (by decide)) (asc_app (asc_cons (by decide) (num_asc r)) (asc_app (asc_cons (by decide) (num_asc l)) (asc_cons (by decide) asc_nil)))
theorem fcL_asc (nm fr to at_ : Nat → Int) (st len : Nat → Nat) : ∀ r f, asc (fcL nm fr to at_ st len r f) := by
  intro r
  induction r with
  | zero => intro f; exact asc_nil
  | succ r ih => intro f; exact asc_app (hs_asc _) (ih _)
theorem tlL_asc (lb : Nat → Int) (c : Nat) : ∀ d k, asc (tlL lb c d k) := by
  intro d
  induction d with
  | zero => intro k; unfold tlL; exact asc_cons (by decide) asc_nil
  | succ d ih =>
    intro k
    unfold tlL
    repeat' (first | exact num_asc _ | exact ih _ | exact asc_nil | exact asc_cons (by decide) asc_nil | exact asc_cons (by decide) (asc_cons (by decide) asc_nil) | apply asc_app | split)
theorem crsL_asc (sg lb : Nat → Int) (ci : Int) : ∀ d c, asc (crsL sg lb ci d c) := by
  intro d
  induction d with
  | zero =>
    intro c
    unfold crsL endL
    repeat' (first | exact num_asc _ | exact asc_nil | exact asc_cons (by decide) asc_nil | exact asc_cons (by decide) (asc_cons (by decide) asc_nil) | exact asc_cons (by decide) (num_asc _) | apply asc_app | split)
  | succ d ih =>
    intro c
    unfold crsL
    refine asc_app ?_ (ih _)
    unfold crL
    refine asc_app ?_ (tlL_asc lb c 4 0)
    split
    · exact asc_cons (by decide) (asc_cons (by decide) (asc_cons (by decide) asc_nil))
    · exact asc_cons (by decide) (asc_cons (by decide) (asc_cons (by decide) asc_nil))
theorem codeL_asc (n : Nat) (sg lb : Nat → Int) (ci : Int) : asc (codeL n sg lb ci) := asc_app (asc_cons (by decide) (asc_cons (by decide) (asc_cons (by decide) (asc_cons (by decide) asc_nil)))) (crsL_asc sg lb ci n 0)
theorem ok_asc : asc okL := ansL_asc (by decide)
theorem no_asc : asc noL := ansL_asc (by decide)
theorem unF_asc (d : Dg) (fr to at_ : Nat → Int) (f : Nat) : asc (unF d fr to at_ f).1 := by
  unfold unF
  split
  · split
    · exact no_asc
    · exact und_asc _
  · exact no_asc
theorem Run_asc {k m : Nat} {nuv : Nat → Int} {d d' : Dg} {L : List Int} (hk : 1 ≤ k ∧ k ≤ 18) (r : RunR k m nuv d L d') : asc L := by
  rcases r with ⟨e, n, hL, r⟩ | ⟨e, r⟩ | ⟨e, nm, fr, to, at_, hE, r⟩ | ⟨e, nm, fr, to, at_, r, hE, hr, hl, hd⟩ | ⟨e, g, r, hl⟩ | ⟨e, hl, r⟩ | ⟨e, ⟨nm, fr, to, at_, hE, hl⟩, r⟩ | ⟨e, ⟨nm, fr, to, at_, hE, hl⟩, r⟩ | ⟨e, hm, r⟩
  · rcases r with ⟨_, r, _⟩ | ⟨_, ⟨_, _, r, _⟩ | ⟨_, _, _, r, _⟩ | ⟨_, _, _, _, _, _, _, r, _⟩ | ⟨_, _, _, _, _, _, r, _⟩⟩
    · rw [r]; exact ansL_asc (by decide)
    · rw [r]; exact noRL_asc _ _
    · rw [r]; exact noRL_asc _ _
    · rw [r]; exact noRL_asc _ _
    · rw [r]; exact ok_asc
  · rcases r with ⟨_, r, _⟩ | ⟨_, r, _⟩
    · rw [r]; exact ok_asc
    · rw [r]; exact no_asc
  · have : L = (unF d fr to at_ (nuv 0).toNat).1 := congrArg Prod.fst r
    rw [this]; exact unF_asc _ _ _ _ _
  · rw [hl]; split
    · exact no_asc
    · exact ok_asc
  · rw [hl]; exact und_asc _
  · rw [hl]; exact codeL_asc _ _ _ _
  · rw [hl]; exact hs_asc _
  · rw [hl]; exact asc_app (hs_asc _) (fcL_asc _ _ _ _ _ _ _ _)
  · rcases hm with ⟨_, r⟩ | ⟨_, nm, fr, to, at_, c, _, _, ⟨_, r⟩ | ⟨_, p, _, ⟨_, r⟩ | ⟨_, r⟩⟩⟩
    · rw [r]; exact ansL_asc (by decide)
    · rw [r]; exact poW_asc hk c
    · rw [r]; exact ansL_asc (by decide)
    · rw [r]; exact no_asc
theorem pp_fit : ∀ (l : List Int) (P : Nat) (ov : Int) (by_ : Nat → Int), P + l.length ≤ 4000 → ∃ b', pp l ((P : Int), ov, by_) = (((P + l.length : Nat) : Int), ov, b') ∧ (∀ i, i < P → b' i = by_ i) ∧ ∀ j, j < l.length → b' (P + j) = l.getD j 0 := by
  intro l
  induction l with
  | nil => intro P ov b h; exact ⟨b, rfl, fun i _ => rfl, fun j hj => absurd hj (by show ¬ j < 0; omega)⟩
  | cons x l ih =>
    intro P ov b h
    rw [List.length_cons] at h
    obtain ⟨b', e, h1, h2⟩ := ih (P + 1) ov (up b P x) (by omega)
    refine ⟨b', ?_, fun i hi => ?_, fun j hj => ?_⟩
    · show pp l (if (4000 : Int) ≤ (P : Int) then ((P : Int), 1, b) else ((P : Int) + 1, ov, up b (P : Int).toNat x)) = _
      rw [if_neg (by omega), Int.toNat_natCast, show (P : Int) + 1 = ((P + 1 : Nat) : Int) by omega, e, List.length_cons, show P + 1 + l.length = P + (l.length + 1) by omega]
    · rw [h1 i (by omega), up_ne _ _ (by omega)]
    · cases j with
      | zero => rw [Nat.add_zero, h1 P (by omega), up_eq]; rfl
      | succ j => rw [show P + (j + 1) = P + 1 + j by omega, h2 j (by rw [List.length_cons] at hj; omega)]; rfl
theorem pp_full : ∀ (l : List Int) (ov : Int) (b : Nat → Int), pp l (4000, ov, b) = (4000, (if l.length = 0 then ov else 1), b) := by
  intro l
  induction l with
  | nil => intro ov b; rfl
  | cons x l ih =>
    intro ov b
    show pp l (if (4000 : Int) ≤ 4000 then ((4000 : Int), 1, b) else _) = _
    rw [if_pos (by decide), ih 1 b, List.length_cons, if_neg (show ¬ (l.length + 1 = 0) by omega)]
    split <;> rfl
theorem pp_over (l : List Int) (P : Nat) (ov : Int) (b : Nat → Int) (hP : P ≤ 4000) (h : 4000 < P + l.length) : (pp l ((P : Int), ov, b)).2.1 = 1 ∧ ∀ i, i < P → (pp l ((P : Int), ov, b)).2.2 i = b i := by
  have e : l = l.take (4000 - P) ++ l.drop (4000 - P) := (List.take_append_drop _ _).symm
  have lt : (l.take (4000 - P)).length = 4000 - P := by rw [List.length_take]; omega
  obtain ⟨b', g1, g2, g3⟩ := pp_fit (l.take (4000 - P)) P ov b (by omega)
  rw [lt, show P + (4000 - P) = 4000 by omega] at g1
  rw [e, pp_app, g1]
  have := pp_full (l.drop (4000 - P)) ov b'
  rw [show ((4000 : Nat) : Int) = 4000 from rfl, this, List.length_drop, if_neg (by omega)]
  exact ⟨rfl, g2⟩
theorem mm_get : ∀ (l : List Int) (P : Nat) (b : Nat → Int), (∀ i, i < P → (mm l ((P : Int), b)).2 i = b i) ∧ ∀ j, j < l.length → (mm l ((P : Int), b)).2 (P + j) = l.getD j 0 := by
  intro l
  induction l with
  | nil => intro P b; exact ⟨fun i _ => rfl, fun j hj => absurd hj (by show ¬ j < 0; omega)⟩
  | cons x l ih =>
    intro P b
    obtain ⟨h1, h2⟩ := ih (P + 1) (up b P x)
    have e : mm (x :: l) ((P : Int), b) = mm l (((P + 1 : Nat) : Int), up b P x) := by
      show mm l ((P : Int) + 1, up b (P : Int).toNat x) = _
      rw [Int.toNat_natCast, show (P : Int) + 1 = ((P + 1 : Nat) : Int) by omega]
    rw [e]
    refine ⟨fun i hi => ?_, fun j hj => ?_⟩
    · rw [h1 i (by omega), up_ne _ _ (by omega)]
    · cases j with
      | zero =>
        show (mm l (((P + 1 : Nat) : Int), up b P x)).2 P = x
        rw [h1 P (by omega), up_eq]
      | succ j => rw [show P + (j + 1) = P + 1 + j by omega, h2 j (by rw [List.length_cons] at hj; omega)]; rfl
theorem asc_get {l : List Int} (h : asc l) {j : Nat} (hj : j < l.length) : 0 ≤ l.getD j 0 ∧ l.getD j 0 < 128 := by
  rw [List.getD_eq_getElem?_getD, List.getElem?_eq_getElem hj]
  exact h _ (List.getElem_mem hj)
theorem poL_crude (vb : Int) (c : Int → Int) : ∀ (d : Nat) (e : Int) (f : Bool), (poL vb c d e f).length ≤ 60 * d + 2 := by
  intro d
  induction d with
  | zero =>
    intro e f
    show ((if f = true then [48] else []) ++ [10] : List Int).length ≤ 2
    split <;> decide
  | succ d ih =>
    intro e f
    rw [poL_s]
    split
    · have := ih (e + 1) f; omega
    · have i := ih (e + 1) false
      have s1 := sgL_len f (c e)
      have t1 : (teL vb (ia (c e)) e).length ≤ 40 := by
        unfold teL
        rw [List.length_append]
        have a : (if ia (c e) = 1 ∧ e ≠ 0 then ([] : List Int) else num (ia (c e))).length ≤ 19 := by
          split
          · exact Nat.zero_le _
          · exact num_len _
        have b : (vaL vb e).length ≤ 21 := by
          unfold vaL
          split
          · exact Nat.zero_le _
          · unfold exL
            split
            · show (1 : Nat) ≤ 21; omega
            · have := num_len e
              show (num e).length + 1 + 1 ≤ 21
              omega
        omega
      rw [List.length_append, List.length_append]
      omega
theorem litShort {i : Nat} (h : i < 79) : (lit i).length < 100 := by
  have : ∀ i, i < 79 → (lit i).length < 100 := by decide
  exact this i h
theorem ansL_len {i : Nat} (h : i < 79) : (ansL i).length ≤ 200 := by
  have := litShort h
  show ([35, 32] ++ (lit i ++ [10])).length ≤ 200
  rw [List.length_append, List.length_append]
  show 2 + ((lit i).length + 1) ≤ 200
  omega
theorem und_len (g : Int) : (undL g).length ≤ 200 := by
  have := litShort (i := 29) (by decide)
  have := num_len g
  unfold undL
  rw [List.length_append, List.length_append, List.length_cons]
  show (lit 29).length + ((num g).length + 1 + 1) ≤ 200
  omega
theorem noRL_len (r l : Int) : (noRL r l).length ≤ 200 := by
  have := litShort (i := 68) (by decide)
  have := num_len r
  have := num_len l
  unfold noRL
  rw [List.length_append, List.length_append, List.length_append, List.length_cons, List.length_cons]
  show (lit 68).length + ((num r).length + 1 + ((num l).length + 1 + 1)) ≤ 200
  omega
theorem tlL_len (lb : Nat → Int) (c : Nat) : ∀ d q, (tlL lb c d q).length ≤ 21 * d + 1 := by
  intro d
  induction d with
  | zero => intro q; show 1 ≤ 1; omega
  | succ d ih =>
    intro q
    have := ih (q + 1)
    have := num_len (lb (4 * c + q))
    rw [tlL_s, List.length_append, List.length_append]
    have : (if q = 0 then ([] : List Int) else [44, 32]).length ≤ 2 := by split <;> decide
    omega
theorem crsL_len (sg lb : Nat → Int) (ci : Int) : ∀ d c, (crsL sg lb ci d c).length ≤ 100 * d + 100 := by
  intro d
  induction d with
  | zero =>
    intro c
    have := num_len ci
    show (endL ci).length ≤ 100
    unfold endL
    rw [List.length_append]
    have : (if ci ≤ 0 then ([] : List Int) else [32, 111] ++ (32 :: num ci)).length ≤ 30 := by
      split
      · exact Nat.zero_le _
      · rw [List.length_append, List.length_cons]; show 2 + ((num ci).length + 1) ≤ 30; omega
    have : ([10] : List Int).length = 1 := rfl
    omega
  | succ d ih =>
    intro c
    have := ih (c + 1)
    have := tlL_len lb c 4 0
    rw [crsL_s, List.length_append]
    unfold crL
    rw [List.length_append]
    have : (if sg c ≤ 0 then ([32, 45, 91] : List Int) else [32, 43, 91]).length = 3 := by split <;> rfl
    omega
theorem fcL_len (nm fr to at_ : Nat → Int) (st len : Nat → Nat) : ∀ r f, (∀ i, f ≤ i → i < f + r → len i ≤ 80) → (fcL nm fr to at_ st len r f).length ≤ 1700 * r := by
  intro r
  induction r with
  | zero => intro f _; exact Nat.le_refl _
  | succ r ih =>
    intro f h
    have := ih (f + 1) (fun i a b => h i (by omega) (by omega))
    have l1 := h f (by omega) (by omega)
    have := hs_len ((f : Int) :: deedS fr to at_ (st f) (len f) :: drL nm (tnz fr to at_) (len f) (st f))
    rw [List.length_cons, List.length_cons, drL_len] at this
    show (hsL ((f : Int) :: deedS fr to at_ (st f) (len f) :: drL nm (tnz fr to at_) (len f) (st f)) ++ fcL nm fr to at_ st len r (f + 1)).length ≤ _
    rw [List.length_append]
    omega
theorem Run_len {k m : Nat} {nuv : Nat → Int} {d d' : Dg} {L : List Int} (h : okD d) (hk : 1 ≤ k ∧ k ≤ 18) (r : RunR k m nuv d L d') : L.length ≤ 1000000 := by
  have hn := h.1
  have okl : okL.length ≤ 200 := ansL_len (by decide)
  have nol : noL.length ≤ 200 := ansL_len (by decide)
  rcases r with ⟨e, n, hL, r⟩ | ⟨e, r⟩ | ⟨e, nm, fr, to, at_, hE, r⟩ | ⟨e, nm, fr, to, at_, r, hE, hr, hl, hd⟩ | ⟨e, g, r, hl⟩ | ⟨e, hl, r⟩ | ⟨e, ⟨nm, fr, to, at_, hE, hl⟩, r⟩ | ⟨e, ⟨nm, fr, to, at_, hE, hl⟩, r⟩ | ⟨e, hm, r⟩
  · rcases r with ⟨_, r, _⟩ | ⟨_, ⟨l, _, r, _⟩ | ⟨l, _, _, r, _⟩ | ⟨l, _, _, _, _, _, _, r, _⟩ | ⟨_, _, _, _, _, _, r, _⟩⟩
    · have := ansL_len (i := 65) (by decide); rw [r]; omega
    · have := noRL_len 1 l; rw [r]; omega
    · have := noRL_len 2 l; rw [r]; omega
    · have := noRL_len 3 (l : Int); rw [r]; omega
    · rw [r]; omega
  · rcases r with ⟨_, r, _⟩ | ⟨_, r, _⟩ <;> rw [r] <;> omega
  · have : L = (unF d fr to at_ (nuv 0).toNat).1 := congrArg Prod.fst r
    rw [this]
    unfold unF
    split
    · split
      · show noL.length ≤ _; omega
      · have := und_len ((undoS d fr to at_ ((rndz (tnz fr to at_) (4 * d.1) (4 * d.1)).2.2.1 (nuv 0).toNat) ((rndz (tnz fr to at_) (4 * d.1) (4 * d.1)).2.2.2 (nuv 0).toNat)).1 : Int)
        exact Nat.le_trans this (by omega)
    · show noL.length ≤ _; omega
  · rw [hl]; split <;> omega
  · have := und_len (g : Int); rw [hl]; omega
  · have := crsL_len d.2.2.2 d.2.2.1 d.2.1 d.1 0
    rw [hl]
    show ([99, 111, 100, 101] ++ crsL d.2.2.2 d.2.2.1 d.2.1 d.1 0).length ≤ _
    rw [List.length_append]
    show 4 + _ ≤ _
    omega
  · rw [hl]
    have := hs_len [(d.1 : Int), d.2.1, (cmR d.1 to at_ : Int) + d.2.1, (pcs fr to d.1 (2 * d.1) : Int) + d.2.1, ((rndz (tnz fr to at_) (4 * d.1) (4 * d.1)).2.1 : Int), (arcN d.1 fr to at_ : Int) + d.2.1, ((sfR (sfn d.2.2.2 to at_) (2 * d.1) (2 * d.1)).2 : Int) + d.2.1, sgs d.2.2.2 d.1, if altB fr to (2 * d.1) = true then 1 else 0]
    exact Nat.le_trans this (by show 20 * 9 + 2 ≤ _; omega)
  · have F4 := cnt_F hE
    have l1 := hs_len [((rndz (tnz fr to at_) (4 * d.1) (4 * d.1)).2.1 : Int)]
    have l2 := fcL_len nm fr to at_ (rndz (tnz fr to at_) (4 * d.1) (4 * d.1)).2.2.1 (rndz (tnz fr to at_) (4 * d.1) (4 * d.1)).2.2.2 (rndz (tnz fr to at_) (4 * d.1) (4 * d.1)).2.1 0 (fun i _ hi => by have := (face_ok hE (show i < (rndz (tnz fr to at_) (4 * d.1) (4 * d.1)).2.1 by omega)).2.2.1; omega)
    rw [hl]
    unfold facS
    rw [List.length_append]
    have : ([((rndz (tnz fr to at_) (4 * d.1) (4 * d.1)).2.1 : Int)] : List Int).length = 1 := rfl
    omega
  · rcases hm with ⟨_, r⟩ | ⟨_, nm, fr, to, at_, c, _, _, ⟨_, r⟩ | ⟨_, p, _, ⟨_, r⟩ | ⟨_, r⟩⟩⟩
    · have := ansL_len (i := 74) (by decide); rw [r]; omega
    · have := poL_crude (vB (k : Int)) c 601 (-300) true
      have := litShort (i := k - 1) (by omega)
      rw [r]
      show (lit (k - 1) ++ ([32, 61, 32] ++ poT (vB (k : Int)) c)).length ≤ _
      rw [List.length_append, List.length_append]
      unfold poT
      have : ([32, 61, 32] : List Int).length = 3 := rfl
      omega
    · have := ansL_len (i := 78) (by decide); rw [r]; show (ansL 78).length ≤ _; omega
    · rw [r]; omega
