theorem tlL_like {n : Nat} {A lb : Nat → Int} (h : like (4 * n) A lb) {c : Nat} (hc : c < n) : ∀ d k, k + d = 4 → tlL A c d k = tlL lb c d k := by
  intro d
  induction d with
  | zero => intro k _; rfl
  | succ d ih =>
    intro k hk
    unfold tlL
    rw [ih (k + 1) (by omega), h (4 * c + k) (by omega)]
theorem crsL_like {n : Nat} {A lb S sg : Nat → Int} (h : like (4 * n) A lb) (hs : like n S sg) (ci : Int) : ∀ d c, c + d = n → crsL S A ci d c = crsL sg lb ci d c := by
  intro d
  induction d with
  | zero => intro c _; rfl
  | succ d ih =>
    intro c hc
    unfold crsL
    rw [ih (c + 1) (by omega)]
    have : crL S A c = crL sg lb c := by
      unfold crL
      rw [hs c (by omega), tlL_like h (by omega) 4 0 (by omega)]
    rw [this]
theorem codeL_like {n : Nat} {A lb S sg : Nat → Int} (h : like (4 * n) A lb) (hs : like n S sg) (ci : Int) : codeL n S A ci = codeL n sg lb ci := by
  unfold codeL
  rw [crsL_like h hs ci n 0 (Nat.zero_add _)]
/-- what a line says, and the diagram behind it -/
def RunR (k m : Nat) (nuv : Nat → Int) (d : Dg) (L : List Int) (d' : Dg) : Prop :=
  (k = 1 ∧ ∃ n, lnCode m n nuv ∧ CodeR n nuv d L d') ∨
  (k = 2 ∧ (goodW m nuv ∧ L = okL ∧ d' = clD (nuv 0).toNat (m - 1) (fun k => nuv (k + 1)) ∨ ¬ goodW m nuv ∧ L = noL ∧ d' = d)) ∨
  (k = 3 ∧ ∃ nm fr to at_, EdgA d.1 d.2.2.2 d.2.2.1 nm fr to at_ ∧ (L, d') = unF d fr to at_ (nuv 0).toNat) ∨
  ((k = 4 ∨ k = 5 ∨ k = 6 ∨ k = 8 ∨ k = 9 ∨ k = 10 ∨ k = 11 ∨ k = 12) ∧ ∃ nm fr to at_ r, EdgA d.1 d.2.2.2 d.2.2.1 nm fr to at_ ∧ MvR k nuv d nm fr to at_ r ∧ L = (if r.1 = 0 then noL else okL) ∧ d' = r.2) ∨
  (k = 7 ∧ ∃ g : Nat, SiR 21 d g d' ∧ L = undL (g : Int)) ∨
  (k = 13 ∧ L = codeL d.1 d.2.2.2 d.2.2.1 d.2.1 ∧ d' = d) ∨
  (k = 14 ∧ (∃ nm fr to at_, EdgA d.1 d.2.2.2 d.2.2.1 nm fr to at_ ∧ L = cntS d fr to at_) ∧ d' = d) ∨
  (k = 15 ∧ (∃ nm fr to at_, EdgA d.1 d.2.2.2 d.2.2.1 nm fr to at_ ∧ L = facS d.1 nm fr to at_) ∧ d' = d) ∨
  ((k = 16 ∨ k = 17 ∨ k = 18) ∧ MeR k m nuv d L ∧ d' = d)
theorem Run_ok {k m : Nat} {nuv : Nat → Int} {d d' : Dg} {L : List Int} (h : okD d) (hJ : Jd d) (ha : Arg k m nuv) (r : RunR k m nuv d L d') : okD d' ∧ Jd d' := by
  rcases r with ⟨e, n, hL, r⟩ | ⟨e, r⟩ | ⟨e, nm, fr, to, at_, hE, r⟩ | ⟨e, nm, fr, to, at_, r, hE, hr, hl, hd⟩ | ⟨e, g, r, hl⟩ | ⟨e, _, r⟩ | ⟨e, _, r⟩ | ⟨e, _, r⟩ | ⟨e, _, r⟩
  · refine ⟨Code_ok h hL r, ?_⟩
    rcases r with ⟨_, _, r⟩ | ⟨_, ⟨_, _, _, r⟩ | ⟨_, _, _, _, r⟩ | ⟨_, _, _, _, _, _, _, _, r⟩ | ⟨nm, fr, to, at_, hE, h3, _, r⟩⟩
    · rw [r]; exact hJ
    · rw [r]; exact hJ
    · rw [r]; exact hJ
    · rw [r]; exact hJ
    · rw [r]; exact J_code (d := cdD n nuv) hE h3
  · rcases r with ⟨g, _, r⟩ | ⟨_, _, r⟩
    · have hm := (ha.2.1 e).1
      have gw := good_Wrd g hm
      rw [r]; exact ⟨okD_cl gw, J_cl gw⟩
    · rw [r]; exact ⟨h, hJ⟩
  · have : d' = (unF d fr to at_ (nuv 0).toNat).2 := congrArg Prod.snd r
    rw [this]; exact unF_ok h hJ hE _
  · rw [hd]; exact Mv_ok h hJ hE ha hr
  · exact Si_ok _ _ _ _ h hJ r
  · rw [r]; exact ⟨h, hJ⟩
  · rw [r]; exact ⟨h, hJ⟩
  · rw [r]; exact ⟨h, hJ⟩
  · rw [r]; exact ⟨h, hJ⟩
theorem P_noRL (fl : Nat) (hfl : 2000 ≤ fl) {r l : Int} (hr : -1000000 ≤ r ∧ r ≤ 1000000) (hl : -1000000 ≤ l ∧ l ≤ 1000000) (s : Pap) (hs : pok s) (di : Nat → Int) {R : Type} (k : Int × Int × (Nat → Int) → (Nat → Int) → Option R) :
    ∃ di', ((LM_Pa_putText fl 27 s.1 s.2.1 s.2.2).bind fun o2 => ((LM_Pa_putSpaced fl r o2.1 o2.2.1 o2.2.2 di).bind fun o3 => ((LM_Pa_putSpaced fl l o3.1 o3.2.1 o3.2.2.1 o3.2.2.2).bind fun o4 => ((LM_Pa_putEnd fl o4.1 o4.2.1 o4.2.2.1).bind fun o5 => k o5 o4.2.2.2)))) = k (pp (noRL r l) s) di' := by
  have e27 : lit 27 = lit 68 := by decide
  obtain ⟨d1, p1⟩ := P_spaced fl (by omega) r (na_lt hr) (pp (lit 68) s) (pok_pp _ _ hs) di
  obtain ⟨d2, p2⟩ := P_spaced fl (by omega) l (na_lt hl) _ (pok_pp (32 :: num r) _ (pok_pp (lit 68) _ hs)) d1
  refine ⟨d2, ?_⟩
  rw [P_text fl hfl (by decide) s hs, Option.bind_some, e27, p1, Option.bind_some]
  dsimp only
  rw [p2, Option.bind_some]
  dsimp only
  rw [P_end fl _ (pok_pp _ _ (pok_pp _ _ (pok_pp _ _ hs))), Option.bind_some]
  unfold noRL
  rw [pp_app (lit 68), pp_app (32 :: num r), pp_app (32 :: num l)]
abbrev ScT := Int × Int × Int × Int × (Nat → Int) × Int × Int × Int × Int × Int × Int × (Nat → Int) × (Nat → Int) × (Nat → Int) × (Nat → Int) × (Nat → Int) × (Nat → Int) × (Nat → Int) × (Nat → Int) × (Nat → Int) × (Nat → Int) × (Nat → Int) × (Nat → Int) × Int × Int × (Nat → Int) × (Nat → Int)
theorem C_codeLine (fl : Nat) (hfl : 2000 ≤ fl) {d : Dg} (h : okD d) {m n : Nat} {nuv : Nat → Int} (hN : lnCode m n nuv) {cnt dn : Int} {st vl : Nat → Int} (hL : LnC cnt dn st vl m nuv) (xn xc xk xed xcm xpc xfa xbr xcu : Int) (xl xcO xaT xfO xsZ xsT xfR xkY xnM xpO xsC xtO xs : Nat → Int) (s : Pap) (hs : pok s) (di : Nat → Int) :
    ∃ (o : ScT) (L : List Int) (d' : Dg), LM_En_setCode fl cnt dn st vl xn xc xk xl xed xcm xpc xfa xbr xcu xcO xaT xfO xsZ xsT xfR xkY xnM xpO xsC xtO xs s.1 s.2.1 s.2.2 di = some o ∧ CodeR n nuv d L d' ∧ (o.2.2.2.2.2.2.2.2.2.2.2.2.2.2.2.2.2.2.2.2.2.2.2.1, o.2.2.2.2.2.2.2.2.2.2.2.2.2.2.2.2.2.2.2.2.2.2.2.2.1, o.2.2.2.2.2.2.2.2.2.2.2.2.2.2.2.2.2.2.2.2.2.2.2.2.2.1) = pp L s ∧ ((o.1 = 1 ∧ DA d' o.2.1 o.2.2.1 o.2.2.2.2.1 o.2.2.2.2.2.2.2.2.2.2.2.2.2.2.2.2.2.2.2.2.2.2.1 ∧ ShK d' (o.2.2.2.1, o.2.2.2.2.2.1, o.2.2.2.2.2.2.1, o.2.2.2.2.2.2.2.1, o.2.2.2.2.2.2.2.2.1, o.2.2.2.2.2.2.2.2.2.1, o.2.2.2.2.2.2.2.2.2.2.1, o.2.2.2.2.2.2.2.2.2.2.2.1, o.2.2.2.2.2.2.2.2.2.2.2.2.1, o.2.2.2.2.2.2.2.2.2.2.2.2.2.1, o.2.2.2.2.2.2.2.2.2.2.2.2.2.2.1, o.2.2.2.2.2.2.2.2.2.2.2.2.2.2.2.1, o.2.2.2.2.2.2.2.2.2.2.2.2.2.2.2.2.1, o.2.2.2.2.2.2.2.2.2.2.2.2.2.2.2.2.2.1, o.2.2.2.2.2.2.2.2.2.2.2.2.2.2.2.2.2.2.1, o.2.2.2.2.2.2.2.2.2.2.2.2.2.2.2.2.2.2.2.1, o.2.2.2.2.2.2.2.2.2.2.2.2.2.2.2.2.2.2.2.2.1, o.2.2.2.2.2.2.2.2.2.2.2.2.2.2.2.2.2.2.2.2.2.1)) ∨ (o.1 = 0 ∧ d' = d)) := by
  obtain ⟨b, A', S', c1, c2, c3⟩ := C_setCode fl (by omega) hL hN xn xc xk xl xs
  have hn := hN.2.1
  have lbl : ∀ q, q < 4 * n → 0 ≤ cdL nuv q ∧ cdL nuv q ≤ 9999 := fun q hq => hN.2.2.2 _ (by rw [hN.1]; omega) (Or.inl (by omega))
  obtain ⟨_, _, hA, hS⟩ := c2
  have hA : like (4 * n) A' (cdL nuv) := hA
  have hS : like n S' (cdS nuv) := hS
  unfold LM_En_setCode LB_En_setCode_0
  rw [c1, Option.bind_some]
  dsimp only
  rcases c3 with ⟨b1, g⟩ | ⟨b0, g⟩
  · rw [if_pos (by omega)]
    have labP : ∀ {l : Int}, (∃ q, q < 4 * n ∧ cdL nuv q = l) → -1000000 ≤ l ∧ l ≤ 1000000 := fun ⟨q, q1, q2⟩ => by have := lbl q q1; omega
    rcases C_shape0 fl (by omega) hn S' A' (fun q hq => by rw [hA q hq]; exact lbl q hq) xed xcm xpc xfa xbr xcu xcO xaT xfO xsZ xsT xfR xkY xnM xpO xsC xtO with ⟨l, e1, e2, e3, e4, a1, a2, a3, a4, a5, a6, a7, a8, a9, a10, a11, s1, s2⟩ | ⟨l, e1, e2, e3, e4, a1, a2, a3, a4, a5, a6, a7, a8, a9, a10, a11, s1, s2, s3⟩ | ⟨c, e1, e2, e3, e4, a1, a2, a3, a4, a5, a6, a7, a8, a9, a10, a11, s1, s2, s3⟩ | ⟨e1, e2, e3, e4, a1, a2, a3, a4, a5, a6, a7, a8, a9, a10, a11, s1, s2, s3⟩
    · have bd := Bad1_like hA s2
      rw [s1, Option.bind_some]
      dsimp only
      rw [if_pos (by decide)]
      obtain ⟨d1, p1⟩ := P_noRL fl hfl (r := 1) (l := l) (by decide) (labP bd.1) s hs di (fun o5 dd => some ((0 : Int), (n : Int), nuv (5 * n), (1 : Int), A', e1, e2, e3, e4, (1 : Int), l, a1, a2, a3, a4, a5, a6, a7, a8, a9, a10, a11, S', o5.1, o5.2.1, o5.2.2, dd))
      rw [p1]
      exact ⟨_, _, d, rfl, Or.inr ⟨g, Or.inl ⟨l, bd, rfl, rfl⟩⟩, rfl, Or.inr ⟨rfl, rfl⟩⟩
    · have bd := Bad2_like hA hS s2
      rw [s1, Option.bind_some]
      dsimp only
      rw [if_pos (by decide)]
      obtain ⟨d1, p1⟩ := P_noRL fl hfl (r := 2) (l := l) (by decide) (labP bd.1) s hs di (fun o5 dd => some ((0 : Int), (n : Int), nuv (5 * n), (1 : Int), A', e1, e2, e3, e4, (2 : Int), l, a1, a2, a3, a4, a5, a6, a7, a8, a9, a10, a11, S', o5.1, o5.2.1, o5.2.2, dd))
      rw [p1]
      refine ⟨_, _, d, rfl, Or.inr ⟨g, Or.inr (Or.inl ⟨l, fun q hq => ?_, bd, rfl, rfl⟩)⟩, rfl, Or.inr ⟨rfl, rfl⟩⟩
      have := s3 q hq
      rw [cnt_like hA, hA q hq] at this
      exact this
    · have hE := Edg_like (like_sy hS) (like_sy hA) s2.2.1
      rw [s1, Option.bind_some]
      dsimp only
      rw [if_pos (by decide)]
      have c20 := s3.1
      obtain ⟨d1, p1⟩ := P_noRL fl hfl (r := 3) (l := (c : Int)) (by decide) (by omega) s hs di (fun o5 dd => some ((0 : Int), (n : Int), nuv (5 * n), (1 : Int), A', e1, e2, e3, e4, (3 : Int), (c : Int), a1, a2, a3, a4, a5, a6, a7, a8, a9, a10, a11, S', o5.1, o5.2.1, o5.2.2, dd))
      rw [p1]
      exact ⟨_, _, d, rfl, Or.inr ⟨g, Or.inr (Or.inr (Or.inl ⟨c, a8, a6, a11, a2, hE, s3, rfl, rfl⟩))⟩, rfl, Or.inr ⟨rfl, rfl⟩⟩
    · have hE := Edg_like (like_sy hS) (like_sy hA) s2.2.1
      have e26 : ansL 26 = okL := by decide
      rw [s1, Option.bind_some]
      dsimp only
      rw [if_neg (by decide), P_answer fl hfl (by decide) s hs, Option.bind_some, e26]
      refine ⟨_, _, cdD n nuv, rfl, Or.inr ⟨g, Or.inr (Or.inr (Or.inr ⟨a8, a6, a11, a2, hE, s3, rfl, rfl⟩))⟩, rfl, Or.inl ⟨rfl, ⟨rfl, rfl, hA, hS⟩, Or.inr ⟨rfl, ?_⟩⟩⟩
      exact ShC_like hS hA s2
  · have e24 : ansL 24 = ansL 65 := by decide
    rw [if_neg (by omega), P_answer fl hfl (by decide) s hs, Option.bind_some, e24]
    exact ⟨_, _, d, rfl, Or.inl ⟨g, rfl, rfl⟩, rfl, Or.inr ⟨rfl, rfl⟩⟩
theorem C_braidLine (fl : Nat) (hfl : 2000 ≤ fl) {d : Dg} {m : Nat} {nuv : Nat → Int} (hm : 1 ≤ m) (hb : nmB m nuv) {cnt dn : Int} {st vl : Nat → Int} (hL : LnC cnt dn st vl m nuv) (xn xc xk : Int) (xl xs : Nat → Int) (s : Pap) (hs : pok s) (z1 z2 z3 : Int) (z4 z5 : Nat → Int) :
    ∃ (n' c' k' : Int) (A' S' : Nat → Int) (y1 y2 y3 : Int) (y4 y5 : Nat → Int), (goodW m nuv ∧ LM_En_setBraid fl cnt dn st vl xn xc xk xl xs s.1 s.2.1 s.2.2 z1 z2 z3 z4 z5 = some (1, n', c', k', A', S', (pp okL s).1, (pp okL s).2.1, (pp okL s).2.2, nuv 0, ((m - 1 : Nat) : Int), 0, y4, y5) ∧ DA (clD (nuv 0).toNat (m - 1) (fun k => nuv (k + 1))) n' c' A' S' ∧ k' = 0 ∧ ∀ j, j + 1 < m → y5 j = nuv (j + 1)) ∨ (¬ goodW m nuv ∧ LM_En_setBraid fl cnt dn st vl xn xc xk xl xs s.1 s.2.1 s.2.2 z1 z2 z3 z4 z5 = some (0, xn, xc, xk, xl, xs, (pp noL s).1, (pp noL s).2.1, (pp noL s).2.2, y1, y2, y3, z4, y5)) := by
  have e26 : ansL 26 = okL := by decide
  have e28 : ansL 28 = noL := by decide
  unfold LM_En_setBraid LB_En_setBraid_0 LB_En_setBraid_27 LB_En_setBraid_42
  rcases C_setWord fl (by omega) hL hb hm z1 z2 z3 z5 with ⟨g, L', w1, w2⟩ | ⟨g, L', w1⟩
  · have g0 := g.1
    obtain ⟨en', k', A', S', q1, q2, q3⟩ := C_close fl (by omega) (good_Wrd g hm) (x := L') (fun j hj => w2 j (by omega)) z4 xn xc xk xl xs
    rw [show (((nuv 0).toNat : Nat) : Int) = nuv 0 by omega] at q1
    rw [w1, Option.bind_some]
    dsimp only
    rw [if_neg (by decide), q1, Option.bind_some]
    dsimp only
    rw [if_neg (by decide), P_answer fl hfl (by decide) s hs, Option.bind_some, if_pos (Or.inr rfl), e26]
    exact ⟨_, _, k', A', S', 0, 0, 0, en', L', Or.inl ⟨g, rfl, q2, q3, w2⟩⟩
  · rw [w1, Option.bind_some]
    dsimp only
    rw [if_pos rfl, if_pos rfl, P_answer fl hfl (by decide) s hs, Option.bind_some, if_pos (Or.inl rfl), e28]
    exact ⟨0, 0, 0, xl, xs, _, _, _, xl, L', Or.inr ⟨g, rfl⟩⟩
theorem C_undoLine (fl : Nat) (hfl : 2000 ≤ fl) {d : Dg} (h : okD d) {m : Nat} {nuv : Nat → Int} (hm : m = 1) (hv : isN (nuv 0)) {cnt dn : Int} {st vl : Nat → Int} (hL : LnC cnt dn st vl m nuv) {n ci : Int} {A S : Nat → Int} (kn ed cm pc fa br cu : Int) (cO aT fO sZ sT fR kY nM pO sC tO : Nat → Int) (hD : DA d n ci A S) (hK : ShK d (kn, ed, cm, pc, fa, br, cu, cO, aT, fO, sZ, sT, fR, kY, nM, pO, sC, tO)) (xn xc xk : Int) (xl xs : Nat → Int) (s : Pap) (hs : pok s) (di : Nat → Int) :
    ∃ (ch n' c' k' : Int) (A' S' : Nat → Int) (o : ShT) (di' : Nat → Int), LM_En_undoFace fl n ci A S cnt dn st vl xn xc xk xl xs kn ed cm pc fa br cu cO aT fO sZ sT fR kY nM pO sC tO s.1 s.2.1 s.2.2 di = some (ch, n', c', k', A', S', o.1, o.2.1, o.2.2.1, o.2.2.2.1, o.2.2.2.2.1, o.2.2.2.2.2.1, o.2.2.2.2.2.2.1, o.2.2.2.2.2.2.2.1, o.2.2.2.2.2.2.2.2.1, o.2.2.2.2.2.2.2.2.2.1, o.2.2.2.2.2.2.2.2.2.2.1, o.2.2.2.2.2.2.2.2.2.2.2.1, o.2.2.2.2.2.2.2.2.2.2.2.2.1, o.2.2.2.2.2.2.2.2.2.2.2.2.2.1, o.2.2.2.2.2.2.2.2.2.2.2.2.2.2.1, o.2.2.2.2.2.2.2.2.2.2.2.2.2.2.2.1, o.2.2.2.2.2.2.2.2.2.2.2.2.2.2.2.2.1, o.2.2.2.2.2.2.2.2.2.2.2.2.2.2.2.2.2, (pp (unF d o.2.2.2.2.2.2.2.2.2.2.2.2.1 o.2.2.2.2.2.2.2.2.2.2.2.2.2.2.2.2.2 o.2.2.2.2.2.2.2.2.1 (nuv 0).toNat).1 s).1, (pp (unF d o.2.2.2.2.2.2.2.2.2.2.2.2.1 o.2.2.2.2.2.2.2.2.2.2.2.2.2.2.2.2.2 o.2.2.2.2.2.2.2.2.1 (nuv 0).toNat).1 s).2.1, (pp (unF d o.2.2.2.2.2.2.2.2.2.2.2.2.1 o.2.2.2.2.2.2.2.2.2.2.2.2.2.2.2.2.2 o.2.2.2.2.2.2.2.2.1 (nuv 0).toNat).1 s).2.2, di') ∧ ShO d o ∧ ((ch = 1 ∧ DA (unF d o.2.2.2.2.2.2.2.2.2.2.2.2.1 o.2.2.2.2.2.2.2.2.2.2.2.2.2.2.2.2.2 o.2.2.2.2.2.2.2.2.1 (nuv 0).toNat).2 n' c' A' S' ∧ k' = 0) ∨ (ch = 0 ∧ (unF d o.2.2.2.2.2.2.2.2.2.2.2.2.1 o.2.2.2.2.2.2.2.2.2.2.2.2.2.2.2.2.2 o.2.2.2.2.2.2.2.2.1 (nuv 0).toNat).2 = d)) := by
  obtain ⟨⟨kn', ed', cm', pc', fa', br', cu', cO', aT', fO', sZ', sT', fR', kY', nM', pO', sC', tO'⟩, s1, s2⟩ := C_shape fl (by omega) h n A S kn ed cm pc fa br cu cO aT fO sZ sT fR kY nM pO sC tO hD hK
  have s3 := s2
  obtain ⟨k1, k2, k3, k4, k5, k6, k7, k8, k9, k10, k11⟩ := s2
  dsimp only at k1 k2 k3 k4 k5 k6 k7 k8 k9 k10 k11
  have F4 := cnt_F k3
  have hn := h.1
  unfold isN at hv
  have e28 : ansL 28 = noL := by decide
  have g0 := C_num fl hL (i := 0) (by omega) (by omega)
  rw [show ((0 : Nat) : Int) = 0 from rfl, show nuv 0 = (((nuv 0).toNat : Nat) : Int) by omega] at g0
  unfold LM_En_undoFace LB_En_undoFace_0
  rw [s1, Option.bind_some]
  dsimp only
  rw [g0, Option.bind_some]
  by_cases c : (nuv 0).toNat < (rndz (tnz fR' tO' aT') (4 * d.1) (4 * d.1)).2.1
  · obtain ⟨q1, q2, q3, q4, q5⟩ := face_ok k3 c
    obtain ⟨i1, i2, _⟩ := face_it k3 c
    obtain ⟨n', c', k', A', S', u1, u2⟩ := C_undo fl (by omega) h k3 hD _ (by omega) sZ' sT' c (k10 _ c) (k9 _ c) q1 q2 i1 xn xc xk xl xs
    rw [← k6] at u1
    have uok := (undo_ok h k3 (k := (rndz (tnz fR' tO' aT') (4 * d.1) (4 * d.1)).2.2.2 (nuv 0).toNat) q1).2.2
    rw [u1, Option.bind_some]
    dsimp only
    by_cases c0 : (undoS d fR' tO' aT' ((rndz (tnz fR' tO' aT') (4 * d.1) (4 * d.1)).2.2.1 (nuv 0).toNat) ((rndz (tnz fR' tO' aT') (4 * d.1) (4 * d.1)).2.2.2 (nuv 0).toNat)).1 = 0
    · have eu : unF d fR' tO' aT' (nuv 0).toNat = (noL, d) := by unfold unF; rw [if_pos c, if_pos c0]
      rw [if_neg (by omega), P_answer fl hfl (by decide) s hs, Option.bind_some, e28]
      refine ⟨0, n', c', k', A', S', (kn', ed', cm', pc', fa', br', cu', cO', aT', fO', sZ', sT', fR', kY', nM', pO', sC', tO'), di, ?_, s3, Or.inr ⟨rfl, by rw [eu]⟩⟩
      rw [eu]
    · have eu : unF d fR' tO' aT' (nuv 0).toNat = (undL ((undoS d fR' tO' aT' ((rndz (tnz fR' tO' aT') (4 * d.1) (4 * d.1)).2.2.1 (nuv 0).toNat) ((rndz (tnz fR' tO' aT') (4 * d.1) (4 * d.1)).2.2.2 (nuv 0).toNat)).1 : Int), (undoS d fR' tO' aT' ((rndz (tnz fR' tO' aT') (4 * d.1) (4 * d.1)).2.2.1 (nuv 0).toNat) ((rndz (tnz fR' tO' aT') (4 * d.1) (4 * d.1)).2.2.2 (nuv 0).toNat)).2) := by unfold unF; rw [if_pos c, if_neg c0]
      obtain ⟨d1, p1⟩ := C_undone fl hfl (g := ((undoS d fR' tO' aT' ((rndz (tnz fR' tO' aT') (4 * d.1) (4 * d.1)).2.2.1 (nuv 0).toNat) ((rndz (tnz fR' tO' aT') (4 * d.1) (4 * d.1)).2.2.2 (nuv 0).toNat)).1 : Int)) (by omega) s hs di
      rw [if_pos (by omega), p1, Option.bind_some]
      obtain ⟨w1, w2⟩ := u2 c0
      refine ⟨1, n', c', k', A', S', (kn', ed', cm', pc', fa', br', cu', cO', aT', fO', sZ', sT', fR', kY', nM', pO', sC', tO'), d1, ?_, s3, Or.inl ⟨rfl, by rw [eu]; exact w1, w2⟩⟩
      rw [eu]
  · have eu : unF d fR' tO' aT' (nuv 0).toNat = (noL, d) := by unfold unF; rw [if_neg c]
    have u1 : LM_Mo_undo fl fa' aT' sZ' sT' fR' tO' n ci A S (((nuv 0).toNat : Nat) : Int) xn xc xk xl xs = some (0, xn, xc, xk, xl, xs) := by
      unfold LM_Mo_undo LB_Mo_undo_0 LB_Mo_undo_24
      rw [if_neg (by omega), if_pos (by omega)]
      rfl
    rw [u1, Option.bind_some]
    dsimp only
    rw [if_neg (by decide), P_answer fl hfl (by decide) s hs, Option.bind_some, e28]
    refine ⟨0, xn, xc, xk, xl, xs, (kn', ed', cm', pc', fa', br', cu', cO', aT', fO', sZ', sT', fR', kY', nM', pO', sC', tO'), di, ?_, s3, Or.inr ⟨rfl, by rw [eu]⟩⟩
    rw [eu]
