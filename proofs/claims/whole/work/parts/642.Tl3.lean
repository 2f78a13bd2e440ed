abbrev SvT := Int × Int × Int × Int × (Nat → Int) × (Nat → Int) × (Nat → Int) × (Nat → Int) × (Nat → Int) × (Nat → Int) × (Nat → Int) × (Nat → Int) × (Nat → Int)
/-- the reference knows the shape of d -/
def SvM (d : Dg) (o : SvT) : Prop := o.1 = ((2 * d.1 : Nat) : Int) ∧ EdgA d.1 d.2.2.2 d.2.2.1 o.2.2.2.2.2.2.2.2.2.2.1 o.2.2.2.2.1 o.2.2.2.2.2.2.2.1 o.2.2.2.2.2.2.2.2.2.2.2.2 ∧ o.2.1 = ((cmR d.1 o.2.2.2.2.2.2.2.1 o.2.2.2.2.2.2.2.2.2.2.2.2 : Nat) : Int) ∧ o.2.2.1 = (((rndz (tnz o.2.2.2.2.1 o.2.2.2.2.2.2.2.1 o.2.2.2.2.2.2.2.2.2.2.2.2) (4 * d.1) (4 * d.1)).2.1 : Nat) : Int) ∧ o.2.2.2.1 = ((pcs o.2.2.2.2.1 o.2.2.2.2.2.2.2.1 d.1 (2 * d.1) : Nat) : Int) ∧ (∀ e, e < 2 * d.1 → o.2.2.2.2.2.2.2.2.2.1 e = ((nx o.2.2.2.2.2.2.2.1 o.2.2.2.2.2.2.2.2.2.2.2.2 e : Nat) : Int)) ∧ like (2 * d.1) o.2.2.2.2.2.1 (rndz (nx o.2.2.2.2.2.2.2.1 o.2.2.2.2.2.2.2.2.2.2.2.2) (2 * d.1) (2 * d.1)).1 ∧ like (4 * d.1) o.2.2.2.2.2.2.1 (rndz (tnz o.2.2.2.2.1 o.2.2.2.2.2.2.2.1 o.2.2.2.2.2.2.2.2.2.2.2.2) (4 * d.1) (4 * d.1)).1 ∧ rArr (rndz (tnz o.2.2.2.2.1 o.2.2.2.2.2.2.2.1 o.2.2.2.2.2.2.2.2.2.2.2.2) (4 * d.1) (4 * d.1)) o.2.2.2.2.2.2.2.2.1 ∧ (∀ y, y < d.1 → o.2.2.2.2.2.2.2.2.2.2.2.1 y = ((pcF o.2.2.2.2.1 o.2.2.2.2.2.2.2.1 (2 * d.1) y : Nat) : Int))
theorem M_surv (fl : Nat) (hfl : 200 ≤ fl) {d : Dg} (h : okD d) {n ci : Int} {A S : Nat → Int} (hD : DA d n ci A S) (ed cm fa pc : Int) (be co fo fi fd fw la pA pl : Nat → Int) : ∃ o, LM_Md_survey fl n A S ed cm fa pc be co fo fi fd fw la pA pl = some o ∧ SvM d o := by
  obtain ⟨e1, e2, hA, hS⟩ := hD
  obtain ⟨nm, fr, to, at_, hE⟩ := okD_Edg (okD_C h)
  have hE2 := Edg_like hS hA hE
  obtain ⟨be', co', fo', fi', fd', fw', la', pA', pl', r1, r2, r3, r4, r5, r6, r7⟩ := M_survey fl hfl h.1 (sg := S) (lb := A) (fun c hc => by rw [hS c hc]; exact h.2.2.1 c hc) hE2 ed cm fa pc be co fo fi fd fw la pA pl
  have r8 := Edg_like (like_sy hS) (like_sy hA) r2
  rw [← rn_congr hE2 r2, ← rt_congr hE2 r2] at r1
  rw [← rn_congr hE2 r2] at r4
  rw [← rt_congr hE2 r2] at r5 r6
  rw [← pcs_congr hE2 r2] at r1
  refine ⟨_, by rw [e1]; exact r1, rfl, r8, rfl, rfl, rfl, fun e he => ?_, r4, r5, r6, fun y hy => ?_⟩
  · rw [nx_congr hE r8 he]; exact r3 e he
  · rw [pc_congr hE r8]; exact r7 y hy
abbrev SiT := Int × Int × Int × Int × (Nat → Int) × Int × Int × Int × Int × Int × Int × (Nat → Int) × (Nat → Int) × (Nat → Int) × (Nat → Int) × (Nat → Int) × (Nat → Int) × (Nat → Int) × (Nat → Int) × (Nat → Int) × (Nat → Int) × (Nat → Int) × (Nat → Int) × (Nat → Int) × Int × Int × (Nat → Int) × (Nat → Int) × Int × Int × Int × (Nat → Int) × Int × Int × Int × Int × Int × Int × (Nat → Int) × (Nat → Int) × (Nat → Int) × (Nat → Int) × (Nat → Int) × (Nat → Int) × (Nat → Int) × (Nat → Int) × (Nat → Int) × (Nat → Int) × (Nat → Int) × (Nat → Int) × (Nat → Int)
/-- the first face that is undone -/
def stF (d : Dg) (fr to at_ : Nat → Int) : Nat → Nat → Nat × Dg
  | 0, _ => (0, d)
  | r + 1, f => if (undoS d fr to at_ ((rndz (tnz fr to at_) (4 * d.1) (4 * d.1)).2.2.1 f) ((rndz (tnz fr to at_) (4 * d.1) (4 * d.1)).2.2.2 f)).1 = 0 then stF d fr to at_ r (f + 1) else undoS d fr to at_ ((rndz (tnz fr to at_) (4 * d.1) (4 * d.1)).2.2.1 f) ((rndz (tnz fr to at_) (4 * d.1) (4 * d.1)).2.2.2 f)
def stS (d : Dg) (fr to at_ : Nat → Int) : Nat × Dg := stF d fr to at_ (rndz (tnz fr to at_) (4 * d.1) (4 * d.1)).2.1 0
section
variable {d : Dg} {nm fr to at_ nm' fr' to' at' : Nat → Int}
theorem stF_congr (h : EdgA d.1 d.2.2.2 d.2.2.1 nm fr to at_) (h' : EdgA d.1 d.2.2.2 d.2.2.1 nm' fr' to' at') : ∀ r f, f + r = (rndz (tnz fr to at_) (4 * d.1) (4 * d.1)).2.1 → stF d fr' to' at' r f = stF d fr to at_ r f := by
  intro r
  induction r with
  | zero => intro f _; rfl
  | succ r ih =>
    intro f hf
    unfold stF
    rw [rt_congr h h', undo_congr h h' (face_ok h (show f < (rndz (tnz fr to at_) (4 * d.1) (4 * d.1)).2.1 by omega)).1, ih (f + 1) (by omega)]
theorem stS_congr (h : EdgA d.1 d.2.2.2 d.2.2.1 nm fr to at_) (h' : EdgA d.1 d.2.2.2 d.2.2.1 nm' fr' to' at') : stS d fr' to' at' = stS d fr to at_ := by
  unfold stS
  rw [rt_congr h h']
  exact stF_congr h h' _ 0 (Nat.zero_add _)
theorem stF_ok (h : okD d) (hJ : Jd d) (hE : EdgA d.1 d.2.2.2 d.2.2.1 nm fr to at_) : ∀ r f, f + r = (rndz (tnz fr to at_) (4 * d.1) (4 * d.1)).2.1 → (okD (stF d fr to at_ r f).2 ∧ Jd (stF d fr to at_ r f).2) ∧ (stF d fr to at_ r f).2.1 + (stF d fr to at_ r f).1 = d.1 ∧ (stF d fr to at_ r f).1 ≤ 2 := by
  intro r
  induction r with
  | zero => intro f _; exact ⟨⟨h, hJ⟩, rfl, by show 0 ≤ 2; omega⟩
  | succ r ih =>
    intro f hf
    have hf' : f < (rndz (tnz fr to at_) (4 * d.1) (4 * d.1)).2.1 := by omega
    obtain ⟨k1, k2, k3, k4, k5⟩ := face_ok hE hf'
    obtain ⟨i1, i2, _⟩ := face_it hE hf'
    unfold stF
    split
    · exact ih (f + 1) (by omega)
    · obtain ⟨u1, u2, u3⟩ := undo_ok h hE (k := (rndz (tnz fr to at_) (4 * d.1) (4 * d.1)).2.2.2 f) k1
      exact ⟨⟨u1, J_undo hE hJ k1 k2 i1 i2⟩, u2, u3⟩
end
/-- what SIMPLIFY makes -/
def SiR : Nat → Dg → Nat → Dg → Prop
  | 0, _, _, _ => False
  | t + 1, d, g, d' => ∃ nm fr to at_, EdgA d.1 d.2.2.2 d.2.2.1 nm fr to at_ ∧ ((stS d fr to at_).1 = 0 ∧ g = 0 ∧ d' = d ∨ (stS d fr to at_).1 ≠ 0 ∧ ∃ g', g = (stS d fr to at_).1 + g' ∧ SiR t (stS d fr to at_).2 g' d')
theorem Si_one : ∀ (t t' : Nat) (d : Dg) (g g' : Nat) (e e' : Dg), SiR t d g e → SiR t' d g' e' → g = g' ∧ e = e' := by
  intro t
  induction t with
  | zero => intro t' d g g' e e' h; exact absurd h id
  | succ t ih =>
    intro t' d g g' e e' h h'
    cases t' with
    | zero => exact absurd h' id
    | succ t' =>
      obtain ⟨nm, fr, to, at_, hE, h⟩ := h
      obtain ⟨nm', fr', to', at', hE', h'⟩ := h'
      rw [stS_congr hE hE'] at h'
      rcases h with ⟨a1, a2, a3⟩ | ⟨a1, g1, a2, a3⟩
      · rcases h' with ⟨b1, b2, b3⟩ | ⟨b1, _⟩
        · exact ⟨by rw [a2, b2], by rw [a3, b3]⟩
        · exact absurd a1 b1
      · rcases h' with ⟨b1, _⟩ | ⟨b1, g2, b2, b3⟩
        · exact absurd b1 a1
        · obtain ⟨q1, q2⟩ := ih t' _ _ _ _ _ a3 b3
          exact ⟨by rw [a2, b2, q1], q2⟩
theorem Si_ok : ∀ (t : Nat) (d : Dg) (g : Nat) (e : Dg), okD d → Jd d → SiR t d g e → okD e ∧ Jd e := by
  intro t
  induction t with
  | zero => intro d g e _ _ h; exact absurd h id
  | succ t ih =>
    intro d g e ho hJ h
    obtain ⟨nm, fr, to, at_, hE, h⟩ := h
    rcases h with ⟨a1, a2, a3⟩ | ⟨a1, g1, a2, a3⟩
    · rw [a3]; exact ⟨ho, hJ⟩
    · obtain ⟨q1, q2⟩ := (stF_ok ho hJ hE (rndz (tnz fr to at_) (4 * d.1) (4 * d.1)).2.1 0 (Nat.zero_add _)).1
      exact ih _ _ _ q1 q2 a3
section
variable {d : Dg} {nm fr to at_ : Nat → Int}
theorem si41 (fl : Nat) (hfl : 2000 ≤ fl) (h : okD d) (xn xc xk xed xcm xpc xfa xbr xcu : Int) (xl xaO xcO xaT xfO xsZ xsT xfR xkY xnM xpO xsC xtO xs : Nat → Int) (hE : EdgA d.1 d.2.2.2 d.2.2.1 xnM xfR xtO xaT) (hD : DA d xn xc xl xs) (hF : xfa = (((rndz (tnz xfR xtO xaT) (4 * d.1) (4 * d.1)).2.1 : Nat) : Int)) (hZ : rLen (rndz (tnz xfR xtO xaT) (4 * d.1) (4 * d.1)) xsZ) (hT : rArr (rndz (tnz xfR xtO xaT) (4 * d.1) (4 * d.1)) xsT) (n0 c0 : Int) (A0 S0 : Nat → Int) (kb : Int → Int → Int → Int → Int → Int → (Nat → Int) → Int → Int → Int → Int → Int → Int → (Nat → Int) → (Nat → Int) → (Nat → Int) → (Nat → Int) → (Nat → Int) → (Nat → Int) → (Nat → Int) → (Nat → Int) → (Nat → Int) → (Nat → Int) → (Nat → Int) → (Nat → Int) → (Nat → Int) → Int → Int → (Nat → Int) → (Nat → Int) → Int → Int → Int → (Nat → Int) → Int → Int → Int → Int → Int → Int → (Nat → Int) → (Nat → Int) → (Nat → Int) → (Nat → Int) → (Nat → Int) → (Nat → Int) → (Nat → Int) → (Nat → Int) → (Nat → Int) → (Nat → Int) → (Nat → Int) → (Nat → Int) → (Nat → Int) → Option (Int × Int × Int × Int × (Nat → Int) × Int × Int × Int × Int × Int × Int × (Nat → Int) × (Nat → Int) × (Nat → Int) × (Nat → Int) × (Nat → Int) × (Nat → Int) × (Nat → Int) × (Nat → Int) × (Nat → Int) × (Nat → Int) × (Nat → Int) × (Nat → Int) × (Nat → Int) × Int × Int × (Nat → Int) × (Nat → Int) × Int × Int × Int × (Nat → Int) × Int × Int × Int × Int × Int × Int × (Nat → Int) × (Nat → Int) × (Nat → Int) × (Nat → Int) × (Nat → Int) × (Nat → Int) × (Nat → Int) × (Nat → Int) × (Nat → Int) × (Nat → Int) × (Nat → Int) × (Nat → Int) × (Nat → Int))) (x1 x3 : Int) (psz po_ : Int) (pb pd : Nat → Int) (yed ycm ypc yfa ybr ycu : Int) (yaO ycO yaT yfO ysZ ysT yfR ykY ynM ypO ysC ytO : Nat → Int) :
    ∀ (r nn f : Nat) (yn yc yk : Int) (yl ys : Nat → Int), f + r = (rndz (tnz xfR xtO xaT) (4 * d.1) (4 * d.1)).2.1 → r + 1 < nn → ∃ (f' yn' yc' yk' : Int) (yl' ys' : Nat → Int), LB_En_simplify_41 fl n0 c0 A0 S0 kb nn x1 0 x3 (f : Int) xn xc xk xl xed xcm xpc xfa xbr xcu xaO xcO xaT xfO xsZ xsT xfR xkY xnM xpO xsC xtO xs psz po_ pb pd yn yc yk yl yed ycm ypc yfa ybr ycu yaO ycO yaT yfO ysZ ysT yfR ykY ynM ypO ysC ytO ys = LB_En_simplify_81 fl n0 c0 A0 S0 kb x1 ((stF d xfR xtO xaT r f).1 : Int) x3 f' xn xc xk xl xed xcm xpc xfa xbr xcu xaO xcO xaT xfO xsZ xsT xfR xkY xnM xpO xsC xtO xs psz po_ pb pd yn' yc' yk' yl' yed ycm ypc yfa ybr ycu yaO ycO yaT yfO ysZ ysT yfR ykY ynM ypO ysC ytO ys' ∧ ((stF d xfR xtO xaT r f).1 ≠ 0 → DA (stF d xfR xtO xaT r f).2 yn' yc' yl' ys' ∧ yk' = 0) := by
  have F4 := cnt_F hE
  have hn := h.1
  intro r
  induction r with
  | zero =>
    intro nn f yn yc yk yl ys hf hnn
    obtain ⟨nn, rfl⟩ : ∃ r, nn = r + 1 := ⟨nn - 1, by omega⟩
    refine ⟨(f : Int), yn, yc, yk, yl, ys, ?_, fun w => absurd rfl w⟩
    rw [LB_En_simplify_41, if_pos (by omega)]
    rfl
  | succ r ih =>
    intro nn f yn yc yk yl ys hf hnn
    obtain ⟨nn, rfl⟩ : ∃ r, nn = r + 2 := ⟨nn - 2, by omega⟩
    have hf' : f < (rndz (tnz xfR xtO xaT) (4 * d.1) (4 * d.1)).2.1 := by omega
    obtain ⟨k1, k2, k3, k4, k5⟩ := face_ok hE hf'
    obtain ⟨i1, i2, _⟩ := face_it hE hf'
    obtain ⟨n', c', k', A', S', u1, u2⟩ := C_undo fl (by omega) h hE hD (rndz (tnz xfR xtO xaT) (4 * d.1) (4 * d.1)).2.1 (by omega) xsZ xsT hf' (hT f hf') (hZ f hf') k1 k2 i1 yn yc yk yl ys
    rw [← hF] at u1
    rw [LB_En_simplify_41, if_neg (by omega), if_neg (fun g => g rfl), u1, Option.bind_some, if_pos (by omega), show ((f : Int) + 1) = ((f + 1 : Nat) : Int) by omega]
    dsimp only
    by_cases c : (undoS d xfR xtO xaT ((rndz (tnz xfR xtO xaT) (4 * d.1) (4 * d.1)).2.2.1 f) ((rndz (tnz xfR xtO xaT) (4 * d.1) (4 * d.1)).2.2.2 f)).1 = 0
    · have es : stF d xfR xtO xaT (r + 1) f = stF d xfR xtO xaT r (f + 1) := if_pos c
      rw [es, c]
      exact ih (nn + 1) (f + 1) n' c' k' A' S' (by omega) (by omega)
    · have es : stF d xfR xtO xaT (r + 1) f = undoS d xfR xtO xaT ((rndz (tnz xfR xtO xaT) (4 * d.1) (4 * d.1)).2.2.1 f) ((rndz (tnz xfR xtO xaT) (4 * d.1) (4 * d.1)).2.2.2 f) := if_neg c
      rw [es]
      refine ⟨((f + 1 : Nat) : Int), n', c', k', A', S', ?_, u2⟩
      rw [LB_En_simplify_41]
      by_cases c2 : xfa ≤ ((f + 1 : Nat) : Int)
      · rw [if_pos c2]
      · rw [if_neg c2, if_pos (by omega)]
end
theorem si17 (fl : Nat) (hfl : 2000 ≤ fl) (n0 c0 : Int) (A0 S0 : Nat → Int) (s : Pap) (hs : pok s) :
    ∀ (t nn : Nat) (e : Dg) (g : Nat) (x2 : Int) (xn xc xk xed xcm xpc xfa xbr xcu : Int) (xl xaO xcO xaT xfO xsZ xsT xfR xkY xnM xpO xsC xtO xs : Nat → Int) (yn yc yk yed ycm ypc yfa ybr ycu : Int) (yl yaO ycO yaT yfO ysZ ysT yfR ykY ynM ypO ysC ytO ys : Nat → Int) (pd : Nat → Int), okD e → Jd e → e.1 ≤ t → t ≤ 20 → 0 < x2 → g + e.1 ≤ 20 → t + 1 < nn → DA e xn xc xl xs → ShK e (xk, xed, xcm, xpc, xfa, xbr, xcu, xcO, xaT, xfO, xsZ, xsT, xfR, xkY, xnM, xpO, xsC, xtO) →
    ∃ (o : SiT) (g' : Nat) (e' : Dg), LB_En_simplify_17 fl n0 c0 A0 S0 nn (g : Int) x2 (20 - (t : Int)) xn xc xk xl xed xcm xpc xfa xbr xcu xaO xcO xaT xfO xsZ xsT xfR xkY xnM xpO xsC xtO xs s.1 s.2.1 s.2.2 pd yn yc yk yl yed ycm ypc yfa ybr ycu yaO ycO yaT yfO ysZ ysT yfR ykY ynM ypO ysC ytO ys = some o ∧ SiR (t + 1) e g' e' ∧ (o.1 = 1 ∧ DA e' o.2.1 o.2.2.1 o.2.2.2.2.1 o.2.2.2.2.2.2.2.2.2.2.2.2.2.2.2.2.2.2.2.2.2.2.2.1 ∧ ShK e' (o.2.2.2.1, o.2.2.2.2.2.1, o.2.2.2.2.2.2.1, o.2.2.2.2.2.2.2.1, o.2.2.2.2.2.2.2.2.1, o.2.2.2.2.2.2.2.2.2.1, o.2.2.2.2.2.2.2.2.2.2.1, o.2.2.2.2.2.2.2.2.2.2.2.2.1, o.2.2.2.2.2.2.2.2.2.2.2.2.2.1, o.2.2.2.2.2.2.2.2.2.2.2.2.2.2.1, o.2.2.2.2.2.2.2.2.2.2.2.2.2.2.2.1, o.2.2.2.2.2.2.2.2.2.2.2.2.2.2.2.2.1, o.2.2.2.2.2.2.2.2.2.2.2.2.2.2.2.2.2.1, o.2.2.2.2.2.2.2.2.2.2.2.2.2.2.2.2.2.2.1, o.2.2.2.2.2.2.2.2.2.2.2.2.2.2.2.2.2.2.2.1, o.2.2.2.2.2.2.2.2.2.2.2.2.2.2.2.2.2.2.2.2.1, o.2.2.2.2.2.2.2.2.2.2.2.2.2.2.2.2.2.2.2.2.2.1, o.2.2.2.2.2.2.2.2.2.2.2.2.2.2.2.2.2.2.2.2.2.2.1) ∧ (o.2.2.2.2.2.2.2.2.2.2.2.2.2.2.2.2.2.2.2.2.2.2.2.2.1, o.2.2.2.2.2.2.2.2.2.2.2.2.2.2.2.2.2.2.2.2.2.2.2.2.2.1, o.2.2.2.2.2.2.2.2.2.2.2.2.2.2.2.2.2.2.2.2.2.2.2.2.2.2.1) = pp (undL (g + (g' : Int))) s) := by
  have fin : ∀ (g : Nat) (x2 x3 : Int) (e' : Dg) (xn xc xk xed xcm xpc xfa xbr xcu : Int) (xl xaO xcO xaT xfO xsZ xsT xfR xkY xnM xpO xsC xtO xs : Nat → Int) (yn yc yk yed ycm ypc yfa ybr ycu : Int) (yl yaO ycO yaT yfO ysZ ysT yfR ykY ynM ypO ysC ytO ys : Nat → Int) (pd : Nat → Int), g ≤ 20 → DA e' xn xc xl xs → ShK e' (xk, xed, xcm, xpc, xfa, xbr, xcu, xcO, xaT, xfO, xsZ, xsT, xfR, xkY, xnM, xpO, xsC, xtO) → ∃ o : SiT, LB_En_simplify_115 fl n0 c0 A0 S0 (g : Int) x2 x3 xn xc xk xl xed xcm xpc xfa xbr xcu xaO xcO xaT xfO xsZ xsT xfR xkY xnM xpO xsC xtO xs s.1 s.2.1 s.2.2 pd yn yc yk yl yed ycm ypc yfa ybr ycu yaO ycO yaT yfO ysZ ysT yfR ykY ynM ypO ysC ytO ys = some o ∧ (o.1 = 1 ∧ DA e' o.2.1 o.2.2.1 o.2.2.2.2.1 o.2.2.2.2.2.2.2.2.2.2.2.2.2.2.2.2.2.2.2.2.2.2.2.1 ∧ ShK e' (o.2.2.2.1, o.2.2.2.2.2.1, o.2.2.2.2.2.2.1, o.2.2.2.2.2.2.2.1, o.2.2.2.2.2.2.2.2.1, o.2.2.2.2.2.2.2.2.2.1, o.2.2.2.2.2.2.2.2.2.2.1, o.2.2.2.2.2.2.2.2.2.2.2.2.1, o.2.2.2.2.2.2.2.2.2.2.2.2.2.1, o.2.2.2.2.2.2.2.2.2.2.2.2.2.2.1, o.2.2.2.2.2.2.2.2.2.2.2.2.2.2.2.1, o.2.2.2.2.2.2.2.2.2.2.2.2.2.2.2.2.1, o.2.2.2.2.2.2.2.2.2.2.2.2.2.2.2.2.2.1, o.2.2.2.2.2.2.2.2.2.2.2.2.2.2.2.2.2.2.1, o.2.2.2.2.2.2.2.2.2.2.2.2.2.2.2.2.2.2.2.1, o.2.2.2.2.2.2.2.2.2.2.2.2.2.2.2.2.2.2.2.2.1, o.2.2.2.2.2.2.2.2.2.2.2.2.2.2.2.2.2.2.2.2.2.1, o.2.2.2.2.2.2.2.2.2.2.2.2.2.2.2.2.2.2.2.2.2.2.1) ∧ (o.2.2.2.2.2.2.2.2.2.2.2.2.2.2.2.2.2.2.2.2.2.2.2.2.1, o.2.2.2.2.2.2.2.2.2.2.2.2.2.2.2.2.2.2.2.2.2.2.2.2.2.1, o.2.2.2.2.2.2.2.2.2.2.2.2.2.2.2.2.2.2.2.2.2.2.2.2.2.2.1) = pp (undL (g : Int)) s) := fun g x2 x3 e' xn xc xk xed xcm xpc xfa xbr xcu xl xaO xcO xaT xfO xsZ xsT xfR xkY xnM xpO xsC xtO xs yn yc yk yed ycm ypc yfa ybr ycu yl yaO ycO yaT yfO ysZ ysT yfR ykY ynM ypO ysC ytO ys pd hg hD hK => by
    obtain ⟨d1, p1⟩ := C_undone fl hfl (g := (g : Int)) (by omega) s hs pd
    unfold LB_En_simplify_115
    rw [p1, Option.bind_some]
    exact ⟨_, rfl, rfl, hD, hK, rfl⟩
  intro t
  induction t with
  | zero =>
    intro nn e g x2 xn xc xk xed xcm xpc xfa xbr xcu xl xaO xcO xaT xfO xsZ xsT xfR xkY xnM xpO xsC xtO xs yn yc yk yed ycm ypc yfa ybr ycu yl yaO ycO yaT yfO ysZ ysT yfR ykY ynM ypO ysC ytO ys pd ho hJ h0 ht hx2 hg hnn hD hK
    obtain ⟨nn, rfl⟩ : ∃ r, nn = r + 1 := ⟨nn - 1, by omega⟩
    obtain ⟨nm, fr, to, at_, hE⟩ := okD_Edg (okD_C ho)
    have F4 := cnt_F hE
    obtain ⟨o, p1, p2⟩ := fin g x2 (20 - ((0 : Nat) : Int)) e xn xc xk xed xcm xpc xfa xbr xcu xl xaO xcO xaT xfO xsZ xsT xfR xkY xnM xpO xsC xtO xs yn yc yk yed ycm ypc yfa ybr ycu yl yaO ycO yaT yfO ysZ ysT yfR ykY ynM ypO ysC ytO ys pd (by omega) hD hK
    rw [LB_En_simplify_17, if_pos (by omega)]
    refine ⟨o, 0, e, p1, ⟨nm, fr, to, at_, hE, Or.inl ⟨?_, rfl, rfl⟩⟩, ?_⟩
    · unfold stS
      have : (rndz (tnz fr to at_) (4 * e.1) (4 * e.1)).2.1 = 0 := by omega
      rw [this]
      rfl
    · rw [show (g : Int) + ((0 : Nat) : Int) = (g : Int) by omega]; exact p2
  | succ t ih =>
    intro nn e g x2 xn xc xk xed xcm xpc xfa xbr xcu xl xaO xcO xaT xfO xsZ xsT xfR xkY xnM xpO xsC xtO xs yn yc yk yed ycm ypc yfa ybr ycu yl yaO ycO yaT yfO ysZ ysT yfR ykY ynM ypO ysC ytO ys pd ho hJ h0 ht hx2 hg hnn hD hK
    obtain ⟨nn, rfl⟩ : ∃ r, nn = r + 2 := ⟨nn - 2, by omega⟩
    obtain ⟨⟨kn', ed', cm', pc', fa', br', cu', cO', aT', fO', sZ', sT', fR', kY', nM', pO', sC', tO'⟩, s1, s2⟩ := C_shape fl (by omega) ho xn xl xs xk xed xcm xpc xfa xbr xcu xcO xaT xfO xsZ xsT xfR xkY xnM xpO xsC xtO hD hK
    have s3 := s2
    obtain ⟨k1, k2, k3, k4, k5, k6, k7, k8, k9, k10, k11⟩ := s2
    dsimp only at k1 k2 k3 k4 k5 k6 k7 k8 k9 k10 k11
    rw [LB_En_simplify_17, if_neg (by omega), if_neg (by omega), s1, Option.bind_some]
    dsimp only
    obtain ⟨f', yn', yc', yk', yl', ys', p1, p2⟩ := si41 fl hfl ho xn xc kn' ed' cm' pc' fa' br' cu' xl xaO cO' aT' fO' sZ' sT' fR' kY' nM' pO' sC' tO' xs k3 hD k6 k9 k10 n0 c0 A0 S0 (LB_En_simplify_17 fl n0 c0 A0 S0 (nn + 1)) (g : Int) (20 - ((t + 1 : Nat) : Int)) s.1 s.2.1 s.2.2 pd yed ycm ypc yfa ybr ycu yaO ycO yaT yfO ysZ ysT yfR ykY ynM ypO ysC ytO _ fl 0 yn yc yk yl ys (Nat.zero_add _) (by have := cnt_F k3; have := ho.1; omega)
    rw [show ((0 : Nat) : Int) = 0 from rfl] at p1
    rw [p1]
    have so := stF_ok ho hJ k3 (rndz (tnz fR' tO' aT') (4 * e.1) (4 * e.1)).2.1 0 (Nat.zero_add _)
    unfold LB_En_simplify_81 LB_En_simplify_109
    by_cases c : (stF e fR' tO' aT' (rndz (tnz fR' tO' aT') (4 * e.1) (4 * e.1)).2.1 0).1 = 0
    · rw [if_pos (by omega), if_pos (by omega), c]
      obtain ⟨o, q1, q2⟩ := fin g 0 (20 - ((t + 1 : Nat) : Int) + 1) e xn xc kn' ed' cm' pc' fa' br' cu' xl xaO cO' aT' fO' sZ' sT' fR' kY' nM' pO' sC' tO' xs yn' yc' yk' yed ycm ypc yfa ybr ycu yl' yaO ycO yaT yfO ysZ ysT yfR ykY ynM ypO ysC ytO ys' pd (by omega) hD (Or.inr s3)
      refine ⟨o, 0, e, ?_, ⟨nM', fR', tO', aT', k3, Or.inl ⟨c, rfl, rfl⟩⟩, ?_⟩
      · rw [LB_En_simplify_17]
        rw [show (((0 : Nat) : Int)) = 0 from rfl]
        by_cases c2 : 20 ≤ 20 - ((t + 1 : Nat) : Int) + 1
        · rw [if_pos c2]; exact q1
        · rw [if_neg c2, if_pos (by omega)]; exact q1
      · rw [show (g : Int) + ((0 : Nat) : Int) = (g : Int) by omega]; exact q2
    · obtain ⟨u1, u2⟩ := p2 c
      rw [if_neg (by omega), if_pos (by omega), if_pos (by omega), show 20 - ((t + 1 : Nat) : Int) + 1 = 20 - (t : Int) by omega, show (g : Int) + (((stF e fR' tO' aT' (rndz (tnz fR' tO' aT') (4 * e.1) (4 * e.1)).2.1 0).1 : Nat) : Int) = ((g + (stF e fR' tO' aT' (rndz (tnz fR' tO' aT') (4 * e.1) (4 * e.1)).2.1 0).1 : Nat) : Int) by omega]
      obtain ⟨o, g', e', q1, q2, q3⟩ := ih (nn + 1) (stF e fR' tO' aT' (rndz (tnz fR' tO' aT') (4 * e.1) (4 * e.1)).2.1 0).2 (g + (stF e fR' tO' aT' (rndz (tnz fR' tO' aT') (4 * e.1) (4 * e.1)).2.1 0).1) (((stF e fR' tO' aT' (rndz (tnz fR' tO' aT') (4 * e.1) (4 * e.1)).2.1 0).1 : Nat) : Int) yn' yc' yk' yed ycm ypc yfa ybr ycu yl' yaO ycO yaT yfO ysZ ysT yfR ykY ynM ypO ysC ytO ys' xn xc kn' ed' cm' pc' fa' br' cu' xl xaO cO' aT' fO' sZ' sT' fR' kY' nM' pO' sC' tO' xs pd so.1.1 so.1.2 (by omega) (by omega) (by omega) (by omega) (by omega) u1 (Or.inl u2)
      refine ⟨o, (stF e fR' tO' aT' (rndz (tnz fR' tO' aT') (4 * e.1) (4 * e.1)).2.1 0).1 + g', e', q1, ⟨nM', fR', tO', aT', k3, Or.inr ⟨c, g', rfl, q2⟩⟩, ?_⟩
      rw [show (g : Int) + (((stF e fR' tO' aT' (rndz (tnz fR' tO' aT') (4 * e.1) (4 * e.1)).2.1 0).1 + g' : Nat) : Int) = ((g + (stF e fR' tO' aT' (rndz (tnz fR' tO' aT') (4 * e.1) (4 * e.1)).2.1 0).1 : Nat) : Int) + (g' : Int) by omega]
      exact q3
theorem C_simplify (fl : Nat) (hfl : 2000 ≤ fl) {d : Dg} (h : okD d) (hJ : Jd d) {n0 c0 : Int} {A0 S0 : Nat → Int} (hD : DA d n0 c0 A0 S0) (xn xc xk xed xcm xpc xfa xbr xcu : Int) (xl xaO xcO xaT xfO xsZ xsT xfR xkY xnM xpO xsC xtO xs : Nat → Int) (yn yc yk yed ycm ypc yfa ybr ycu : Int) (yl yaO ycO yaT yfO ysZ ysT yfR ykY ynM ypO ysC ytO ys : Nat → Int) (s : Pap) (hs : pok s) (pd : Nat → Int) :
    ∃ (o : SiT) (g' : Nat) (e' : Dg), LM_En_simplify fl n0 c0 A0 S0 xn xc xk xl xed xcm xpc xfa xbr xcu xaO xcO xaT xfO xsZ xsT xfR xkY xnM xpO xsC xtO xs s.1 s.2.1 s.2.2 pd yn yc yk yl yed ycm ypc yfa ybr ycu yaO ycO yaT yfO ysZ ysT yfR ykY ynM ypO ysC ytO ys = some o ∧ SiR 21 d g' e' ∧ (o.1 = 1 ∧ DA e' o.2.1 o.2.2.1 o.2.2.2.2.1 o.2.2.2.2.2.2.2.2.2.2.2.2.2.2.2.2.2.2.2.2.2.2.2.1 ∧ ShK e' (o.2.2.2.1, o.2.2.2.2.2.1, o.2.2.2.2.2.2.1, o.2.2.2.2.2.2.2.1, o.2.2.2.2.2.2.2.2.1, o.2.2.2.2.2.2.2.2.2.1, o.2.2.2.2.2.2.2.2.2.2.1, o.2.2.2.2.2.2.2.2.2.2.2.2.1, o.2.2.2.2.2.2.2.2.2.2.2.2.2.1, o.2.2.2.2.2.2.2.2.2.2.2.2.2.2.1, o.2.2.2.2.2.2.2.2.2.2.2.2.2.2.2.1, o.2.2.2.2.2.2.2.2.2.2.2.2.2.2.2.2.1, o.2.2.2.2.2.2.2.2.2.2.2.2.2.2.2.2.2.1, o.2.2.2.2.2.2.2.2.2.2.2.2.2.2.2.2.2.2.1, o.2.2.2.2.2.2.2.2.2.2.2.2.2.2.2.2.2.2.2.1, o.2.2.2.2.2.2.2.2.2.2.2.2.2.2.2.2.2.2.2.2.1, o.2.2.2.2.2.2.2.2.2.2.2.2.2.2.2.2.2.2.2.2.2.1, o.2.2.2.2.2.2.2.2.2.2.2.2.2.2.2.2.2.2.2.2.2.2.1) ∧ (o.2.2.2.2.2.2.2.2.2.2.2.2.2.2.2.2.2.2.2.2.2.2.2.2.1, o.2.2.2.2.2.2.2.2.2.2.2.2.2.2.2.2.2.2.2.2.2.2.2.2.2.1, o.2.2.2.2.2.2.2.2.2.2.2.2.2.2.2.2.2.2.2.2.2.2.2.2.2.2.1) = pp (undL (g' : Int)) s) := by
  obtain ⟨A', S', c1, c2⟩ := C_copy fl h.1 hD xn xc xk xl xs
  unfold LM_En_simplify LB_En_simplify_0
  rw [c1, Option.bind_some]
  dsimp only
  have := si17 fl hfl n0 c0 A0 S0 s hs 20 fl d 0 1 n0 c0 0 xed xcm xpc xfa xbr xcu A' xaO xcO xaT xfO xsZ xsT xfR xkY xnM xpO xsC xtO S' yn yc yk yed ycm ypc yfa ybr ycu yl yaO ycO yaT yfO ysZ ysT yfR ykY ynM ypO ysC ytO ys pd h hJ h.1 (by omega) (by omega) (by have := h.1; omega) (by omega) c2 (Or.inl rfl)
  rw [show (20 : Int) - ((20 : Nat) : Int) = 0 from rfl, show ((0 : Nat) : Int) = 0 from rfl] at this
  obtain ⟨o, g', e', q1, q2, q3⟩ := this
  rw [Int.zero_add] at q3
  exact ⟨o, g', e', q1, q2, q3⟩
