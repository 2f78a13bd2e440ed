theorem far4 {q x : Nat} (h : q / 4 ≠ x / 4) : q ≠ x ∧ q ≠ lv x ∧ q ≠ opp x ∧ q ≠ opp (lv x) := by
  refine ⟨fun e => h (by rw [e]), fun e => h (by rw [e]; unfold lv; omega), fun e => h (by rw [e, opp_div]), fun e => h (by rw [e, opp_div]; unfold lv; omega)⟩
theorem nr4 (x : Nat) : x ≠ lv x ∧ x ≠ opp x ∧ x ≠ opp (lv x) ∧ opp x ≠ lv x ∧ opp x ≠ opp (lv x) ∧ lv x ≠ opp (lv x) := by
  unfold opp lv; (repeat' split) <;> omega
theorem dv4 (x : Nat) : lv x / 4 = x / 4 ∧ opp x / 4 = x / 4 ∧ opp (lv x) / 4 = x / 4 := by
  refine ⟨by unfold lv; omega, opp_div x, by rw [opp_div]; unfold lv; omega⟩
section
variable {nm fr to at_ : Nat → Int}
theorem sl1_v {e : Nat} {A D : Nat} (hAD : (A = (to e).toNat ∧ D = (fr e).toNat) ∨ (A = (fr e).toNat ∧ D = (to e).toNat)) (hne : A / 4 ≠ D / 4) (old lb : Nat → Int) :
    sl1z fr to nm e old lb A = old (opp D) ∧ sl1z fr to nm e old lb D = old (opp A) ∧ sl1z fr to nm e old lb (opp A) = nm e ∧ sl1z fr to nm e old lb (opp D) = nm e ∧ ∀ x, x ≠ A → x ≠ D → x ≠ opp A → x ≠ opp D → sl1z fr to nm e old lb x = lb x := by
  unfold sl1z
  rcases hAD with ⟨a, b⟩ | ⟨a, b⟩
  · rw [← a, ← b]
    obtain ⟨v1, v2, v3, v4, v5⟩ := slE_v (fun w => hne w.symm) (nm e) old lb
    exact ⟨v2, v1, v4, v3, fun x h1 h2 h3 h4 => v5 x h2 h1 h4 h3⟩
  · rw [← a, ← b]
    obtain ⟨v1, v2, v3, v4, v5⟩ := slE_v hne (nm e) old lb
    exact ⟨v1, v2, v3, v4, fun x h1 h2 h3 h4 => v5 x h1 h2 h3 h4⟩
theorem J_sl {d : Dg} (hE : EdgA d.1 d.2.2.2 d.2.2.1 nm fr to at_) (h : Jd d) {s : Nat} (hs : s < 4 * d.1) (h3 : it (tnz fr to at_) 3 s = s) (c12 : arrz fr to s / 4 ≠ arrz fr to (tnz fr to at_ s) / 4) (c23 : arrz fr to (tnz fr to at_ s) / 4 ≠ arrz fr to (tnz fr to at_ (tnz fr to at_ s)) / 4) (c13 : arrz fr to s / 4 ≠ arrz fr to (tnz fr to at_ (tnz fr to at_ s)) / 4) :
    Jd (slD fr to nm (s / 2) (tnz fr to at_ s / 2) (tnz fr to at_ (tnz fr to at_ s) / 2) d) := by
  have t1 := (tn_closed hE).1 s hs
  have t2 := (tn_closed hE).1 _ t1
  have hh : tnz fr to at_ (tnz fr to at_ (tnz fr to at_ s)) = s := h3
  have d1 := dep_tn hE hs
  have d2 := dep_tn hE t1
  have d0 := dep_tn hE t2
  rw [hh] at d0
  have tcv : ∀ {w L : Int → Int}, VR d.1 d.2.2.2 (fun q => w (d.2.2.1 q)) (cv d.2.2.2 d.2.2.1 w L) → cv d.2.2.2 d.2.2.1 w L (dep fr to (tnz fr to at_ s)) = cv d.2.2.2 d.2.2.1 w L (dep fr to s) ∧ cv d.2.2.2 d.2.2.1 w L (dep fr to (tnz fr to at_ (tnz fr to at_ s))) = cv d.2.2.2 d.2.2.1 w L (dep fr to (tnz fr to at_ s)) := fun hv => ⟨cv_tn hE hv hs, cv_tn hE hv t1⟩
  obtain ⟨a01, a02, a03, a04⟩ := arr_ok hE hs
  obtain ⟨a11, a12, a13, a14⟩ := arr_ok hE t1
  obtain ⟨a21, a22, a23, a24⟩ := arr_ok hE t2
  obtain ⟨b01, b02, b03⟩ := dep_ok hE hs
  obtain ⟨b11, b12, b13⟩ := dep_ok hE t1
  obtain ⟨b21, b22, b23⟩ := dep_ok hE t2
  have ad0 := arr_dep (fr := fr) (to := to) s
  have ad1 := arr_dep (fr := fr) (to := to) (tnz fr to at_ s)
  have ad2 := arr_dep (fr := fr) (to := to) (tnz fr to at_ (tnz fr to at_ s))
  have two0 : ∀ q, q < 4 * d.1 → d.2.2.1 q = nm (s / 2) → q = arrz fr to s ∨ q = dep fr to s := fun q hq e => lab_two hE hs hq e
  have two1 : ∀ q, q < 4 * d.1 → d.2.2.1 q = nm (tnz fr to at_ s / 2) → q = arrz fr to (tnz fr to at_ s) ∨ q = dep fr to (tnz fr to at_ s) := fun q hq e => lab_two hE t1 hq e
  have two2 : ∀ q, q < 4 * d.1 → d.2.2.1 q = nm (tnz fr to at_ (tnz fr to at_ s) / 2) → q = arrz fr to (tnz fr to at_ (tnz fr to at_ s)) ∨ q = dep fr to (tnz fr to at_ (tnz fr to at_ s)) := fun q hq e => lab_two hE t2 hq e
  have out : ∀ {x y : Nat} {b : Bool} {t : Nat}, outQ d.2.2.2 x = decide (t % 2 = 1) → outQ d.2.2.2 y = decide (t % 2 = 0) → outQ d.2.2.2 y = !outQ d.2.2.2 x := fun {x y b t} h1 h2 => by
    rw [h1, h2]
    have : t % 2 = 0 ∨ t % 2 = 1 := by omega
    rcases this with e | e <;> simp [e]
  have o0 := out (b := true) a03 b03
  have o1 := out (b := true) a13 b13
  have o2 := out (b := true) a23 b23
  rw [d0] at b01 b02 b03 ad0 two0 o0 tcv
  rw [d1] at b11 b12 b13 ad1 two1 o1 tcv
  rw [d2] at b21 b22 b23 ad2 two2 o2 tcv
  obtain ⟨m0, hm0⟩ : ∃ m, m = nm (s / 2) := ⟨_, rfl⟩
  obtain ⟨m1, hm1⟩ : ∃ m, m = nm (tnz fr to at_ s / 2) := ⟨_, rfl⟩
  obtain ⟨m2, hm2⟩ : ∃ m, m = nm (tnz fr to at_ (tnz fr to at_ s) / 2) := ⟨_, rfl⟩
  obtain ⟨e0, he0⟩ : ∃ e, e = s / 2 := ⟨_, rfl⟩
  obtain ⟨e1, he1⟩ : ∃ e, e = tnz fr to at_ s / 2 := ⟨_, rfl⟩
  obtain ⟨e2, he2⟩ : ∃ e, e = tnz fr to at_ (tnz fr to at_ s) / 2 := ⟨_, rfl⟩
  obtain ⟨x0, hx0⟩ : ∃ x, x = arrz fr to s := ⟨_, rfl⟩
  obtain ⟨x1, hx1⟩ : ∃ x, x = arrz fr to (tnz fr to at_ s) := ⟨_, rfl⟩
  obtain ⟨x2, hx2⟩ : ∃ x, x = arrz fr to (tnz fr to at_ (tnz fr to at_ s)) := ⟨_, rfl⟩
  rw [← hx0] at c12 c13 a01 a03 a04 b11 b12 ad0 ad1 two0 two1 o0 o1 tcv
  rw [← hx1] at c12 c23 a11 a13 a14 b21 b22 ad1 ad2 two1 two2 o1 o2 tcv
  rw [← hx2] at c23 c13 a21 a23 a24 b01 b02 ad2 ad0 two2 two0 o2 o0 tcv
  rw [← he0] at hm0 ad0
  rw [← he1] at hm1 ad1
  rw [← he2] at hm2 ad2
  rw [← he0, ← hm0] at a04 b02 two0
  rw [← he1, ← hm1] at a14 b12 two1
  rw [← he2, ← hm2] at a24 b22 two2
  rw [← he0, ← he1, ← he2]
  clear hx0 hx1 hx2 he0 he1 he2 d0 d1 d2 a02 a12 a22 a03 a13 a23 b03 b13 b23 hh h3 t1 t2 hs out
  have n0 := dv4 x0
  have n1 := dv4 x1
  have n2 := dv4 x2
  have c21 : x2 / 4 ≠ x1 / 4 := fun e => c23 e.symm
  have c31 : x2 / 4 ≠ x0 / 4 := fun e => c13 e.symm
  have c10 : x1 / 4 ≠ x0 / 4 := fun e => c12 e.symm
  obtain ⟨u1, u2, u3, u4, u5⟩ := sl1_v (nm := nm) (A := x0) (D := lv x2) ad0 (by rw [n2.1]; exact c13) d.2.2.1 d.2.2.1
  obtain ⟨v1, v2, v3, v4, v5⟩ := sl1_v (nm := nm) (A := x1) (D := lv x0) ad1 (by rw [n0.1]; exact c10) d.2.2.1 (sl1z fr to nm e0 d.2.2.1 d.2.2.1)
  obtain ⟨y1, y2, y3, y4, y5⟩ := sl1_v (nm := nm) (A := x2) (D := lv x1) ad2 (by rw [n1.1]; exact c21) d.2.2.1 (sl1z fr to nm e1 d.2.2.1 (sl1z fr to nm e0 d.2.2.1 d.2.2.1))
  obtain ⟨lb', hlb'⟩ : ∃ lb', lb' = (slD fr to nm e0 e1 e2 d).2.2.1 := ⟨_, rfl⟩
  have lbe : lb' = sl1z fr to nm e2 d.2.2.1 (sl1z fr to nm e1 d.2.2.1 (sl1z fr to nm e0 d.2.2.1 d.2.2.1)) := hlb'
  rw [← lbe, ← hm2] at y3 y4
  rw [← lbe] at y1 y2 y5
  rw [← hm1] at v3 v4
  rw [← hm0] at u3 u4
  have Y : ∀ x, x / 4 ≠ x2 / 4 → x ≠ lv x1 → x ≠ opp (lv x1) → lb' x = sl1z fr to nm e1 d.2.2.1 (sl1z fr to nm e0 d.2.2.1 d.2.2.1) x := fun x h1 h2 h3 => y5 x (far4 h1).1 h2 (far4 h1).2.2.1 h3
  have V : ∀ x, x / 4 ≠ x1 / 4 → x ≠ lv x0 → x ≠ opp (lv x0) → sl1z fr to nm e1 d.2.2.1 (sl1z fr to nm e0 d.2.2.1 d.2.2.1) x = sl1z fr to nm e0 d.2.2.1 d.2.2.1 x := fun x h1 h2 h3 => v5 x (far4 h1).1 h2 (far4 h1).2.2.1 h3
  have r0 := nr4 x0
  have r1 := nr4 x1
  have r2 := nr4 x2
  have P2 : TriP d.1 d.2.2.2 d.2.2.1 lb' m2 x2 (lv x1) := ⟨a21, b21, a24, b22, o2, y4, y3, y2, y1⟩
  have Y0 : ∀ x, x / 4 = x0 / 4 → lb' x = sl1z fr to nm e1 d.2.2.1 (sl1z fr to nm e0 d.2.2.1 d.2.2.1) x := fun x hx => by
    have f1 : x / 4 ≠ x1 / 4 := by rw [hx]; exact c12
    exact Y x (by rw [hx]; exact c13) (far4 f1).2.1 (far4 f1).2.2.2
  have P1 : TriP d.1 d.2.2.2 d.2.2.1 lb' m1 x1 (lv x0) := ⟨a11, b11, a14, b12, o1, (Y0 _ n0.2.2).trans v4, (Y _ (by rw [n1.2.1]; exact c23) r1.2.2.2.1 r1.2.2.2.2.1).trans v3, (Y0 _ n0.1).trans v2, (Y _ c23 r1.1 r1.2.2.1).trans v1⟩
  have f21 : ∀ x, x / 4 = x2 / 4 → x ≠ lv x1 ∧ x ≠ opp (lv x1) → x / 4 = x2 / 4 := fun x hx _ => hx
  have Z0 : ∀ x, x / 4 = x0 / 4 → x ≠ lv x0 → x ≠ opp (lv x0) → lb' x = sl1z fr to nm e0 d.2.2.1 d.2.2.1 x := fun x hx h1 h2 => by
    rw [Y0 x hx, V x (by rw [hx]; exact c12) h1 h2]
  have Z2 : ∀ x, x / 4 = x2 / 4 → x ≠ x2 → x ≠ opp x2 → lb' x = sl1z fr to nm e0 d.2.2.1 d.2.2.1 x := fun x hx h1 h2 => by
    have f1 : x / 4 ≠ x1 / 4 := by rw [hx]; exact c21
    have f0 : x / 4 ≠ x0 / 4 := by rw [hx]; exact c31
    rw [y5 x h1 (far4 f1).2.1 h2 (far4 f1).2.2.2, V x f1 (far4 f0).2.1 (far4 f0).2.2.2]
  have P0 : TriP d.1 d.2.2.2 d.2.2.1 lb' m0 x0 (lv x2) := ⟨a01, b01, a04, b02, o0, (Z2 _ n2.2.2 (fun e => r2.2.2.1 e.symm) (fun e => r2.2.2.2.2.1 e.symm)).trans u4, (Z0 _ n0.2.1 r0.2.2.2.1 r0.2.2.2.2.1).trans u3, (Z2 _ n2.1 (fun e => r2.1 e.symm) (fun e => r2.2.2.2.1 e.symm)).trans u2, (Z0 _ rfl r0.1 r0.2.2.1).trans u1⟩
  have same : ∀ q, q / 4 ≠ x0 / 4 → q / 4 ≠ x1 / 4 → q / 4 ≠ x2 / 4 → lb' q = d.2.2.1 q := fun q k0 k1 k2 => by
    rw [Y q k2 (far4 k1).2.1 (far4 k1).2.2.2, V q k1 (far4 k0).2.1 (far4 k0).2.2.2, u5 q (far4 k0).1 (far4 k2).2.1 (far4 k0).2.2.1 (far4 k2).2.2.2]
  have m01 : m0 ≠ m1 := fun e => (two1 x0 a01 (by rw [a04, e])).elim (far4 c12).1 r0.1
  have m02 : m0 ≠ m2 := fun e => (two2 x0 a01 (by rw [a04, e])).elim (far4 c13).1 (far4 c12).2.1
  have m12 : m1 ≠ m2 := fun e => (two2 x1 a11 (by rw [a14, e])).elim (far4 c23).1 r1.1
  have outer : ∀ q, q < 4 * d.1 → q ≠ x0 → q ≠ x1 → q ≠ x2 → q ≠ lv x0 → q ≠ lv x1 → q ≠ lv x2 → d.2.2.1 q ≠ m0 ∧ d.2.2.1 q ≠ m1 ∧ d.2.2.1 q ≠ m2 := fun q hq k0 k1 k2 k3 k4 k5 =>
    ⟨fun e => (two0 q hq e).elim k0 k5, fun e => (two1 q hq e).elim k1 k3, fun e => (two2 q hq e).elim k2 k4⟩
  have ot0 : ∀ q, q < 4 * d.1 → q / 4 = x0 / 4 → q ≠ x0 → q ≠ lv x0 → d.2.2.1 q ≠ m0 ∧ d.2.2.1 q ≠ m1 ∧ d.2.2.1 q ≠ m2 := fun q hq hc h1 h2 => by
    have f1 : q / 4 ≠ x1 / 4 := by rw [hc]; exact c12
    have f2 : q / 4 ≠ x2 / 4 := by rw [hc]; exact c13
    exact outer q hq h1 (far4 f1).1 (far4 f2).1 h2 (far4 f1).2.1 (far4 f2).2.1
  have ot1 : ∀ q, q < 4 * d.1 → q / 4 = x1 / 4 → q ≠ x1 → q ≠ lv x1 → d.2.2.1 q ≠ m0 ∧ d.2.2.1 q ≠ m1 ∧ d.2.2.1 q ≠ m2 := fun q hq hc h1 h2 => by
    have f0 : q / 4 ≠ x0 / 4 := by rw [hc]; exact c10
    have f2 : q / 4 ≠ x2 / 4 := by rw [hc]; exact c23
    exact outer q hq (far4 f0).1 h1 (far4 f2).1 (far4 f0).2.1 h2 (far4 f2).2.1
  have ot2 : ∀ q, q < 4 * d.1 → q / 4 = x2 / 4 → q ≠ x2 → q ≠ lv x2 → d.2.2.1 q ≠ m0 ∧ d.2.2.1 q ≠ m1 ∧ d.2.2.1 q ≠ m2 := fun q hq hc h1 h2 => by
    have f0 : q / 4 ≠ x0 / 4 := by rw [hc]; exact c31
    have f1 : q / 4 ≠ x1 / 4 := by rw [hc]; exact c21
    exact outer q hq (far4 f0).1 (far4 f1).1 h1 (far4 f0).2.1 (far4 f1).2.1 h2
  have ou0 := ot0 (opp x0) (opp_lt a01) n0.2.1 (fun e => r0.2.1 e.symm) r0.2.2.2.1
  have ou1 := ot1 (opp x1) (opp_lt a11) n1.2.1 (fun e => r1.2.1 e.symm) r1.2.2.2.1
  have ou2 := ot2 (opp x2) (opp_lt a21) n2.2.1 (fun e => r2.2.1 e.symm) r2.2.2.2.1
  have ov0 := ot0 (opp (lv x0)) (opp_lt b11) n0.2.2 (fun e => r0.2.2.1 e.symm) (fun e => r0.2.2.2.2.2 e.symm)
  have ov1 := ot1 (opp (lv x1)) (opp_lt b21) n1.2.2 (fun e => r1.2.2.1 e.symm) (fun e => r1.2.2.2.2.2 e.symm)
  have ov2 := ot2 (opp (lv x2)) (opp_lt b01) n2.2.2 (fun e => r2.2.2.1 e.symm) (fun e => r2.2.2.2.2.2 e.symm)
  have otf : ∀ q, q < 4 * d.1 → q / 4 ≠ x0 / 4 → q / 4 ≠ x1 / 4 → q / 4 ≠ x2 / 4 → d.2.2.1 q ≠ m0 ∧ d.2.2.1 q ≠ m1 ∧ d.2.2.1 q ≠ m2 := fun q hq k0 k1 k2 =>
    outer q hq (far4 k0).1 (far4 k1).1 (far4 k2).1 (far4 k0).2.1 (far4 k1).2.1 (far4 k2).2.1
  clear Y V Y0 Z0 Z2 f21 outer ot0 ot1 ot2 r0 r1 r2 two0 two1 two2
  clear u1 u2 u3 u4 u5 v1 v2 v3 v4 v5 y1 y2 y3 y4 y5 ad0 ad1 ad2
  intro w hw
  have hw' : ∀ c, c < d.1 → kf d.2.2.2 lb' w c := fun c hc => by rw [hlb']; exact hw c hc
  have KP' : KP d.1 d.2.2.2 (fun q => w (lb' q)) := (KF_KP (fun _ _ => rfl)).1 hw'
  -- the flow before
  obtain ⟨w0, hw0⟩ : ∃ w0 : Int → Int, w0 = fun l => if l = m0 then w (d.2.2.1 (opp (lv x2))) + w (d.2.2.1 (opp x0)) - w m0 else if l = m1 then w (d.2.2.1 (opp (lv x0))) + w (d.2.2.1 (opp x1)) - w m1 else if l = m2 then w (d.2.2.1 (opp (lv x1))) + w (d.2.2.1 (opp x2)) - w m2 else w l := ⟨_, rfl⟩
  have w0o : ∀ l, l ≠ m0 ∧ l ≠ m1 ∧ l ≠ m2 → w0 l = w l := fun l hl => by
    rw [hw0]; show (if _ then _ else if _ then _ else if _ then _ else _) = _
    rw [if_neg hl.1, if_neg hl.2.1, if_neg hl.2.2]
  have W0 : TriW d.2.2.1 w w0 m0 x0 (lv x2) := ⟨by rw [hw0]; exact if_pos rfl, w0o _ ov2, w0o _ ou0⟩
  have W1 : TriW d.2.2.1 w w0 m1 x1 (lv x0) := ⟨by
    rw [hw0]; show (if _ then _ else if _ then _ else if _ then _ else _) = _
    rw [if_neg (fun e => m01 e.symm), if_pos rfl], w0o _ ov0, w0o _ ou1⟩
  have W2 : TriW d.2.2.1 w w0 m2 x2 (lv x1) := ⟨by
    rw [hw0]; show (if _ then _ else if _ then _ else if _ then _ else _) = _
    rw [if_neg (fun e => m02 e.symm), if_neg (fun e => m12 e.symm), if_pos rfl], w0o _ ov1, w0o _ ou2⟩
  have K0 := KP' (x0 / 4) (by omega)
  have K1 := KP' (x1 / 4) (by omega)
  have K2 := KP' (x2 / 4) (by omega)
  rw [sum_4 (fo_ d.2.2.2 (fun q => w (lb' q)))] at K0 K1 K2
  have kp0 : KP d.1 d.2.2.2 (fun q => w0 (d.2.2.1 q)) := fun c hc => by
    by_cases k0 : c = x0 / 4
    · subst k0
      rw [sum_4 (fo_ d.2.2.2 (fun q => w0 (d.2.2.1 q))), ← tri_kp P0 P1 W0 W1 rfl]; exact K0
    · by_cases k1 : c = x1 / 4
      · subst k1
        rw [sum_4 (fo_ d.2.2.2 (fun q => w0 (d.2.2.1 q))), ← tri_kp P1 P2 W1 W2 rfl]; exact K1
      · by_cases k2 : c = x2 / 4
        · subst k2
          rw [sum_4 (fo_ d.2.2.2 (fun q => w0 (d.2.2.1 q))), ← tri_kp P2 P0 W2 W0 rfl]; exact K2
        · have := KP' c hc
          have e : ∀ k, k < 4 → fo_ d.2.2.2 (fun q => w0 (d.2.2.1 q)) (4 * c + k) = fo_ d.2.2.2 (fun q => w (lb' q)) (4 * c + k) := fun k hk => fo_cg (by
            show w0 _ = w _
            have z : (4 * c + k) / 4 = c := by omega
            have z0 : (4 * c + k) / 4 ≠ x0 / 4 := by rw [z]; exact k0
            have z1 : (4 * c + k) / 4 ≠ x1 / 4 := by rw [z]; exact k1
            have z2 : (4 * c + k) / 4 ≠ x2 / 4 := by rw [z]; exact k2
            rw [same _ z0 z1 z2]
            exact w0o _ (otf _ (by omega) z0 z1 z2))
          have e0 := e 0 (by omega)
          rw [show 4 * c + 0 = 4 * c from rfl] at e0
          rw [e0, e 1 (by omega), e 2 (by omega), e 3 (by omega)]; exact this
  have kf0 : KFz d w0 := (KF_KP (n := d.1) (sg := d.2.2.2) (lb := d.2.2.1) (fun _ _ => rfl)).2 kp0
  obtain ⟨L0, hL0⟩ := h w0 kf0
  have hv := J_VR kf0 hL0
  obtain ⟨T1, T2⟩ := tcv hv
  obtain ⟨L, hL⟩ : ∃ L : Int → Int, L = fun l => if l = m0 then cv d.2.2.2 d.2.2.1 w0 L0 (opp (lv x1)) + (if outQ d.2.2.2 (lv x2) = true then 0 else w m0) else if l = m1 then cv d.2.2.2 d.2.2.1 w0 L0 (opp (lv x2)) + (if outQ d.2.2.2 (lv x0) = true then 0 else w m1) else if l = m2 then cv d.2.2.2 d.2.2.1 w0 L0 (opp (lv x0)) + (if outQ d.2.2.2 (lv x1) = true then 0 else w m2) else L0 l := ⟨_, rfl⟩
  have Lo : ∀ l, l ≠ m0 ∧ l ≠ m1 ∧ l ≠ m2 → L l = L0 l := fun l hl => by
    rw [hL]; show (if _ then _ else if _ then _ else if _ then _ else _) = _
    rw [if_neg hl.1, if_neg hl.2.1, if_neg hl.2.2]
  have L_0 : L m0 = cv d.2.2.2 d.2.2.1 w0 L0 (opp (lv x1)) + (if outQ d.2.2.2 (lv x2) = true then 0 else w m0) := by rw [hL]; exact if_pos rfl
  have L_1 : L m1 = cv d.2.2.2 d.2.2.1 w0 L0 (opp (lv x2)) + (if outQ d.2.2.2 (lv x0) = true then 0 else w m1) := by
    rw [hL]; show (if _ then _ else if _ then _ else if _ then _ else _) = _
    rw [if_neg (fun e => m01 e.symm), if_pos rfl]
  have L_2 : L m2 = cv d.2.2.2 d.2.2.1 w0 L0 (opp (lv x0)) + (if outQ d.2.2.2 (lv x1) = true then 0 else w m2) := by
    rw [hL]; show (if _ then _ else if _ then _ else if _ then _ else _) = _
    rw [if_neg (fun e => m02 e.symm), if_neg (fun e => m12 e.symm), if_pos rfl]
  have V0 := tri_vr P0 P1 P2 W0 W1 W2 rfl rfl rfl hv (T1.symm.trans T2.symm) K0 L_0 L_1 (Lo _ ov2) (Lo _ ou1)
  have V1 := tri_vr P1 P2 P0 W1 W2 W0 rfl rfl rfl hv T1 K1 L_1 L_2 (Lo _ ov0) (Lo _ ou2)
  have V2 := tri_vr P2 P0 P1 W2 W0 W1 rfl rfl rfl hv T2 K2 L_2 L_0 (Lo _ ov1) (Lo _ ou0)
  have VV : VR d.1 d.2.2.2 (fun q => w (lb' q)) (cv d.2.2.2 lb' w L) := fun r hr => by
    by_cases k0 : r / 4 = x0 / 4
    · exact V0 r k0
    · by_cases k1 : r / 4 = x1 / 4
      · exact V1 r k1
      · by_cases k2 : r / 4 = x2 / 4
        · exact V2 r k2
        · have v := hv r hr
          have ee : ∀ q, q / 4 = r / 4 → cv d.2.2.2 lb' w L q = cv d.2.2.2 d.2.2.1 w0 L0 q ∧ w (lb' q) = w0 (d.2.2.1 q) := fun q hq => by
            have z0 : q / 4 ≠ x0 / 4 := by rw [hq]; exact k0
            have z1 : q / 4 ≠ x1 / 4 := by rw [hq]; exact k1
            have z2 : q / 4 ≠ x2 / 4 := by rw [hq]; exact k2
            have oo := otf q (by omega) z0 z1 z2
            unfold cv
            rw [same q z0 z1 z2, Lo _ oo, w0o _ oo]; exact ⟨rfl, rfl⟩
          rw [(ee r rfl).1, (ee (lv r) (by unfold lv; omega)).1, v]
          exact (fo_cg (ee r rfl).2).symm
  refine ⟨L, fun c hc => ?_⟩
  have := VR_pt (sg := d.2.2.2) (lb := lb') (w := w) (L := L) VV (fun _ _ => rfl) (fun q hq => by
    cases o : outQ d.2.2.2 q
    · rw [lf_in o]
      have v := VV q hq
      rw [fo_in o, cv_in o] at v
      have v : L (lb' q) - w (lb' q) - cv d.2.2.2 lb' w L (lv q) = -(w (lb' q)) := v
      omega
    · rw [lf_out o, cv_out o]) c hc
  rw [hlb'] at this
  exact this
end
