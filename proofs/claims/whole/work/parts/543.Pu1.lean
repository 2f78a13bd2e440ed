theorem WFS_cut2 {S : Nat → Prop} {sg lb lb' : Nat → Int} (h : WFS S sg lb) {t i1 o1 i2 o2 : Nat} {u v : Int} (ht : S t) (ot : outQ sg t = false) (f1 : ¬ S i1) (f2 : ¬ S o1) (f3 : ¬ S i2) (f4 : ¬ S o2) (d1 : i1 ≠ i2) (d2 : o1 ≠ o2) (q1 : outQ sg i1 = false) (q2 : outQ sg o1 = true) (q3 : outQ sg i2 = false) (q4 : outQ sg o2 = true) (hu : ∀ q, S q → lb q ≠ u) (hv : ∀ q, S q → lb q ≠ v) (huv : u ≠ v)
    (l1 : lb' t = v) (l2 : lb' i1 = lb t) (l3 : lb' o1 = u) (l4 : lb' i2 = u) (l5 : lb' o2 = v) (l6 : ∀ q, S q → q ≠ t → lb' q = lb q) : WFS (fun q => (S q ∨ q = i1 ∨ q = o1) ∨ q = i2 ∨ q = o2) sg lb' := by
  have nio : ∀ {i o : Nat}, outQ sg i = false → outQ sg o = true → i ≠ o := fun a b w => by rw [w, b] at a; cases a
  have n1 : ∀ {i : Nat}, ¬ S i → i ≠ t := fun a w => a (by rw [w]; exact ht)
  have c1 := WFS_cut (lb' := fun q => if q = t then u else if q = i1 then lb t else if q = o1 then u else lb q) h (t := t) (x := i1) (y := o1) (b := u) ht ot f1 f2 q1 q2 hu (by show (if t = t then u else _) = u; rw [if_pos rfl]) (by show (if i1 = t then u else if i1 = i1 then lb t else _) = lb t; rw [if_neg (n1 f1), if_pos rfl]) (by show (if o1 = t then u else if o1 = i1 then lb t else if o1 = o1 then u else _) = u; rw [if_neg (n1 f2), if_neg (fun w => nio q1 q2 w.symm), if_pos rfl]) (fun q hq hne => by
      show (if q = t then u else if q = i1 then lb t else if q = o1 then u else lb q) = lb q
      rw [if_neg hne, if_neg (fun w => f1 (by rw [← w]; exact hq)), if_neg (fun w => f2 (by rw [← w]; exact hq))])
  exact WFS_cut (lb' := lb') c1 (t := t) (x := i2) (y := o2) (b := v) (Or.inl ht) ot (fun w => by
      rcases w with w | w | w
      · exact f3 w
      · exact d1 w.symm
      · exact nio q3 q2 w) (fun w => by
      rcases w with w | w | w
      · exact f4 w
      · exact nio q1 q4 w.symm
      · exact d2 w.symm) q3 q4 (fun q hq w => by
      have w : (if q = t then u else if q = i1 then lb t else if q = o1 then u else lb q) = v := w
      rcases hq with hq | hq | hq
      · by_cases e : q = t
        · rw [if_pos e] at w; exact huv w
        · rw [if_neg e, if_neg (fun w => f1 (by rw [← w]; exact hq)), if_neg (fun w => f2 (by rw [← w]; exact hq))] at w
          exact hv q hq w
      · rw [hq, if_neg (n1 f1), if_pos rfl] at w; exact hv t ht w
      · rw [hq, if_neg (n1 f2), if_neg (fun w => nio q1 q2 w.symm), if_pos rfl] at w; exact huv w) l1 (by rw [l4]; show u = (if t = t then u else _); rw [if_pos rfl]) l5 (fun q hq hne => by
      show lb' q = (if q = t then u else if q = i1 then lb t else if q = o1 then u else lb q)
      rw [if_neg hne]
      rcases hq with hq | hq | hq
      · rw [if_neg (fun w => f1 (by rw [← w]; exact hq)), if_neg (fun w => f2 (by rw [← w]; exact hq)), l6 q hq hne]
      · rw [hq, if_pos rfl, l2]
      · rw [hq, if_neg (fun w => nio q1 q2 w.symm), if_pos rfl, l3])
/-- two edges, each cut twice -/
theorem WF_pu {n : Nat} {sg sg' lb lb' : Nat → Int} (h : WF0 n sg lb) (hs : ∀ q, q < 4 * n → outQ sg' q = outQ sg q) {te tf : Nat} (hte : te < 4 * n) (htf : tf < 4 * n) (oe : outQ sg te = false) (of : outQ sg tf = false) (hne : te ≠ tf) {u v w z : Int} (hu : ¬ usedL n lb u) (hv : ¬ usedL n lb v) (hw : ¬ usedL n lb w) (hz : ¬ usedL n lb z) (uv : u < v) (vw : v < w) (wz : w < z)
    {a1 b1 a2 b2 c1 e1 c2 e2 : Nat} (ins : outQ sg' a1 = false ∧ outQ sg' a2 = false ∧ outQ sg' c1 = false ∧ outQ sg' c2 = false) (outs : outQ sg' b1 = true ∧ outQ sg' b2 = true ∧ outQ sg' e1 = true ∧ outQ sg' e2 = true) (ge : 4 * n ≤ a1 ∧ 4 * n ≤ b1 ∧ 4 * n ≤ a2 ∧ 4 * n ≤ b2 ∧ 4 * n ≤ c1 ∧ 4 * n ≤ e1 ∧ 4 * n ≤ c2 ∧ 4 * n ≤ e2) (ia : a1 ≠ a2 ∧ a1 ≠ c1 ∧ a1 ≠ c2 ∧ a2 ≠ c1 ∧ a2 ≠ c2 ∧ c1 ≠ c2) (ib : b1 ≠ b2 ∧ b1 ≠ e1 ∧ b1 ≠ e2 ∧ b2 ≠ e1 ∧ b2 ≠ e2 ∧ e1 ≠ e2)
    (all : ∀ q, q < 4 * (n + 2) ↔ q < 4 * n ∨ q = a1 ∨ q = b1 ∨ q = a2 ∨ q = b2 ∨ q = c1 ∨ q = e1 ∨ q = c2 ∨ q = e2)
    (l1 : lb' te = v) (l2 : lb' a1 = lb te) (l3 : lb' b1 = u) (l4 : lb' a2 = u) (l5 : lb' b2 = v) (m1 : lb' tf = z) (m2 : lb' c1 = lb tf) (m3 : lb' e1 = w) (m4 : lb' c2 = w) (m5 : lb' e2 = z) (l6 : ∀ q, q < 4 * n → q ≠ te → q ≠ tf → lb' q = lb q) : WF0 (n + 2) sg' lb' := by
  have nio : ∀ {i o : Nat}, outQ sg' i = false → outQ sg' o = true → i ≠ o := fun a b w => by rw [w, b] at a; cases a
  have h0 : WFS (fun q => q < 4 * n) sg' lb := WFS_eq h (fun q => Iff.rfl) (fun q _ => rfl) hs
  have nt : ∀ x : Nat, 4 * n ≤ x → x ≠ tf := fun x hx w => by omega
  have k1 := WFS_cut2 (lb' := up lb' tf (lb tf)) h0 (t := te) (i1 := a1) (o1 := b1) (i2 := a2) (o2 := b2) (u := u) (v := v) hte (by rw [hs te hte]; exact oe) (by show ¬ a1 < 4 * n; omega) (by show ¬ b1 < 4 * n; omega) (by show ¬ a2 < 4 * n; omega) (by show ¬ b2 < 4 * n; omega) ia.1 ib.1 ins.1 outs.1 ins.2.1 outs.2.1 (fun q hq x => hu ⟨q, hq, x⟩) (fun q hq x => hv ⟨q, hq, x⟩) (by omega)
    (by rw [up_ne _ _ hne]; exact l1) (by rw [up_ne _ _ (nt a1 ge.1)]; exact l2) (by rw [up_ne _ _ (nt b1 ge.2.1)]; exact l3) (by rw [up_ne _ _ (nt a2 ge.2.2.1)]; exact l4) (by rw [up_ne _ _ (nt b2 ge.2.2.2.1)]; exact l5) (fun q hq hq2 => by
      by_cases e : q = tf
      · rw [e, up_eq]
      · rw [up_ne _ _ e]; exact l6 q hq hq2 e)
  have cases1 : ∀ {x : Int}, (∀ q, q < 4 * n → lb q ≠ x) → u ≠ x → v ≠ x → ∀ q, ((q < 4 * n ∨ q = a1 ∨ q = b1) ∨ q = a2 ∨ q = b2) → up lb' tf (lb tf) q ≠ x := by
    intro x hx ux vx q hq
    rcases hq with (hq | hq | hq) | hq | hq
    · by_cases e : q = tf
      · rw [e, up_eq]; exact hx tf htf
      · rw [up_ne _ _ e]
        by_cases e2 : q = te
        · rw [e2, l1]; exact vx
        · rw [l6 q hq e2 e]; exact hx q hq
    · rw [hq, up_ne _ _ (nt a1 ge.1), l2]; exact hx te hte
    · rw [hq, up_ne _ _ (nt b1 ge.2.1), l3]; exact ux
    · rw [hq, up_ne _ _ (nt a2 ge.2.2.1), l4]; exact ux
    · rw [hq, up_ne _ _ (nt b2 ge.2.2.2.1), l5]; exact vx
  have fresh : ∀ x, 4 * n ≤ x → x ≠ a1 → x ≠ b1 → x ≠ a2 → x ≠ b2 → ¬ ((x < 4 * n ∨ x = a1 ∨ x = b1) ∨ x = a2 ∨ x = b2) := fun x _ _ _ _ _ y => by omega
  have k2 := WFS_cut2 (lb' := lb') k1 (t := tf) (i1 := c1) (o1 := e1) (i2 := c2) (o2 := e2) (u := w) (v := z) (Or.inl (Or.inl htf)) (by rw [hs tf htf]; exact of)
    (fresh c1 ge.2.2.2.2.1 (fun x => ia.2.1 x.symm) (nio ins.2.2.1 outs.1) (fun x => ia.2.2.2.1 x.symm) (nio ins.2.2.1 outs.2.1))
    (fresh e1 ge.2.2.2.2.2.1 (fun x => nio ins.1 outs.2.2.1 x.symm) (fun x => ib.2.1 x.symm) (fun x => nio ins.2.1 outs.2.2.1 x.symm) (fun x => ib.2.2.2.1 x.symm))
    (fresh c2 ge.2.2.2.2.2.2.1 (fun x => ia.2.2.1 x.symm) (nio ins.2.2.2 outs.1) (fun x => ia.2.2.2.2.1 x.symm) (nio ins.2.2.2 outs.2.1))
    (fresh e2 ge.2.2.2.2.2.2.2 (fun x => nio ins.1 outs.2.2.2 x.symm) (fun x => ib.2.2.1 x.symm) (fun x => nio ins.2.1 outs.2.2.2 x.symm) (fun x => ib.2.2.2.2.1 x.symm))
    ia.2.2.2.2.2 ib.2.2.2.2.2 ins.2.2.1 outs.2.2.1 ins.2.2.2 outs.2.2.2 (cases1 (fun q hq x => hw ⟨q, hq, x⟩) (by omega) (by omega)) (cases1 (fun q hq x => hz ⟨q, hq, x⟩) (by omega) (by omega)) (by omega)
    m1 (by rw [up_eq]; exact m2) m3 m4 m5 (fun q _ hq => by rw [up_ne _ _ hq])
  refine WFS_eq k2 (fun q => ?_) (fun _ _ => rfl) (fun _ _ => rfl)
  rw [all q]
  constructor
  · intro x; rcases x with x | x | x | x | x | x | x | x | x <;> simp [x]
  · intro x; rcases x with ((((x | x | x) | x | x) | x | x) | x | x) <;> simp [x]
def puM (x lx u : Int) : Int := if x < 0 then u else lx
/-- what PUSH makes: the passes of x and of y at the two new crossings -/
def puX (x y ov lx ly u v w z : Int) (d : Dg) : Dg :=
  let s : Int := if (decide (ov ≠ 0) != (decide (x < 0) != decide (y < 0))) then 1 else -1
  let xM := if x < 0 then u else lx
  let xMB := if x < 0 then v else u
  let xN := if x < 0 then lx else u
  let xNB := if x < 0 then u else v
  let yM := if y < 0 then ly else w
  let yMB := if y < 0 then w else z
  let yN := if y < 0 then w else ly
  let yNB := if y < 0 then z else w
  if ov = 0 then crD (-s) xN xNB yN yNB (crD s xM xMB yM yMB d) else crD (-s) yN yNB xN xNB (crD s yM yMB xM xMB d)
theorem out8 (n : Nat) (sg : Nat → Int) {s : Int} (hs : s = 1 ∨ s = -1) : (∀ q, q < 4 * n → outQ (up (up sg n s) (n + 1) (-s)) q = outQ sg q) ∧ outQ (up (up sg n s) (n + 1) (-s)) (4 * n) = false ∧ outQ (up (up sg n s) (n + 1) (-s)) (4 * n + 2) = true ∧ outQ (up (up sg n s) (n + 1) (-s)) (4 * n + (if s ≤ 0 then 1 else 3)) = false ∧ outQ (up (up sg n s) (n + 1) (-s)) (4 * n + (if s ≤ 0 then 3 else 1)) = true ∧ outQ (up (up sg n s) (n + 1) (-s)) (4 * (n + 1)) = false ∧ outQ (up (up sg n s) (n + 1) (-s)) (4 * (n + 1) + 2) = true ∧ outQ (up (up sg n s) (n + 1) (-s)) (4 * (n + 1) + (if -s ≤ 0 then 1 else 3)) = false ∧ outQ (up (up sg n s) (n + 1) (-s)) (4 * (n + 1) + (if -s ≤ 0 then 3 else 1)) = true := by
  obtain ⟨a, b, c, e⟩ := out_new n sg hs
  obtain ⟨a', b', c', e'⟩ := out_new (n + 1) (up sg n s) (s := -s) (by omega)
  refine ⟨fun q hq => by rw [out_up (by omega), out_up hq], by rw [out_up (by omega)]; exact a, by rw [out_up (by omega)]; exact b, by rw [out_up (by split <;> omega)]; exact c, by rw [out_up (by split <;> omega)]; exact e, a', b', c', e'⟩
theorem lab8 (n : Nat) (s li lo ui uo s2 li2 lo2 ui2 uo2 : Int) (lb : Nat → Int) : let F := crL4 (n + 1) s2 li2 lo2 ui2 uo2 (crL4 n s li lo ui uo lb)
    (∀ q, q < 4 * n → F q = lb q) ∧ F (4 * n) = li ∧ F (4 * n + 2) = lo ∧ F (4 * n + (if s ≤ 0 then 1 else 3)) = ui ∧ F (4 * n + (if s ≤ 0 then 3 else 1)) = uo ∧ F (4 * (n + 1)) = li2 ∧ F (4 * (n + 1) + 2) = lo2 ∧ F (4 * (n + 1) + (if s2 ≤ 0 then 1 else 3)) = ui2 ∧ F (4 * (n + 1) + (if s2 ≤ 0 then 3 else 1)) = uo2 := by
  intro F
  obtain ⟨a, b, c, e, f⟩ := crL4_v n s li lo ui uo lb
  obtain ⟨a', b', c', e', f'⟩ := crL4_v (n + 1) s2 li2 lo2 ui2 uo2 (crL4 n s li lo ui uo lb)
  refine ⟨fun q hq => by show crL4 _ _ _ _ _ _ _ q = _; rw [f' q (by omega), f q hq], (f' _ (by omega)).trans a, (f' _ (by omega)).trans b, (f' _ (by split <;> omega)).trans c, (f' _ (by split <;> omega)).trans e, a', b', c', e'⟩
theorem okD_pu {d : Dg} (h : okD d) (hn : d.1 + 2 ≤ 20) {x y ov u v w z : Int} {te tf : Nat} (hte : te < 4 * d.1) (htf : tf < 4 * d.1) (oe : outQ d.2.2.2 te = false) (of : outQ d.2.2.2 tf = false) (hne : te ≠ tf) (hu : ¬ usedL d.1 d.2.2.1 u) (hv : ¬ usedL d.1 d.2.2.1 v) (hw : ¬ usedL d.1 d.2.2.1 w) (hz : ¬ usedL d.1 d.2.2.1 z) (u1 : 1 ≤ u) (uv : u < v) (vw : v < w) (wz : w < z) (z1 : z ≤ 44) : okD (puX x y ov (d.2.2.1 te) (d.2.2.1 tf) u v w z (stDz tf z (stDz te v d))) := by
  have hl := h.2.2.2.1
  have le := hl te hte
  have lfz := hl tf htf
  have st : ∀ q, q < 4 * d.1 → 1 ≤ (stDz tf z (stDz te v d)).2.2.1 q ∧ (stDz tf z (stDz te v d)).2.2.1 q ≤ 9999 := fun q hq => by
    show 1 ≤ up (up d.2.2.1 te v) tf z q ∧ up (up d.2.2.1 te v) tf z q ≤ 9999
    by_cases e : q = tf
    · rw [e, up_eq]; omega
    · rw [up_ne _ _ e]
      by_cases e2 : q = te
      · rw [e2, up_eq]; omega
      · rw [up_ne _ _ e2]; exact hl q hq
  have ste : (stDz tf z (stDz te v d)).2.2.1 te = v := by show up (up d.2.2.1 te v) tf z te = v; rw [up_ne _ _ hne, up_eq]
  have stf : (stDz tf z (stDz te v d)).2.2.1 tf = z := by show up (up d.2.2.1 te v) tf z tf = z; rw [up_eq]
  have stq : ∀ q, q ≠ te → q ≠ tf → (stDz tf z (stDz te v d)).2.2.1 q = d.2.2.1 q := fun q a b => by show up (up d.2.2.1 te v) tf z q = _; rw [up_ne _ _ b, up_ne _ _ a]
  have key : ∀ (s li lo ui uo li2 lo2 ui2 uo2 : Int), s = 1 ∨ s = -1 → (∀ a, a = li ∨ a = lo ∨ a = ui ∨ a = uo ∨ a = li2 ∨ a = lo2 ∨ a = ui2 ∨ a = uo2 → 1 ≤ a ∧ a ≤ 9999) →
      WF0 (d.1 + 2) (up (up d.2.2.2 d.1 s) (d.1 + 1) (-s)) (crL4 (d.1 + 1) (-s) li2 lo2 ui2 uo2 (crL4 d.1 s li lo ui uo (stDz tf z (stDz te v d)).2.2.1)) → okD (crD (-s) li2 lo2 ui2 uo2 (crD s li lo ui uo (stDz tf z (stDz te v d)))) := fun s li lo ui uo li2 lo2 ui2 uo2 hs hb hw => by
    refine ⟨hn, h.2.1, sgn_cr (n := d.1 + 1) (sgn_cr h.2.2.1 hs) (by omega), crL4_all (n := d.1 + 1) (P := fun x => 1 ≤ x ∧ x ≤ 9999) (crL4_all (n := d.1) (P := fun x => 1 ≤ x ∧ x ≤ 9999) st (hb _ (by simp)) (hb _ (by simp)) (hb _ (by simp)) (hb _ (by simp))) (hb _ (by simp)) (hb _ (by simp)) (hb _ (by simp)) (hb _ (by simp)), hw⟩
  have wf : ∀ (s li lo ui uo li2 lo2 ui2 uo2 : Int) (a1 b1 a2 b2 c1 e1 c2 e2 : Nat), s = 1 ∨ s = -1 →
      ((a1 = 4 * d.1 ∧ b1 = 4 * d.1 + 2 ∧ c2 = 4 * d.1 + (if s ≤ 0 then 1 else 3) ∧ e2 = 4 * d.1 + (if s ≤ 0 then 3 else 1) ∧ a2 = 4 * (d.1 + 1) ∧ b2 = 4 * (d.1 + 1) + 2 ∧ c1 = 4 * (d.1 + 1) + (if -s ≤ 0 then 1 else 3) ∧ e1 = 4 * (d.1 + 1) + (if -s ≤ 0 then 3 else 1)) ∨
       (a1 = 4 * d.1 ∧ b1 = 4 * d.1 + 2 ∧ c1 = 4 * d.1 + (if s ≤ 0 then 1 else 3) ∧ e1 = 4 * d.1 + (if s ≤ 0 then 3 else 1) ∧ a2 = 4 * (d.1 + 1) ∧ b2 = 4 * (d.1 + 1) + 2 ∧ c2 = 4 * (d.1 + 1) + (if -s ≤ 0 then 1 else 3) ∧ e2 = 4 * (d.1 + 1) + (if -s ≤ 0 then 3 else 1)) ∨
       (a2 = 4 * d.1 ∧ b2 = 4 * d.1 + 2 ∧ c2 = 4 * d.1 + (if s ≤ 0 then 1 else 3) ∧ e2 = 4 * d.1 + (if s ≤ 0 then 3 else 1) ∧ a1 = 4 * (d.1 + 1) ∧ b1 = 4 * (d.1 + 1) + 2 ∧ c1 = 4 * (d.1 + 1) + (if -s ≤ 0 then 1 else 3) ∧ e1 = 4 * (d.1 + 1) + (if -s ≤ 0 then 3 else 1)) ∨
       (a2 = 4 * d.1 ∧ b2 = 4 * d.1 + 2 ∧ c1 = 4 * d.1 + (if s ≤ 0 then 1 else 3) ∧ e1 = 4 * d.1 + (if s ≤ 0 then 3 else 1) ∧ a1 = 4 * (d.1 + 1) ∧ b1 = 4 * (d.1 + 1) + 2 ∧ c2 = 4 * (d.1 + 1) + (if -s ≤ 0 then 1 else 3) ∧ e2 = 4 * (d.1 + 1) + (if -s ≤ 0 then 3 else 1)) ∨
       (c1 = 4 * d.1 ∧ e1 = 4 * d.1 + 2 ∧ a1 = 4 * d.1 + (if s ≤ 0 then 1 else 3) ∧ b1 = 4 * d.1 + (if s ≤ 0 then 3 else 1) ∧ c2 = 4 * (d.1 + 1) ∧ e2 = 4 * (d.1 + 1) + 2 ∧ a2 = 4 * (d.1 + 1) + (if -s ≤ 0 then 1 else 3) ∧ b2 = 4 * (d.1 + 1) + (if -s ≤ 0 then 3 else 1)) ∨
       (c1 = 4 * d.1 ∧ e1 = 4 * d.1 + 2 ∧ a2 = 4 * d.1 + (if s ≤ 0 then 1 else 3) ∧ b2 = 4 * d.1 + (if s ≤ 0 then 3 else 1) ∧ c2 = 4 * (d.1 + 1) ∧ e2 = 4 * (d.1 + 1) + 2 ∧ a1 = 4 * (d.1 + 1) + (if -s ≤ 0 then 1 else 3) ∧ b1 = 4 * (d.1 + 1) + (if -s ≤ 0 then 3 else 1)) ∨
       (c2 = 4 * d.1 ∧ e2 = 4 * d.1 + 2 ∧ a1 = 4 * d.1 + (if s ≤ 0 then 1 else 3) ∧ b1 = 4 * d.1 + (if s ≤ 0 then 3 else 1) ∧ c1 = 4 * (d.1 + 1) ∧ e1 = 4 * (d.1 + 1) + 2 ∧ a2 = 4 * (d.1 + 1) + (if -s ≤ 0 then 1 else 3) ∧ b2 = 4 * (d.1 + 1) + (if -s ≤ 0 then 3 else 1)) ∨
       (c2 = 4 * d.1 ∧ e2 = 4 * d.1 + 2 ∧ a2 = 4 * d.1 + (if s ≤ 0 then 1 else 3) ∧ b2 = 4 * d.1 + (if s ≤ 0 then 3 else 1) ∧ c1 = 4 * (d.1 + 1) ∧ e1 = 4 * (d.1 + 1) + 2 ∧ a1 = 4 * (d.1 + 1) + (if -s ≤ 0 then 1 else 3) ∧ b1 = 4 * (d.1 + 1) + (if -s ≤ 0 then 3 else 1))) →
      (let F := crL4 (d.1 + 1) (-s) li2 lo2 ui2 uo2 (crL4 d.1 s li lo ui uo (stDz tf z (stDz te v d)).2.2.1)
       F a1 = d.2.2.1 te ∧ F b1 = u ∧ F a2 = u ∧ F b2 = v ∧ F c1 = d.2.2.1 tf ∧ F e1 = w ∧ F c2 = w ∧ F e2 = z) →
      WF0 (d.1 + 2) (up (up d.2.2.2 d.1 s) (d.1 + 1) (-s)) (crL4 (d.1 + 1) (-s) li2 lo2 ui2 uo2 (crL4 d.1 s li lo ui uo (stDz tf z (stDz te v d)).2.2.1)) := by
    intro s li lo ui uo li2 lo2 ui2 uo2 a1 b1 a2 b2 c1 e1 c2 e2 hs hp hF
    obtain ⟨o0, o1, o2, o3, o4, o5, o6, o7, o8⟩ := out8 d.1 d.2.2.2 hs
    obtain ⟨k0, _⟩ := lab8 d.1 s li lo ui uo (-s) li2 lo2 ui2 uo2 (stDz tf z (stDz te v d)).2.2.1
    obtain ⟨F1, F2, F3, F4, F5, F6, F7, F8⟩ := hF
    refine WF_pu h.2.2.2.2 o0 hte htf oe of hne hu hv hw hz uv vw wz (a1 := a1) (b1 := b1) (a2 := a2) (b2 := b2) (c1 := c1) (e1 := e1) (c2 := c2) (e2 := e2) ?_ ?_ ?_ ?_ ?_ ?_ ((k0 te hte).trans ste) F1 F2 F3 F4 ((k0 tf htf).trans stf) F5 F6 F7 F8 (fun q hq n1 n2 => (k0 q hq).trans (stq q n1 n2))
    · rcases hp with hp | hp | hp | hp | hp | hp | hp | hp <;> (obtain ⟨p1, p2, p3, p4, p5, p6, p7, p8⟩ := hp; subst p1 p2 p3 p4 p5 p6 p7 p8; simp only [o1, o2, o3, o4, o5, o6, o7, o8, and_self])
    · rcases hp with hp | hp | hp | hp | hp | hp | hp | hp <;> (obtain ⟨p1, p2, p3, p4, p5, p6, p7, p8⟩ := hp; subst p1 p2 p3 p4 p5 p6 p7 p8; simp only [o1, o2, o3, o4, o5, o6, o7, o8, and_self])
    all_goals
      rcases hs with hs | hs <;> subst hs <;> simp only [show ¬ ((1 : Int) ≤ 0) by omega, show ((-1 : Int) ≤ 0) by omega, show ((- (1 : Int)) ≤ 0) by omega, show ¬ ((-(-1) : Int) ≤ 0) by omega, if_true, if_false] at hp <;> first | omega | (intro q; omega)
  unfold puX
  have bnd : ∀ (li lo ui uo li2 lo2 ui2 uo2 : Int), (∀ a, a = li ∨ a = lo ∨ a = ui ∨ a = uo ∨ a = li2 ∨ a = lo2 ∨ a = ui2 ∨ a = uo2 → a = u ∨ a = v ∨ a = w ∨ a = z ∨ a = d.2.2.1 te ∨ a = d.2.2.1 tf) → (∀ a, a = li ∨ a = lo ∨ a = ui ∨ a = uo ∨ a = li2 ∨ a = lo2 ∨ a = ui2 ∨ a = uo2 → 1 ≤ a ∧ a ≤ 9999) := fun li lo ui uo li2 lo2 ui2 uo2 H a ha => by
    rcases H a ha with e | e | e | e | e | e <;> rw [e] <;> omega
  generalize hS : (if (decide (ov ≠ 0) != (decide (x < 0) != decide (y < 0))) = true then (1 : Int) else -1) = s
  have hs : s = 1 ∨ s = -1 := by rw [← hS]; split <;> simp
  clear hS
  by_cases co : ov = 0
  · simp only [if_pos co]
    by_cases cx : x < 0
    · simp only [if_pos cx]
      by_cases cy : y < 0
      · simp only [if_pos cy]
        obtain ⟨_, k1, k2, k3, k4, k5, k6, k7, k8⟩ := lab8 d.1 s u v (d.2.2.1 tf) w (-s) (d.2.2.1 te) u w z (stDz tf z (stDz te v d)).2.2.1
        exact key s u v (d.2.2.1 tf) w (d.2.2.1 te) u w z hs (bnd u v (d.2.2.1 tf) w (d.2.2.1 te) u w z (fun a ha => by rcases ha with e | e | e | e | e | e | e | e <;> simp [e])) (wf s u v (d.2.2.1 tf) w (d.2.2.1 te) u w z _ _ _ _ _ _ _ _ hs (Or.inr (Or.inr (Or.inr (Or.inl ⟨rfl, rfl, rfl, rfl, rfl, rfl, rfl, rfl⟩)))) ⟨k5, k6, k1, k2, k3, k4, k7, k8⟩)
      · simp only [if_neg cy]
        obtain ⟨_, k1, k2, k3, k4, k5, k6, k7, k8⟩ := lab8 d.1 s u v w z (-s) (d.2.2.1 te) u (d.2.2.1 tf) w (stDz tf z (stDz te v d)).2.2.1
        exact key s u v w z (d.2.2.1 te) u (d.2.2.1 tf) w hs (bnd u v w z (d.2.2.1 te) u (d.2.2.1 tf) w (fun a ha => by rcases ha with e | e | e | e | e | e | e | e <;> simp [e])) (wf s u v w z (d.2.2.1 te) u (d.2.2.1 tf) w _ _ _ _ _ _ _ _ hs (Or.inr (Or.inr (Or.inl ⟨rfl, rfl, rfl, rfl, rfl, rfl, rfl, rfl⟩))) ⟨k5, k6, k1, k2, k7, k8, k3, k4⟩)
    · simp only [if_neg cx]
      by_cases cy : y < 0
      · simp only [if_pos cy]
        obtain ⟨_, k1, k2, k3, k4, k5, k6, k7, k8⟩ := lab8 d.1 s (d.2.2.1 te) u (d.2.2.1 tf) w (-s) u v w z (stDz tf z (stDz te v d)).2.2.1
        exact key s (d.2.2.1 te) u (d.2.2.1 tf) w u v w z hs (bnd (d.2.2.1 te) u (d.2.2.1 tf) w u v w z (fun a ha => by rcases ha with e | e | e | e | e | e | e | e <;> simp [e])) (wf s (d.2.2.1 te) u (d.2.2.1 tf) w u v w z _ _ _ _ _ _ _ _ hs (Or.inr (Or.inl ⟨rfl, rfl, rfl, rfl, rfl, rfl, rfl, rfl⟩)) ⟨k1, k2, k5, k6, k3, k4, k7, k8⟩)
      · simp only [if_neg cy]
        obtain ⟨_, k1, k2, k3, k4, k5, k6, k7, k8⟩ := lab8 d.1 s (d.2.2.1 te) u w z (-s) u v (d.2.2.1 tf) w (stDz tf z (stDz te v d)).2.2.1
        exact key s (d.2.2.1 te) u w z u v (d.2.2.1 tf) w hs (bnd (d.2.2.1 te) u w z u v (d.2.2.1 tf) w (fun a ha => by rcases ha with e | e | e | e | e | e | e | e <;> simp [e])) (wf s (d.2.2.1 te) u w z u v (d.2.2.1 tf) w _ _ _ _ _ _ _ _ hs (Or.inl ⟨rfl, rfl, rfl, rfl, rfl, rfl, rfl, rfl⟩) ⟨k1, k2, k5, k6, k7, k8, k3, k4⟩)
  · simp only [if_neg co]
    by_cases cx : x < 0
    · simp only [if_pos cx]
      by_cases cy : y < 0
      · simp only [if_pos cy]
        obtain ⟨_, k1, k2, k3, k4, k5, k6, k7, k8⟩ := lab8 d.1 s (d.2.2.1 tf) w u v (-s) w z (d.2.2.1 te) u (stDz tf z (stDz te v d)).2.2.1
        exact key s (d.2.2.1 tf) w u v w z (d.2.2.1 te) u hs (bnd (d.2.2.1 tf) w u v w z (d.2.2.1 te) u (fun a ha => by rcases ha with e | e | e | e | e | e | e | e <;> simp [e])) (wf s (d.2.2.1 tf) w u v w z (d.2.2.1 te) u _ _ _ _ _ _ _ _ hs (Or.inr (Or.inr (Or.inr (Or.inr (Or.inr (Or.inl ⟨rfl, rfl, rfl, rfl, rfl, rfl, rfl, rfl⟩)))))) ⟨k7, k8, k3, k4, k1, k2, k5, k6⟩)
      · simp only [if_neg cy]
        obtain ⟨_, k1, k2, k3, k4, k5, k6, k7, k8⟩ := lab8 d.1 s w z u v (-s) (d.2.2.1 tf) w (d.2.2.1 te) u (stDz tf z (stDz te v d)).2.2.1
        exact key s w z u v (d.2.2.1 tf) w (d.2.2.1 te) u hs (bnd w z u v (d.2.2.1 tf) w (d.2.2.1 te) u (fun a ha => by rcases ha with e | e | e | e | e | e | e | e <;> simp [e])) (wf s w z u v (d.2.2.1 tf) w (d.2.2.1 te) u _ _ _ _ _ _ _ _ hs (Or.inr (Or.inr (Or.inr (Or.inr (Or.inr (Or.inr (Or.inr (⟨rfl, rfl, rfl, rfl, rfl, rfl, rfl, rfl⟩)))))))) ⟨k7, k8, k3, k4, k5, k6, k1, k2⟩)
    · simp only [if_neg cx]
      by_cases cy : y < 0
      · simp only [if_pos cy]
        obtain ⟨_, k1, k2, k3, k4, k5, k6, k7, k8⟩ := lab8 d.1 s (d.2.2.1 tf) w (d.2.2.1 te) u (-s) w z u v (stDz tf z (stDz te v d)).2.2.1
        exact key s (d.2.2.1 tf) w (d.2.2.1 te) u w z u v hs (bnd (d.2.2.1 tf) w (d.2.2.1 te) u w z u v (fun a ha => by rcases ha with e | e | e | e | e | e | e | e <;> simp [e])) (wf s (d.2.2.1 tf) w (d.2.2.1 te) u w z u v _ _ _ _ _ _ _ _ hs (Or.inr (Or.inr (Or.inr (Or.inr (Or.inl ⟨rfl, rfl, rfl, rfl, rfl, rfl, rfl, rfl⟩))))) ⟨k3, k4, k7, k8, k1, k2, k5, k6⟩)
      · simp only [if_neg cy]
        obtain ⟨_, k1, k2, k3, k4, k5, k6, k7, k8⟩ := lab8 d.1 s w z (d.2.2.1 te) u (-s) (d.2.2.1 tf) w u v (stDz tf z (stDz te v d)).2.2.1
        exact key s w z (d.2.2.1 te) u (d.2.2.1 tf) w u v hs (bnd w z (d.2.2.1 te) u (d.2.2.1 tf) w u v (fun a ha => by rcases ha with e | e | e | e | e | e | e | e <;> simp [e])) (wf s w z (d.2.2.1 te) u (d.2.2.1 tf) w u v _ _ _ _ _ _ _ _ hs (Or.inr (Or.inr (Or.inr (Or.inr (Or.inr (Or.inr (Or.inl ⟨rfl, rfl, rfl, rfl, rfl, rfl, rfl, rfl⟩))))))) ⟨k3, k4, k7, k8, k5, k6, k1, k2⟩)
