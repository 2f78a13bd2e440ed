def absI (x : Int) : Int := if 0 ≤ x then x else 0 - x
abbrev meetP (n : Nat) (fr to at_ : Nat → Int) (x y : Int) (e f : Nat) : Prop := (rndz (tnz fr to at_) (4 * n) (4 * n)).1 (2 * e + if x < 0 then 1 else 0) = (rndz (tnz fr to at_) (4 * n) (4 * n)).1 (2 * f + if y < 0 then 1 else 0) ∨ pcF fr to (2 * n) ((fr e).toNat / 4) ≠ pcF fr to (2 * n) ((fr f).toNat / 4)
def edN (n : Nat) (nm : Nat → Int) (l : Int) (o : Option Nat) : Prop := match o with | none => ∀ f, f < 2 * n → nm f ≠ l | some e => e < 2 * n ∧ nm e = l
def puS (nm fr to at_ : Nat → Int) (x y ov u v w z : Int) (ex ey : Option Nat) (d : Dg) : Int × Dg :=
  match ex, ey with
  | some e, some f => if e ≠ f ∧ d.1 + 2 ≤ 20 ∧ meetP d.1 fr to at_ x y e f then (1, puX x y ov (nm e) (nm f) u v w z (stDz (to f).toNat z (stDz (to e).toNat v d))) else (0, d)
  | _, _ => (0, d)
theorem C_pushC (fl : Nat) {d : Dg} (hd : d.1 < 20) {n ci : Int} {A S : Nat → Int} (hD : DA d n ci A S) (f : Nat → Int) (s : Int) {ov x y : Int} (bx : -10000 ≤ x ∧ x ≤ 10000) (by_ : -10000 ≤ y ∧ y ≤ 10000) (x0 : x ≠ 0) (y0 : y ≠ 0) (m kn : Int) (hm : m = 1 ∨ m = 0) :
    ∃ n' A' S', LM_Mo_pushCrossing fl f s ov x y m n kn A S = some (n', 0, A', S') ∧ DA (if m = 1 then (if ov = 0 then crD s (if x < 0 then f 0 else absI x) (if x < 0 then f 1 else f 0) (if y < 0 then absI y else f 2) (if y < 0 then f 2 else f 3) d else crD s (if y < 0 then absI y else f 2) (if y < 0 then f 2 else f 3) (if x < 0 then f 0 else absI x) (if x < 0 then f 1 else f 0) d)
      else (if ov = 0 then crD s (if x < 0 then absI x else f 0) (if x < 0 then f 0 else f 1) (if y < 0 then f 2 else absI y) (if y < 0 then f 3 else f 2) d else crD s (if y < 0 then f 2 else absI y) (if y < 0 then f 3 else f 2) (if x < 0 then absI x else f 0) (if x < 0 then f 0 else f 1) d)) n' ci A' S' := by
  have last : ∀ i1 o1 i2 o2 : Int, ∃ n' A' S', ((LM_Di_addCrossing fl s ov i1 o1 i2 o2 n kn A S).bind fun o0 => (some (o0.1, o0.2.1, o0.2.2.1, o0.2.2.2))) = some (n', 0, A', S') ∧ DA (if ov = 0 then crD s i1 o1 i2 o2 d else crD s i2 o2 i1 o1 d) n' ci A' S' := fun i1 o1 i2 o2 => by
    obtain ⟨n', A', S', a1, a2⟩ := C_add fl hd hD s ov i1 o1 i2 o2 kn
    refine ⟨n', A', S', by rw [a1, Option.bind_some], ?_⟩
    by_cases o : ov = 0
    · simp only [if_pos o] at a2 ⊢; exact a2
    · simp only [if_neg o] at a2 ⊢; exact a2
  have t0 : Int.toNat (0 : Int) = 0 := rfl
  have t1 : Int.toNat (1 : Int) = 1 := rfl
  have t2 : Int.toNat (2 : Int) = 2 := rfl
  have t3 : Int.toNat (3 : Int) = 3 := rfl
  have rx : (-2147483648 ≤ 0 - x ∧ 0 - x < 2147483648) := by omega
  have ry : (-2147483648 ≤ 0 - y ∧ 0 - y < 2147483648) := by omega
  have g0 : ¬ (((0 : Int) < (0 : Int)) ∨ (4 ≤ 0)) := by omega
  have g1 : ¬ (((1 : Int) < (0 : Int)) ∨ (4 ≤ 1)) := by omega
  have g2 : ¬ (((2 : Int) < (0 : Int)) ∨ (4 ≤ 2)) := by omega
  have g3 : ¬ (((3 : Int) < (0 : Int)) ∨ (4 ≤ 3)) := by omega
  unfold LM_Mo_pushCrossing LB_Mo_pushCrossing_0 LB_Mo_pushCrossing_10 LB_Mo_pushCrossing_20 LB_Mo_pushCrossing_32 LB_Mo_pushCrossing_42 LB_Mo_pushCrossing_63 LB_Mo_pushCrossing_85 LB_Mo_pushCrossing_106 LB_Mo_pushCrossing_128
  simp only [t0, t1, t2, t3, if_pos rx, if_pos ry, if_pos g0, if_pos g1, if_pos g2, if_pos g3]
  rcases hm with hm | hm
  · subst hm
    by_cases cx : x < 0
    · by_cases cy : y < 0
      · simp only [show x ≤ 0 by omega, show y ≤ 0 by omega, cx, cy, if_true, show ¬ ((0 : Int) = 1) by omega, not_false_eq_true, if_false, show ¬ ((1 : Int) = 0) by omega]
        have := last (f 0) (f 1) (absI y) (f 2)
        unfold absI at this ⊢; exact this
      · simp only [show x ≤ 0 by omega, show ¬ y ≤ 0 by omega, cx, cy, if_true, show ¬ ((0 : Int) = 1) by omega, not_false_eq_true, if_false, show ¬ ((1 : Int) = 0) by omega]
        have := last (f 0) (f 1) (f 2) (f 3)
        exact this
    · by_cases cy : y < 0
      · simp only [show ¬ x ≤ 0 by omega, show y ≤ 0 by omega, cx, cy, if_true, show ¬ ((0 : Int) = 1) by omega, not_false_eq_true, if_false, show ¬ ((1 : Int) = 0) by omega, not_true_eq_false]
        have := last (absI x) (f 0) (absI y) (f 2)
        unfold absI at this ⊢; exact this
      · simp only [show ¬ x ≤ 0 by omega, show ¬ y ≤ 0 by omega, cx, cy, if_true, show ¬ ((0 : Int) = 1) by omega, not_false_eq_true, if_false, show ¬ ((1 : Int) = 0) by omega, not_true_eq_false]
        have := last (absI x) (f 0) (f 2) (f 3)
        unfold absI at this ⊢; exact this
  · subst hm
    by_cases cx : x < 0
    · by_cases cy : y < 0
      · simp only [show x ≤ 0 by omega, show y ≤ 0 by omega, cx, cy, if_true, show ¬ ((0 : Int) = 1) by omega, not_false_eq_true, if_false, show ¬ ((1 : Int) = 0) by omega, not_true_eq_false]
        have := last (absI x) (f 0) (f 2) (f 3)
        unfold absI at this ⊢; exact this
      · simp only [show x ≤ 0 by omega, show ¬ y ≤ 0 by omega, cx, cy, if_true, show ¬ ((0 : Int) = 1) by omega, not_false_eq_true, if_false, show ¬ ((1 : Int) = 0) by omega, not_true_eq_false]
        have := last (absI x) (f 0) (absI y) (f 2)
        unfold absI at this ⊢; exact this
    · by_cases cy : y < 0
      · simp only [show ¬ x ≤ 0 by omega, show y ≤ 0 by omega, cx, cy, if_true, show ¬ ((0 : Int) = 1) by omega, not_false_eq_true, if_false, show ¬ ((1 : Int) = 0) by omega, not_true_eq_false]
        have := last (f 0) (f 1) (f 2) (f 3)
        exact this
      · simp only [show ¬ x ≤ 0 by omega, show ¬ y ≤ 0 by omega, cx, cy, if_true, show ¬ ((0 : Int) = 1) by omega, not_false_eq_true, if_false, show ¬ ((1 : Int) = 0) by omega, not_true_eq_false]
        have := last (f 0) (f 1) (absI y) (f 2)
        unfold absI at this ⊢; exact this
section
variable {nm fr to at_ : Nat → Int}
theorem fr_ok {n : Nat} {sg lb : Nat → Int} (h : EdgA n sg lb nm fr to at_) {e : Nat} (he : e < 2 * n) : fr e = ((fr e).toNat : Int) ∧ (fr e).toNat < 4 * n ∧ to e = ((to e).toNat : Int) ∧ (to e).toNat < 4 * n ∧ outQ sg (to e).toNat = false ∧ lb (to e).toNat = nm e ∧ outQ sg (fr e).toNat = true ∧ lb (fr e).toNat = nm e := by
  obtain ⟨p, q, a1, a2, a3, a4, a5, a6, a7, a8⟩ := h.1 e he
  rw [a3, a4, Int.toNat_natCast, Int.toNat_natCast]
  exact ⟨rfl, a1, rfl, a2, a6, a8, a5, a7⟩
theorem C_canMeet (fl : Nat) {n : Nat} (hn : n ≤ 20) {sg lb : Nat → Int} (hE : EdgA n sg lb nm fr to at_) {fo pc : Nat → Int} (hfo : like (4 * n) fo (rndz (tnz fr to at_) (4 * n) (4 * n)).1) (hpc : ∀ y, y < n → pc y = ((pcF fr to (2 * n) y : Nat) : Int)) {x y : Int} {e f : Nat} (he : e < 2 * n) (hf : f < 2 * n) :
    LM_Mo_canMeet fl fo fr pc (e : Int) (if 0 ≤ x then 0 else 1) (f : Int) (if 0 ≤ y then 0 else 1) = some (if e ≠ f ∧ meetP n fr to at_ x y e f then 1 else 0) := by
  obtain ⟨e1, e2, _⟩ := fr_ok hE he
  obtain ⟨f1, f2, _⟩ := fr_ok hE hf
  unfold LM_Mo_canMeet LB_Mo_canMeet_0 LB_Mo_canMeet_33 LB_Mo_canMeet_55 LB_Mo_canMeet_80
  rw [if_neg (by omega), if_neg (by omega)]
  by_cases c : e = f
  · rw [if_neg (by omega), if_neg (by omega)]
  · have de : ((if 0 ≤ x then (0 : Int) else 1) = if x < 0 then 1 else 0) := by split <;> split <;> omega
    have df : ((if 0 ≤ y then (0 : Int) else 1) = if y < 0 then 1 else 0) := by split <;> split <;> omega
    have pe : LM_Sh_pieceOfEdge fl fr pc (e : Int) = some ((pcF fr to (2 * n) ((fr e).toNat / 4) : Nat) : Int) := by
      unfold LM_Sh_pieceOfEdge LB_Sh_pieceOfEdge_0
      rw [if_pos (by omega), Int.toNat_natCast, if_pos (by omega), show Int.toNat (fr e / 4) = (fr e).toNat / 4 by omega, hpc _ (by omega)]
    have pf : LM_Sh_pieceOfEdge fl fr pc (f : Int) = some ((pcF fr to (2 * n) ((fr f).toNat / 4) : Nat) : Int) := by
      unfold LM_Sh_pieceOfEdge LB_Sh_pieceOfEdge_0
      rw [if_pos (by omega), Int.toNat_natCast, if_pos (by omega), show Int.toNat (fr f / 4) = (fr f).toNat / 4 by omega, hpc _ (by omega)]
    have fe : ∀ k : Nat, k < 2 → fo (Int.toNat (2 * (e : Int) + (k : Int))) = (rndz (tnz fr to at_) (4 * n) (4 * n)).1 (2 * e + k) := fun k hk => by
      rw [show Int.toNat (2 * (e : Int) + (k : Int)) = 2 * e + k by omega]; exact hfo _ (by omega)
    have ff : ∀ k : Nat, k < 2 → fo (Int.toNat (2 * (f : Int) + (k : Int))) = (rndz (tnz fr to at_) (4 * n) (4 * n)).1 (2 * f + k) := fun k hk => by
      rw [show Int.toNat (2 * (f : Int) + (k : Int)) = 2 * f + k by omega]; exact hfo _ (by omega)
    have fe0 := fe 0 (by omega)
    have fe1 := fe 1 (by omega)
    have ff0 := ff 0 (by omega)
    have ff1 := ff 1 (by omega)
    have c0 : ((0 : Nat) : Int) = 0 := rfl
    have c1 : ((1 : Nat) : Int) = 1 := rfl
    rw [c0] at fe0 ff0
    rw [c1] at fe1 ff1
    rw [if_pos (by omega), pe, pf]
    simp only [Option.bind_some]
    have g1 : ∀ k : Int, 0 ≤ k ∧ k ≤ 1 → (0 ≤ 2 * (e : Int) + k ∧ 2 * (e : Int) + k < 80) := fun k hk => by omega
    have g2 : ∀ k : Int, 0 ≤ k ∧ k ≤ 1 → (0 ≤ 2 * (f : Int) + k ∧ 2 * (f : Int) + k < 80) := fun k hk => by omega
    simp only [if_pos (g1 0 (by omega)), if_pos (g1 1 (by omega)), if_pos (g2 0 (by omega)), if_pos (g2 1 (by omega)), if_pos (show (-2147483648 ≤ 2 * (e : Int) ∧ 2 * (e : Int) < 2147483648) by omega), if_pos (show (-2147483648 ≤ 2 * (f : Int) ∧ 2 * (f : Int) < 2147483648) by omega), fe0, fe1, ff0, ff1]
    unfold meetP
    have fin : ∀ (a b : Int) (p q : Nat), (if a = b then some (1 : Int) else if ((p : Nat) : Int) = ((q : Nat) : Int) then some 0 else some 1) = some (if e ≠ f ∧ (a = b ∨ p ≠ q) then (1 : Int) else 0) := fun a b p q => by
      by_cases w : a = b
      · rw [if_pos w, if_pos ⟨c, Or.inl w⟩]
      · rw [if_neg w]
        by_cases w2 : p = q
        · rw [if_pos (by omega), if_neg (fun ⟨_, w3⟩ => w3.elim w (fun w4 => w4 w2))]
        · rw [if_neg (by omega), if_pos ⟨c, Or.inr w2⟩]
    by_cases cx : x < 0
    · by_cases cy : y < 0
      · simp only [show ¬ 0 ≤ x by omega, show ¬ 0 ≤ y by omega, cx, cy, if_true, if_false, show ¬ ((1 : Int) = 0) by omega]
        exact fin _ _ _ _
      · simp only [show ¬ 0 ≤ x by omega, show 0 ≤ y by omega, cx, cy, if_true, if_false, show ¬ ((1 : Int) = 0) by omega]
        exact fin _ _ _ _
    · by_cases cy : y < 0
      · simp only [show 0 ≤ x by omega, show ¬ 0 ≤ y by omega, cx, cy, if_true, if_false, show ¬ ((1 : Int) = 0) by omega]
        exact fin _ _ _ _
      · simp only [show 0 ≤ x by omega, show 0 ≤ y by omega, cx, cy, if_true, if_false, show ¬ ((1 : Int) = 0) by omega]
        exact fin _ _ _ _
theorem C_edN (fl : Nat) (hfl : 200 ≤ fl) {n : Nat} (hn : n ≤ 20) {sg lb : Nat → Int} (hE : EdgA n sg lb nm fr to at_) {l : Int} {o : Option Nat} (h : edN n nm l o) : LM_Sh_edgeNamed fl ((2 * n : Nat) : Int) nm l = some (match o with | none => -1 | some e => (e : Int)) := by
  rcases C_named (nm := nm) fl hfl hn l with ⟨x, x1, x2, x3⟩ | ⟨x3, x4⟩
  · cases o with
    | none => exact absurd x2 (h x x1)
    | some e => rw [x3, nm_inj hE x1 h.1 (by rw [x2, h.2])]
  · cases o with
    | none => rw [x4]
    | some e => exact absurd h.2 (x3 e h.1)
theorem M_edN (fl : Nat) (hfl : 200 ≤ fl) {n : Nat} (hn : n ≤ 20) {sg lb : Nat → Int} (hE : EdgA n sg lb nm fr to at_) {l : Int} {o : Option Nat} (h : edN n nm l o) : LM_Md_find fl ((2 * n : Nat) : Int) nm l = some (match o with | none => -1 | some e => (e : Int)) := by
  cases o with
  | none => exact M_find0 fl (by omega) (by omega) nm l h
  | some e => exact M_find fl (by omega) (by omega) nm l h.1 h.2 (fun f hf hl => nm_inj hE hf h.1 (by rw [hl, h.2]))
theorem C_push (fl : Nat) (hfl : 200 ≤ fl) {d : Dg} (h : okD d) (hE : EdgA d.1 d.2.2.2 d.2.2.1 nm fr to at_) {fo pc : Nat → Int} (hfo : like (4 * d.1) fo (rndz (tnz fr to at_) (4 * d.1) (4 * d.1)).1) (hpc : ∀ y, y < d.1 → pc y = ((pcF fr to (2 * d.1) y : Nat) : Int)) {n ci : Int} {A S : Nat → Int} (hD : DA d n ci A S) {x y ov u v w z : Int} (ho : ov = 0 ∨ ov = 1) (bx : -10000 ≤ x ∧ x ≤ 10000) (by_ : -10000 ≤ y ∧ y ≤ 10000) {ex ey : Option Nat} (hx : edN d.1 nm (absI x) ex) (hy : edN d.1 nm (absI y) ey)
    (hu : IsFree d.1 d.2.2.1 0 u) (hv : IsFree d.1 d.2.2.1 u v) (hw : IsFree d.1 d.2.2.1 v w) (hz : IsFree d.1 d.2.2.1 w z) (f : Nat → Int) (kn : Int) :
    ∃ f' n' kn' A' S', LM_Mo_push fl ((2 * d.1 : Nat) : Int) fo fr nm pc to x y ov f n kn A S = some ((puS nm fr to at_ x y ov u v w z ex ey d).1, f', n', kn', A', S') ∧ DA (puS nm fr to at_ x y ov u v w z ex ey d).2 n' ci A' S' ∧ (kn' = kn ∨ kn' = 0) := by
  have hn := h.1
  have e1 := hD.1
  unfold LM_Mo_push LB_Mo_push_0
  rw [if_pos (by omega), show (if 0 ≤ x then x else 0 - x) = absI x from rfl, C_edN fl hfl hn hE hx, Option.bind_some, if_pos (by omega), show (if 0 ≤ y then y else 0 - y) = absI y from rfl, C_edN fl hfl hn hE hy, Option.bind_some, if_pos (by omega)]
  by_cases c : d.1 + 2 ≤ 20
  · rw [if_neg (by omega)]
    have no : ∀ o0 o1 : Int, o0 < 0 ∨ o1 < 0 → ∀ a b : Int, LM_Mo_canMeet fl fo fr pc o0 a o1 b = some 0 := fun o0 o1 hh a b => by
      unfold LM_Mo_canMeet LB_Mo_canMeet_0
      by_cases w1 : o0 < 0
      · rw [if_pos w1]
      · rw [if_neg w1, if_pos (by omega)]
    have reach : ∀ o0 o1 : Int, (if 0 ≤ x then LB_Mo_push_45 fl ((2 * d.1 : Nat) : Int) fo fr nm pc to 0 o0 x y ov o0 o1 f n kn A S else LB_Mo_push_45 fl ((2 * d.1 : Nat) : Int) fo fr nm pc to 1 o0 x y ov o0 o1 f n kn A S) = LB_Mo_push_57 fl ((2 * d.1 : Nat) : Int) fo fr nm pc to (if 0 ≤ y then 0 else 1) o1 (if 0 ≤ x then 0 else 1) o0 x y ov o0 o1 f n kn A S := fun o0 o1 => by
      unfold LB_Mo_push_45
      split <;> split <;> rfl
    rw [reach]
    unfold LB_Mo_push_57
    cases ex with
    | none => rw [no _ _ (Or.inl (by show (-1 : Int) < 0; decide)), Option.bind_some, if_neg (by decide)]; exact ⟨_, _, _, _, _, rfl, hD, Or.inl rfl⟩
    | some e =>
      cases ey with
      | none => rw [no _ _ (Or.inr (by show (-1 : Int) < 0; decide)), Option.bind_some, if_neg (by decide)]; exact ⟨_, _, _, _, _, rfl, hD, Or.inl rfl⟩
      | some g =>
        obtain ⟨he, hle⟩ := hx
        obtain ⟨hg, hlg⟩ := hy
        dsimp only
        rw [C_canMeet fl hn hE hfo hpc he hg, Option.bind_some]
        unfold puS
        by_cases cm : e ≠ g ∧ meetP d.1 fr to at_ x y e g
        · dsimp only
          rw [if_pos cm, if_pos (by decide)]
          rw [if_pos (show e ≠ g ∧ d.1 + 2 ≤ 20 ∧ meetP d.1 fr to at_ x y e g from ⟨cm.1, c, cm.2⟩)]
          obtain ⟨f', g1, g2⟩ := C_free fl hfl hn hE (fun q hq => (h.2.2.2.1 q hq).1) f
          have f0 := g2 0 (by omega)
          have f1 := g2 1 (by omega)
          have f2 := g2 2 (by omega)
          have f3 := g2 3 (by omega)
          rw [if_pos rfl] at f0
          rw [if_neg (by omega), show 1 - 1 = 0 from rfl] at f1
          rw [if_neg (by omega), show 2 - 1 = 1 from rfl] at f2
          rw [if_neg (by omega), show 3 - 1 = 2 from rfl] at f3
          have u0 : f' 0 = u := free_uniq f0.1 hu
          rw [u0] at f1
          have v0 : f' 1 = v := free_uniq f1.1 hv
          rw [v0] at f2
          have w0 : f' 2 = w := free_uniq f2.1 hw
          rw [w0] at f3
          have z0 : f' 3 = z := free_uniq f3.1 hz
          obtain ⟨_, _, te1, te2, _, te3, _⟩ := fr_ok hE he
          obtain ⟨_, _, tg1, tg2, _, tg3, _⟩ := fr_ok hE hg
          have x0 : x ≠ 0 := fun w0 => by
            have := (h.2.2.2.1 _ te2).1
            rw [te3, hle, w0] at this; unfold absI at this; omega
          have y0 : y ≠ 0 := fun w0 => by
            have := (h.2.2.2.1 _ tg2).1
            rw [tg3, hlg, w0] at this; unfold absI at this; omega
          rw [g1, Option.bind_some, if_pos (by omega), if_pos (by decide), Int.toNat_natCast, if_pos (by omega), if_pos (by omega), if_pos (by decide), Int.toNat_natCast, if_pos (by omega), show Int.toNat (1 : Int) = 1 from rfl, show Int.toNat (3 : Int) = 3 from rfl, v0, z0]
          have DD := DA_st (DA_st hD (to e).toNat v) (to g).toNat z
          have fin : ∀ s : Int, (s = if (decide (ov ≠ 0) != (decide (x < 0) != decide (y < 0))) = true then (1 : Int) else -1) → ∀ s1 : Int, ∃ f'' n' kn' A' S', LB_Mo_push_150 fl ((2 * d.1 : Nat) : Int) fo fr nm pc to s x y ov (e : Int) (g : Int) s1 f' n kn (up (up A (to e).toNat v) (to g).toNat z) S = some (1, f'', n', kn', A', S') ∧ DA (puX x y ov (nm e) (nm g) u v w z (stDz (to g).toNat z (stDz (to e).toNat v d))) n' ci A' S' ∧ (kn' = kn ∨ kn' = 0) := fun s hs s1 => by
            have hs2 : s = 1 ∨ s = -1 := by rw [hs]; split <;> simp
            unfold LB_Mo_push_150
            obtain ⟨n1, A1, S1, p1, p2⟩ := C_pushC fl (show (stDz (to g).toNat z (stDz (to e).toNat v d)).1 < 20 by show d.1 < 20; omega) DD f' s (ov := ov) bx by_ x0 y0 1 kn (Or.inl rfl)
            rw [p1, Option.bind_some, if_pos (by omega)]
            dsimp only
            rw [if_pos rfl] at p2
            rw [u0, v0, w0, z0] at p2
            by_cases o : ov = 0
            · rw [if_pos o] at p2
              obtain ⟨n2, A2, S2, q1, q2⟩ := C_pushC fl (by show d.1 + 1 < 20; omega) p2 f' (-s) (ov := ov) bx by_ x0 y0 0 0 (Or.inr rfl)
              rw [q1, Option.bind_some]
              refine ⟨_, _, _, _, _, rfl, ?_, Or.inr rfl⟩
              rw [if_neg (by decide), if_pos o, u0, v0, w0, z0] at q2
              unfold puX
              simp only [if_pos o]
              rw [← hs, hle, hlg]
              exact q2
            · rw [if_neg o] at p2
              obtain ⟨n2, A2, S2, q1, q2⟩ := C_pushC fl (by show d.1 + 1 < 20; omega) p2 f' (-s) (ov := ov) bx by_ x0 y0 0 0 (Or.inr rfl)
              rw [q1, Option.bind_some]
              refine ⟨_, _, _, _, _, rfl, ?_, Or.inr rfl⟩
              rw [if_neg (by decide), if_neg o, u0, v0, w0, z0] at q2
              unfold puX
              simp only [if_neg o]
              rw [← hs, hle, hlg]
              exact q2
          unfold LB_Mo_push_118 LB_Mo_push_128 LB_Mo_push_136
          rcases ho with ho | ho <;> subst ho <;> by_cases cx : x < 0 <;> by_cases cy : y < 0 <;> simp only [show x ≤ 0 ↔ x < 0 by omega, show y ≤ 0 ↔ y < 0 by omega, cx, cy, if_true, if_false, show ¬ ((0 : Int) = 1) by omega, show ¬ ((1 : Int) = 0) by omega, not_true_eq_false, not_false_eq_true] <;> refine fin _ ?_ _ <;> simp [cx, cy]
        · rw [if_neg cm, if_neg (by decide)]
          dsimp only
          rw [if_neg (fun hh : e ≠ g ∧ d.1 + 2 ≤ 20 ∧ meetP d.1 fr to at_ x y e g => cm ⟨hh.1, hh.2.2⟩)]
          exact ⟨_, _, _, _, _, rfl, hD, Or.inl rfl⟩
  · rw [if_pos (by omega)]
    have e0 : puS nm fr to at_ x y ov u v w z ex ey d = (0, d) := by
      unfold puS
      cases ex with
      | none => rfl
      | some e =>
        cases ey with
        | none => rfl
        | some g => dsimp only; rw [if_neg (fun hh => c hh.2.1)]
    rw [e0]
    exact ⟨f, n, kn, A, S, rfl, hD, Or.inl rfl⟩
theorem M_push (fl : Nat) (hfl : 200 ≤ fl) {d : Dg} (h : okD d) (hE : EdgA d.1 d.2.2.2 d.2.2.1 nm fr to at_) {fo pc : Nat → Int} (hfo : like (4 * d.1) fo (rndz (tnz fr to at_) (4 * d.1) (4 * d.1)).1) (hpc : ∀ y, y < d.1 → pc y = ((pcF fr to (2 * d.1) y : Nat) : Int)) {n ci : Int} {A S : Nat → Int} (hD : DA d n ci A S) {x y ov u v w z : Int} (ho : ov = 0 ∨ ov = 1) (bx : -10000 ≤ x ∧ x ≤ 10000) (by_ : -10000 ≤ y ∧ y ≤ 10000) {ex ey : Option Nat} (hx : edN d.1 nm (absI x) ex) (hy : edN d.1 nm (absI y) ey)
    (hu : IsFree d.1 d.2.2.1 0 u) (hv : IsFree d.1 d.2.2.1 u v) (hw : IsFree d.1 d.2.2.1 v w) (hz : IsFree d.1 d.2.2.1 w z) (bz : z ≤ 44) :
    ∃ n' A' S', LM_Md_push fl ((2 * d.1 : Nat) : Int) fr fo to nm pc x ov y n A S = some ((puS nm fr to at_ x y ov u v w z ex ey d).1, n', A', S') ∧ DA (puS nm fr to at_ x y ov u v w z ex ey d).2 n' ci A' S' := by
  have hn := h.1
  have e1 := hD.1
  have bu := hu.1
  have bv := hv.1
  have bw := hw.1
  have bz1 := hz.1
  have bb : ∀ b m : Int, IsFree d.1 d.2.2.1 b m → IsFree d.1 A b m := fun b m ⟨x, y, z⟩ => by
    have iff : ∀ k, usedL d.1 A k ↔ usedL d.1 d.2.2.1 k := fun k => ⟨fun ⟨q, q1, q2⟩ => ⟨q, q1, by rw [← hD.2.2.1 q q1]; exact q2⟩, fun ⟨q, q1, q2⟩ => ⟨q, q1, by rw [hD.2.2.1 q q1]; exact q2⟩⟩
    exact ⟨x, fun w => y ((iff m).1 w), fun k k1 k2 => (iff k).2 (z k k1 k2)⟩
  have fu := M_free fl hfl hn (by omega) (by omega) (bb _ _ hu)
  have fv := M_free fl hfl hn (by omega) (by omega) (bb _ _ hv)
  have fw := M_free fl hfl hn (by omega) (by omega) (bb _ _ hw)
  have fz := M_free fl hfl hn (by omega) bz (bb _ _ hz)
  rw [← e1] at fu fv fw fz
  unfold LM_Md_push LB_Md_push_0
  have r1 : (if 0 ≤ x then LB_Md_push_11 fl ((2 * d.1 : Nat) : Int) fr fo to nm pc x x ov y n A S else if -2147483648 ≤ -x ∧ -x < 2147483648 then LB_Md_push_11 fl ((2 * d.1 : Nat) : Int) fr fo to nm pc (-x) x ov y n A S else none) = LB_Md_push_11 fl ((2 * d.1 : Nat) : Int) fr fo to nm pc (absI x) x ov y n A S := by
    unfold absI
    split
    · rfl
    · rw [if_pos (by omega), Int.zero_sub]
  rw [r1]
  unfold LB_Md_push_11
  rw [M_edN fl hfl hn hE hx, Option.bind_some]
  have r2 : ∀ o0 : Int, (if 0 ≤ y then LB_Md_push_27 fl ((2 * d.1 : Nat) : Int) fr fo to nm pc y x ov y o0 n A S else if -2147483648 ≤ -y ∧ -y < 2147483648 then LB_Md_push_27 fl ((2 * d.1 : Nat) : Int) fr fo to nm pc (-y) x ov y o0 n A S else none) = LB_Md_push_27 fl ((2 * d.1 : Nat) : Int) fr fo to nm pc (absI y) x ov y o0 n A S := fun o0 => by
    unfold absI
    split
    · rfl
    · rw [if_pos (by omega), Int.zero_sub]
  rw [r2]
  unfold LB_Md_push_27
  rw [M_edN fl hfl hn hE hy, Option.bind_some]
  unfold puS
  cases ex with
  | none => rw [if_pos (by show (-1 : Int) < 0; decide)]; exact ⟨_, _, _, rfl, hD⟩
  | some e =>
    rw [if_neg (by show ¬ ((e : Int) < 0); omega)]
    cases ey with
    | none => rw [if_pos (by show (-1 : Int) < 0; decide)]; exact ⟨_, _, _, rfl, hD⟩
    | some g =>
      rw [if_neg (by show ¬ ((g : Int) < 0); omega)]
      dsimp only
      by_cases ceg : e = g
      · rw [if_pos (by omega), if_neg (fun hh : e ≠ g ∧ _ => hh.1 ceg)]; exact ⟨_, _, _, rfl, hD⟩
      · rw [if_neg (by omega), if_pos (by omega)]
        by_cases c : d.1 + 2 ≤ 20
        · rw [if_pos (by omega)]
          obtain ⟨he, hle⟩ := hx
          obtain ⟨hg, hlg⟩ := hy
          obtain ⟨fe1, fe2, te1, te2, _, te3, _⟩ := fr_ok hE he
          obtain ⟨fg1, fg2, tg1, tg2, _, tg3, _⟩ := fr_ok hE hg
          have r3 : (if 0 ≤ x then if -2147483648 ≤ 2 * (e : Int) ∧ 2 * (e : Int) < 2147483648 then LB_Md_push_82 fl ((2 * d.1 : Nat) : Int) fr fo to nm pc 0 (2 * (e : Int)) x ov y (e : Int) (g : Int) n A S else none else if -2147483648 ≤ 2 * (e : Int) ∧ 2 * (e : Int) < 2147483648 then LB_Md_push_82 fl ((2 * d.1 : Nat) : Int) fr fo to nm pc 1 (2 * (e : Int)) x ov y (e : Int) (g : Int) n A S else none) = LB_Md_push_82 fl ((2 * d.1 : Nat) : Int) fr fo to nm pc (((if x < 0 then 1 else 0 : Nat)) : Int) (2 * (e : Int)) x ov y (e : Int) (g : Int) n A S := by
            by_cases cx : x < 0
            · rw [if_neg (by omega), if_pos (by omega), if_pos cx]; rfl
            · rw [if_pos (by omega), if_pos (by omega), if_neg cx]; rfl
          rw [r3]
          unfold LB_Md_push_82
          have kx : (if x < 0 then 1 else 0 : Nat) ≤ 1 := by split <;> omega
          have ky : (if y < 0 then 1 else 0 : Nat) ≤ 1 := by split <;> omega
          have fe : fo (Int.toNat (2 * (e : Int) + ((if x < 0 then 1 else 0 : Nat) : Int))) = (rndz (tnz fr to at_) (4 * d.1) (4 * d.1)).1 (2 * e + if x < 0 then 1 else 0) := by
            rw [show Int.toNat (2 * (e : Int) + ((if x < 0 then 1 else 0 : Nat) : Int)) = 2 * e + (if x < 0 then 1 else 0) by omega]; exact hfo _ (by omega)
          have fg : fo (Int.toNat (2 * (g : Int) + ((if y < 0 then 1 else 0 : Nat) : Int))) = (rndz (tnz fr to at_) (4 * d.1) (4 * d.1)).1 (2 * g + if y < 0 then 1 else 0) := by
            rw [show Int.toNat (2 * (g : Int) + ((if y < 0 then 1 else 0 : Nat) : Int)) = 2 * g + (if y < 0 then 1 else 0) by omega]; exact hfo _ (by omega)
          obtain ⟨X, hX⟩ : ∃ X, (rndz (tnz fr to at_) (4 * d.1) (4 * d.1)).1 (2 * e + if x < 0 then 1 else 0) = X := ⟨_, rfl⟩
          obtain ⟨Y, hY⟩ : ∃ Y, (rndz (tnz fr to at_) (4 * d.1) (4 * d.1)).1 (2 * g + if y < 0 then 1 else 0) = Y := ⟨_, rfl⟩
          rw [hX] at fe
          rw [hY] at fg
          rw [if_pos (by omega), fe]
          have r4 : (if 0 ≤ y then if -2147483648 ≤ 2 * (g : Int) ∧ 2 * (g : Int) < 2147483648 then LB_Md_push_101 fl ((2 * d.1 : Nat) : Int) fr fo to nm pc 0 (2 * (g : Int)) X x ov y (e : Int) (g : Int) n A S else none else if -2147483648 ≤ 2 * (g : Int) ∧ 2 * (g : Int) < 2147483648 then LB_Md_push_101 fl ((2 * d.1 : Nat) : Int) fr fo to nm pc 1 (2 * (g : Int)) X x ov y (e : Int) (g : Int) n A S else none) = LB_Md_push_101 fl ((2 * d.1 : Nat) : Int) fr fo to nm pc (((if y < 0 then 1 else 0 : Nat)) : Int) (2 * (g : Int)) X x ov y (e : Int) (g : Int) n A S := by
            by_cases cy : y < 0
            · rw [if_neg (by omega), if_pos (by omega), if_pos cy]; rfl
            · rw [if_pos (by omega), if_pos (by omega), if_neg cy]; rfl
          rw [r4]
          unfold LB_Md_push_101
          rw [if_pos (by omega), fg]
          have hM : meetP d.1 fr to at_ x y e g ↔ X = Y ∨ pcF fr to (2 * d.1) ((fr e).toNat / 4) ≠ pcF fr to (2 * d.1) ((fr g).toNat / 4) := by
            unfold meetP; rw [hX, hY]
          have go : ∀ s : Int, ∃ n' A' S', LB_Md_push_151 fl ((2 * d.1 : Nat) : Int) fr fo to nm pc x ov y (e : Int) (g : Int) s n A S = some (1, n', A', S') ∧ DA (puX x y ov (nm e) (nm g) u v w z (stDz (to g).toNat z (stDz (to e).toNat v d))) n' ci A' S' := fun s => by
            unfold LB_Md_push_151
            rw [fu, Option.bind_some, fv, Option.bind_some, fw, Option.bind_some, fz, Option.bind_some, if_pos (by omega), Int.toNat_natCast, if_pos (by omega), if_pos (by omega), Int.toNat_natCast, if_pos (by omega)]
            have DD := DA_st (DA_st hD (to e).toNat v) (to g).toNat z
            have fin : ∀ s : Int, (s = if (decide (ov ≠ 0) != (decide (x < 0) != decide (y < 0))) = true then (1 : Int) else -1) → ∀ x6 : Int, ∃ n' A' S', LB_Md_push_375 fl ((2 * d.1 : Nat) : Int) fr fo to nm pc s x ov y (e : Int) (g : Int) x6 u v w z (if x < 0 then u else nm e) (if x < 0 then v else u) (if x < 0 then nm e else u) (if x < 0 then u else v) (if y < 0 then nm g else w) (if y < 0 then w else z) (if y < 0 then w else nm g) (if y < 0 then z else w) n (up (up A (to e).toNat v) (to g).toNat z) S = some (1, n', A', S') ∧ DA (puX x y ov (nm e) (nm g) u v w z (stDz (to g).toNat z (stDz (to e).toNat v d))) n' ci A' S' := fun s hs x6 => by
              have hs2 : s = 1 ∨ s = -1 := by rw [hs]; split <;> simp
              unfold LB_Md_push_375 puX
              rw [← hs]
              by_cases o : ov = 0
              · simp only [if_pos o]
                obtain ⟨n1, A1, S1, p1, p2⟩ := M_cross fl (by show d.1 < 22; omega) DD hs2 (if x < 0 then u else nm e) (if x < 0 then v else u) (if y < 0 then nm g else w) (if y < 0 then w else z)
                rw [p1, Option.bind_some, if_pos (by omega)]
                dsimp only
                obtain ⟨n2, A2, S2, q1, q2⟩ := M_cross fl (by show d.1 + 1 < 22; omega) p2 (s := -s) (by omega) (if x < 0 then nm e else u) (if x < 0 then u else v) (if y < 0 then w else nm g) (if y < 0 then z else w)
                rw [q1, Option.bind_some]
                exact ⟨_, _, _, rfl, q2⟩
              · simp only [if_neg o]
                obtain ⟨n1, A1, S1, p1, p2⟩ := M_cross fl (by show d.1 < 22; omega) DD hs2 (if y < 0 then nm g else w) (if y < 0 then w else z) (if x < 0 then u else nm e) (if x < 0 then v else u)
                rw [p1, Option.bind_some, if_pos (by omega)]
                dsimp only
                obtain ⟨n2, A2, S2, q1, q2⟩ := M_cross fl (by show d.1 + 1 < 22; omega) p2 (s := -s) (by omega) (if y < 0 then w else nm g) (if y < 0 then z else w) (if x < 0 then nm e else u) (if x < 0 then u else v)
                rw [q1, Option.bind_some]
                exact ⟨_, _, _, rfl, q2⟩
            unfold LB_Md_push_232 LB_Md_push_245 LB_Md_push_263 LB_Md_push_276 LB_Md_push_294 LB_Md_push_307 LB_Md_push_325 LB_Md_push_338 LB_Md_push_350 LB_Md_push_359 LB_Md_push_367
            simp only [if_pos (show (0 ≤ (e : Int) ∧ (e : Int) < 48) by omega), if_pos (show (0 ≤ (g : Int) ∧ (g : Int) < 48) by omega), Int.toNat_natCast]
            rcases ho with ho | ho <;> subst ho <;> by_cases cx : x < 0 <;> by_cases cy : y < 0 <;> simp only [show 0 ≤ x ↔ ¬ x < 0 by omega, show 0 ≤ y ↔ ¬ y < 0 by omega, cx, cy, if_true, if_false, show ¬ ((0 : Int) = 1) by omega, show ¬ ((1 : Int) = 0) by omega, not_true_eq_false, not_false_eq_true] at fin ⊢ <;> refine fin _ ?_ _ <;> decide
          unfold LB_Md_push_111
          by_cases cf : X = Y
          · rw [if_neg (fun w => w cf), if_pos (by decide), if_pos ⟨ceg, c, hM.2 (Or.inl cf)⟩]
            exact go 1
          · rw [if_pos cf, if_neg (by decide), if_pos (by omega), Int.toNat_natCast, if_pos (by omega), if_pos (by omega), Int.toNat_natCast, if_pos (by omega), show Int.toNat (fr e / 4) = (fr e).toNat / 4 by omega, show Int.toNat (fr g / 4) = (fr g).toNat / 4 by omega, hpc _ (by omega), hpc _ (by omega)]
            by_cases cp : pcF fr to (2 * d.1) ((fr e).toNat / 4) = pcF fr to (2 * d.1) ((fr g).toNat / 4)
            · rw [if_neg (by omega), if_neg (fun hh => by
                rcases hM.1 hh.2.2 with w | w
                · exact cf w
                · exact w cp)]
              exact ⟨_, _, _, rfl, hD⟩
            · rw [if_pos (by omega), if_pos ⟨ceg, c, hM.2 (Or.inr cp)⟩]
              exact go 0
        · rw [if_neg (by omega), if_neg (fun hh => c hh.2.1)]; exact ⟨_, _, _, rfl, hD⟩
theorem edN_ex {n : Nat} (nm : Nat → Int) (l : Int) : ∃ o, edN n nm l o := by
  by_cases w : ∃ e, e < 2 * n ∧ nm e = l
  · obtain ⟨e, e1, e2⟩ := w; exact ⟨some e, e1, e2⟩
  · exact ⟨none, fun f hf hl => w ⟨f, hf, hl⟩⟩
theorem pu_ok {d : Dg} (h : okD d) (hE : EdgA d.1 d.2.2.2 d.2.2.1 nm fr to at_) {x y ov u v w z : Int} {ex ey : Option Nat} (hx : edN d.1 nm (absI x) ex) (hy : edN d.1 nm (absI y) ey) (hu : IsFree d.1 d.2.2.1 0 u) (hv : IsFree d.1 d.2.2.1 u v) (hw : IsFree d.1 d.2.2.1 v w) (hz : IsFree d.1 d.2.2.1 w z) (bz : z ≤ 44) : okD (puS nm fr to at_ x y ov u v w z ex ey d).2 := by
  have bu := hu.1
  have bv := hv.1
  have bw := hw.1
  have bz1 := hz.1
  unfold puS
  cases ex with
  | none => exact h
  | some e =>
    cases ey with
    | none => exact h
    | some g =>
      dsimp only
      by_cases c : e ≠ g ∧ d.1 + 2 ≤ 20 ∧ meetP d.1 fr to at_ x y e g
      · rw [if_pos c]
        obtain ⟨_, _, te1, te2, te4, te3, _⟩ := fr_ok hE hx.1
        obtain ⟨_, _, tg1, tg2, tg4, tg3, _⟩ := fr_ok hE hy.1
        have hne : (to e).toNat ≠ (to g).toNat := fun w => c.1 (nm_inj hE hx.1 hy.1 (by rw [← te3, ← tg3, w]))
        have := okD_pu h c.2.1 (x := x) (y := y) (ov := ov) te2 tg2 te4 tg4 hne hu.2.1 hv.2.1 hw.2.1 hz.2.1 (by omega) hv.1 hw.1 hz.1 bz
        rw [te3, tg3] at this
        exact this
      · rw [if_neg c]; exact h
theorem free_ex {d : Dg} (h : okD d) (hE : EdgA d.1 d.2.2.2 d.2.2.1 nm fr to at_) : ∃ u v w z : Int, IsFree d.1 d.2.2.1 0 u ∧ IsFree d.1 d.2.2.1 u v ∧ IsFree d.1 d.2.2.1 v w ∧ IsFree d.1 d.2.2.1 w z ∧ u ≤ 44 ∧ v ≤ 44 ∧ w ≤ 44 ∧ z ≤ 44 := by
  obtain ⟨f', g1, g2⟩ := C_free 200 (by omega) h.1 hE (fun q hq => (h.2.2.2.1 q hq).1) (fun _ => 0)
  have f0 := g2 0 (by omega)
  have f1 := g2 1 (by omega)
  have f2 := g2 2 (by omega)
  have f3 := g2 3 (by omega)
  rw [if_pos rfl] at f0
  rw [if_neg (by omega), show 1 - 1 = 0 from rfl] at f1
  rw [if_neg (by omega), show 2 - 1 = 1 from rfl] at f2
  rw [if_neg (by omega), show 3 - 1 = 2 from rfl] at f3
  exact ⟨f' 0, f' 1, f' 2, f' 3, f0.1, f1.1, f2.1, f3.1, f0.2, f1.2, f2.2, f3.2⟩
end
