/-- the normal form of a polynomial, as coefficients of whole exponents -/
def NormOf (b : Nat → Int) (c : Int → Int) : Prop := ((∀ k, b k = 0) ∧ ∀ e, c e = 0) ∨ ∃ v, b v ≠ 0 ∧ (∀ k, k < v → b k = 0) ∧ ∀ e : Int, c e = if e < 0 then 0 else (if b v ≤ 0 then -1 else 1) * b (v + e.toNat)
theorem Norm_one {b : Nat → Int} {c c' : Int → Int} (h : NormOf b c) (h' : NormOf b c') : ∀ e, c e = c' e := by
  intro e
  rcases h with ⟨z, hz⟩ | ⟨v, h1, h2, h3⟩
  · rcases h' with ⟨z', hz'⟩ | ⟨v', g1, g2, g3⟩
    · rw [hz, hz']
    · exact absurd (z v') g1
  · rcases h' with ⟨z', hz'⟩ | ⟨v', g1, g2, g3⟩
    · exact absurd (z' v) h1
    · have : v = v' := by
        rcases Nat.lt_trichotomy v v' with l | l | l
        · exact absurd (g2 v l) h1
        · exact l
        · exact absurd (h2 v' l) g1
      subst this
      rw [h3, g3]
/-- a polynomial of the class -/
def PolC (ra si : Int) (te : Nat → Int) (c : Int → Int) : Prop := (si = 1 ∨ si = -1) ∧ (-200 ≤ ra ∧ ra ≤ 200) ∧ (∀ i, i < 161 → -1000000000000000 ≤ te i ∧ te i ≤ 1000000000000000) ∧ ∀ e : Int, c e = if ra - 80 ≤ e ∧ e ≤ ra + 80 then si * te (e - ra + 80).toNat else 0
theorem mkN2 (fl : Nat) (te : Nat → Int) (ra si : Int) : ∀ (r nn i : Nat), i + r = 161 → r < nn → (∀ k, k < i → te k = 0) → (LB_Po_makeNormal_2 fl te nn (i : Int) ra si = some (ra, si) ∧ ∀ k, k < 161 → te k = 0) ∨ ∃ v, v < 161 ∧ te v ≠ 0 ∧ (∀ k, k < v → te k = 0) ∧ LB_Po_makeNormal_2 fl te nn (i : Int) ra si = some (80 - (v : Int), if te v ≤ 0 then -1 else 1) := by
  intro r
  induction r with
  | zero =>
    intro nn i hr hnn hz
    obtain ⟨nn, rfl⟩ : ∃ r, nn = r + 1 := ⟨nn - 1, by omega⟩
    left
    rw [LB_Po_makeNormal_2, if_pos (by omega)]
    exact ⟨rfl, fun k hk => hz k (by omega)⟩
  | succ r ih =>
    intro nn i hr hnn hz
    obtain ⟨nn, rfl⟩ : ∃ r, nn = r + 1 := ⟨nn - 1, by omega⟩
    rw [LB_Po_makeNormal_2, if_neg (by omega), if_pos (by omega), Int.toNat_natCast]
    by_cases c : te i = 0
    · rw [if_pos c, if_pos (by omega), show ((i : Int) + 1) = ((i + 1 : Nat) : Int) by omega]
      exact ih nn (i + 1) (by omega) (by omega) (fun k hk => by
        by_cases e : k = i
        · rw [e]; exact c
        · exact hz k (by omega))
    · right
      refine ⟨i, by omega, c, hz, ?_⟩
      rw [if_neg c]
      unfold LB_Po_makeNormal_47
      by_cases s : te i ≤ 0
      · rw [if_pos s, if_pos (by omega), if_pos s]
      · rw [if_neg s, if_pos (by omega), if_neg s]
theorem C_makeNormal (fl : Nat) (hfl : 200 ≤ fl) {te : Nat → Int} {b : Nat → Int} (hb : ∀ k, 12 ≤ k → b k = 0) (bb : ∀ k, -1000000000000000 ≤ b k ∧ b k ≤ 1000000000000000) (hte : ∀ k, k < 161 → te k = if 80 ≤ k then b (k - 80) else 0) : ∃ ra si c, LM_Po_makeNormal fl te 0 1 = some (ra, si) ∧ PolC ra si te c ∧ NormOf b c := by
  have bt : ∀ i, i < 161 → -1000000000000000 ≤ te i ∧ te i ≤ 1000000000000000 := fun i hi => by
    rw [hte i hi]; split
    · exact bb _
    · omega
  have b0 : (∀ k, k < 161 → te k = 0) → ∀ k, b k = 0 := fun h k => by
    by_cases c : k < 12
    · have := hte (80 + k) (by omega)
      rw [h _ (by omega), if_pos (by omega), show 80 + k - 80 = k by omega] at this
      exact this.symm
    · exact hb k (by omega)
  unfold LM_Po_makeNormal LB_Po_makeNormal_0
  rcases mkN2 fl te 0 1 161 fl 0 (by omega) (by omega) (fun k hk => by omega) with ⟨h1, h2⟩ | ⟨v, v1, v2, v3, v4⟩
  · refine ⟨0, 1, fun _ => 0, h1, ⟨Or.inl rfl, by omega, bt, fun e => ?_⟩, Or.inl ⟨b0 h2, fun _ => rfl⟩⟩
    split
    · rw [h2 _ (by omega)]; rfl
    · rfl
  · have v80 : 80 ≤ v := by
      rcases Nat.lt_or_ge v 80 with w | w
      · have := hte v v1; rw [if_neg (by omega)] at this; exact absurd this v2
      · exact w
    have bv : b (v - 80) = te v := by rw [hte v v1, if_pos v80]
    have v92 : v < 92 := by
      rcases Nat.lt_or_ge v 92 with w | w
      · exact w
      · rw [hb (v - 80) (by omega)] at bv; exact absurd bv.symm v2
    obtain ⟨si, hsi⟩ : ∃ si : Int, si = if te v ≤ 0 then -1 else 1 := ⟨_, rfl⟩
    rw [← hsi] at v4
    refine ⟨80 - (v : Int), si, fun e => if 80 - (v : Int) - 80 ≤ e ∧ e ≤ 80 - (v : Int) + 80 then si * te (e - (80 - (v : Int)) + 80).toNat else 0, v4, ⟨?_, by omega, bt, fun e => rfl⟩, Or.inr ⟨v - 80, by rw [bv]; exact v2, fun k hk => ?_, fun e => ?_⟩⟩
    · rw [hsi]; split <;> simp
    · have := hte (80 + k) (by omega)
      rw [v3 _ (by omega), if_pos (by omega), show 80 + k - 80 = k by omega] at this
      exact this.symm
    · show (if _ then _ else _) = _
      rw [bv, ← hsi]
      by_cases w : 80 - (v : Int) - 80 ≤ e ∧ e ≤ 80 - (v : Int) + 80
      · rw [if_pos w]
        by_cases en : e < 0
        · rw [if_pos en, v3 _ (by omega)]; omega
        · rw [if_neg en, hte _ (by omega), if_pos (by omega), show (e - (80 - (v : Int)) + 80).toNat - 80 = v - 80 + e.toNat by omega]
      · rw [if_neg w]
        by_cases en : e < 0
        · rw [if_pos en]
        · rw [if_neg en, hb _ (by omega)]; omega
theorem C_poadd (fl : Nat) {x : Int} (hx : -80 ≤ x ∧ x ≤ 80) {v : Int} (te : Nat → Int) (hv : -9223372036854775808 ≤ te (x + 80).toNat + v ∧ te (x + 80).toNat + v < 9223372036854775808) : LM_Po_add fl x v te = some (up te (x + 80).toNat (te (x + 80).toNat + v)) := by
  unfold LM_Po_add LB_Po_add_0
  rw [if_pos (by omega), if_neg (by split <;> omega), if_pos (by omega), if_pos hv]
section
variable {nm fr to at_ : Nat → Int}
/-- the polynomial whose normal form is asked -/
def basP (d : Dg) (fr to at_ : Nat → Int) : Nat → Int := fun k =>
  if d.1 = 0 then (if d.2.1 = 1 ∧ k = 0 then 1 else 0)
  else if (arcN d.1 fr to at_ : Int) + d.2.1 = (d.1 : Int) then PM d.1 (mLo d.2.2.2 (arcQ d.1 fr to at_)) (mHi d.2.2.2 (arcQ d.1 fr to at_)) (skip (d.1 - 1)) (d.1 - 1) (butC (d.1 - 1)) k else 0
theorem bas_deg (d : Dg) (fr to at_ : Nat → Int) (hn : d.1 ≤ 10) : ∀ k, 10 ≤ k → basP d fr to at_ k = 0 := fun k hk => by
  unfold basP
  split
  · rw [if_neg (by omega)]
  · split
    · exact PM_deg _ _ _ _ _ _ _ (by omega)
    · rfl
theorem bas_abs (d : Dg) (fr to at_ : Nat → Int) (hn : d.1 ≤ 10) : ∀ k, -1000000 ≤ basP d fr to at_ k ∧ basP d fr to at_ k ≤ 1000000 := fun k => by
  unfold basP
  split
  · split <;> omega
  · split
    · exact abs_b (PM_abs (ρ := skip (d.1 - 1)) (m_abs d.2.2.2 (arcQ d.1 fr to at_) d.1) (d.1 - 1) (butC (d.1 - 1)) k) (by omega)
    · omega
/-- the last rounds: the sums become terms -/
theorem al72 (fl : Nat) (hfl : 500 ≤ fl) (n ci : Int) (sgA : Nat → Int) (ed : Int) (at' fr' to' : Nat → Int) {m F : Nat} (hm : m ≤ 9) (hF : F < 512) (rc S ar : Nat → Int) (h1 : rc F = 1) {b : Nat → Int} (hb : ∀ e, e < 10 → S (10 * F + e) = b e) (bb : ∀ k, -1000000 ≤ b k ∧ b k ≤ 1000000) (hz : ∀ k, m < k → b k = 0) :
    ∀ (r nn i : Nat) (te : Nat → Int), i + r = m + 1 → r < nn → (∀ k, k < 161 → te k = if 80 ≤ k ∧ k < 80 + i then b (k - 80) else 0) →
    ∃ ra si c te', LB_Mi_alexander_72 fl n ci sgA ed at' fr' to' nn (F : Int) (i : Int) (m : Int) rc S ar 0 1 te = some ((m : Int), rc, S, ar, ra, si, te') ∧ PolC ra si te' c ∧ NormOf b c := by
  intro r
  induction r with
  | zero =>
    intro nn i te hr hnn ht
    obtain ⟨nn, rfl⟩ : ∃ r, nn = r + 1 := ⟨nn - 1, by omega⟩
    rw [LB_Mi_alexander_72, if_pos (by omega)]
    unfold LB_Mi_alexander_118
    obtain ⟨ra, si, c, g1, g2, g3⟩ := C_makeNormal fl (by omega) (te := te) (b := b) (fun k hk => hz k (by omega)) (fun k => by have := bb k; omega) (fun k hk => by
      rw [ht k hk]
      by_cases c : 80 ≤ k
      · rw [if_pos c]
        by_cases e : k < 80 + i
        · rw [if_pos ⟨c, e⟩]
        · rw [if_neg (by omega), hz _ (by omega)]
      · rw [if_neg (by omega), if_neg c])
    rw [g1]
    exact ⟨ra, si, c, te, rfl, g2, g3⟩
  | succ r ih =>
    intro nn i te hr hnn ht
    obtain ⟨nn, rfl⟩ : ∃ r, nn = r + 1 := ⟨nn - 1, by omega⟩
    rw [LB_Mi_alexander_72, if_neg (by omega), if_pos (by omega), Int.toNat_natCast, if_neg (by rw [h1]; decide), if_pos (by omega), if_pos (by omega), show Int.toNat ((F : Int) * 10 + (i : Int)) = 10 * F + i by omega, hb i (by omega)]
    have t0 : te (80 + i) = 0 := by rw [ht _ (by omega), if_neg (by omega)]
    have e1 : ((i : Int) + 80).toNat = 80 + i := by omega
    have b1 := bb i
    rw [C_poadd fl (by omega) te (by rw [e1, t0]; omega), e1, t0]
    rw [Option.bind_some]
    rw [if_pos (by omega), show ((i : Int) + 1) = ((i + 1 : Nat) : Int) by omega]
    refine ih nn (i + 1) _ (by omega) (by omega) (fun k hk => ?_)
    by_cases c : k = 80 + i
    · rw [c, up_eq, if_pos (by omega), show 80 + i - 80 = i by omega]; omega
    · rw [up_ne _ _ c, ht k hk]
      by_cases e : 80 ≤ k ∧ k < 80 + i
      · rw [if_pos e, if_pos (by omega)]
      · rw [if_neg e, if_neg (by omega)]
/-- the Alexander polynomial of the class -/
theorem C_alex (fl : Nat) (hfl : 2000 ≤ fl) {d : Dg} (h : okD d) (hE : EdgA d.1 d.2.2.2 d.2.2.1 nm fr to at_) (hn : d.1 ≤ 10) (hc : d.2.1 ≤ 9) {sgA : Nat → Int} (hs : like d.1 sgA d.2.2.2) (od : Int) (rc S ar : Nat → Int) (ra si : Int) (te : Nat → Int) :
    ∃ od' rc' S' ar' ra' si' te' c, LM_Mi_alexander fl (d.1 : Int) d.2.1 sgA ((2 * d.1 : Nat) : Int) at_ fr to od rc S ar ra si te = some (od', rc', S', ar', ra', si', te') ∧ PolC ra' si' te' c ∧ NormOf (basP d fr to at_) c := by
  have hci := h.2.1
  unfold LM_Mi_alexander LB_Mi_alexander_0 LM_Po_clear LB_Po_clear_0
  rw [Option.bind_some]
  obtain ⟨ar', a1, a2⟩ := C_findArcs fl (by omega) (by omega) hE ar
  rw [a1]
  rw [Option.bind_some]
  have ag := arc_ge hE
  have al : arcN d.1 fr to at_ ≤ 2 * d.1 + 2 * d.1 := ar2_le _ _ _ _ _
  have ft : ∀ k, k < 161 → fillF te 161 (0 : Int) k = 0 := fun k hk => by unfold fillF; rw [if_pos hk]
  have zero : (∀ k, basP d fr to at_ k = 0) → PolC 0 1 (fillF te 161 (0 : Int)) (fun _ => 0) ∧ NormOf (basP d fr to at_) (fun _ => 0) := fun hz => ⟨⟨Or.inl rfl, by omega, fun i hi => by rw [ft i hi]; omega, fun e => by
    split
    · rw [ft _ (by omega)]; rfl
    · rfl⟩, Or.inl ⟨hz, fun _ => rfl⟩⟩
  rw [if_pos (by omega)]
  by_cases c1 : (arcN d.1 fr to at_ : Int) + d.2.1 - 1 < 0
  · rw [if_pos c1]
    refine ⟨_, _, _, _, _, _, _, _, rfl, zero (fun k => ?_)⟩
    unfold basP
    rw [if_pos (by omega), if_neg (by omega)]
  · rw [if_neg c1, if_pos (by omega)]
    by_cases c2 : (if (0 : Int) < ((d.1 : Int) - 1) then ((d.1 : Int) - 1) else 0) < (arcN d.1 fr to at_ : Int) + d.2.1 - 1
    · rw [if_pos c2]
      refine ⟨_, _, _, _, _, _, _, _, rfl, zero (fun k => ?_)⟩
      unfold basP
      by_cases n0 : d.1 = 0
      · rw [if_pos n0]
        rw [if_neg (by omega)] at c2
        have : arcN d.1 fr to at_ = 0 := by omega
        rw [if_neg (by omega)]
      · rw [if_neg n0]
        have : ¬ ((arcN d.1 fr to at_ : Int) + d.2.1 = (d.1 : Int)) := by
          intro w; rw [w] at c2; split at c2 <;> omega
        rw [if_neg this]
    · rw [if_neg c2]
      have c2' : (arcN d.1 fr to at_ : Int) + d.2.1 - 1 = ((d.1 - 1 : Nat) : Int) := by split at c2 <;> omega
      rw [c2', if_pos (by omega)]
      obtain ⟨m, hm⟩ : ∃ m, m = d.1 - 1 := ⟨_, rfl⟩
      rw [← hm]
      have m512 : 2 ^ m ≤ 512 := by
        have : 2 ^ m ≤ 2 ^ 9 := Nat.pow_le_pow_right (by omega) (by omega)
        omega
      have mp : 0 < 2 ^ m := Nat.pow_pos (by omega)
      unfold LM_Mi_expand LB_Mi_expand_0
      obtain ⟨rc1, S1, g1, g2, g3, g4, g5⟩ := C_reach fl (by omega) (show 0 < 512 by omega) (fillF rc 512 (0 : Int)) S (by left; unfold fillF; rw [if_pos (by omega)])
      have g1 : LM_Mi_reach fl 0 (fillF rc 512 (0 : Int)) S = some (rc1, S1) := g1
      rw [g1]
      rw [Option.bind_some]
      rw [if_pos (by omega), b_shl m (by omega), show ((2 ^ m : Nat) : Int) - 1 = ((2 ^ m - 1 : Nat) : Int) by omega, if_pos (by omega)]
      have rc0 : ∀ y, y < 512 → rc1 y = if y = 0 then 1 else 0 := fun y hy => by
        rw [g2 y]
        by_cases e : y = 0
        · rw [if_pos e, if_pos e]
        · rw [if_neg e, if_neg e]; unfold fillF; rw [if_pos hy]
      have S0 : ∀ e, e < 10 → up S1 0 1 (10 * 0 + e) = if e = 0 then 1 else 0 := fun e he => by
        have z := g3 (by unfold fillF; rw [if_pos (by omega)]) e he
        by_cases e0 : e = 0
        · rw [if_pos e0, e0]; exact up_eq _ _ _
        · rw [if_neg e0, up_ne _ _ (by omega)]; exact z
      by_cases n0 : d.1 = 0
      · have m0 : m = 0 := by omega
        subst m0
        obtain ⟨fl', rfl⟩ : ∃ r, fl = r + 1 := ⟨fl - 1, by omega⟩
        rw [LB_Mi_expand_32, if_pos (by omega)]
        rw [Option.bind_some]
        rw [if_pos (by omega)]
        have an : arcN d.1 fr to at_ = 0 := by omega
        obtain ⟨ra', si', c, te', k1, k2, k3⟩ := al72 (fl' + 1) (by omega) (d.1 : Int) d.2.1 sgA ((2 * d.1 : Nat) : Int) at_ fr to (m := 0) (F := 0) (by omega) (by omega) rc1 (up S1 0 1) ar' (by rw [rc0 0 (by omega)]; rfl) (b := basP d fr to at_) (fun e he => by
          rw [S0 e he]
          unfold basP
          rw [if_pos n0]
          by_cases e0 : e = 0
          · rw [if_pos e0, if_pos ⟨by omega, e0⟩]
          · rw [if_neg e0, if_neg (fun w => e0 w.2)]) (bas_abs d fr to at_ hn) (fun k hk => by unfold basP; rw [if_pos n0, if_neg (by omega)]) 1 (fl' + 1) 0 (fillF te 161 0) (by omega) (by omega) (fun k hk => by rw [ft k hk, if_neg (by omega)])
        exact ⟨_, _, _, _, _, _, _, c, k1, k2, k3⟩
      · have hd : d.1 = m + 1 := by omega
        have hK : arcN d.1 fr to at_ = d.1 := by omega
        have h4 := m_abs d.2.2.2 (arcQ d.1 fr to at_) d.1
        obtain ⟨rc2, S2, x1, x2⟩ := ex32 fl hfl hE (m := m) (by omega) hd hK hs a2 (2 ^ m - 1) fl 0 rc1 (up S1 0 1) (by omega) (by omega) (fun X hX => by
          rw [rc0 X (by omega)]
          by_cases X0 : X = 0
          · rw [if_pos X0]
            refine ⟨Or.inr rfl, fun _ e he => ?_, fun w => by omega⟩
            rw [X0, S0 e he]
            show _ = prt _ _ _ 0 0 e
            unfold prt
            rw [sm_zero (fun j _ => if_neg (fun w => by omega))]
            by_cases e0 : e = 0
            · rw [if_pos e0, if_pos ⟨rfl, e0⟩]; rfl
            · rw [if_neg e0, if_neg (fun w => e0 w.2)]; rfl
          · rw [if_neg X0]
            refine ⟨Or.inl rfl, fun w => by omega, fun _ e he => ?_⟩
            show prt _ _ _ X 0 e = 0
            unfold prt
            rw [sm_zero (fun j _ => if_neg (fun w => by omega)), if_neg (fun w => X0 w.1)]; rfl)
        have x1 : LB_Mi_expand_32 fl (m : Int) sgA ar' at_ fl ((2 ^ m - 1 : Nat) : Int) 0 rc1 (up S1 (Int.toNat 0) 1) = some (rc2, S2) := x1
        rw [x1]
        rw [Option.bind_some]
        rw [if_pos (by omega)]
        have bv : ∀ e, prt d.1 (mLo d.2.2.2 (arcQ d.1 fr to at_)) (mHi d.2.2.2 (arcQ d.1 fr to at_)) (2 ^ m - 1) (2 ^ m - 1) e = basP d fr to at_ e := fun e => by
          rw [prt_self (by omega) (by omega)]
          unfold PV basP
          rw [b_fcrd m (by omega), if_neg n0, if_pos (by omega), show d.1 - 1 = m by omega]
          refine PM_cg m (fun r hr => ?_) _ _ (fun j hj => ?_) e
          · unfold idN skip; rw [if_neg (by omega)]
          · show (2 ^ m - 1).testBit j = (j != m)
            rw [b_full m (by omega) j (by omega)]
            by_cases e : j = m
            · subst e; simp
            · have : j < m := by omega
              simp [this, e]
        obtain ⟨y1, y2, y3⟩ := x2 (2 ^ m - 1) (by omega)
        have y2' : rc2 (2 ^ m - 1) = 1 → ∀ e, e < 10 → S2 (10 * (2 ^ m - 1) + e) = basP d fr to at_ e := fun w e he => (y2 w e he).trans (bv e)
        have y3' : rc2 (2 ^ m - 1) = 0 → ∀ e, e < 10 → basP d fr to at_ e = 0 := fun w e he => (bv e).symm.trans (y3 w e he)
        rcases y1 with y1 | y1
        · obtain ⟨fl', rfl⟩ : ∃ r, fl = r + 1 := ⟨fl - 1, by omega⟩
          have hz : ∀ k, basP d fr to at_ k = 0 := fun k => by
            by_cases e : k < 10
            · exact y3' y1 k e
            · exact bas_deg d fr to at_ hn k (by omega)
          have y1' : ¬ ((rc2, S2).1 (2 ^ m - 1) = (1 : Int)) := by show ¬ (rc2 (2 ^ m - 1) = 1); omega
          rw [LB_Mi_alexander_72, if_neg (by omega), if_pos (by omega), Int.toNat_natCast, if_pos y1']
          unfold LB_Mi_alexander_118
          obtain ⟨ra', si', c, k1, k2, k3⟩ := C_makeNormal (fl' + 1) (by omega) (te := fillF te 161 0) (b := basP d fr to at_) (fun k hk => hz k) (fun k => by rw [hz]; omega) (fun k hk => by rw [ft k hk]; split; rw [hz]; rfl)
          rw [k1]
          exact ⟨_, _, _, _, _, _, _, c, rfl, k2, k3⟩
        · obtain ⟨ra', si', c, te', k1, k2, k3⟩ := al72 fl (by omega) (d.1 : Int) d.2.1 sgA ((2 * d.1 : Nat) : Int) at_ fr to (m := m) (F := 2 ^ m - 1) (by omega) (by omega) rc2 S2 ar' y1 (b := basP d fr to at_) (fun e he => y2' y1 e he) (bas_abs d fr to at_ hn) (fun k hk => by
            unfold basP
            rw [if_neg n0]
            split
            · exact PM_deg _ _ _ _ _ _ _ (by omega)
            · rfl) (m + 1) fl 0 (fillF te 161 0) (by omega) (by omega) (fun k hk => by rw [ft k hk, if_neg (by omega)])
          exact ⟨_, _, _, _, _, _, _, c, k1, k2, k3⟩
end
