theorem ax37 (fl : Nat) (ed : Int) (be : Nat → Int) (n ci : Int) (sgA fi fo pl : Nat → Int) (od arcs : Int) (ar hi lo mi on po : Nat → Int) :
    ∀ (r nn i : Nat) (g : Nat → Int), i + r = 16 → r < nn → (∀ k, k < i → g k = 0) → ∃ g', (∀ k, k < 16 → g' k = 0) ∧ LB_Md_alexander_37 fl ed be n ci sgA fi fo pl nn od (i : Int) arcs ar g hi lo mi on po = (if ¬ (od = n) then LB_Md_alexander_82 fl ed be n ci sgA fi fo pl fl od 0 arcs ar g' hi lo mi on po else ((LM_Md_meetMinors fl n hi lo (-1) arcs od g' mi on).bind fun o0 => LB_Md_alexander_109 fl ed be n ci sgA fi fo pl od 16 arcs ar o0.1 hi lo o0.2.1 o0.2.2 po)) := by
  intro r
  induction r with
  | zero =>
    intro nn i g hr hnn h
    obtain ⟨nn, rfl⟩ : ∃ r, nn = r + 1 := ⟨nn - 1, by omega⟩
    have : i = 16 := by omega
    subst this
    refine ⟨g, fun k hk => h k (by omega), ?_⟩
    rw [LB_Md_alexander_37, if_pos (by omega)]; rfl
  | succ r ih =>
    intro nn i g hr hnn h
    obtain ⟨nn, rfl⟩ : ∃ r, nn = r + 1 := ⟨nn - 1, by omega⟩
    obtain ⟨g', h1, h2⟩ := ih nn (i + 1) (up g i 0) (by omega) (by omega) (fun k hk => by
      by_cases c : k = i
      · rw [c, up_eq]
      · rw [up_ne _ _ c]; exact h k (by omega))
    refine ⟨g', h1, ?_⟩
    rw [← h2, LB_Md_alexander_37, if_neg (by omega), if_pos (by omega), if_pos (by omega), Int.toNat_natCast, show ((i : Int) + 1) = ((i + 1 : Nat) : Int) by omega]
theorem low_ex {b : Nat → Int} (hb : ∀ k, 12 ≤ k → b k = 0) (bb : ∀ k, (b k).natAbs ≤ 10000000) : (∀ k, b k = 0) ∨ ∃ v0 B, (∀ k, b k = shn v0 B k) ∧ B 0 ≠ 0 ∧ (∀ k, 12 ≤ k + v0 → B k = 0) ∧ (∀ k, (B k).natAbs ≤ 10000000) := by
  have key : ∀ i, (∃ v, v < i ∧ b v ≠ 0 ∧ ∀ k, k < v → b k = 0) ∨ ∀ k, k < i → b k = 0 := by
    intro i
    induction i with
    | zero => right; intro k hk; omega
    | succ i ih =>
      rcases ih with ⟨v, v1, v2, v3⟩ | h
      · exact Or.inl ⟨v, by omega, v2, v3⟩
      · by_cases c : b i = 0
        · right
          intro k hk
          by_cases e : k = i
          · rw [e]; exact c
          · exact h k (by omega)
        · exact Or.inl ⟨i, by omega, c, h⟩
  rcases key 12 with ⟨v, v1, v2, v3⟩ | h
  · right
    refine ⟨v, fun k => b (k + v), fun k => ?_, by show b (0 + v) ≠ 0; rw [Nat.zero_add]; exact v2, fun k hk => hb _ hk, fun k => bb _⟩
    unfold shn
    by_cases c : k < v
    · rw [if_pos c]; exact v3 k c
    · rw [if_neg c]; show b k = b (k - v + v); rw [Nat.sub_add_cancel (by omega)]
  · left
    intro k
    by_cases c : k < 12
    · exact h k c
    · exact hb k (by omega)
theorem crd_0 : crd 0 = 0 := by decide
theorem GE_meet (fl : Nat) (hfl : 20000000 ≤ fl) {b : Nat → Int} {g o p : Nat → Int} (hb : ∀ k, 12 ≤ k → b k = 0) (bb : ∀ k, (b k).natAbs ≤ 10000000) (hp : ∀ k, 12 ≤ k → p k = 0) (hg : (∀ k, k < 16 → g k = 0) ∨ GE b g) (ho : ∀ k, k < 16 → o k = p k) {a c : Nat} {s : Int} (hs : s = 1 ∨ s = -1) (hr : ∀ k, shn a p k = s * shn c b k) : ∃ g' o', LM_Md_meet fl g o = some (g', o') ∧ GE b g' := by
  rcases low_ex hb bb with bz | ⟨v0, B, h1, h2, h3, h4⟩
  · have pz := asc_shn hr bz
    have gz : ∀ k, k < 16 → g k = 0 := by
      rcases hg with w | w
      · exact w
      · rcases w with ⟨_, w⟩ | ⟨v0, B, h1, h2, _⟩
        · exact w
        · exfalso
          have := h1 v0
          rw [bz] at this
          unfold shn at this
          rw [if_neg (by omega), Nat.sub_self] at this
          exact h2 this.symm
    exact ⟨g, o, M_meet0 fl (by omega) gz (fun k hk => by rw [ho k hk]; exact pz k), Or.inl ⟨bz, gz⟩⟩
  · obtain ⟨v, hv⟩ := asB_of hs hr h1 h2 hp ho
    have hg' : (∀ k, k < 16 → g k = 0) ∨ PB B g := by
      rcases hg with w | w
      · exact Or.inl w
      · rcases w with ⟨bz, _⟩ | ⟨v1, B1, g1, g2, g3, g4, g5⟩
        · exfalso
          have := h1 v0
          rw [bz] at this
          unfold shn at this
          rw [if_neg (by omega), Nat.sub_self] at this
          exact h2 this.symm
        · right
          have e0 : v1 = v0 := by
            have a1 : b v0 ≠ 0 := by rw [h1]; unfold shn; rw [if_neg (by omega), Nat.sub_self]; exact h2
            have a2 : b v1 ≠ 0 := by rw [g1]; unfold shn; rw [if_neg (by omega), Nat.sub_self]; exact g2
            rcases Nat.lt_trichotomy v1 v0 with l | l | l
            · exfalso; apply a2; rw [h1]; unfold shn; rw [if_pos l]
            · exact l
            · exfalso; apply a1; rw [g1]; unfold shn; rw [if_pos l]
          subst e0
          have eB : ∀ k, B1 k = B k := fun k => by
            have x := g1 (k + v1)
            rw [h1] at x
            unfold shn at x
            rw [if_neg (by omega), if_neg (by omega), Nat.add_sub_cancel] at x
            exact x.symm
          obtain ⟨t, ht, hB⟩ := g5
          exact ⟨t, ht, fun k hk => by rw [hB k hk, eB]⟩
    obtain ⟨g', o', k1, k2⟩ := M_meetB fl hfl h2 h4 hg' hv
    exact ⟨g', o', k1, Or.inr ⟨v0, B, h1, h2, h3, h4, k2⟩⟩
section
variable {nm fr to at_ : Nat → Int}
theorem m_b4 (sg : Nat → Int) (A : Nat → Nat) (r j : Nat) : -2 ≤ mLo sg A r j ∧ mLo sg A r j ≤ 2 ∧ -2 ≤ mHi sg A r j ∧ mHi sg A r j ≤ 2 := by
  unfold mLo mHi ind
  (repeat' split) <;> omega
/-- the minors met, row by row left out -/
theorem ax82 (fl : Nat) (hfl : 20000000 ≤ fl) {d : Dg} (hE : EdgA d.1 d.2.2.2 d.2.2.1 nm fr to at_) (hJ : Jd d) (hn : d.1 ≤ 10) (hn1 : 1 ≤ d.1) (hK : arcN d.1 fr to at_ = d.1) {HI LO : Nat → Int} (hmat : ∀ c, c < d.1 → ∀ j, j < 20 → HI (20 * c + j) = mHi d.2.2.2 (arcQ d.1 fr to at_) c j ∧ LO (20 * c + j) = mLo d.2.2.2 (arcQ d.1 fr to at_) c j) (hci : d.2.1 = 0) (ed : Int) (be : Nat → Int) (ci : Int) (sgA fi fo pl ar po : Nat → Int) :
    ∀ (r nn i : Nat) (g mi on : Nat → Int), i + r = d.1 → r < nn → (1 ≤ i → GE (basP d fr to at_) g) → (i = 0 → ∀ k, k < 16 → g k = 0) → ∃ g' mi' on', LB_Md_alexander_82 fl ed be (d.1 : Int) ci sgA fi fo pl nn ((d.1 : Int) - 1) (i : Int) (d.1 : Int) ar g HI LO mi on po = LB_Md_alexander_109 fl ed be (d.1 : Int) ci sgA fi fo pl ((d.1 : Int) - 1) (d.1 : Int) (d.1 : Int) ar g' HI LO mi' on' po ∧ GE (basP d fr to at_) g' := by
  have h4 := m_abs d.2.2.2 (arcQ d.1 fr to at_) d.1
  have b4 := m_b4 d.2.2.2 (arcQ d.1 fr to at_)
  have bas : ∀ k, basP d fr to at_ k = PM d.1 (mLo d.2.2.2 (arcQ d.1 fr to at_)) (mHi d.2.2.2 (arcQ d.1 fr to at_)) (skip (d.1 - 1)) (d.1 - 1) (butC (d.1 - 1)) k := fun k => by
    unfold basP; rw [if_neg (by omega), if_pos (by omega)]
  have hb : ∀ k, 12 ≤ k → basP d fr to at_ k = 0 := fun k hk => bas_deg d fr to at_ hn k (by omega)
  have bb : ∀ k, (basP d fr to at_ k).natAbs ≤ 10000000 := fun k => by have := bas_abs d fr to at_ hn k; omega
  intro r
  induction r with
  | zero =>
    intro nn i g mi on hr hnn h1 h0
    obtain ⟨nn, rfl⟩ : ∃ r, nn = r + 1 := ⟨nn - 1, by omega⟩
    have : i = d.1 := by omega
    subst this
    rw [LB_Md_alexander_82, if_pos (by omega)]
    exact ⟨g, mi, on, rfl, h1 hn1⟩
  | succ r ih =>
    intro nn i g mi on hr hnn h1 h0
    obtain ⟨nn, rfl⟩ : ∃ r, nn = r + 1 := ⟨nn - 1, by omega⟩
    obtain ⟨M, k1, k2⟩ := M_findMinors fl (by omega) d.1 hn HI LO (K := d.1) (by omega) (wo := (i : Int)) (by omega) h4 b4 hmat (R := d.1 - 1) (by omega) (fun m hm => by unfold rwX; split <;> omega) (fun m hm => by unfold rwX; rw [if_pos (by omega)]; omega) mi
    have stp : ∀ X g o, X < 2 ^ d.1 → crd X = d.1 - 1 → ((∀ k, k < 16 → g k = 0) ∨ GE (basP d fr to at_) g) → (∀ k, k < 16 → o k = if k < 12 then M (12 * X + k) else 0) → ∃ g' o', LM_Md_meet fl g o = some (g', o') ∧ GE (basP d fr to at_) g' := fun X g o hX hc hg ho => by
      obtain ⟨c, c1, c2⟩ := but_one (by omega) hX (by omega)
      obtain ⟨a, b, s, hs, hrel⟩ := min_rel hE hJ hK (r := i) (by omega) c1
      have rel : ∀ k, shn a (PV d.1 (mLo d.2.2.2 (arcQ d.1 fr to at_)) (mHi d.2.2.2 (arcQ d.1 fr to at_)) (rwX (i : Int)) X) k = s * shn b (basP d fr to at_) k := fun k => by
        have e1 : PV d.1 (mLo d.2.2.2 (arcQ d.1 fr to at_)) (mHi d.2.2.2 (arcQ d.1 fr to at_)) (rwX (i : Int)) X = PM d.1 (mLo d.2.2.2 (arcQ d.1 fr to at_)) (mHi d.2.2.2 (arcQ d.1 fr to at_)) (skip i) (d.1 - 1) (butC c) := by
          funext k
          unfold PV
          rw [hc]
          exact PM_cg (d.1 - 1) (fun r _ => by
            unfold rwX skip
            by_cases w : i ≤ r
            · rw [if_pos (by omega), if_pos w]
            · rw [if_neg (by omega), if_neg w]) _ _ c2 k
        have e2 : basP d fr to at_ = PM d.1 (mLo d.2.2.2 (arcQ d.1 fr to at_)) (mHi d.2.2.2 (arcQ d.1 fr to at_)) (skip (d.1 - 1)) (d.1 - 1) (butC (d.1 - 1)) := funext bas
        rw [e1, e2]; exact hrel k
      exact GE_meet fl hfl hb bb (p := PV d.1 (mLo d.2.2.2 (arcQ d.1 fr to at_)) (mHi d.2.2.2 (arcQ d.1 fr to at_)) (rwX (i : Int)) X) (fun k hk => PV_deg _ _ _ _ (by omega)) hg (fun k hk => by
        rw [ho k hk]
        by_cases w : k < 12
        · rw [if_pos w]; exact k2 X hX (by omega) k w
        · rw [if_neg w]; exact (PV_deg _ _ _ _ (by omega)).symm) hs rel
    have pp : 0 < 2 ^ d.1 := Nat.pow_pos (by omega)
    have p10 : 2 ^ d.1 ≤ 1024 := by
      have : 2 ^ d.1 ≤ 2 ^ 10 := Nat.pow_le_pow_right (by omega) hn
      omega
    obtain ⟨g', on', l1, l2⟩ := mm9 fl (by omega) (d.1 : Int) HI LO (K := d.1) (by omega) (i : Int) (d.1 - 1) M (fun X g => ((∀ k, k < 16 → g k = 0) ∨ GE (basP d fr to at_) g) ∧ ((∃ Y, Y < X ∧ crd Y = d.1 - 1) → GE (basP d fr to at_) g)) (fun X g o hX hc hI ho => by
      obtain ⟨g', o', y1, y2⟩ := stp X g o hX hc hI.1 ho
      exact ⟨g', o', y1, Or.inr y2, fun _ => y2⟩) (fun X g hX hc hI => ⟨hI.1, fun ⟨Y, hY, hcY⟩ => hI.2 ⟨Y, by
        rcases Nat.lt_or_ge Y X with w | w
        · exact w
        · have : Y = X := by omega
          rw [this] at hcY; exact absurd hcY hc, hcY⟩⟩) (2 ^ d.1) fl 0 g on (by omega) (by omega) ⟨by
        rcases Nat.eq_zero_or_pos i with w | w
        · exact Or.inl (h0 w)
        · exact Or.inr (h1 w), fun ⟨Y, hY, _⟩ => by omega⟩
    have l1 : LB_Md_meetMinors_9 fl (d.1 : Int) HI LO fl (i : Int) (d.1 : Int) ((d.1 - 1 : Nat) : Int) 0 g M on = _ := l1
    have od : (d.1 : Int) - 1 = ((d.1 - 1 : Nat) : Int) := by omega
    have GEg : GE (basP d fr to at_) g' := l2.2 ⟨2 ^ (d.1 - 1) - 1, by
      have : 2 ^ (d.1 - 1) ≤ 2 ^ d.1 := Nat.pow_le_pow_right (by omega) (by omega)
      omega, b_fcrd (d.1 - 1) (by omega)⟩
    have mmE : LM_Md_meetMinors fl (d.1 : Int) HI LO (i : Int) (d.1 : Int) ((d.1 : Int) - 1) g mi on = some (g', M, on') := by
      unfold LM_Md_meetMinors LB_Md_meetMinors_0
      rw [k1, Option.bind_some, od, l1]
    rw [LB_Md_alexander_82, if_neg (by omega), mmE, Option.bind_some, if_pos (by omega), show ((i : Int) + 1) = ((i + 1 : Nat) : Int) by omega]
    exact ih nn (i + 1) g' M on' (by omega) (by omega) (fun _ => GEg) (fun w => by omega)
def AXR (b : Nat → Int) (X : Option (Int × (Nat → Int) × (Nat → Int) × (Nat → Int) × (Nat → Int) × (Nat → Int) × (Nat → Int) × (Nat → Int))) : Prop := ∃ arcs' ar' g' hi' lo' mi' on' po' c, X = some (arcs', ar', g', hi', lo', mi', on', po') ∧ PolM po' c ∧ NormOf b c
theorem AXR_eq {b : Nat → Int} {X Y : Option (Int × (Nat → Int) × (Nat → Int) × (Nat → Int) × (Nat → Int) × (Nat → Int) × (Nat → Int) × (Nat → Int))} (h : X = Y) (hY : AXR b Y) : AXR b X := by rw [h]; exact hY
/-- the Alexander polynomial of the reference -/
theorem M_alex (fl : Nat) (hfl : 20000000 ≤ fl) {d : Dg} (h : okD d) (hE : EdgA d.1 d.2.2.2 d.2.2.1 nm fr to at_) (hJ : Jd d) (hn : d.1 ≤ 10) (hc : d.2.1 ≤ 9) {sgA pl fo : Nat → Int} (hs : like d.1 sgA d.2.2.2) (hp : ∀ q, q < 4 * d.1 → pl q = at_ q) (hfo : ∀ e, e < 2 * d.1 → fo e = ((nx to at_ e : Nat) : Int)) (arcs : Int) (ar g hi lo mi on po : Nat → Int) :
    AXR (basP d fr to at_) (LM_Md_alexander fl ((2 * d.1 : Nat) : Int) fr (d.1 : Int) d.2.1 sgA to fo pl arcs ar g hi lo mi on po) := by
  have hci := h.2.1
  unfold LM_Md_alexander LB_Md_alexander_0
  obtain ⟨p0, p1, p2⟩ := M_clear fl (by omega) po
  obtain ⟨ar', a1, a2⟩ := M_findArcs fl (by omega) (by omega) hE hfo (ci := d.2.1) (by omega) arcs ar
  have ag := arc_ge hE
  have al : arcN d.1 fr to at_ ≤ 2 * d.1 + 2 * d.1 := ar2_le _ _ _ _ _
  rw [p1, Option.bind_some, a1, Option.bind_some, if_pos (by omega)]
  have zero : (∀ k, basP d fr to at_ k = 0) → PolM p0 (fun _ => 0) ∧ NormOf (basP d fr to at_) (fun _ => 0) := fun hz => ⟨⟨fun i hi => by rw [p2 i hi]; omega, fun e => by
    split
    · rw [p2 _ (by omega)]
    · rfl⟩, Or.inl ⟨hz, fun _ => rfl⟩⟩
  by_cases c1 : (arcN d.1 fr to at_ : Int) + d.2.1 - 1 < 0
  · rw [if_pos c1]
    refine ⟨_, _, _, _, _, _, _, _, _, rfl, zero (fun k => ?_)⟩
    unfold basP
    rw [if_pos (by omega), if_neg (by omega)]
  · rw [if_neg c1]
    by_cases c2 : (arcN d.1 fr to at_ : Int) + d.2.1 - 1 ≤ (d.1 : Int)
    · rw [if_pos c2]
      obtain ⟨hi', lo', m1, m2⟩ := M_findMatrix fl (by omega) hE hn h.2.2.1 (by omega) hs a2 hp hi lo
      rw [m1, Option.bind_some]
      obtain ⟨g0, g1, g2⟩ := ax37 fl ((2 * d.1 : Nat) : Int) fr (d.1 : Int) d.2.1 sgA to fo pl ((arcN d.1 fr to at_ : Int) + d.2.1 - 1) ((arcN d.1 fr to at_ : Int) + d.2.1) ar' hi' lo' mi on p0 16 fl 0 g (by omega) (by omega) (fun k hk => by omega)
      refine AXR_eq g2 ?_
      by_cases c3 : (arcN d.1 fr to at_ : Int) + d.2.1 - 1 = (d.1 : Int)
      · rw [if_neg (fun w => w c3)]
        -- as many columns as rows, and one more
        have h4 := m_abs d.2.2.2 (arcQ d.1 fr to at_) (d.1 + 1)
        have b4 := m_b4 d.2.2.2 (arcQ d.1 fr to at_)
        obtain ⟨M, k1, k2⟩ := M_findMinors fl (by omega) d.1 hn hi' lo' (K := d.1 + 1) (by omega) (wo := -1) (by omega) h4 b4 m2 (R := d.1) (by omega) (fun m hm => by unfold rwX; rw [if_neg (by omega)]; exact hm) (fun m hm => by unfold rwX; rw [if_neg (by omega)]; omega) mi
        have hb : ∀ k, 12 ≤ k → basP d fr to at_ k = 0 := fun k hk => bas_deg d fr to at_ hn k (by omega)
        have bb : ∀ k, (basP d fr to at_ k).natAbs ≤ 10000000 := fun k => by have := bas_abs d fr to at_ hn k; omega
        have p11 : 2 ^ (d.1 + 1) ≤ 2048 := by
          have : 2 ^ (d.1 + 1) ≤ 2 ^ 11 := Nat.pow_le_pow_right (by omega) (by omega)
          omega
        have pv : ∀ X, X < 2 ^ (d.1 + 1) → crd X = d.1 → ∀ k, PV (d.1 + 1) (mLo d.2.2.2 (arcQ d.1 fr to at_)) (mHi d.2.2.2 (arcQ d.1 fr to at_)) (rwX (-1)) X k = basP d fr to at_ k := fun X hX hcX k => by
          by_cases n0 : d.1 = 0
          · have : X = 0 := by
              apply Nat.eq_of_testBit_eq
              intro i
              rw [Nat.zero_testBit]
              by_cases c : i < 12
              · cases t : X.testBit i
                · rfl
                · have := cnt_pos (p := bS X) c t
                  unfold crd at hcX; omega
              · exact bS_hi hX (by omega)
            subst this
            rw [PV_0]
            unfold basP
            rw [if_pos n0]
            have an : arcN d.1 fr to at_ = 0 := by omega
            by_cases e : k = 0
            · rw [if_pos e, if_pos ⟨by omega, e⟩]
            · rw [if_neg e, if_neg (fun w => e w.2)]
          · have e1 : basP d fr to at_ k = 0 := by unfold basP; rw [if_neg n0, if_neg (by omega)]
            rw [e1]
            unfold PV
            rw [hcX, PM_cg d.1 (σ := skip d.1) (fun r hr => by unfold rwX skip; rw [if_neg (by omega), if_neg (by omega)]) (bS X) (bS X) (fun _ _ => rfl) k]
            exact min_zero hE hJ (by omega) (d.1 + 1) (bS X) k
        obtain ⟨g', on', l1, l2⟩ := mm9 fl (by omega) (d.1 : Int) hi' lo' (K := d.1 + 1) (by omega) (-1) d.1 M (fun X g => ((∀ k, k < 16 → g k = 0) ∨ GE (basP d fr to at_) g) ∧ ((∃ Y, Y < X ∧ crd Y = d.1) → GE (basP d fr to at_) g)) (fun X g o hX hcX hI ho => by
          obtain ⟨g', o', y1, y2⟩ := GE_meet fl hfl (o := o) hb bb (p := basP d fr to at_) hb hI.1 (fun k hk => by
            rw [ho k hk]
            by_cases w : k < 12
            · rw [if_pos w, k2 X hX (by omega) k w, pv X hX hcX k]
            · rw [if_neg w, hb k (by omega)]) (a := 0) (c := 0) (s := 1) (Or.inl rfl) (fun k => by rw [Int.one_mul])
          exact ⟨g', o', y1, Or.inr y2, fun _ => y2⟩) (fun X g hX hcX hI => ⟨hI.1, fun ⟨Y, hY, hcY⟩ => hI.2 ⟨Y, by
            rcases Nat.lt_or_ge Y X with w | w
            · exact w
            · have : Y = X := by omega
              rw [this] at hcY; exact absurd hcY hcX, hcY⟩⟩) (2 ^ (d.1 + 1)) fl 0 g0 on (by omega) (by omega) ⟨Or.inl g1, fun ⟨Y, hY, _⟩ => by omega⟩
        have l1 : LB_Md_meetMinors_9 fl (d.1 : Int) hi' lo' fl (-1) ((d.1 + 1 : Nat) : Int) (d.1 : Int) 0 g0 M on = _ := l1
        have GEg : GE (basP d fr to at_) g' := by
          refine l2.2 ?_
          rcases Nat.lt_or_ge d.1 10 with w | w
          · exact ⟨2 ^ d.1 - 1, by
              have : 2 ^ d.1 ≤ 2 ^ (d.1 + 1) := Nat.pow_le_pow_right (by omega) (by omega)
              have : 0 < 2 ^ d.1 := Nat.pow_pos (by omega)
              omega, b_fcrd d.1 w⟩
          · have : d.1 = 10 := by omega
            rw [this]
            exact ⟨1023, by decide, by decide⟩
        have ea : (arcN d.1 fr to at_ : Int) + d.2.1 = ((d.1 + 1 : Nat) : Int) := by omega
        have mmE : LM_Md_meetMinors fl (d.1 : Int) hi' lo' (-1) ((arcN d.1 fr to at_ : Int) + d.2.1) ((arcN d.1 fr to at_ : Int) + d.2.1 - 1) g0 mi on = some (g', M, on') := by
          unfold LM_Md_meetMinors LB_Md_meetMinors_0
          rw [c3, ea, k1, Option.bind_some, l1]
        rw [mmE, Option.bind_some]
        obtain ⟨g'', po', c, y1, y2, y3⟩ := ax109 fl (by omega) ((2 * d.1 : Nat) : Int) fr (d.1 : Int) d.2.1 sgA to fo pl ((arcN d.1 fr to at_ : Int) + d.2.1 - 1) 16 ((arcN d.1 fr to at_ : Int) + d.2.1) ar' hi' lo' M on' p2 GEg
        exact ⟨_, _, _, _, _, _, _, _, c, y1, y2, y3⟩
      · rw [if_pos c3]
        have hK : arcN d.1 fr to at_ = d.1 := by omega
        have h0 : d.2.1 = 0 := by omega
        have ea : (arcN d.1 fr to at_ : Int) + d.2.1 = (d.1 : Int) := by omega
        obtain ⟨g', mi', on', x1, x2⟩ := ax82 fl hfl hE hJ hn (by omega) hK m2 h0 ((2 * d.1 : Nat) : Int) fr d.2.1 sgA to fo pl ar' p0 d.1 fl 0 g0 mi on (by omega) (by omega) (fun w => by omega) (fun _ => g1)
        have x1 : LB_Md_alexander_82 fl ((2 * d.1 : Nat) : Int) fr (d.1 : Int) d.2.1 sgA to fo pl fl ((d.1 : Int) - 1) 0 (d.1 : Int) ar' g0 hi' lo' mi on p0 = _ := x1
        rw [ea, x1]
        obtain ⟨g'', po', c, y1, y2, y3⟩ := ax109 fl (by omega) ((2 * d.1 : Nat) : Int) fr (d.1 : Int) d.2.1 sgA to fo pl ((d.1 : Int) - 1) (d.1 : Int) (d.1 : Int) ar' hi' lo' mi' on' p2 x2
        exact ⟨_, _, _, _, _, _, _, _, c, y1, y2, y3⟩
    · rw [if_neg c2]
      refine ⟨_, _, _, _, _, _, _, _, _, rfl, zero (fun k => ?_)⟩
      unfold basP
      by_cases n0 : d.1 = 0
      · rw [if_pos n0]
        have an : arcN d.1 fr to at_ = 0 := by omega
        rw [if_neg (by omega)]
      · rw [if_neg n0, if_neg (by omega)]
end
