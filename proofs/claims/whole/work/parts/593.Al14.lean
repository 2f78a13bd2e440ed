theorem mm23 (fl : Nat) (n : Int) (HI LO : Nat → Int) (kb : Int → Int → Int → Int → (Nat → Int) → (Nat → Int) → (Nat → Int) → Option ((Nat → Int) × (Nat → Int) × (Nat → Int))) {K X : Nat} (hK : K ≤ 11) (hX : X < 2048) (wo : Int) (od : Nat) (g M o : Nat → Int) :
    ∀ (r nn j : Nat), j + r = K → r < nn → LB_Md_meetMinors_23 fl n HI LO kb nn wo (K : Int) (od : Int) (X : Int) ((cntP (bS X) j : Nat) : Int) (j : Int) g M o = (if cntP (bS X) K = od then LB_Md_meetMinors_59 fl n HI LO kb fl wo (K : Int) (od : Int) (X : Int) (od : Int) 0 g M o else kb wo (K : Int) (od : Int) ((X + 1 : Nat) : Int) g M o) := by
  intro r
  induction r with
  | zero =>
    intro nn j hr hnn
    obtain ⟨nn, rfl⟩ : ∃ r, nn = r + 1 := ⟨nn - 1, by omega⟩
    have : j = K := by omega
    subst this
    rw [LB_Md_meetMinors_23, if_pos (by omega)]
    by_cases c : cntP (bS X) j = od
    · rw [if_pos (by omega), if_pos c, c]
    · rw [if_neg (by omega), if_neg c]
      unfold LB_Md_meetMinors_107
      rw [if_pos (by omega), show ((X : Int) + 1) = ((X + 1 : Nat) : Int) by omega]
  | succ r ih =>
    intro nn j hr hnn
    obtain ⟨nn, rfl⟩ : ∃ r, nn = r + 1 := ⟨nn - 1, by omega⟩
    have cl := cnt_lez (bS X) j
    have e : ((cntP (bS X) j : Nat) : Int) + (if X.testBit j then (1 : Int) else 0) = ((cntP (bS X) (j + 1) : Nat) : Int) := by
      rw [cnt_s]
      have : bS X j = X.testBit j := rfl
      rw [this]
      cases X.testBit j <;> simp
    have cl2 := cnt_lez (bS X) (j + 1)
    rw [LB_Md_meetMinors_23, if_neg (by omega), b_test X hX j (by omega), e, if_pos (by omega), show ((j : Int) + 1) = ((j + 1 : Nat) : Int) by omega]
    exact ih nn (j + 1) (by omega) (by omega)
theorem mm59 (fl : Nat) (n : Int) (HI LO : Nat → Int) (kb : Int → Int → Int → Int → (Nat → Int) → (Nat → Int) → (Nat → Int) → Option ((Nat → Int) × (Nat → Int) × (Nat → Int))) {X : Nat} (hX : X < 2048) (wo K od x5 : Int) (g M : Nat → Int) :
    ∀ (r nn i : Nat) (o : Nat → Int), i + r = 16 → r < nn → (∀ k, k < i → o k = if k < 12 then M (12 * X + k) else 0) → ∃ o', (∀ k, k < 16 → o' k = if k < 12 then M (12 * X + k) else 0) ∧ ∀ g' o'', LM_Md_meet fl g o' = some (g', o'') → LB_Md_meetMinors_59 fl n HI LO kb nn wo K od (X : Int) x5 (i : Int) g M o = kb wo K od ((X + 1 : Nat) : Int) g' M o'' := by
  intro r
  induction r with
  | zero =>
    intro nn i o hr hnn h
    obtain ⟨nn, rfl⟩ : ∃ r, nn = r + 1 := ⟨nn - 1, by omega⟩
    refine ⟨o, fun k hk => h k (by omega), fun g' o'' hm => ?_⟩
    rw [LB_Md_meetMinors_59, if_pos (by omega), hm, Option.bind_some]
    unfold LB_Md_meetMinors_107
    rw [if_pos (by omega), show ((X : Int) + 1) = ((X + 1 : Nat) : Int) by omega]
  | succ r ih =>
    intro nn i o hr hnn h
    obtain ⟨nn, rfl⟩ : ∃ r, nn = r + 1 := ⟨nn - 1, by omega⟩
    obtain ⟨v, hv⟩ : ∃ v : Int, v = if i < 12 then M (12 * X + i) else 0 := ⟨_, rfl⟩
    obtain ⟨o', h1, h2⟩ := ih nn (i + 1) (up o i v) (by omega) (by omega) (fun k hk => by
      by_cases c : k = i
      · rw [c, up_eq, hv]
      · rw [up_ne _ _ c]; exact h k (by omega))
    refine ⟨o', h1, fun g' o'' hm => ?_⟩
    rw [← h2 g' o'' hm, LB_Md_meetMinors_59, if_neg (by omega)]
    by_cases c : i < 12
    · rw [if_neg (by omega), if_pos (by omega), if_pos (by omega)]
      unfold LB_Md_meetMinors_96
      rw [if_pos (by omega), if_pos (by omega), Int.toNat_natCast, show Int.toNat (12 * (X : Int) + (i : Int)) = 12 * X + i by omega, show ((i : Int) + 1) = ((i + 1 : Nat) : Int) by omega, hv, if_pos c]
    · rw [if_pos (by omega)]
      unfold LB_Md_meetMinors_96
      rw [if_pos (by omega), if_pos (by omega), Int.toNat_natCast, show ((i : Int) + 1) = ((i + 1 : Nat) : Int) by omega, hv, if_neg c]
theorem mm9 (fl : Nat) (hfl : 3000 ≤ fl) (n : Int) (HI LO : Nat → Int) {K : Nat} (hK : K ≤ 11) (wo : Int) (od : Nat) (M : Nat → Int) (Inv : Nat → (Nat → Int) → Prop)
    (hstep : ∀ X g o, X < 2 ^ K → crd X = od → Inv X g → (∀ k, k < 16 → o k = if k < 12 then M (12 * X + k) else 0) → ∃ g' o', LM_Md_meet fl g o = some (g', o') ∧ Inv (X + 1) g')
    (hskip : ∀ X g, X < 2 ^ K → crd X ≠ od → Inv X g → Inv (X + 1) g) :
    ∀ (r nn X : Nat) (g o : Nat → Int), X + r = 2 ^ K → r < nn → Inv X g → ∃ g' o', LB_Md_meetMinors_9 fl n HI LO nn wo (K : Int) (od : Int) (X : Int) g M o = some (g', M, o') ∧ Inv (2 ^ K) g' := by
  have p11 : 2 ^ K ≤ 2048 := by
    have : 2 ^ K ≤ 2 ^ 11 := Nat.pow_le_pow_right (by omega) hK
    omega
  intro r
  induction r with
  | zero =>
    intro nn X g o hr hnn h
    obtain ⟨nn, rfl⟩ : ∃ r, nn = r + 1 := ⟨nn - 1, by omega⟩
    rw [LB_Md_meetMinors_9, b_shl K (by omega), if_pos (by omega)]
    have : X = 2 ^ K := by omega
    rw [this] at h
    exact ⟨g, o, rfl, h⟩
  | succ r ih =>
    intro nn X g o hr hnn h
    obtain ⟨nn, rfl⟩ : ∃ r, nn = r + 1 := ⟨nn - 1, by omega⟩
    have hXK : X < 2 ^ K := by omega
    have ck : cntP (bS X) K = crd X := cnt_bS hXK (Nat.le_refl _) (by omega)
    rw [LB_Md_meetMinors_9, b_shl K (by omega), if_neg (by omega)]
    have m23 := mm23 fl n HI LO (LB_Md_meetMinors_9 fl n HI LO nn) (K := K) (X := X) hK (by omega) wo od g M o K fl 0 (by omega) (by omega)
    have m23 : LB_Md_meetMinors_23 fl n HI LO (LB_Md_meetMinors_9 fl n HI LO nn) fl wo (K : Int) (od : Int) (X : Int) 0 0 g M o = _ := m23
    rw [m23, ck]
    by_cases c : crd X = od
    · rw [if_pos c]
      obtain ⟨o1, k1, k2⟩ := mm59 fl n HI LO (LB_Md_meetMinors_9 fl n HI LO nn) (X := X) (by omega) wo (K : Int) (od : Int) (od : Int) g M 16 fl 0 o (by omega) (by omega) (fun k hk => by omega)
      obtain ⟨g', o', l1, l2⟩ := hstep X g o1 hXK c h k1
      have k2 : LB_Md_meetMinors_59 fl n HI LO (LB_Md_meetMinors_9 fl n HI LO nn) fl wo (K : Int) (od : Int) (X : Int) (od : Int) 0 g M o = _ := k2 g' o' l1
      rw [k2]
      exact ih nn (X + 1) g' o' (by omega) (by omega) l2
    · rw [if_neg c]
      exact ih nn (X + 1) g o (by omega) (by omega) (hskip X g hXK c h)
/-- from the relation to associates -/
theorem asc_shn {p q : Nat → Int} {a b : Nat} {s : Int} (h : ∀ k, shn a p k = s * shn b q k) (hq : ∀ k, q k = 0) : ∀ k, p k = 0 := fun k => by
  have := h (k + a)
  have e1 : shn a p (k + a) = p k := by unfold shn; rw [if_neg (by omega), Nat.add_sub_cancel]
  have e2 : shn b q (k + a) = 0 := by unfold shn; split; rfl; exact hq _
  rw [e1, e2, Int.mul_zero] at this
  exact this
theorem asB_of {p q B : Nat → Int} {a b v0 : Nat} {s : Int} (hs : s = 1 ∨ s = -1) (h : ∀ k, shn a p k = s * shn b q k) (hq : ∀ k, q k = shn v0 B k) (hB : B 0 ≠ 0) (hp : ∀ k, 12 ≤ k → p k = 0) {o : Nat → Int} (ho : ∀ k, k < 16 → o k = p k) : ∃ v, asB B o v s := by
  have e1 : ∀ k, shn a p (k + a) = p k := fun k => by unfold shn; rw [if_neg (by omega), Nat.add_sub_cancel]
  have e2 : ∀ k, shn b q k = shn (b + v0) B k := fun k => by
    unfold shn
    by_cases c : k < b
    · rw [if_pos c, if_pos (by omega)]
    · rw [if_neg c, hq]
      unfold shn
      by_cases d : k - b < v0
      · rw [if_pos d, if_pos (by omega)]
      · rw [if_neg d, if_neg (by omega), Nat.sub_sub]
  have ge : a ≤ b + v0 := by
    rcases Nat.lt_or_ge (b + v0) a with w | w
    · exfalso
      have := h (b + v0)
      rw [e2] at this
      unfold shn at this
      rw [if_pos w, if_neg (by omega), Nat.sub_self] at this
      rcases hs with e | e <;> rw [e] at this <;> omega
    · exact w
  have pv : ∀ k, p k = s * shn (b + v0 - a) B k := fun k => by
    rw [← e1 k, h, e2]
    congr 1
    unfold shn
    by_cases c : k + a < b + v0
    · rw [if_pos c, if_pos (by omega)]
    · rw [if_neg c, if_neg (by omega), show k + a - (b + v0) = k - (b + v0 - a) by omega]
  have nz : p (b + v0 - a) ≠ 0 := by
    rw [pv]; unfold shn; rw [if_neg (by omega), Nat.sub_self]
    rcases hs with e | e <;> rw [e] <;> omega
  have vl : b + v0 - a < 12 := by
    rcases Nat.lt_or_ge (b + v0 - a) 12 with w | w
    · exact w
    · exact absurd (hp _ w) nz
  refine ⟨b + v0 - a, hs, fun k hk => by rw [ho k hk, pv], by omega, fun k hk => ?_⟩
  have := pv (k + (b + v0 - a))
  rw [hp _ (by omega)] at this
  unfold shn at this
  rw [if_neg (by omega), Nat.add_sub_cancel] at this
  rcases hs with e | e <;> rw [e] at this <;> omega
theorem cnt_all (n : Nat) : cntP (fun _ => true) n = n := by
  induction n with
  | zero => rfl
  | succ n ih => rw [cnt_s, ih]; simp
/-- a set with all columns but one -/
theorem but_one {n X : Nat} (hn : n ≤ 12) (hX : X < 2 ^ n) (hc : crd X + 1 = n) : ∃ c, c < n ∧ ∀ j, j < n → bS X j = butC c j := by
  have ck : cntP (bS X) n = crd X := cnt_bS hX (Nat.le_refl _) hn
  have ex : ∃ c, c < n ∧ bS X c = false := by
    refine Classical.byContradiction (fun no => ?_)
    have : cntP (bS X) n = cntP (fun _ => true) n := cnt_congr (fun j hj => by
      cases t : bS X j
      · exact absurd ⟨j, hj, t⟩ no
      · rfl)
    rw [cnt_all] at this
    omega
  obtain ⟨c, c1, c2⟩ := ex
  refine ⟨c, c1, fun j hj => ?_⟩
  unfold butC
  by_cases e : j = c
  · rw [e, c2]; simp
  · rw [show (j != c) = true by simp [e]]
    cases t : bS X j
    · exfalso
      have b1 : cntP (fun _ => true) n = cntP (fun q => q != c) n + 1 := by
        rw [cnt_rm (p := fun _ => true) (x := c) rfl c1]
        congr 1
      have b2 : cntP (fun q => q != c) n = cntP (fun q => q != c && q != j) n + 1 := cnt_rm (p := fun q => q != c) (x := j) (by simp [e]) hj
      have b3 : cntP (bS X) n ≤ cntP (fun q => q != c && q != j) n := cnt_imp (fun q hq hp => by
        have h1 : q ≠ c := fun w => by rw [w, c2] at hp; cases hp
        have h2 : q ≠ j := fun w => by rw [w, t] at hp; cases hp
        simp [h1, h2])
      rw [cnt_all] at b1
      omega
    · rfl
/-- a polynomial of the reference -/
def PolM (po : Nat → Int) (c : Int → Int) : Prop := (∀ i, i < 201 → -1000000000000000 ≤ po i ∧ po i ≤ 1000000000000000) ∧ ∀ e : Int, c e = if -100 ≤ e ∧ e ≤ 100 then po (e + 100).toNat else 0
theorem cp2x (fl : Nat) : ∀ (r nn i : Nat) (p : Nat → Int), i + r = 201 → r < nn → (∀ k, k < i → p k = 0) → ∃ p', LB_Md_clearPoly_2 fl nn (i : Int) p = some p' ∧ ∀ k, k < 201 → p' k = 0 := by
  intro r
  induction r with
  | zero =>
    intro nn i p hr hnn h
    obtain ⟨nn, rfl⟩ : ∃ r, nn = r + 1 := ⟨nn - 1, by omega⟩
    rw [LB_Md_clearPoly_2, if_pos (by omega)]
    exact ⟨p, rfl, fun k hk => h k (by omega)⟩
  | succ r ih =>
    intro nn i p hr hnn h
    obtain ⟨nn, rfl⟩ : ∃ r, nn = r + 1 := ⟨nn - 1, by omega⟩
    rw [LB_Md_clearPoly_2, if_neg (by omega), if_pos (by omega), if_pos (by omega), Int.toNat_natCast, show ((i : Int) + 1) = ((i + 1 : Nat) : Int) by omega]
    exact ih nn (i + 1) _ (by omega) (by omega) (fun k hk => by
      by_cases c : k = i
      · rw [c, up_eq]
      · rw [up_ne _ _ c]; exact h k (by omega))
theorem M_clear (fl : Nat) (hfl : 300 ≤ fl) (p : Nat → Int) : ∃ p', LM_Md_clearPoly fl p = some p' ∧ ∀ k, k < 201 → p' k = 0 := cp2x fl 201 fl 0 p (by omega) (by omega) (fun k hk => by omega)
/-- what there is at the end of alexander: zero, or the base brought down, up to a sign -/
def GE (b g : Nat → Int) : Prop := ((∀ k, b k = 0) ∧ ∀ k, k < 16 → g k = 0) ∨ ∃ v0 B, (∀ k, b k = shn v0 B k) ∧ B 0 ≠ 0 ∧ (∀ k, 12 ≤ k + v0 → B k = 0) ∧ (∀ k, (B k).natAbs ≤ 10000000) ∧ PB B g
theorem ax138 (fl : Nat) (ed : Int) (be : Nat → Int) (n ci : Int) (sgA fi fo pl : Nat → Int) (x1 : Int) {s : Int} (hs : s = 1 ∨ s = -1) (arcs : Int) (ar g hi lo mi on : Nat → Int) (bg : ∀ k, k < 16 → -1000000000000 ≤ g k ∧ g k ≤ 1000000000000) :
    ∀ (r nn i : Nat) (po : Nat → Int), i + r = 16 → r < nn → (∀ k, k < 201 → po k = if 100 ≤ k ∧ k < 100 + i then s * g (k - 100) else 0) → ∃ po', LB_Md_alexander_138 fl ed be n ci sgA fi fo pl nn x1 s (i : Int) arcs ar g hi lo mi on po = some (arcs, ar, g, hi, lo, mi, on, po') ∧ ∀ k, k < 201 → po' k = if 100 ≤ k ∧ k < 116 then s * g (k - 100) else 0 := by
  intro r
  induction r with
  | zero =>
    intro nn i po hr hnn h
    obtain ⟨nn, rfl⟩ : ∃ r, nn = r + 1 := ⟨nn - 1, by omega⟩
    rw [LB_Md_alexander_138, if_pos (by omega)]
    refine ⟨po, rfl, fun k hk => ?_⟩
    rw [h k hk, show 100 + i = 116 by omega]
  | succ r ih =>
    intro nn i po hr hnn h
    obtain ⟨nn, rfl⟩ : ∃ r, nn = r + 1 := ⟨nn - 1, by omega⟩
    have b := bg i (by omega)
    have b2 : -1000000000000 ≤ s * g i ∧ s * g i ≤ 1000000000000 := by rcases hs with e | e <;> rw [e] <;> omega
    rw [LB_Md_alexander_138, if_neg (by omega), if_pos (by omega), if_pos (by omega), Int.toNat_natCast, if_pos (by omega), show ((i : Int) + 1) = ((i + 1 : Nat) : Int) by omega, show Int.toNat (100 + (i : Int)) = 100 + i by omega]
    refine ih nn (i + 1) _ (by omega) (by omega) (fun k hk => ?_)
    by_cases c : k = 100 + i
    · rw [c, up_eq, if_pos (by omega), show 100 + i - 100 = i by omega]
    · rw [up_ne _ _ c, h k hk]
      by_cases d : 100 ≤ k ∧ k < 100 + i
      · rw [if_pos d, if_pos (by omega)]
      · rw [if_neg d, if_neg (by omega)]
theorem ax109 (fl : Nat) (hfl : 300 ≤ fl) (ed : Int) (be : Nat → Int) (n ci : Int) (sgA fi fo pl : Nat → Int) (x1 x2 : Int) (arcs : Int) (ar : Nat → Int) {g b : Nat → Int} (hi lo mi on : Nat → Int) {po : Nat → Int} (hpo : ∀ k, k < 201 → po k = 0) (hG : GE b g) :
    ∃ g' po' c, LB_Md_alexander_109 fl ed be n ci sgA fi fo pl x1 x2 arcs ar g hi lo mi on po = some (arcs, ar, g', hi, lo, mi, on, po') ∧ PolM po' c ∧ NormOf b c := by
  unfold LB_Md_alexander_109
  rcases hG with ⟨bz, gz⟩ | ⟨v0, B, h1, h2, h3, h4, s, hs, h5⟩
  · rw [M_lower0 fl (by omega) gz, Option.bind_some, if_pos (by decide), if_pos (show (0 : Int) ≤ g (Int.toNat 0) by show 0 ≤ g 0; rw [gz 0 (by omega)]; decide)]
    unfold LB_Md_alexander_134
    obtain ⟨po', k1, k2⟩ := ax138 fl ed be n ci sgA fi fo pl x1 (s := 1) (Or.inl rfl) arcs ar g hi lo mi on (fun k hk => by rw [gz k hk]; omega) 16 fl 0 po (by omega) (by omega) (fun k hk => by rw [hpo k hk, if_neg (by omega)])
    have kz : ∀ k, k < 201 → po' k = 0 := fun k hk => by
      rw [k2 k hk]
      by_cases d : 100 ≤ k ∧ k < 116
      · rw [if_pos d, gz _ (by omega), Int.mul_zero]
      · rw [if_neg d]
    refine ⟨g, po', fun _ => 0, k1, ⟨fun i hi => by rw [kz i hi]; omega, fun e => ?_⟩, Or.inl ⟨bz, fun _ => rfl⟩⟩
    split
    · rw [kz _ (by omega)]
    · rfl
  · have ag : asB B g 0 s := ⟨hs, fun k hk => by rw [h5 k hk]; unfold shn; rw [if_neg (by omega)]; rfl, by omega, fun k hk => h3 k (by omega)⟩
    obtain ⟨g', l1, l2⟩ := M_lowerB fl (by omega) h2 ag
    have bg : ∀ k, k < 16 → -1000000000000 ≤ g' k ∧ g' k ≤ 1000000000000 := fun k hk => by
      have := h4 k
      rw [l2 k hk]; rcases hs with e | e <;> rw [e] <;> omega
    obtain ⟨u, hu⟩ : ∃ u : Int, u = if B 0 ≤ 0 then -1 else 1 := ⟨_, rfl⟩
    have fin : ∀ t : Int, (t = 1 ∨ t = -1) → t * s = u → ∃ g'' po' c, LB_Md_alexander_134 fl ed be n ci sgA fi fo pl t x1 x2 arcs ar g' hi lo mi on po = some (arcs, ar, g'', hi, lo, mi, on, po') ∧ PolM po' c ∧ NormOf b c := fun t ht htu => by
      unfold LB_Md_alexander_134
      obtain ⟨po', k1, k2⟩ := ax138 fl ed be n ci sgA fi fo pl x1 (s := t) ht arcs ar g' hi lo mi on bg 16 fl 0 po (by omega) (by omega) (fun k hk => by rw [hpo k hk, if_neg (by omega)])
      have kv : ∀ k, k < 201 → po' k = if 100 ≤ k then u * B (k - 100) else 0 := fun k hk => by
        rw [k2 k hk]
        by_cases d : 100 ≤ k
        · rw [if_pos d]
          by_cases e : k < 116
          · rw [if_pos ⟨d, e⟩, l2 _ (by omega), ← htu]; grind
          · rw [if_neg (by omega), h3 _ (by omega), Int.mul_zero]
        · rw [if_neg (by omega), if_neg d]
      have ub : u = 1 ∨ u = -1 := by rw [hu]; split <;> simp
      refine ⟨g', po', fun e => if -100 ≤ e ∧ e ≤ 100 then po' (e + 100).toNat else 0, k1, ⟨fun i hi => ?_, fun e => rfl⟩, Or.inr ⟨v0, ?_, fun k hk => ?_, fun e => ?_⟩⟩
      · rw [kv i hi]
        split
        · have := h4 (i - 100)
          rcases ub with e | e <;> rw [e] <;> omega
        · omega
      · rw [h1]; unfold shn; rw [if_neg (by omega), Nat.sub_self]; exact h2
      · rw [h1]; unfold shn; rw [if_pos hk]
      · have bv : ∀ j, b (v0 + j) = B j := fun j => by rw [h1]; unfold shn; rw [if_neg (by omega), Nat.add_sub_cancel_left]
        have bv0 : b v0 = B 0 := bv 0
        show (if _ then _ else _) = _
        rw [bv0, ← hu, bv]
        by_cases w : -100 ≤ e ∧ e ≤ 100
        · rw [if_pos w, kv _ (by omega)]
          by_cases en : e < 0
          · rw [if_pos en, if_neg (by omega)]
          · rw [if_neg en, if_pos (by omega), show (e + 100).toNat - 100 = e.toNat by omega]
        · rw [if_neg w]
          by_cases en : e < 0
          · rw [if_pos en]
          · rw [if_neg en, h3 _ (by omega), Int.mul_zero]
    rw [l1, Option.bind_some, if_pos (by decide)]
    have g0 : g' 0 = s * B 0 := l2 0 (by omega)
    by_cases c : 0 ≤ g' (Int.toNat 0)
    · rw [if_pos c]
      have c : 0 ≤ g' 0 := c
      refine fin 1 (Or.inl rfl) ?_
      rw [hu]
      rcases hs with e | e <;> rw [e] at g0 ⊢
      · rw [if_neg (by omega)]; rfl
      · rw [if_pos (by omega)]; rfl
    · rw [if_neg c]
      have c : ¬ 0 ≤ g' 0 := c
      refine fin (-1) (Or.inr rfl) ?_
      rw [hu]
      rcases hs with e | e <;> rw [e] at g0 ⊢
      · rw [if_pos (by omega)]; rfl
      · rw [if_neg (by omega)]; rfl
