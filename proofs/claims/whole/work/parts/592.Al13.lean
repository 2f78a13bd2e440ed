theorem M_degP (fl : Nat) (hfl : 100 ≤ fl) {p P : Nat → Int} {s : Int} (hs : s = 1 ∨ s = -1) (h : ∀ k, k < 16 → p k = s * P k) {D : Nat} (hD : D < 16) (h1 : P D ≠ 0) (h2 : ∀ k, D < k → k < 16 → P k = 0) : LM_Md_degree fl p = some (D : Int) := by
  have pz : ∀ k, k < 16 → (p k = 0 ↔ P k = 0) := fun k hk => by rw [h k hk]; rcases hs with e | e <;> rw [e] <;> omega
  rcases M_degree fl hfl p with ⟨e, z⟩ | ⟨n, n1, e, n2, n3⟩
  · exact absurd ((pz D hD).1 (z D hD)) h1
  · rw [e]
    rcases Nat.lt_trichotomy n D with l | l | l
    · exact absurd ((pz D hD).1 (n3 D l hD)) h1
    · rw [l]
    · exact absurd ((pz n n1).2 (h2 n l n1)) n2
theorem M_deg0 (fl : Nat) (hfl : 100 ≤ fl) {p : Nat → Int} (h : ∀ k, k < 16 → p k = 0) : LM_Md_degree fl p = some (-1) := by
  rcases M_degree fl hfl p with ⟨e, z⟩ | ⟨n, n1, e, n2, n3⟩
  · exact e
  · exact absurd (h n n1) n2
theorem rd40 (fl : Nat) (b : Nat → Int) {D : Nat} (g x y : Int) (hx : x = 1 ∨ x = -1) {a : Nat → Int} (ba : ∀ k, k < 16 → -1000000000000 ≤ a k ∧ a k ≤ 1000000000000) : ∀ (r nn i : Nat) (q : Nat → Int), i + r = 16 → r < nn → (∀ k, k < 16 → q k = if k < i then x * a k else a k) → ∃ q', LB_Md_reduce_40 fl b nn (D : Int) (D : Int) g x y (i : Int) q = LB_Md_reduce_67 fl b fl (D : Int) (D : Int) g x y 0 q' ∧ ∀ k, k < 16 → q' k = x * a k := by
  intro r
  induction r with
  | zero =>
    intro nn i q hr hnn h
    obtain ⟨nn, rfl⟩ : ∃ r, nn = r + 1 := ⟨nn - 1, by omega⟩
    rw [LB_Md_reduce_40, if_pos (by omega)]
    exact ⟨q, rfl, fun k hk => by rw [h k hk, if_pos (by omega)]⟩
  | succ r ih =>
    intro nn i q hr hnn h
    obtain ⟨nn, rfl⟩ : ∃ r, nn = r + 1 := ⟨nn - 1, by omega⟩
    have e : q i = a i := by rw [h i (by omega), if_neg (by omega)]
    have bb := ba i (by omega)
    have xb : -1000000000000 ≤ x * a i ∧ x * a i ≤ 1000000000000 := by rcases hx with e | e <;> rw [e] <;> omega
    rw [LB_Md_reduce_40, if_neg (by omega), if_pos (by omega), Int.toNat_natCast, e, if_pos (by omega), show ((i : Int) + 1) = ((i + 1 : Nat) : Int) by omega]
    refine ih nn (i + 1) _ (by omega) (by omega) (fun k hk => ?_)
    by_cases c : k = i
    · rw [c, up_eq, if_pos (by omega)]
    · rw [up_ne _ _ c, h k hk]
      by_cases d : k < i
      · rw [if_pos d, if_pos (by omega)]
      · rw [if_neg d, if_neg (by omega)]
theorem rd67 (fl : Nat) (hfl : 100 ≤ fl) {a b : Nat → Int} {D : Nat} (hD : D < 16) (g x y : Int) (hxy : ∀ k, k < 16 → x * a k = y * b k) (hz : ∀ k, D < k → k < 16 → x * a k = 0) (ba : ∀ k, k < 16 → -1000000000000 ≤ x * a k ∧ x * a k ≤ 1000000000000) : ∀ (r nn i : Nat) (q : Nat → Int), i + r = D + 1 → r < nn → (∀ k, k < 16 → q k = if k < i then 0 else x * a k) → ∃ q', LB_Md_reduce_67 fl b nn (D : Int) (D : Int) g x y (i : Int) q = some q' ∧ ∀ k, k < 16 → q' k = 0 := by
  intro r
  induction r with
  | zero =>
    intro nn i q hr hnn h
    obtain ⟨nn, rfl⟩ : ∃ r, nn = r + 1 := ⟨nn - 1, by omega⟩
    have qz : ∀ k, k < 16 → q k = 0 := fun k hk => by
      rw [h k hk]
      by_cases c : k < i
      · rw [if_pos c]
      · rw [if_neg c]; exact hz k (by omega) hk
    rw [LB_Md_reduce_67, if_pos (by omega), M_deg0 fl hfl qz, Option.bind_some, if_neg (by decide)]
    exact ⟨q, rfl, qz⟩
  | succ r ih =>
    intro nn i q hr hnn h
    obtain ⟨nn, rfl⟩ : ∃ r, nn = r + 1 := ⟨nn - 1, by omega⟩
    have e : q i = x * a i := by rw [h i (by omega), if_neg (by omega)]
    have bb := ba i (by omega)
    have t : Int.toNat ((i : Int) + (D : Int) - (D : Int)) = i := by omega
    rw [LB_Md_reduce_67, if_neg (by omega), if_pos (by omega), if_pos (by omega), if_pos (by omega), t, Int.toNat_natCast, e, ← hxy i (by omega), if_pos (by omega), show ((i : Int) + 1) = ((i + 1 : Nat) : Int) by omega]
    refine ih nn (i + 1) _ (by omega) (by omega) (fun k hk => ?_)
    by_cases c : k = i
    · rw [c, up_eq, if_pos (by omega)]; omega
    · rw [up_ne _ _ c, h k hk]
      by_cases d : k < i
      · rw [if_pos d, if_pos (by omega)]
      · rw [if_neg d, if_neg (by omega)]
theorem tdiv_self_sign {x : Int} (h : x ≠ 0) : x.tdiv ((Nat.gcd x.natAbs x.natAbs : Nat) : Int) = 1 ∨ x.tdiv ((Nat.gcd x.natAbs x.natAbs : Nat) : Int) = -1 := by
  rw [Nat.gcd_self]
  rcases Int.natAbs_eq x with e | e
  · left
    have : ((x.natAbs : Nat) : Int) = x := e.symm
    rw [this]; exact Int.tdiv_self h
  · right
    have : ((x.natAbs : Nat) : Int) = -x := by omega
    rw [this, Int.tdiv_neg, Int.tdiv_self h]
/-- one less another that is the same up to a sign: nothing -/
theorem M_reduce (fl : Nat) (hfl : 20000000 ≤ fl) {a b P : Nat → Int} {s1 s2 : Int} (hs1 : s1 = 1 ∨ s1 = -1) (hs2 : s2 = 1 ∨ s2 = -1) (ha : ∀ k, k < 16 → a k = s1 * P k) (hb : ∀ k, k < 16 → b k = s2 * P k) (bP : ∀ k, (P k).natAbs ≤ 10000000) {D : Nat} (hD : D < 16) (h1 : P D ≠ 0) (h2 : ∀ k, D < k → k < 16 → P k = 0) : ∃ q, LM_Md_reduce fl b a = some q ∧ ∀ k, k < 16 → q k = 0 := by
  have bD := bP D
  have na : (a D).natAbs = (P D).natAbs := by rw [ha D hD]; rcases hs1 with e | e <;> rw [e] <;> omega
  have nb : (b D).natAbs = (P D).natAbs := by rw [hb D hD]; rcases hs2 with e | e <;> rw [e] <;> omega
  unfold LM_Md_reduce LB_Md_reduce_0
  rw [M_degP fl (by omega) hs1 ha hD h1 h2, Option.bind_some, M_degP fl (by omega) hs2 hb hD h1 h2, Option.bind_some, if_pos (by omega), if_pos (by omega), Int.toNat_natCast, M_common fl (by omega) (by omega) (by omega), Option.bind_some]
  obtain ⟨g, hg⟩ : ∃ g : Int, g = ((Nat.gcd (a D).natAbs (b D).natAbs : Nat) : Int) := ⟨_, rfl⟩
  rw [← hg]
  have gP : g = ((Nat.gcd (P D).natAbs (P D).natAbs : Nat) : Int) := by rw [hg, na, nb]
  have gn : g ≠ 0 := by rw [gP, Nat.gcd_self]; omega
  obtain ⟨w, hw⟩ : ∃ w, w = (P D).tdiv g := ⟨_, rfl⟩
  have ww : w = 1 ∨ w = -1 := by rw [hw, gP]; exact tdiv_self_sign h1
  have xa : (b D).tdiv g = s2 * w := by
    rw [hb D hD, hw]
    rcases hs2 with e | e
    · rw [e, Int.one_mul, Int.one_mul]
    · rw [e, Int.neg_mul, Int.one_mul, Int.neg_tdiv, Int.neg_mul, Int.one_mul]
  have ya : (a D).tdiv g = s1 * w := by
    rw [ha D hD, hw]
    rcases hs1 with e | e
    · rw [e, Int.one_mul, Int.one_mul]
    · rw [e, Int.neg_mul, Int.one_mul, Int.neg_tdiv, Int.neg_mul, Int.one_mul]
  rw [xa, ya, if_pos gn]
  have xs : s2 * w = 1 ∨ s2 * w = -1 := by rcases hs2 with e | e <;> rcases ww with f | f <;> rw [e, f] <;> decide
  have ys : s1 * w = 1 ∨ s1 * w = -1 := by rcases hs1 with e | e <;> rcases ww with f | f <;> rw [e, f] <;> decide
  have aB : ∀ k, k < 16 → -1000000000000 ≤ a k ∧ a k ≤ 1000000000000 := fun k hk => by
    have := bP k
    rw [ha k hk]; rcases hs1 with e | e <;> rw [e] <;> omega
  rw [if_pos (by omega)]
  obtain ⟨q, g1, g2⟩ := rd40 fl b (D := D) g (s2 * w) (s1 * w) xs aB 16 fl 0 a (by omega) (by omega) (fun k hk => by rw [if_neg (by omega)])
  have g1 : LB_Md_reduce_40 fl b fl (D : Int) (D : Int) g (s2 * w) (s1 * w) 0 a = _ := g1
  rw [g1]
  exact rd67 fl (by omega) (a := a) (b := b) hD g (s2 * w) (s1 * w) (fun k hk => by rw [ha k hk, hb k hk]; grind) (fun k k1 k2 => by rw [ha k k2, h2 k k1 k2, Int.mul_zero, Int.mul_zero]) (fun k hk => by have := aB k hk; rcases xs with e | e <;> rw [e] <;> omega) (D + 1) fl 0 q (by omega) (by omega) (fun k hk => by rw [g2 k hk, if_neg (by omega)])
theorem mt192 (fl : Nat) {G : Int} {o : Nat → Int} (bo : ∀ k, k < 16 → -1000000000000 ≤ G * o k ∧ G * o k ≤ 1000000000000) : ∀ (r nn i : Nat) (g : Nat → Int), i + r = 16 → r < nn → (∀ k, k < i → g k = G * o k) → ∃ g', LB_Md_meet_192 fl nn G 0 (i : Int) g o = some (g', o) ∧ ∀ k, k < 16 → g' k = G * o k := by
  intro r
  induction r with
  | zero =>
    intro nn i g hr hnn h
    obtain ⟨nn, rfl⟩ : ∃ r, nn = r + 1 := ⟨nn - 1, by omega⟩
    rw [LB_Md_meet_192, if_pos (by omega)]
    exact ⟨g, rfl, fun k hk => h k (by omega)⟩
  | succ r ih =>
    intro nn i g hr hnn h
    obtain ⟨nn, rfl⟩ : ∃ r, nn = r + 1 := ⟨nn - 1, by omega⟩
    have b := bo i (by omega)
    rw [LB_Md_meet_192, if_neg (by omega), if_pos rfl, if_pos (by omega), Int.toNat_natCast]
    unfold LB_Md_meet_227
    rw [if_pos (by omega), if_pos (by omega), Int.toNat_natCast, show ((i : Int) + 1) = ((i + 1 : Nat) : Int) by omega]
    exact ih nn (i + 1) _ (by omega) (by omega) (fun k hk => by
      by_cases c : k = i
      · rw [c, up_eq]
      · rw [up_ne _ _ c]; exact h k (by omega))
theorem mt37 (fl : Nat) (o : Nat → Int) : ∀ (r nn i : Nat) (g : Nat → Int), i + r = 16 → r < nn → (∀ k, k < i → g k = o k) → ∃ g', LB_Md_meet_37 fl nn (i : Int) g o = some (g', o) ∧ ∀ k, k < 16 → g' k = o k := by
  intro r
  induction r with
  | zero =>
    intro nn i g hr hnn h
    obtain ⟨nn, rfl⟩ : ∃ r, nn = r + 1 := ⟨nn - 1, by omega⟩
    rw [LB_Md_meet_37, if_pos (by omega)]
    exact ⟨g, rfl, fun k hk => h k (by omega)⟩
  | succ r ih =>
    intro nn i g hr hnn h
    obtain ⟨nn, rfl⟩ : ∃ r, nn = r + 1 := ⟨nn - 1, by omega⟩
    rw [LB_Md_meet_37, if_neg (by omega), if_pos (by omega), if_pos (by omega), Int.toNat_natCast, show ((i : Int) + 1) = ((i + 1 : Nat) : Int) by omega]
    exact ih nn (i + 1) _ (by omega) (by omega) (fun k hk => by
      by_cases c : k = i
      · rw [c, up_eq]
      · rw [up_ne _ _ c]; exact h k (by omega))
def PB (B g : Nat → Int) : Prop := ∃ s : Int, (s = 1 ∨ s = -1) ∧ ∀ k, k < 16 → g k = s * B k
theorem M_meet0 (fl : Nat) (hfl : 100 ≤ fl) {g o : Nat → Int} (hg : ∀ k, k < 16 → g k = 0) (ho : ∀ k, k < 16 → o k = 0) : LM_Md_meet fl g o = some (g, o) := by
  unfold LM_Md_meet LB_Md_meet_0
  rw [M_lower0 fl hfl hg, Option.bind_some, M_lower0 fl hfl ho, Option.bind_some, M_deg0 fl hfl ho, Option.bind_some, if_neg (by decide)]
theorem top_ex {B : Nat → Int} (hB : B 0 ≠ 0) : ∃ D, D < 16 ∧ B D ≠ 0 ∧ ∀ k, D < k → k < 16 → B k = 0 := by
  have key : ∀ i, i ≤ 15 → (∃ D, D < 16 ∧ B D ≠ 0 ∧ ∀ k, D < k → k < 16 → B k = 0) ∨ ∀ k, 15 - i < k → k < 16 → B k = 0 := by
    intro i
    induction i with
    | zero => intro _; right; intro k h1 h2; omega
    | succ i ih =>
      intro hi
      rcases ih (by omega) with h | h
      · exact Or.inl h
      · by_cases c : B (15 - i) = 0
        · right
          intro k h1 h2
          by_cases e : k = 15 - i
          · rw [e]; exact c
          · exact h k (by omega) h2
        · exact Or.inl ⟨15 - i, by omega, c, h⟩
  rcases key 15 (by omega) with h | h
  · exact h
  · exact ⟨0, by omega, hB, fun k h1 h2 => h k (by omega) h2⟩
theorem M_meetB (fl : Nat) (hfl : 20000000 ≤ fl) {B g o : Nat → Int} {v : Nat} {s : Int} (hB : B 0 ≠ 0) (bB : ∀ k, (B k).natAbs ≤ 10000000) (hg : (∀ k, k < 16 → g k = 0) ∨ PB B g) (ho : asB B o v s) : ∃ g' o', LM_Md_meet fl g o = some (g', o') ∧ PB B g' := by
  obtain ⟨o1, l1, l2⟩ := M_lowerB fl (by omega) hB ho
  have hs := ho.1
  obtain ⟨D, hD, d1, d2⟩ := top_ex hB
  unfold LM_Md_meet LB_Md_meet_0
  rcases hg with hg | ⟨s1, hs1, hg⟩
  · rw [M_lower0 fl (by omega) hg, Option.bind_some, l1, Option.bind_some, M_degP fl (by omega) hs l2 hD d1 d2, Option.bind_some, if_pos (by omega), M_deg0 fl (by omega) hg, Option.bind_some, if_neg (by decide)]
    obtain ⟨g', k1, k2⟩ := mt37 fl o1 16 fl 0 g (by omega) (by omega) (fun k hk => by omega)
    exact ⟨g', o1, k1, s, hs, fun k hk => by rw [k2 k hk, l2 k hk]⟩
  · have ag : asB B g 0 s1 := ⟨hs1, fun k hk => by rw [hg k hk]; unfold shn; rw [if_neg (by omega)]; rfl, by omega, fun k hk => by
      -- beyond what is looked at
      exact ho.2.2.2 k (by omega)⟩
    obtain ⟨g1, m1, m2⟩ := M_lowerB fl (by omega) hB ag
    obtain ⟨G, hG⟩ : ∃ G, G = cont B 16 := ⟨_, rfl⟩
    have Gd : ∀ k, k < 16 → G ∣ (B k).natAbs := fun k hk => by rw [hG]; exact cont_dvd 16 k hk
    have Gp : 0 < G := by
      rcases Nat.eq_zero_or_pos G with e | e
      · have := Gd 0 (by omega)
        rw [e] at this
        have := Nat.eq_zero_of_zero_dvd this
        omega
      · exact e
    have Gle : G ≤ 10000000 := by rw [hG]; exact cont_le bB 16
    obtain ⟨P, hP⟩ : ∃ P : Nat → Int, ∀ k, P k = (B k).tdiv (G : Int) := ⟨fun k => (B k).tdiv (G : Int), fun _ => rfl⟩
    have BP : ∀ k, k < 16 → (G : Int) * P k = B k := fun k hk => by
      rw [hP]
      exact Int.mul_tdiv_cancel' (Int.ofNat_dvd_left.2 (Gd k hk))
    have bP : ∀ k, (P k).natAbs ≤ 10000000 := fun k => by
      rw [hP, Int.natAbs_tdiv]
      exact Nat.le_trans (Nat.div_le_self _ _) (bB k)
    have Pz : ∀ k, k < 16 → (P k = 0 ↔ B k = 0) := fun k hk => by
      rw [← BP k hk]
      constructor
      · intro e; rw [e, Int.mul_zero]
      · intro e
        rcases Int.mul_eq_zero.1 e with e | e
        · omega
        · exact e
    have sd : ∀ {t : Int}, (t = 1 ∨ t = -1) → ∀ k, (t * B k).tdiv (G : Int) = t * P k := fun ht k => by
      rw [hP]
      rcases ht with e | e
      · rw [e, Int.one_mul, Int.one_mul]
      · rw [e, Int.neg_mul, Int.one_mul, Int.neg_tdiv, Int.neg_mul, Int.one_mul]
    have nB : ∀ {t : Int} {q : Nat → Int}, (t = 1 ∨ t = -1) → (∀ k, k < 16 → q k = t * B k) → (∀ k, k < 16 → (q k).natAbs = (B k).natAbs) ∧ ∀ k, k < 16 → -1000000000000 ≤ q k ∧ q k ≤ 1000000000000 := fun ht hq => ⟨fun k hk => by rw [hq k hk]; rcases ht with e | e <;> rw [e] <;> omega, fun k hk => by have := bB k; rw [hq k hk]; rcases ht with e | e <;> rw [e] <;> omega⟩
    obtain ⟨n1, n2⟩ := nB hs1 m2
    obtain ⟨n3, n4⟩ := nB hs l2
    have c1 := M_content fl hfl bB n1
    have c2 := M_content fl hfl bB n3
    rw [← hG] at c1 c2
    obtain ⟨g2, u1, u2⟩ := M_divide fl (by omega) (g := (G : Int)) (by omega) n2
    obtain ⟨o2, w1, w2⟩ := M_divide fl (by omega) (g := (G : Int)) (by omega) n4
    have g2P : ∀ k, k < 16 → g2 k = s1 * P k := fun k hk => by rw [u2 k hk, m2 k hk, sd hs1]
    have o2P : ∀ k, k < 16 → o2 k = s * P k := fun k hk => by rw [w2 k hk, l2 k hk, sd hs]
    have d1P : P D ≠ 0 := fun e => d1 ((Pz D hD).1 e)
    have d2P : ∀ k, D < k → k < 16 → P k = 0 := fun k h1 h2 => (Pz k h2).2 (d2 k h1 h2)
    have cm : LM_Md_common fl (G : Int) (G : Int) = some (G : Int) := by
      rw [M_common fl (by omega) (by omega) (by omega), Int.natAbs_natCast, Nat.gcd_self]
    rw [m1, Option.bind_some, l1, Option.bind_some, M_degP fl (by omega) hs l2 hD d1 d2, Option.bind_some, if_pos (by omega), M_degP fl (by omega) hs1 m2 hD d1 d2, Option.bind_some, if_pos (by omega), c1, Option.bind_some, c2, Option.bind_some, cm, Option.bind_some, Option.bind_some, u1, Option.bind_some, Option.bind_some, w1, Option.bind_some]
    obtain ⟨fl', hfl'⟩ : ∃ r, fl = r + 1 + 1 := ⟨fl - 2, by omega⟩
    obtain ⟨q, r1, r2⟩ := M_reduce fl hfl hs1 hs g2P o2P bP hD d1P d2P
    have step1 : LB_Md_meet_108 fl fl (G : Int) g2 o2 = LB_Md_meet_108 fl (fl' + 1) (G : Int) q o2 := by
      have : LB_Md_meet_108 fl (fl' + 1 + 1) (G : Int) g2 o2 = LB_Md_meet_108 fl (fl' + 1) (G : Int) q o2 := by
        rw [LB_Md_meet_108, M_degP fl (by omega) hs1 g2P hD d1P d2P, Option.bind_some, if_neg (by omega), M_degP fl (by omega) hs o2P hD d1P d2P, Option.bind_some, if_neg (by omega), Option.bind_some, Option.bind_some, if_neg (by omega), r1, Option.bind_some]
      rw [← hfl'] at this; exact this
    rw [step1, LB_Md_meet_108, M_deg0 fl (by omega) r2, Option.bind_some, if_pos (by decide)]
    unfold LB_Md_meet_173 LB_Md_meet_188
    rw [M_deg0 fl (by omega) r2, Option.bind_some, if_pos (by decide)]
    have GoB : ∀ k, k < 16 → (G : Int) * o2 k = s * B k := fun k hk => by rw [o2P k hk, ← BP k hk]; grind
    obtain ⟨g', y1, y2⟩ := mt192 fl (G := (G : Int)) (o := o2) (fun k hk => by rw [GoB k hk]; have := bB k; rcases hs with e | e <;> rw [e] <;> omega) 16 fl 0 q (by omega) (by omega) (fun k hk => by omega)
    exact ⟨g', o2, y1, s, hs, fun k hk => by rw [y2 k hk, GoB k hk]⟩
