/-- over the places of one neighbourhood -/
theorem nm56 (fl : Nat) {n m j : Nat} (hn : n ≤ 8) (hj : j + 1 < m) (hm : m ≤ 21) (hfl : 100 ≤ fl) (c0 : Int) (a : Nat → Int) (t : Int) (k38 : Int → Int → Int → (Nat → Int) → Option (Int × Int × (Nat → Int))) (k46 : Int → Int → Int → Int → (Nat → Int) → Option (Int × Int × (Nat → Int))) :
    ∀ (d nn i : Nat) (x1 : Int) (si : Nat → Int) (X : Rowz), i + 1 + d = n → d < nn → (∀ b, okN n (X b)) → Jmg n m si X →
    ∃ c si' Y, LB_Md_norm_56 fl (n : Int) c0 a k38 k46 nn x1 ((j + 1 : Nat) : Int) ((i + 1 : Nat) : Int) t (m : Int) si = k46 (if c = 0 then x1 else 1) (((j + 1 : Nat) : Int) + 1) t (m : Int) si'
      ∧ Itr n m c X Y ∧ (∀ b, okN n (Y b)) ∧ Jmg n m si' Y ∧ (c = 0 → ∀ q, i ≤ q → q + 1 < n → ¬ canz (X j) (X (j + 1)) q) := by
  intro d
  induction d with
  | zero =>
    intro nn i x1 si X hd hnn o h
    obtain ⟨nn, rfl⟩ : ∃ r, nn = r + 1 := ⟨nn - 1, by omega⟩
    rw [LB_Md_norm_56, if_pos (by omega), if_pos (by omega)]
    exact ⟨0, si, X, rfl, rfl, o, h, fun _ q q1 q2 => by omega⟩
  | succ d ih =>
    intro nn i x1 si X hd hnn o h
    obtain ⟨nn, rfl⟩ : ∃ r, nn = r + 1 := ⟨nn - 1, by omega⟩
    rw [LB_Md_norm_56, if_neg (by omega)]
    unfold LB_Md_norm_95
    rw [ca fl hn hj hm (show i + 1 < n by omega) h, Option.bind_some, show (((i + 1 : Nat) : Int) + 1) = ((i + 1 + 1 : Nat) : Int) by omega]
    by_cases c1 : (X (j + 1)).1 (i + 1) < (X (j + 1)).1 i
    · rw [if_pos c1, if_neg (by decide), if_pos (by omega), show (((j + 1 : Nat) : Int) - 1) = (j : Int) by omega]
      rw [cb fl hn (show j < m by omega) hm hfl (show i + 1 < n by omega) (o j) h, Option.bind_some]
      by_cases c2 : (X j).2 (i + 1) < (X j).2 i
      · rw [if_pos c2, if_neg (by decide), if_pos (by omega)]
        obtain ⟨c, si', Y, g1, g2, g3, g4, g5⟩ := ih nn (i + 1) x1 si X (by omega) (by omega) o h
        refine ⟨c, si', Y, g1, g2, g3, g4, fun w q q1 q2 => ?_⟩
        by_cases q3 : q = i
        · subst q3; intro cc; have := cc.1; omega
        · exact g5 w q (by omega) q2
      · rw [if_neg c2, if_pos rfl]
        obtain ⟨si1, h1, h2⟩ := psz fl hn hj hm hfl (show i + 1 < n by omega) h
        rw [h1, Option.bind_some, if_pos (by omega)]
        have cc : canz (X j) (X (j + 1)) i := by
          refine ⟨?_, c1⟩
          have : (X j).2 i ≠ (X j).2 (i + 1) := fun w => by have := inv2 (o j).1 w; omega
          omega
        obtain ⟨c, si', Y, g1, g2, g3, g4, g5⟩ := ih nn (i + 1) 1 si1 (passz j i X) (by omega) (by omega) (okN_pass (show i + 1 < n by omega) o) h2
        refine ⟨c + 1, si', Y, ?_, ⟨_, ⟨j, i, hj, by omega, cc, rfl⟩, g2⟩, g3, g4, fun w => by omega⟩
        rw [g1]
        simp only [ite_self, if_neg (Nat.succ_ne_zero c)]
    · rw [if_neg c1, if_pos rfl, if_pos (by omega)]
      obtain ⟨c, si', Y, g1, g2, g3, g4, g5⟩ := ih nn (i + 1) x1 si X (by omega) (by omega) o h
      refine ⟨c, si', Y, g1, g2, g3, g4, fun w q q1 q2 => ?_⟩
      by_cases q3 : q = i
      · subst q3; intro cc; exact c1 cc.2
      · exact g5 w q (by omega) q2
theorem nm46 (fl : Nat) {n m : Nat} (hn : n ≤ 8) (hn1 : 1 ≤ n) (hm : m ≤ 21) (hfl : 100 ≤ fl) (c0 : Int) (a : Nat → Int) (t : Int) (k38 : Int → Int → Int → (Nat → Int) → Option (Int × Int × (Nat → Int))) :
    ∀ (d nn j : Nat) (x1 : Int) (si : Nat → Int) (X : Rowz), j + 1 + d = m ∨ (m = 0 ∧ j = 0 ∧ d = 0) → d < nn → (∀ b, okN n (X b)) → Jmg n m si X →
    ∃ c si' Y, LB_Md_norm_46 fl (n : Int) c0 a k38 nn x1 ((j + 1 : Nat) : Int) t (m : Int) si = k38 (if c = 0 then x1 else 1) t (m : Int) si'
      ∧ Itr n m c X Y ∧ (∀ b, okN n (Y b)) ∧ Jmg n m si' Y ∧ (c = 0 → ∀ b, j ≤ b → b + 1 < m → nrmAt n X b) := by
  intro d
  induction d with
  | zero =>
    intro nn j x1 si X hd hnn o h
    obtain ⟨nn, rfl⟩ : ∃ r, nn = r + 1 := ⟨nn - 1, by omega⟩
    rw [LB_Md_norm_46, if_pos (by omega)]
    exact ⟨0, si, X, rfl, rfl, o, h, fun _ b b1 b2 => by omega⟩
  | succ d ih =>
    intro nn j x1 si X hd hnn o h
    obtain ⟨nn, rfl⟩ : ∃ r, nn = r + 1 := ⟨nn - 1, by omega⟩
    rw [LB_Md_norm_46, if_neg (by omega)]
    obtain ⟨c, si1, Y, g1, g2, g3, g4, g5⟩ := nm56 fl hn (show j + 1 < m by omega) hm hfl c0 a t k38 (LB_Md_norm_46 fl (n : Int) c0 a k38 nn) (n - 1) fl 0 x1 si X (by omega) (by omega) o h
    rw [show (1 : Int) = ((0 + 1 : Nat) : Int) from rfl, g1, show (((j + 1 : Nat) : Int) + 1) = ((j + 1 + 1 : Nat) : Int) by omega]
    obtain ⟨c', si', Z, f1, f2, f3, f4, f5⟩ := ih nn (j + 1) (if c = 0 then x1 else 1) si1 Y (by omega) (by omega) g3 g4
    refine ⟨c + c', si', Z, ?_, Itr_add g2 f2, f3, f4, fun w b b1 b2 => ?_⟩
    · refine Eq.trans f1 ?_
      by_cases z1 : c = 0
      · rw [if_pos z1]
        by_cases z2 : c' = 0
        · rw [if_pos z2, if_pos (by omega)]
        · rw [if_neg z2, if_neg (by omega)]; rfl
      · rw [if_neg z1, if_neg (show ¬ c + c' = 0 by omega)]
        simp
    · have z1 : c = 0 := by omega
      subst z1
      cases g2
      by_cases b3 : b = j
      · subst b3; exact fun i hi => g5 rfl i (Nat.zero_le i) hi
      · exact f5 (by omega) b (by omega) b2
theorem nm38 (fl : Nat) {n m : Nat} (hn : n ≤ 8) (hn1 : 1 ≤ n) (hm : m ≤ 21) (hfl : 100 ≤ fl) (c0 : Int) (a : Nat → Int) (t : Int) (X0 : Rowz) (B : Nat) (hB : ∀ l Z, Itr n m l X0 Z → l ≤ B) :
    ∀ (d nn l : Nat) (x1 : Int) (si : Nat → Int) (X : Rowz), B - l ≤ d → d + 1 < nn → Itr n m l X0 X → (x1 = 0 → Nrm n m X) → (∀ b, okN n (X b)) → Jmg n m si X →
    ∃ l' si' Y, LB_Md_norm_38 fl (n : Int) c0 a nn x1 t (m : Int) si = LB_Md_norm_110 fl (n : Int) c0 a fl 0 t (m : Int) si' ∧ Itr n m l' X0 Y ∧ Nrm n m Y ∧ (∀ b, okN n (Y b)) ∧ Jmg n m si' Y := by
  intro d
  induction d using Nat.strongRecOn with
  | _ d ih =>
    intro nn l x1 si X hd hnn hI hN o h
    obtain ⟨nn, rfl⟩ : ∃ r, nn = r + 1 := ⟨nn - 1, by omega⟩
    rw [LB_Md_norm_38]
    by_cases x0 : x1 = 0
    · rw [if_pos x0, x0]
      exact ⟨l, si, X, rfl, hI, hN x0, o, h⟩
    · rw [if_neg x0]
      obtain ⟨c, si1, Y, g1, g2, g3, g4, g5⟩ := nm46 fl hn hn1 hm hfl c0 a t (LB_Md_norm_38 fl (n : Int) c0 a nn) (m - 1) fl 0 0 si X (by omega) (by omega) o h
      rw [show (1 : Int) = ((0 + 1 : Nat) : Int) from rfl, g1]
      by_cases z : c = 0
      · subst z
        cases g2
        obtain ⟨nn, rfl⟩ : ∃ r, nn = r + 1 := ⟨nn - 1, by omega⟩
        rw [if_pos rfl, LB_Md_norm_38, if_pos rfl]
        exact ⟨l, si1, X, rfl, hI, fun j i hj hi => g5 rfl j (Nat.zero_le j) hj i hi, g3, g4⟩
      · rw [if_neg z]
        have hI' := Itr_add hI g2
        have := hB _ _ hI'
        exact ih (d - 1) (by omega) nn (l + c) _ si1 Y (by omega) (by omega) hI' (fun w => absurd w (by decide)) g3 g4
theorem nm147 (fl : Nat) (n' c0 : Int) (a : Nat → Int) (kb : Int → Int → Int → (Nat → Int) → Option (Int × Int × (Nat → Int))) {m : Nat} (hm : m + 1 ≤ 21) (x1 t : Int) (si0 : Nat → Int) :
    ∀ (d nn q : Nat) (si : Nat → Int), q + d = 9 * m → d < nn → (∀ r, si r = if r < q then si0 (r + 9) else si0 r) →
    ∃ si', LB_Md_norm_147 fl n' c0 a kb nn x1 (q : Int) t (m : Int) si = kb x1 t (m : Int) si' ∧ (∀ r, r < 9 * m → si' r = si0 (r + 9)) := by
  intro d
  induction d with
  | zero =>
    intro nn q si hd hnn h
    obtain ⟨nn, rfl⟩ : ∃ r, nn = r + 1 := ⟨nn - 1, by omega⟩
    rw [LB_Md_norm_147, if_pos (by omega), if_pos (by omega)]
    exact ⟨si, rfl, fun r hr => by rw [h, if_pos (by omega)]⟩
  | succ d ih =>
    intro nn q si hd hnn h
    obtain ⟨nn, rfl⟩ : ∃ r, nn = r + 1 := ⟨nn - 1, by omega⟩
    have e1 : Int.toNat ((q : Int) + 9) = q + 9 := by omega
    rw [LB_Md_norm_147, if_pos (by omega), if_neg (by omega), if_pos (by omega), if_pos (by omega), if_pos (by omega), e1, Int.toNat_natCast, show ((q : Int) + 1) = ((q + 1 : Nat) : Int) by omega]
    refine ih nn (q + 1) _ (by omega) (by omega) ?_
    intro r
    by_cases r1 : r = q
    · subst r1; rw [up_eq, if_pos (by omega), h, if_neg (by omega)]
    · rw [up_ne _ _ r1, h]
      by_cases r2 : r < q
      · rw [if_pos r2, if_pos (by omega)]
      · rw [if_neg r2, if_neg (by omega)]
theorem nm110 (fl : Nat) {n : Nat} (hn : n ≤ 8) (hfl : 300 ≤ fl) (c0 : Int) (a : Nat → Int) (x1 : Int) {m M : Nat} {Y : Rowz} (o : ∀ b, okN n (Y b)) (hY : 1 ≤ M → Y 0 ≠ turnS n) (hn2 : 1 ≤ m → noneS ≠ turnS n) :
    ∀ (full nn : Nat) (m : Nat) (t : Int) (si : Nat → Int), m ≤ 20 → full + M ≤ m → (1 ≤ m → noneS ≠ turnS n) → full < nn → (-1000 ≤ t ∧ t + full ≤ 1000) → Jmg n m si (Emb n full M Y) →
    ∃ si', LB_Md_norm_110 fl (n : Int) c0 a nn x1 t (m : Int) si = LB_Md_norm_182 fl (n : Int) c0 a fl x1 (t + (full : Int)) ((m - full : Nat) : Int) si' ∧ Jmg n (m - full) si' (Emb n 0 M Y) := by
  intro full
  induction full with
  | zero =>
    intro nn m t si hm hM hnt hnn ht h
    obtain ⟨nn, rfl⟩ : ∃ r, nn = r + 1 := ⟨nn - 1, by omega⟩
    rw [LB_Md_norm_110]
    have e : (t + ((0 : Nat) : Int)) = t := by omega
    by_cases m0 : m = 0
    · rw [if_pos (by omega)]
      exact ⟨si, by rw [e, Nat.sub_zero], h⟩
    · rw [if_neg (by omega)]
      obtain ⟨b, hb, hc⟩ := mT fl hn (show 0 < m by omega) (show m ≤ 21 by omega) (by omega) (okN_Emb (full := 0) (m := M) o 0) h
      rw [show ((0 : Nat) : Int) = 0 from rfl] at hb
      rw [hb, Option.bind_some]
      have hne : Emb n 0 M Y 0 ≠ turnS n := by
        by_cases M0 : 1 ≤ M
        · have := Emb_in (n := n) (full := 0) (Y := Y) (show 0 < M by omega)
          rw [Nat.add_zero] at this
          rw [this]; exact hY M0
        · rw [Emb_hi (by omega)]; exact hnt (by omega)
      rcases hc with ⟨_, w⟩ | ⟨w, _⟩
      · exact absurd w hne
      · rw [if_pos w]
        exact ⟨si, by rw [e, Nat.sub_zero], h⟩
  | succ full ih =>
    intro nn m t si hm hM hnt hnn ht h
    obtain ⟨nn, rfl⟩ : ∃ r, nn = r + 1 := ⟨nn - 1, by omega⟩
    rw [LB_Md_norm_110, if_neg (by omega)]
    obtain ⟨b, hb, hc⟩ := mT fl hn (show 0 < m by omega) (show m ≤ 21 by omega) (by omega) (okN_Emb (full := full + 1) (m := M) o 0) h
    rw [show ((0 : Nat) : Int) = 0 from rfl] at hb
    rw [hb, Option.bind_some]
    have he : Emb n (full + 1) M Y 0 = turnS n := Emb_lo (by omega)
    rcases hc with ⟨w, _⟩ | ⟨_, w⟩
    · rw [if_neg (by omega), if_pos (by omega)]
      obtain ⟨si1, g1, g2⟩ := nm147 fl (n : Int) c0 a (LB_Md_norm_110 fl (n : Int) c0 a nn) (m := m - 1) (by omega) x1 (t + 1) si (9 * (m - 1)) fl 0 si (by omega) (by omega) (fun r => by rw [if_neg (by omega)])
      rw [show ((m : Int) - 1) = ((m - 1 : Nat) : Int) by omega, show (0 : Int) = ((0 : Nat) : Int) from rfl, g1]
      obtain ⟨si', f1, f2⟩ := ih nn (m - 1) (t + 1) si1 (by omega) (by omega) (fun _ => hnt (by omega)) (by omega) (by omega) (by
        intro j p hj hp
        rw [g2 _ (by omega), show 9 * j + (p + 1) + 9 = 9 * (j + 1) + (p + 1) by omega, h (j + 1) p (by omega) hp]
        have : Emb n (full + 1) M Y (j + 1) = Emb n full M Y j := by
          unfold Emb
          by_cases z : j < full
          · rw [if_pos z, if_pos (by omega)]
          · rw [if_neg z, if_neg (by omega)]
            by_cases z2 : j < full + M
            · rw [if_pos z2, if_pos (by omega)]; congr 1; omega
            · rw [if_neg z2, if_neg (by omega)]
        rw [this])
      refine ⟨si', ?_, ?_⟩
      · rw [f1]; congr 1
        · omega
        · congr 1; omega
      · rw [show m - (full + 1) = m - 1 - full by omega]; exact f2
    · exact absurd he w
theorem nm182 (fl : Nat) {n : Nat} (hn : n ≤ 8) (hfl : 300 ≤ fl) (c0 : Int) (a : Nat → Int) (x1 t : Int) {M : Nat} {Y : Rowz} (o : ∀ b, okN n (Y b)) (hY : 1 ≤ M → Y (M - 1) ≠ noneS) (si : Nat → Int) :
    ∀ (d nn : Nat), d + M ≤ 20 → d < nn → Jmg n (M + d) si (Emb n 0 M Y) → LB_Md_norm_182 fl (n : Int) c0 a nn x1 t ((M + d : Nat) : Int) si = some (t, (M : Int), si) := by
  intro d
  induction d with
  | zero =>
    intro nn hd hnn h
    obtain ⟨nn, rfl⟩ : ∃ r, nn = r + 1 := ⟨nn - 1, by omega⟩
    rw [LB_Md_norm_182]
    by_cases m0 : M = 0
    · rw [if_pos (by omega)]; rfl
    · rw [if_neg (by omega), if_pos (by omega), show (((M + 0 : Nat) : Int) - 1) = ((M - 1 : Nat) : Int) by omega]
      obtain ⟨b, hb, hc⟩ := mN fl hn (show M - 1 < M + 0 by omega) (show M + 0 ≤ 21 by omega) (by omega) (okN_Emb (full := 0) (m := M) o (M - 1)) h
      rw [hb, Option.bind_some]
      have he : Emb n 0 M Y (M - 1) = Y (M - 1) := by
        have := Emb_in (n := n) (full := 0) (Y := Y) (show M - 1 < M by omega)
        rwa [Nat.zero_add] at this
      rcases hc with ⟨_, w⟩ | ⟨w, _⟩
      · exact absurd (he ▸ w) (hY (by omega))
      · rw [if_pos w]; rfl
  | succ d ih =>
    intro nn hd hnn h
    obtain ⟨nn, rfl⟩ : ∃ r, nn = r + 1 := ⟨nn - 1, by omega⟩
    rw [LB_Md_norm_182, if_neg (by omega), if_pos (by omega), show (((M + (d + 1) : Nat) : Int) - 1) = ((M + d : Nat) : Int) by omega]
    obtain ⟨b, hb, hc⟩ := mN fl hn (show M + d < M + (d + 1) by omega) (show M + (d + 1) ≤ 21 by omega) (by omega) (okN_Emb (full := 0) (m := M) o (M + d)) h
    rw [hb, Option.bind_some]
    have he : Emb n 0 M Y (M + d) = noneS := Emb_hi (by omega)
    rcases hc with ⟨w, _⟩ | ⟨_, w⟩
    · rw [if_neg (by omega)]
      exact ih nn (by omega) (by omega) (fun j p hj hp => h j p (by omega) hp)
    · exact absurd he w
theorem nm12 (fl : Nat) {n cnt : Nat} (hn : n ≤ 8) (hc : cnt ≤ 20) (hfl : 100 ≤ fl) (a : Nat → Int) (ha : ∀ k, k < cnt → a k ≠ 0 ∧ (a k).natAbs < n) (ol : ∀ k, k ≤ cnt → ∀ b, okN n (lrow n a k b)) :
    ∀ (d nn k : Nat) (si : Nat → Int), k + d = cnt → d < nn → Jmg n k si (lrow n a k) →
    ∃ si', LB_Md_norm_12 fl (n : Int) (cnt : Int) a nn (k : Int) (pw a k) (k : Int) si = LB_Md_norm_38 fl (n : Int) (cnt : Int) a fl 1 (pw a cnt) (cnt : Int) si' ∧ Jmg n cnt si' (lrow n a cnt) := by
  intro d
  induction d with
  | zero =>
    intro nn k si hd hnn h
    obtain ⟨nn, rfl⟩ : ∃ r, nn = r + 1 := ⟨nn - 1, by omega⟩
    rw [LB_Md_norm_12, if_pos (by omega)]
    have : k = cnt := by omega
    subst this
    exact ⟨si, rfl, h⟩
  | succ d ih =>
    intro nn k si hd hnn h
    obtain ⟨nn, rfl⟩ : ∃ r, nn = r + 1 := ⟨nn - 1, by omega⟩
    rw [LB_Md_norm_12, if_neg (by omega), if_pos (by omega), Int.toNat_natCast]
    obtain ⟨si1, h1, h2⟩ := letter fl hn (show k < 20 by omega) hfl a (ha k (by omega)) (ol k (by omega)) si h
    rw [h1, Option.bind_some, if_pos (by omega)]
    dsimp only
    rw [show ((k : Int) + 1) = ((k + 1 : Nat) : Int) by omega]
    exact ih nn (k + 1) si1 (by omega) (by omega) h2
theorem none_turn {n : Nat} (h : 2 ≤ n) : noneS ≠ turnS n := fun w => by
  have : (noneS).1 0 = (turnS n).1 0 := by rw [w]
  have : 0 = turnF n 0 := this
  unfold turnF at this
  rw [if_pos (by omega)] at this
  omega
theorem okN_lrow {n : Nat} {a : Nat → Int} : ∀ (cnt : Nat), (∀ k, k < cnt → a k ≠ 0 ∧ (a k).natAbs < n) → ∀ b, okN n (lrow n a cnt b) := by
  intro cnt
  induction cnt with
  | zero => intro _ b; exact okN_none n
  | succ k ih =>
    intro ha b
    rw [lrow_s]
    have := ha k (by omega)
    refine okN_put (fun c => ?_) (okN_letS (by omega) _) b
    split
    · exact okN_conj (ih (fun j hj => ha j (by omega)) c)
    · exact ih (fun j hj => ha j (by omega)) c
/-- the reference's normal form is the class's -/
theorem norm (fl : Nat) {n cnt : Nat} (hn : n ≤ 8) (hn1 : 1 ≤ n) (hc : cnt ≤ 20) (hfl : 50000 ≤ fl) (a : Nat → Int) (ha : ∀ k, k < cnt → a k ≠ 0 ∧ (a k).natAbs < n) {full M : Nat} {Y : Rowz} (hNF : NFz n cnt (lrow n a cnt) full M Y) (hY : 1 ≤ M → Y 0 ≠ turnS n ∧ Y (M - 1) ≠ noneS) (p m : Int) (si : Nat → Int) :
    ∃ si', LM_Md_norm fl (n : Int) (cnt : Int) a p m si = some (pw a cnt + (full : Int), (M : Int), si') ∧ Jmg n M si' Y := by
  unfold LM_Md_norm LB_Md_norm_0
  obtain ⟨si1, h1, h2⟩ := nm12 fl hn hc (by omega) a ha (fun k hk => okN_lrow k (fun j hj => ha j (by omega))) cnt fl 0 si (by omega) (by omega) (fun j p hj => by omega)
  have e0 : pw a 0 = 0 := rfl
  rw [e0, show ((0 : Nat) : Int) = 0 from rfl] at h1
  rw [h1]
  obtain ⟨l, si2, Z, g1, g2, g3, g4, g5⟩ := nm38 fl hn hn1 (show cnt ≤ 21 by omega) (by omega) (cnt : Int) a (pw a cnt) (lrow n a cnt) (2000 * cnt) (NF_bound hNF) (2000 * cnt) fl 0 1 si1 (lrow n a cnt) (by omega) (by omega) rfl (fun w => absurd w (by decide)) (okN_lrow cnt ha) h2
  rw [g1]
  have eZ := NF_end hNF g2 g3
  rw [eZ] at g5
  have oY := hNF.2.2.2.1
  have hle := hNF.1
  have hb := pw_b a cnt
  have hnt : 1 ≤ cnt → noneS ≠ turnS n := fun w => none_turn (by have := ha 0 (by omega); omega)
  obtain ⟨si3, f1, f2⟩ := nm110 fl hn (by omega) (cnt : Int) a 0 (m := cnt) oY (fun w => (hY w).1) hnt full fl cnt (pw a cnt) si2 hc hle hnt (by omega) (by omega) g5
  rw [f1]
  have e2 : cnt - full = M + (cnt - full - M) := by omega
  rw [e2] at f2 ⊢
  exact ⟨si3, nm182 fl hn (by omega) (cnt : Int) a 0 _ oY (fun w => (hY w).2) si3 (cnt - full - M) fl (by omega) (by omega) f2, fun j p hj hp => by
    rw [f2 j p (by omega) hp]
    have := Emb_in (n := n) (full := 0) (Y := Y) hj
    rw [Nat.zero_add] at this
    rw [this]⟩
