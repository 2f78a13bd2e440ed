def letS (n i : Nat) (neg : Bool) : Simp := sL i (if neg then turnS n else noneS)
theorem okN_letS {n i : Nat} (hi : i + 1 < n) (neg : Bool) : okN n (letS n i neg) := by
  unfold letS
  refine okN_sL hi ?_
  cases neg
  · exact okN_none n
  · exact okN_turn n
/-- the row of a word's letters -/
def lrow (n : Nat) (a : Nat → Int) : Nat → Rowz
  | 0 => fun _ => noneS
  | k + 1 => putR (if a k < 0 then conjR n (lrow n a k) else lrow n a k) k (letS n ((a k).natAbs - 1) (decide (a k < 0)))
def pw (a : Nat → Int) : Nat → Int
  | 0 => 0
  | k + 1 => if a k < 0 then pw a k - 1 else pw a k
theorem pw_b (a : Nat → Int) : ∀ k : Nat, -(k : Int) ≤ pw a k ∧ pw a k ≤ 0 := by
  intro k
  induction k with
  | zero => exact ⟨by simp [pw], by simp [pw]⟩
  | succ k ih => unfold pw; split <;> omega
theorem aS10 (fl : Nat) {n m i : Nat} (hn : n ≤ 8) (hi : i + 1 < n) (hm : m + 1 ≤ 21) (Y : Rowz) :
    ∀ (d nn q : Nat) (im : Nat → Int), q + d = n → d < nn → Img n m im Y → (∀ p, p < q → im (8 * m + p) = (p : Int)) →
    ∃ im', LB_Br_appendSwap_10 fl (n : Int) nn (i : Int) ((m : Int) * 8) (q : Int) (m : Int) im = some ((m : Int) + 1, im') ∧ Img n (m + 1) im' (putR Y m (letS n i false)) := by
  intro d
  induction d with
  | zero =>
    intro nn q im hd hnn him hp
    obtain ⟨nn, rfl⟩ : ∃ r, nn = r + 1 := ⟨nn - 1, by omega⟩
    have e1 : Int.toNat ((m : Int) * 8 + (i : Int)) = 8 * m + i := by omega
    have e2 : Int.toNat ((m : Int) * 8 + (i : Int) + 1) = 8 * m + (i + 1) := by omega
    rw [LB_Br_appendSwap_10, if_pos (by omega), if_pos (by omega), if_pos (by omega), if_pos (by omega), e1, e2]
    refine ⟨_, rfl, ?_⟩
    intro j p hj hp2
    by_cases j1 : j = m
    · subst j1
      rw [putR_k]
      show _ = ((sw i p : Nat) : Int)
      by_cases p1 : p = i
      · subst p1; rw [up_ne _ _ (by omega), up_eq, sw_i]; omega
      · by_cases p2 : p = i + 1
        · subst p2; rw [up_eq, sw_s]
        · rw [up_ne _ _ (by omega), up_ne _ _ (by omega), sw_o p1 p2, hp p (by omega)]
    · rw [putR_o j1, up_ne _ _ (by omega), up_ne _ _ (by omega)]
      exact him j p (by omega) hp2
  | succ d ih =>
    intro nn q im hd hnn him hp
    obtain ⟨nn, rfl⟩ : ∃ r, nn = r + 1 := ⟨nn - 1, by omega⟩
    have e1 : Int.toNat ((m : Int) * 8 + (q : Int)) = 8 * m + q := by omega
    rw [LB_Br_appendSwap_10, if_neg (by omega), if_pos (by omega), if_pos (by omega), e1, show ((q : Int) + 1) = ((q + 1 : Nat) : Int) by omega]
    refine ih nn (q + 1) _ (by omega) (by omega) ?_ ?_
    · intro j p hj hp2
      rw [up_ne _ _ (by omega)]; exact him j p hj hp2
    · intro p hp2
      by_cases p1 : p = q
      · subst p1; exact up_eq _ _ _
      · rw [up_ne _ _ (by omega)]; exact hp p (by omega)
theorem aS (fl : Nat) {n m i : Nat} (hn : n ≤ 8) (hi : i + 1 < n) (hm : m + 1 ≤ 21) (hfl : 100 ≤ fl) (Y : Rowz) (im : Nat → Int) (him : Img n m im Y) :
    ∃ im', LM_Br_appendSwap fl (n : Int) (i : Int) (m : Int) im = some ((m : Int) + 1, im') ∧ Img n (m + 1) im' (putR Y m (letS n i false)) := by
  unfold LM_Br_appendSwap LB_Br_appendSwap_0
  rw [if_pos (by omega)]
  exact aS10 fl hn hi hm Y n fl 0 im (by omega) (by omega) him (fun p hp => by omega)
/-- one simple braid turned over -/
theorem cj9 (fl : Nat) {n j : Nat} (hn : n ≤ 8) (hn1 : 1 ≤ n) (hj : j < 21) (f : Nat → Nat) (hf : ∀ p, p < n → f p < n) :
    ∀ (d nn i : Nat) (im im0 : Nat → Int), i + d = n → d < nn → (∀ p, p < n → im (8 * j + p) = if p < i ∨ n - 1 - p < i then ((n - 1 - f (n - 1 - p) : Nat) : Int) else (f p : Int)) → (∀ q, q < 8 * j ∨ 8 * j + 8 ≤ q → im q = im0 q) → 2 * i ≤ n + 1 →
    ∃ im', LB_Br_conjugateByTurn_9 fl (n : Int) nn ((8 * j : Nat) : Int) ((n : Int) - 1) (i : Int) im = some im' ∧ (∀ p, p < n → im' (8 * j + p) = ((n - 1 - f (n - 1 - p) : Nat) : Int)) ∧ (∀ q, q < 8 * j ∨ 8 * j + 8 ≤ q → im' q = im0 q) := by
  intro d
  induction d with
  | zero =>
    intro nn i im im0 hd hnn h1 h2 h3
    obtain ⟨nn, rfl⟩ : ∃ r, nn = r + 1 := ⟨nn - 1, by omega⟩
    rw [LB_Br_conjugateByTurn_9, if_pos (by omega), if_pos (by omega)]
    exact ⟨im, rfl, fun p hp => by rw [h1 p hp, if_pos (by omega)], h2⟩
  | succ d ih =>
    intro nn i im im0 hd hnn h1 h2 h3
    obtain ⟨nn, rfl⟩ : ∃ r, nn = r + 1 := ⟨nn - 1, by omega⟩
    rw [LB_Br_conjugateByTurn_9, if_pos (by omega)]
    by_cases q : n - 1 - i < i
    · rw [if_pos (by omega)]
      exact ⟨im, rfl, fun p hp => by rw [h1 p hp, if_pos (by omega)], h2⟩
    · have e1 : Int.toNat (((8 * j : Nat) : Int) + (i : Int)) = 8 * j + i := by omega
      have e2 : Int.toNat (((8 * j : Nat) : Int) + ((n : Int) - 1) - (i : Int)) = 8 * j + (n - 1 - i) := by omega
      have r1 := h1 i (by omega)
      have r2 := h1 (n - 1 - i) (by omega)
      rw [if_neg (by omega)] at r1
      rw [if_neg (by omega)] at r2
      have b1 := hf i (by omega)
      have b2 := hf (n - 1 - i) (by omega)
      rw [if_neg (by omega), if_pos (by omega), if_pos (by omega), if_pos (by omega)]
      rw [e1, e2, r1, r2, if_pos (by omega), show ((i : Int) + 1) = ((i + 1 : Nat) : Int) by omega]
      refine ih nn (i + 1) _ im0 (by omega) (by omega) ?_ ?_ (by omega)
      · intro p hp
        by_cases p1 : p = n - 1 - i
        · subst p1
          rw [up_eq, if_pos (by omega), show n - 1 - (n - 1 - i) = i by omega]; omega
        · rw [up_ne _ _ (by omega)]
          by_cases p2 : p = i
          · subst p2; rw [up_eq, if_pos (by omega)]; omega
          · rw [up_ne _ _ (by omega), h1 p hp]
            by_cases p3 : p < i ∨ n - 1 - p < i
            · rw [if_pos p3, if_pos (by omega)]
            · rw [if_neg p3, if_neg (by omega)]
      · intro q hq
        rw [up_ne _ _ (by omega), up_ne _ _ (by omega)]; exact h2 q hq
theorem cj (fl : Nat) {n j : Nat} (hn : n ≤ 8) (hn1 : 1 ≤ n) (hj : j < 21) (hfl : 100 ≤ fl) {S : Simp} (o : okN n S) (im : Nat → Int) (him : ∀ p, p < n → im (8 * j + p) = (S.1 p : Int)) :
    ∃ im', LM_Br_conjugateByTurn fl (n : Int) ((8 * j : Nat) : Int) im = some im' ∧ (∀ p, p < n → im' (8 * j + p) = ((conjS n S).1 p : Int)) ∧ (∀ q, q < 8 * j ∨ 8 * j + 8 ≤ q → im' q = im q) := by
  unfold LM_Br_conjugateByTurn LB_Br_conjugateByTurn_0
  rw [if_pos (by omega)]
  obtain ⟨im', h1, h2, h3⟩ := cj9 fl hn hn1 hj S.1 (fun p hp => ((o.2 p).1 hp).1) n fl 0 im im (by omega) (by omega) (fun p hp => by rw [if_neg (by omega)]; exact him p hp) (fun q _ => rfl) (by omega)
  refine ⟨im', h1, fun p hp => ?_, h3⟩
  rw [h2 p hp]
  show _ = ((turnF n (S.1 (turnF n p)) : Nat) : Int)
  have e1 : turnF n p = n - 1 - p := by unfold turnF; rw [if_pos hp]
  have b := ((o.2 (n - 1 - p)).1 (by omega)).1
  rw [e1]; unfold turnF; rw [if_pos b]
theorem aI44 (fl : Nat) {n m i : Nat} (hn : n ≤ 8) (hi : i + 1 < n) (hm : m + 1 ≤ 21) (Y : Rowz) (t : Int) :
    ∀ (d nn q : Nat) (im : Nat → Int), q + d = n → d < nn → Img n m im Y → (∀ p, p < q → im (8 * m + p) = (turnF n p : Int)) →
    ∃ im', LB_Br_appendInverseSwap_44 fl (n : Int) nn (i : Int) ((m : Int) * 8) (q : Int) t (m : Int) im = some (t, (m : Int) + 1, im') ∧ Img n (m + 1) im' (putR Y m (letS n i true)) := by
  intro d
  induction d with
  | zero =>
    intro nn q im hd hnn him hp
    obtain ⟨nn, rfl⟩ : ∃ r, nn = r + 1 := ⟨nn - 1, by omega⟩
    have e1 : Int.toNat ((m : Int) * 8 + (n : Int) - 1 - (i : Int)) = 8 * m + (n - 1 - i) := by omega
    have e2 : Int.toNat ((m : Int) * 8 + (n : Int) - 2 - (i : Int)) = 8 * m + (n - 2 - i) := by omega
    rw [LB_Br_appendInverseSwap_44, if_pos (by omega), if_pos (by omega), if_pos (by omega), if_pos (by omega), if_pos (by omega), if_pos (by omega), e1, e2]
    refine ⟨_, rfl, ?_⟩
    intro j p hj hp2
    by_cases j1 : j = m
    · subst j1
      rw [putR_k]
      show _ = ((sw i (turnF n p) : Nat) : Int)
      have e3 : turnF n p = n - 1 - p := by unfold turnF; rw [if_pos hp2]
      by_cases p1 : p = n - 2 - i
      · subst p1; rw [up_eq, e3, show n - 1 - (n - 2 - i) = i + 1 by omega, sw_s]
      · rw [up_ne _ _ (by omega)]
        by_cases p2 : p = n - 1 - i
        · subst p2; rw [up_eq, e3, show n - 1 - (n - 1 - i) = i by omega, sw_i]; omega
        · rw [up_ne _ _ (by omega), sw_o (by omega) (by omega), hp p (by omega)]
    · rw [putR_o j1, up_ne _ _ (by omega), up_ne _ _ (by omega)]
      exact him j p (by omega) hp2
  | succ d ih =>
    intro nn q im hd hnn him hp
    obtain ⟨nn, rfl⟩ : ∃ r, nn = r + 1 := ⟨nn - 1, by omega⟩
    have e1 : Int.toNat ((m : Int) * 8 + (q : Int)) = 8 * m + q := by omega
    rw [LB_Br_appendInverseSwap_44, if_neg (by omega), if_pos (by omega), if_pos (by omega), e1, show ((q : Int) + 1) = ((q + 1 : Nat) : Int) by omega]
    refine ih nn (q + 1) _ (by omega) (by omega) ?_ ?_
    · intro j p hj hp2
      rw [up_ne _ _ (by omega)]; exact him j p hj hp2
    · intro p hp2
      by_cases p1 : p = q
      · subst p1; rw [up_eq]; unfold turnF; rw [if_pos (by omega)]; omega
      · rw [up_ne _ _ (by omega)]; exact hp p (by omega)
def cjQ (n : Nat) (Y : Rowz) (q : Nat) : Rowz := fun a => if a < q then conjS n (Y a) else Y a
theorem cjQ_lt {n q a : Nat} {Y : Rowz} (h : a < q) : cjQ n Y q a = conjS n (Y a) := by unfold cjQ; rw [if_pos h]
theorem cjQ_ge {n q a : Nat} {Y : Rowz} (h : q ≤ a) : cjQ n Y q a = Y a := by unfold cjQ; rw [if_neg (by omega)]
theorem aI2 (fl : Nat) {n m i : Nat} (hn : n ≤ 8) (hi : i + 1 < n) (hm : m + 1 ≤ 21) (hfl : 100 ≤ fl) (Y : Rowz) (o : ∀ a, okN n (Y a)) (t : Int) (ht : -1000 ≤ t ∧ t ≤ 1000) :
    ∀ (d nn q : Nat) (im : Nat → Int), q + d = m → d < nn → Img n m im (cjQ n Y q) →
    ∃ im', LB_Br_appendInverseSwap_2 fl (n : Int) nn (i : Int) (q : Int) t (m : Int) im = some (t - 1, (m : Int) + 1, im') ∧ Img n (m + 1) im' (putR (conjR n Y) m (letS n i true)) := by
  intro d
  induction d with
  | zero =>
    intro nn q im hd hnn him
    obtain ⟨nn, rfl⟩ : ∃ r, nn = r + 1 := ⟨nn - 1, by omega⟩
    rw [LB_Br_appendInverseSwap_2, if_pos (by omega), if_pos (by omega)]
    exact aI44 fl hn hi hm (conjR n Y) (t - 1) n fl 0 im (by omega) (by omega) (fun j p hj hp => by rw [him j p hj hp, cjQ_lt (by omega)]; rfl) (fun p hp => by omega)
  | succ d ih =>
    intro nn q im hd hnn him
    obtain ⟨nn, rfl⟩ : ∃ r, nn = r + 1 := ⟨nn - 1, by omega⟩
    rw [LB_Br_appendInverseSwap_2, if_neg (by omega), if_pos (by omega), show ((q : Int) * 8) = ((8 * q : Nat) : Int) by omega]
    obtain ⟨im1, h1, h2, h3⟩ := cj fl hn (by omega) (show q < 21 by omega) hfl (o q) im (fun p hp => by rw [him q p (by omega) hp, cjQ_ge (by omega)])
    rw [h1, Option.bind_some, if_pos (by omega), show ((q : Int) + 1) = ((q + 1 : Nat) : Int) by omega]
    refine ih nn (q + 1) im1 (by omega) (by omega) ?_
    intro j p hj hp
    by_cases j1 : j = q
    · subst j1; rw [h2 p hp, cjQ_lt (by omega)]
    · rw [h3 _ (by omega), him j p hj hp]
      by_cases j2 : j < q
      · rw [cjQ_lt j2, cjQ_lt (by omega)]
      · rw [cjQ_ge (by omega), cjQ_ge (by omega)]
theorem aI (fl : Nat) {n m i : Nat} (hn : n ≤ 8) (hi : i + 1 < n) (hm : m + 1 ≤ 21) (hfl : 100 ≤ fl) (Y : Rowz) (o : ∀ a, okN n (Y a)) (t : Int) (ht : -1000 ≤ t ∧ t ≤ 1000) (im : Nat → Int) (him : Img n m im Y) :
    ∃ im', LM_Br_appendInverseSwap fl (n : Int) (i : Int) t (m : Int) im = some (t - 1, (m : Int) + 1, im') ∧ Img n (m + 1) im' (putR (conjR n Y) m (letS n i true)) := by
  unfold LM_Br_appendInverseSwap LB_Br_appendInverseSwap_0
  exact aI2 fl hn hi hm hfl Y o t ht m fl 0 im (by omega) (by omega) (fun j p hj hp => by rw [cjQ_ge (by omega)]; exact him j p hj hp)
/-- what the class keeps of a word's normal form -/
def FormC (n cnt : Nat) (a : Nat → Int) (T : Int) (M : Nat) (im : Nat → Int) : Prop :=
  ∃ full Y, NFz n cnt (lrow n a cnt) full M Y ∧ T = pw a cnt + (full : Int) ∧ Img n M im Y ∧ (1 ≤ M → Y 0 ≠ turnS n ∧ Y (M - 1) ≠ noneS)
theorem ff20 (fl : Nat) {n cnt : Nat} (hn : n ≤ 8) (hn1 : 1 ≤ n) (hc : cnt ≤ 20) (hfl : 100 ≤ fl) (a : Nat → Int) (ha : ∀ k, k < cnt → a k ≠ 0 ∧ (a k).natAbs < n) (fk : Int) :
    ∀ (d nn k : Nat) (T : Int) (M : Nat) (en im : Nat → Int), k + d = cnt → d < nn → FormC n k a T M im →
    ∃ T' M' en' im', LB_Br_findForm_20 fl (n : Int) (cnt : Int) a nn (k : Int) T (M : Int) fk en im = some (T', ((M' : Nat) : Int), 1, en', im') ∧ FormC n cnt a T' M' im' := by
  intro d
  induction d with
  | zero =>
    intro nn k T M en im hd hnn h
    obtain ⟨nn, rfl⟩ : ∃ r, nn = r + 1 := ⟨nn - 1, by omega⟩
    rw [LB_Br_findForm_20, if_pos (by omega)]
    have : k = cnt := by omega
    subst this
    exact ⟨T, M, en, im, rfl, h⟩
  | succ d ih =>
    intro nn k T M en im hd hnn h
    obtain ⟨nn, rfl⟩ : ∃ r, nn = r + 1 := ⟨nn - 1, by omega⟩
    obtain ⟨full, Y, hNF, hT, him, hne⟩ := h
    have hb := pw_b a k
    have hfm := hNF.1
    obtain ⟨a0, an⟩ := ha k (by omega)
    have oY := hNF.2.2.2.1
    have nY := hNF.2.2.1
    rw [LB_Br_findForm_20, if_neg (by omega), if_pos (by omega), Int.toNat_natCast]
    by_cases neg : a k < 0
    · rw [if_pos (by omega), if_pos (by omega), show (-(a k) - 1) = (((a k).natAbs - 1 : Nat) : Int) by omega]
      obtain ⟨im1, h1, h2⟩ := aI fl hn (show (a k).natAbs - 1 + 1 < n by omega) (show M + 1 ≤ 21 by omega) hfl Y oY T (by omega) im him
      rw [h1, Option.bind_some]
      unfold LB_Br_findForm_65
      dsimp only
      have hNF' := NF_conj hNF
      have ox := okN_letS (n := n) (i := (a k).natAbs - 1) (by omega) true
      have nY' := hNF'.2.2.1
      obtain ⟨l, Y2, Y3, f2, m3, en2, im2, s1, s2, s3, s4, s5, s6, s7, s8, s9, s10, s11⟩ := settlez fl hn hn1 (show 1 ≤ M + 1 by omega) (show M + 1 ≤ 21 by omega) hfl (T - 1) (by omega) en im1 (putR (conjR n Y) M (letS n ((a k).natAbs - 1) true)) (okN_put hNF'.2.2.2.1 ox) h2 (fun b hb i hi c => nY' b i (by omega) hi (by rw [putR_o (by omega), putR_o (by omega)] at c; exact c))
      rw [show ((M : Int) + 1) = ((M + 1 : Nat) : Int) by omega, s1, Option.bind_some, if_pos (by omega), show ((k : Int) + 1) = ((k + 1 : Nat) : Int) by omega]
      refine ih nn (k + 1) _ m3 _ _ (by omega) (by omega) ⟨full + f2, Y3, ?_, ?_, s10, s11⟩
      · have := NF_put hn (by omega) hNF' ox (by omega) s2 s4 s5 s6 s7 s8 s9
        unfold lrow
        rw [if_pos neg, decide_eq_true neg]
        exact this
      · unfold pw; rw [if_pos neg]; omega
    · rw [if_neg (by omega), if_pos (by omega), show (a k - 1) = (((a k).natAbs - 1 : Nat) : Int) by omega]
      obtain ⟨im1, h1, h2⟩ := aS fl hn (show (a k).natAbs - 1 + 1 < n by omega) (show M + 1 ≤ 21 by omega) hfl Y im him
      rw [h1, Option.bind_some]
      unfold LB_Br_findForm_65
      dsimp only
      have ox := okN_letS (n := n) (i := (a k).natAbs - 1) (by omega) false
      obtain ⟨l, Y2, Y3, f2, m3, en2, im2, s1, s2, s3, s4, s5, s6, s7, s8, s9, s10, s11⟩ := settlez fl hn hn1 (show 1 ≤ M + 1 by omega) (show M + 1 ≤ 21 by omega) hfl T (by omega) en im1 (putR Y M (letS n ((a k).natAbs - 1) false)) (okN_put oY ox) h2 (fun b hb i hi c => nY b i (by omega) hi (by rw [putR_o (by omega), putR_o (by omega)] at c; exact c))
      rw [show ((M : Int) + 1) = ((M + 1 : Nat) : Int) by omega, s1, Option.bind_some, if_pos (by omega), show ((k : Int) + 1) = ((k + 1 : Nat) : Int) by omega]
      refine ih nn (k + 1) _ m3 _ _ (by omega) (by omega) ⟨full + f2, Y3, ?_, ?_, s10, s11⟩
      · have := NF_put hn (by omega) hNF ox (by omega) s2 s4 s5 s6 s7 s8 s9
        unfold lrow
        rw [if_neg neg, decide_eq_false neg]
        exact this
      · unfold pw; rw [if_neg neg]; omega
theorem findForm (fl : Nat) {n cnt : Nat} (hn : n ≤ 8) (hn1 : 1 ≤ n) (hc : cnt ≤ 20) (hfl : 100 ≤ fl) (a : Nat → Int) (ha : ∀ k, k < cnt → a k ≠ 0 ∧ (a k).natAbs < n) (t m fk : Int) (en im : Nat → Int) (hk : fk = 0 ∨ fk = 1 ∧ ∃ M : Nat, m = (M : Int) ∧ FormC n cnt a t M im) :
    ∃ T M en' im', LM_Br_findForm fl (n : Int) (cnt : Int) a t m fk en im = some (T, ((M : Nat) : Int), 1, en', im') ∧ FormC n cnt a T M im' := by
  unfold LM_Br_findForm LB_Br_findForm_0
  rcases hk with hk | ⟨hk, M, h1, h2⟩
  · rw [if_pos hk]
    exact ff20 fl hn hn1 hc hfl a ha fk cnt fl 0 0 0 en im (by omega) (by omega) ⟨0, fun _ => noneS, NF_nil n, by simp [pw], fun j p hj => by omega, fun h => by omega⟩
  · rw [if_neg (by omega), hk, h1]
    exact ⟨t, M, en, im, rfl, h2⟩
