theorem jand32 : jand 32 63 = 32 := by decide
theorem jshr32 {v : Int} (h : -9223372036854775808 ≤ v ∧ v < 9223372036854775808) : jshr v 32 = v / 4294967296 := by
  unfold jshr
  rw [← Int64.toInt_toBitVec, Int64.toBitVec_shiftRight, BitVec.toInt_sshiftRight', Int64.toInt_toBitVec, Int64.toInt_ofInt_of_le (by omega) (by omega), Int.shiftRight_eq_div_pow]
  rfl
theorem jandL {v : Int} (h : -9223372036854775808 ≤ v ∧ v < 9223372036854775808) : jand v 4294967295 = v % 4294967296 := by
  unfold jand
  rw [← Int64.toInt_toBitVec, Int64.toBitVec_and, BitVec.toInt_and, Int64.toBitVec_ofInt, Int64.toBitVec_ofInt, BitVec.toNat_ofInt, BitVec.toNat_ofInt]
  have e : ((4294967295 : Int) % ((2 ^ 64 : Nat) : Int)).toNat = 2 ^ 32 - 1 := by decide
  rw [e, Nat.and_two_pow_sub_one_eq_mod]
  have e2 : (((v % ((2 ^ 64 : Nat) : Int)).toNat % 2 ^ 32 : Nat) : Int) = v % 4294967296 := by omega
  rw [e2, Int.bmod_def]
  omega
/-- whether the given terms' sum is the polynomial -/
def smOK (c : Int → Int) (p : Nat) (nuv : Nat → Int) : Prop := (∀ i, i < p → c (nuv (2 * i + 1)) = smE nuv (nuv (2 * i + 1)) p 0) ∧ ∀ e, c e ≠ 0 → ∃ i, i < p ∧ nuv (2 * i + 1) = e
def apB (nuv : Nat → Int) : Nat → Int → Bool
  | 0, _ => false
  | k + 1, x => apB nuv k x || decide (nuv (2 * k + 1) = x)
theorem apB_iff (nuv : Nat → Int) (x : Int) : ∀ k, apB nuv k x = true ↔ ∃ i, i < k ∧ nuv (2 * i + 1) = x := by
  intro k
  induction k with
  | zero => exact ⟨fun h => (by cases h), fun ⟨i, h, _⟩ => by omega⟩
  | succ k ih =>
    show (apB nuv k x || decide (nuv (2 * k + 1) = x)) = true ↔ _
    rw [Bool.or_eq_true, ih, decide_eq_true_iff]
    constructor
    · rintro (⟨i, h1, h2⟩ | h)
      · exact ⟨i, by omega, h2⟩
      · exact ⟨k, by omega, h⟩
    · rintro ⟨i, h1, h2⟩
      by_cases w : i = k
      · exact Or.inr (w ▸ h2)
      · exact Or.inl ⟨i, by omega, h2⟩
theorem apB_no (nuv : Nat → Int) (x : Int) (k : Nat) : (∀ t, t < k → nuv (2 * t + 1) ≠ x) ↔ apB nuv k x = false := by
  rw [← Bool.not_eq_true, apB_iff]
  exact ⟨fun h ⟨i, h1, h2⟩ => h i h1 h2, fun h t h1 h2 => h ⟨t, h1, h2⟩⟩
def ctS (S : Int → Bool) : Nat → Int → Nat
  | 0, _ => 0
  | d + 1, e => (if S e = true then 1 else 0) + ctS S d (e + 1)
theorem ctS_le (S : Int → Bool) : ∀ (d : Nat) (e : Int), ctS S d e ≤ d := by
  intro d
  induction d with
  | zero => intro e; exact Nat.le_refl 0
  | succ d ih => intro e; have := ih (e + 1); show (if S e = true then 1 else 0) + ctS S d (e + 1) ≤ d + 1; split <;> omega
theorem ctS_eq {S T : Int → Bool} : ∀ (d : Nat) (e : Int), (∀ x, e ≤ x → x < e + d → S x = T x) → ctS S d e = ctS T d e := by
  intro d
  induction d with
  | zero => intro e h; rfl
  | succ d ih => intro e h; show (if S e = true then 1 else 0) + ctS S d (e + 1) = (if T e = true then 1 else 0) + ctS T d (e + 1); rw [ih (e + 1) (fun x a b => h x (by omega) (by omega)), h e (by omega) (by omega)]
theorem ctS_mono {S T : Int → Bool} : ∀ (d : Nat) (e : Int), (∀ x, S x = true → T x = true) → ctS S d e ≤ ctS T d e ∧ (ctS S d e = ctS T d e → ∀ x, e ≤ x → x < e + d → T x = true → S x = true) := by
  intro d
  induction d with
  | zero => intro e h; exact ⟨Nat.le_refl _, fun _ x a b => by omega⟩
  | succ d ih =>
    intro e h
    obtain ⟨h1, h2⟩ := ih (e + 1) h
    have he := h e
    show (if S e = true then 1 else 0) + ctS S d (e + 1) ≤ (if T e = true then 1 else 0) + ctS T d (e + 1) ∧ ((if S e = true then 1 else 0) + ctS S d (e + 1) = (if T e = true then 1 else 0) + ctS T d (e + 1) → _)
    cases hS : S e <;> cases hT : T e
    · refine ⟨by simp only [Bool.false_eq_true, if_false]; omega, fun w x a b ht => ?_⟩
      by_cases c : x = e
      · rw [c, hT] at ht; cases ht
      · exact h2 (by simp only [Bool.false_eq_true, if_false] at w; omega) x (by omega) (by omega) ht
    · refine ⟨by simp only [Bool.false_eq_true, if_false, if_true]; omega, fun w x a b ht => ?_⟩
      simp only [Bool.false_eq_true, if_false, if_true] at w
      omega
    · rw [he hS] at hT; cases hT
    · refine ⟨by simp only [if_true]; omega, fun w x a b ht => ?_⟩
      by_cases c : x = e
      · rw [c]; exact hS
      · exact h2 (by simp only [if_true] at w; omega) x (by omega) (by omega) ht
theorem ctS_add {S T : Int → Bool} {a : Int} (hS : S a = false) (hT : ∀ x, T x = (S x || decide (a = x))) : ∀ (d : Nat) (e : Int), ctS T d e = ctS S d e + (if e ≤ a ∧ a < e + d then 1 else 0) := by
  intro d
  induction d with
  | zero => intro e; show 0 = 0 + _; rw [if_neg (by omega)]
  | succ d ih =>
    intro e
    show (if T e = true then 1 else 0) + ctS T d (e + 1) = (if S e = true then 1 else 0) + ctS S d (e + 1) + _
    rw [ih (e + 1), hT e]
    by_cases c : a = e
    · subst c
      rw [hS, if_pos (show (false || decide (a = a)) = true by simp), if_neg (show ¬ (a + 1 ≤ a ∧ a < a + 1 + (d : Int)) by omega), if_neg (show ¬ (false = true) by simp), if_pos (show a ≤ a ∧ a < a + ((d + 1 : Nat) : Int) by omega)]
      omega
    · rw [decide_eq_false c, Bool.or_false]
      by_cases c2 : e + 1 ≤ a ∧ a < e + 1 + d
      · rw [if_pos c2, if_pos (show e ≤ a ∧ a < e + ((d + 1 : Nat) : Int) by omega)]; omega
      · rw [if_neg c2, if_neg (show ¬ (e ≤ a ∧ a < e + ((d + 1 : Nat) : Int)) by omega)]; omega
def nzB (c : Int → Int) (x : Int) : Bool := decide (c x ≠ 0)
theorem cuT4 (fl : Nat) {ra si : Int} {te : Nat → Int} {c : Int → Int} (h : PolC ra si te c) : ∀ (d nn i : Nat) (x : Nat), i + d = 161 → x ≤ i → d < nn → LB_Po_countTerms_4 fl te nn (x : Int) (i : Int) = some (((x + ctS (nzB c) d (ra - 80 + i) : Nat)) : Int) := by
  obtain ⟨h1, h2, h3, h4⟩ := h
  intro d
  induction d with
  | zero =>
    intro nn i x hi hx hnn
    obtain ⟨nn, rfl⟩ : ∃ r, nn = r + 1 := ⟨nn - 1, by omega⟩
    rw [LB_Po_countTerms_4, if_pos (by omega)]
    rfl
  | succ d ih =>
    intro nn i x hi hx hnn
    obtain ⟨nn, rfl⟩ : ∃ r, nn = r + 1 := ⟨nn - 1, by omega⟩
    rw [LB_Po_countTerms_4, if_neg (by omega), if_pos (by omega), Int.toNat_natCast]
    have ec := h4 (ra - 80 + i)
    rw [if_pos (by omega), show (ra - 80 + (i : Int) - ra + 80).toNat = i by omega] at ec
    unfold LB_Po_countTerms_30
    show _ = some (((x + ((if nzB c (ra - 80 + (i : Int)) = true then 1 else 0) + ctS (nzB c) d (ra - 80 + (i : Int) + 1)) : Nat)) : Int)
    rw [show ra - 80 + (i : Int) + 1 = ra - 80 + ((i + 1 : Nat) : Int) by omega]
    by_cases c0 : te i = 0
    · have z : c (ra - 80 + (i : Int)) = 0 := by rw [ec, c0, Int.mul_zero]
      rw [if_pos c0, if_pos (by omega), show (x : Int) + 0 = (x : Int) by omega, show ((i : Int) + 1) = ((i + 1 : Nat) : Int) by omega, ih nn (i + 1) x (by omega) (by omega) (by omega), if_neg (by unfold nzB; rw [z]; decide), Nat.zero_add]
    · have z : c (ra - 80 + (i : Int)) ≠ 0 := by rw [ec]; rcases h1 with w | w <;> rw [w] <;> omega
      rw [if_neg c0, if_pos (by omega), show (x : Int) + 1 = ((x + 1 : Nat) : Int) by omega, show ((i : Int) + 1) = ((i + 1 : Nat) : Int) by omega, ih nn (i + 1) (x + 1) (by omega) (by omega) (by omega), if_pos (by unfold nzB; exact decide_eq_true z), show x + 1 + ctS (nzB c) d (ra - 80 + ((i + 1 : Nat) : Int)) = x + (1 + ctS (nzB c) d (ra - 80 + ((i + 1 : Nat) : Int))) by omega]
theorem C_cntT (fl : Nat) (hfl : 2000 ≤ fl) {ra si : Int} {te : Nat → Int} {c : Int → Int} (h : PolC ra si te c) : LM_Po_countTerms fl te = some ((ctS (nzB c) 161 (ra - 80) : Nat) : Int) := by
  have := cuT4 fl h 161 fl 0 0 (by omega) (by omega) (by omega)
  rw [Nat.zero_add, show ra - 80 + ((0 : Nat) : Int) = ra - 80 by omega] at this
  exact this
theorem smE_cut (nuv : Nat → Int) (e : Int) (d : Nat) : ∀ k i, (∀ t, t < k → nuv (2 * (i + t) + 1) ≠ e) → smE nuv e (k + d) i = smE nuv e d (i + k) := by
  intro k
  induction k with
  | zero => intro i h; rw [Nat.zero_add, Nat.add_zero]
  | succ k ih =>
    intro i h
    rw [show k + 1 + d = (k + d) + 1 by omega]
    show (if nuv (2 * i + 1) = e then nuv (2 * i) else 0) + smE nuv e (k + d) (i + 1) = _
    rw [if_neg (show ¬ nuv (2 * i + 1) = e from h 0 (by omega)), Int.zero_add, ih (i + 1) (fun t ht => by have := h (t + 1) (by omega); rw [show i + (t + 1) = i + 1 + t by omega] at this; exact this), show i + 1 + k = i + (k + 1) by omega]
theorem so12 (fl : Nat) (hfl : 2000 ≤ fl) {count done : Int} {start value nuv : Nat → Int} {p : Nat} (h : LnC count done start value (2 * p) nuv) (hb : trB p nuv) {ra si : Int} {te : Nat → Int} {c : Int → Int} (hc : PolC ra si te c) :
    ∀ (d nn i : Nat), i + d = p → d < nn → (∀ j, j < i → c (nuv (2 * j + 1)) = smE nuv (nuv (2 * j + 1)) p 0) →
    (smOK c p nuv ∧ LB_Po_isSumOf_12 fl ra si te count done start value nn (p : Int) ((ctS (fun x => nzB c x && apB nuv i x) 161 (ra - 80) : Nat) : Int) (i : Int) = some 1) ∨ (¬ smOK c p nuv ∧ LB_Po_isSumOf_12 fl ra si te count done start value nn (p : Int) ((ctS (fun x => nzB c x && apB nuv i x) 161 (ra - 80) : Nat) : Int) (i : Int) = some 0) := by
  have hp := hb.1
  have rng : ∀ x, c x ≠ 0 → ra - 80 ≤ x ∧ x < ra - 80 + (161 : Nat) := fun x hx => by
    rw [hc.2.2.2 x] at hx
    by_cases c0 : ra - 80 ≤ x ∧ x ≤ ra + 80
    · omega
    · exact absurd (if_neg c0) hx
  intro d
  induction d with
  | zero =>
    intro nn i hi hnn hs
    obtain ⟨nn, rfl⟩ : ∃ r, nn = r + 1 := ⟨nn - 1, by omega⟩
    have ei : i = p := by omega
    subst ei
    rw [LB_Po_isSumOf_12, if_pos (by omega), C_cntT fl hfl hc, Option.bind_some]
    obtain ⟨m1, m2⟩ := ctS_mono (S := fun x => nzB c x && apB nuv i x) (T := nzB c) 161 (ra - 80) (fun x hx => by rw [Bool.and_eq_true] at hx; exact hx.1)
    by_cases c1 : ctS (fun x => nzB c x && apB nuv i x) 161 (ra - 80) = ctS (nzB c) 161 (ra - 80)
    · rw [if_neg (by omega)]
      refine Or.inl ⟨⟨hs, fun e he => ?_⟩, rfl⟩
      have := m2 c1 e (rng e he).1 (rng e he).2 (decide_eq_true he)
      rw [Bool.and_eq_true] at this
      exact (apB_iff nuv e i).1 this.2
    · rw [if_pos (by omega)]
      refine Or.inr ⟨fun w => c1 (ctS_eq 161 _ (fun x _ _ => ?_)), rfl⟩
      show (nzB c x && apB nuv i x) = nzB c x
      cases hz : nzB c x
      · rfl
      · rw [Bool.true_and]
        exact (apB_iff nuv x i).2 (w.2 x (of_decide_eq_true hz))
  | succ d ih =>
    intro nn i hi hnn hs
    obtain ⟨nn, rfl⟩ : ∃ r, nn = r + 1 := ⟨nn - 1, by omega⟩
    have hbi := hb.2 i (by omega)
    have en : LM_Li_number fl count done start value (2 * (i : Int) + 1) = some (nuv (2 * i + 1)) := by
      have := C_num fl h (i := 2 * i + 1) (by omega) (by omega)
      rw [show ((2 * i + 1 : Nat) : Int) = 2 * (i : Int) + 1 by omega] at this
      exact this
    rw [LB_Po_isSumOf_12, if_neg (by omega), if_pos (by omega), en, Option.bind_some, C_first fl hfl h hb (i := i) (by omega), Option.bind_some]
    unfold LB_Po_isSumOf_73 LB_Po_isSumOf_75
    rw [show ((i : Int) + 1) = ((i + 1 : Nat) : Int) by omega]
    have cl : ctS (fun x => nzB c x && apB nuv i x) 161 (ra - 80) ≤ 161 := ctS_le _ _ _
    by_cases c1 : ∀ t, t < i → nuv (2 * t + 1) ≠ nuv (2 * i + 1)
    · have es : smE nuv (nuv (2 * i + 1)) p 0 = smE nuv (nuv (2 * i + 1)) (p - i) i := by
        have := smE_cut nuv (nuv (2 * i + 1)) (p - i) i 0 (fun t ht => by rw [Nat.zero_add]; exact c1 t ht)
        rw [show i + (p - i) = p by omega, Nat.zero_add] at this
        exact this
      rw [if_pos c1, if_neg (by decide), C_sumAt fl hfl h hb hc _ (i := i) (by omega), Option.bind_some, ← es]
      by_cases c2 : c (nuv (2 * i + 1)) = smE nuv (nuv (2 * i + 1)) p 0
      · rw [if_pos c2, if_pos (by decide), C_coef fl hc, Option.bind_some]
        have hs' : ∀ j, j < i + 1 → c (nuv (2 * j + 1)) = smE nuv (nuv (2 * j + 1)) p 0 := fun j hj => by
          by_cases w : j = i
          · rw [w]; exact c2
          · exact hs j (by omega)
        by_cases c3 : c (nuv (2 * i + 1)) = 0
        · have e0 : ctS (fun x => nzB c x && apB nuv (i + 1) x) 161 (ra - 80) = ctS (fun x => nzB c x && apB nuv i x) 161 (ra - 80) := ctS_eq 161 _ (fun x _ _ => by
            show (nzB c x && (apB nuv i x || decide (nuv (2 * i + 1) = x))) = (nzB c x && apB nuv i x)
            by_cases w : nuv (2 * i + 1) = x
            · have z : nzB c x = false := by unfold nzB; rw [← w, c3]; decide
              rw [z]; rfl
            · rw [decide_eq_false w, Bool.or_false])
          rw [if_pos c3, if_pos (by omega), if_pos (by omega), Int.add_zero, ← e0]
          exact ih nn (i + 1) (by omega) (by omega) hs'
        · have e1 : ctS (fun x => nzB c x && apB nuv (i + 1) x) 161 (ra - 80) = ctS (fun x => nzB c x && apB nuv i x) 161 (ra - 80) + 1 := by
            have := ctS_add (S := fun x => nzB c x && apB nuv i x) (T := fun x => nzB c x && apB nuv (i + 1) x) (a := nuv (2 * i + 1)) (by
              show (nzB c _ && apB nuv i _) = false
              rw [(apB_no nuv _ i).1 c1, Bool.and_false]) (fun x => by
              show (nzB c x && (apB nuv i x || decide (nuv (2 * i + 1) = x))) = ((nzB c x && apB nuv i x) || decide (nuv (2 * i + 1) = x))
              by_cases w : nuv (2 * i + 1) = x
              · have z : nzB c x = true := by unfold nzB; rw [← w]; exact decide_eq_true c3
                rw [z, Bool.true_and, Bool.true_and]
              · rw [decide_eq_false w, Bool.or_false, Bool.or_false]) 161 (ra - 80)
            rw [this, if_pos (rng _ c3)]
          rw [if_neg c3, if_pos (by omega), if_pos (by omega), show ((ctS (fun x => nzB c x && apB nuv i x) 161 (ra - 80) : Nat) : Int) + 1 = ((ctS (fun x => nzB c x && apB nuv (i + 1) x) 161 (ra - 80) : Nat) : Int) by rw [e1]; omega]
          exact ih nn (i + 1) (by omega) (by omega) hs'
      · rw [if_neg c2, if_neg (by decide)]
        exact Or.inr ⟨fun w => c2 (w.1 i (by omega)), rfl⟩
    · have ea : apB nuv i (nuv (2 * i + 1)) = true := by
        rcases hq : apB nuv i (nuv (2 * i + 1)) with _ | _
        · exact absurd ((apB_no nuv _ i).2 hq) c1
        · rfl
      have e0 : ctS (fun x => nzB c x && apB nuv (i + 1) x) 161 (ra - 80) = ctS (fun x => nzB c x && apB nuv i x) 161 (ra - 80) := ctS_eq 161 _ (fun x _ _ => by
        show (nzB c x && (apB nuv i x || decide (nuv (2 * i + 1) = x))) = (nzB c x && apB nuv i x)
        by_cases w : nuv (2 * i + 1) = x
        · rw [← w, ea, Bool.true_or]
        · rw [decide_eq_false w, Bool.or_false])
      rw [if_neg c1, if_pos rfl, if_pos (by omega), ← e0]
      refine ih nn (i + 1) (by omega) (by omega) (fun j hj => ?_)
      by_cases w : j = i
      · obtain ⟨t, ht, et⟩ := (apB_iff nuv _ i).1 ea
        rw [w, ← et]; exact hs t ht
      · exact hs j (by omega)
theorem C_isSum (fl : Nat) (hfl : 2000 ≤ fl) {count done : Int} {start value nuv : Nat → Int} {p : Nat} (h : LnC count done start value (2 * p) nuv) (hb : trB p nuv) {ra si : Int} {te : Nat → Int} {c : Int → Int} (hc : PolC ra si te c) :
    (smOK c p nuv ∧ LM_Po_isSumOf fl ra si te count done start value = some 1) ∨ (¬ smOK c p nuv ∧ LM_Po_isSumOf fl ra si te count done start value = some 0) := by
  have hp := hb.1
  have e0 : ctS (fun x => nzB c x && apB nuv 0 x) 161 (ra - 80) = 0 := by
    have : ∀ d e, ctS (fun x => nzB c x && apB nuv 0 x) d e = 0 := by
      intro d
      induction d with
      | zero => intro e; rfl
      | succ d ih =>
        intro e
        show (if (nzB c e && false) = true then 1 else 0) + ctS (fun x => nzB c x && apB nuv 0 x) d (e + 1) = 0
        rw [ih, Bool.and_false]; rfl
    exact this _ _
  have := so12 fl hfl h hb hc p fl 0 (by omega) (by omega) (fun j hj => by omega)
  rw [e0, show ((0 : Nat) : Int) = 0 from rfl] at this
  unfold LM_Po_isSumOf LB_Po_isSumOf_0
  rw [C_nums fl h, Option.bind_some, if_pos (by decide), show Int.tdiv ((2 * p : Nat) : Int) 2 = (p : Int) by rw [Int.tdiv_eq_ediv_of_nonneg (by omega)]; omega, if_pos (by omega)]
  exact this
