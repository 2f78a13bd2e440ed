/-- the other end of the edge at a place -/
def mu0 (sg fr to at_ : Nat → Int) (q : Nat) : Nat := if outQ sg q = true then (to (at_ q).toNat).toNat else (fr (at_ q).toNat).toNat
section
variable {n : Nat} {sg lb nm fr to at_ : Nat → Int}
theorem mu0_ok (h : EdgA n sg lb nm fr to at_) {q : Nat} (hq : q < 4 * n) : mu0 sg fr to at_ q < 4 * n ∧ at_ (mu0 sg fr to at_ q) = at_ q ∧ mu0 sg fr to at_ (mu0 sg fr to at_ q) = q ∧ mu0 sg fr to at_ q ≠ q := by
  obtain ⟨e, e1, e2, e3, e4, e5⟩ := Edg_at h hq
  obtain ⟨p, r, b1, b2, b3, b4, b5, b6, b7, b8, b9, b10⟩ := Edg_fr h e1
  cases o : outQ sg q
  · have t := e5 o
    have qr : q = r := by omega
    subst qr
    have m : mu0 sg fr to at_ q = p := by unfold mu0; rw [o, if_neg (by decide), e2, Int.toNat_natCast, b3, Int.toNat_natCast]
    have m2 : mu0 sg fr to at_ p = q := by unfold mu0; rw [b5, if_pos rfl, b7, Int.toNat_natCast, b4, Int.toNat_natCast]
    rw [m, m2]
    exact ⟨b1, by rw [b7, b8], rfl, fun w => by rw [w, o] at b5; cases b5⟩
  · have t := e4 o
    have qr : q = p := by omega
    subst qr
    have m : mu0 sg fr to at_ q = r := by unfold mu0; rw [o, if_pos rfl, e2, Int.toNat_natCast, b4, Int.toNat_natCast]
    have m2 : mu0 sg fr to at_ r = q := by unfold mu0; rw [b6, if_neg (by decide), b8, Int.toNat_natCast, b3, Int.toNat_natCast]
    rw [m, m2]
    exact ⟨b2, by rw [b7, b8], rfl, fun w => by rw [w, o] at b6; cases b6⟩
theorem mu0_Mat (h : EdgA n sg lb nm fr to at_) : Mat (opn n 0) (mu0 sg fr to at_) := fun p hp => by
  obtain ⟨a, b, c, d⟩ := mu0_ok h hp.2
  exact ⟨⟨by omega, a⟩, c, d⟩
theorem mu0_Cls (h : EdgA n sg lb nm fr to at_) : Cls (opn n 0) (mu0 sg fr to at_) (fun q => (at_ q).toNat) (fun e => e) := fun p q hp hq => by
  obtain ⟨a, b, c, d⟩ := mu0_ok h hp.2
  obtain ⟨e, e1, e2, e3, e4, e5⟩ := Edg_at h hp.2
  obtain ⟨f, f1, f2, f3, f4, f5⟩ := Edg_at h hq.2
  show (at_ p).toNat = (at_ q).toNat ↔ _
  constructor
  · intro w
    have ef : f = e := by omega
    subst ef
    obtain ⟨p', r', b1, b2, b3, b4, b5, b6, b7, b8, b9, b10⟩ := Edg_fr h f1
    have cp : p = p' ∨ p = r' := by
      cases o : outQ sg p
      · right; have := e5 o; omega
      · left; have := e4 o; omega
    have cq : q = p' ∨ q = r' := by
      cases o : outQ sg q
      · right; have := f5 o; omega
      · left; have := f4 o; omega
    have mp : mu0 sg fr to at_ p' = r' := by unfold mu0; rw [b5, if_pos rfl, b7, Int.toNat_natCast, b4, Int.toNat_natCast]
    have mr : mu0 sg fr to at_ r' = p' := by unfold mu0; rw [b6, if_neg (by decide), b8, Int.toNat_natCast, b3, Int.toNat_natCast]
    rcases cp with x | x <;> rcases cq with y | y
    · left; rw [x, y]
    · right; rw [x, y, mp]
    · right; rw [x, y, mr]
    · left; rw [x, y]
  · intro w
    rcases w with w | w
    · rw [w]
    · rw [w, b]
theorem cs15 (fl : Nat) (hfl : 300 ≤ fl) (hn : n ≤ 10) (h : EdgA n sg lb nm fr to at_) {ci : Nat} (hci : ci ≤ 9) (S : Nat → Int) :
    ∀ (r nn e : Nat) (A : Nat → Int), e + r = 2 * n → r < nn → (∀ f, f < e → A (fr f).toNat = to f ∧ A (to f).toNat = fr f) → ∃ A' S', LB_Ss_countStates_15 fl (n : Int) (ci : Int) fr to nn (e : Int) (n : Int) A S = some ((n : Int), A', S') ∧ StC n (mu0 sg fr to at_) ci S' := by
  intro r
  induction r with
  | zero =>
    intro nn e A hr hnn hA
    obtain ⟨nn, rfl⟩ : ∃ r, nn = r + 1 := ⟨nn - 1, by omega⟩
    rw [LB_Ss_countStates_15, if_pos (by omega), if_pos (by omega)]
    have hm : mtA n A (mu0 sg fr to at_) := fun p hp => by
      obtain ⟨f, f1, f2, f3, f4, f5⟩ := Edg_at h hp
      obtain ⟨p', r', b1, b2, b3, b4, _⟩ := Edg_fr h f1
      have a := hA f (by omega)
      unfold mu0
      rw [f2, Int.toNat_natCast]
      cases o : outQ sg p
      · have := f5 o
        rw [if_neg (by decide), ← (show p = (to f).toNat by omega)] at *
        rw [a.2]; omega
      · have := f4 o
        rw [if_pos rfl, ← (show p = (fr f).toNat by omega)] at *
        rw [a.1]; omega
    obtain ⟨A', S', k1, k2, k3⟩ := split_ok fl hn n 12 0 (mu0 sg fr to at_, ci) 0 A (fillF S 630 0) (by omega) (by omega) (mu0_Mat h) (by show ci + 2 * n ≤ 29; omega) hm (by omega) (fun i hi => by
      have : 2 ^ n ≤ 1024 := by
        have : 2 ^ n ≤ 2 ^ 10 := Nat.pow_le_pow_right (by omega) hn
        omega
      unfold fillF; rw [if_pos hi]; omega)
    have k1 : LR_Ss_split fl 12 (n : Int) 0 0 (ci : Int) A (fillF S 630 0) = some (A', S') := k1
    rw [k1, Option.bind_some]
    refine ⟨A', S', rfl, fun i hi => ?_⟩
    rw [k3 i hi]
    unfold fillF
    rw [if_pos hi]; omega
  | succ r ih =>
    intro nn e A hr hnn hA
    obtain ⟨nn, rfl⟩ : ∃ r, nn = r + 1 := ⟨nn - 1, by omega⟩
    obtain ⟨p', r', b1, b2, b3, b4, b5, b6, _⟩ := Edg_fr h (show e < 2 * n by omega)
    rw [LB_Ss_countStates_15, if_pos (by omega), if_neg (by omega), if_pos (by omega), Int.toNat_natCast, if_pos (by omega), if_pos (by omega), if_pos (by omega), show ((e : Int) + 1) = ((e + 1 : Nat) : Int) by omega]
    refine ih nn (e + 1) _ (by omega) (by omega) (fun f hf => ?_)
    have pr : p' ≠ r' := fun w => by rw [w, b6] at b5; cases b5
    by_cases c : f = e
    · subst c
      rw [b3, b4, Int.toNat_natCast, Int.toNat_natCast, up_eq, up_ne _ _ pr, up_eq]; exact ⟨rfl, rfl⟩
    · have ne := ends_ne h (show f < 2 * n by omega) (show e < 2 * n by omega) c
      rw [up_ne _ _ ne.2.1, up_ne _ _ ne.1, up_ne _ _ ne.2.2.2, up_ne _ _ ne.2.2.1]
      exact hA f (by omega)
theorem mc4 (fl : Nat) (S : Nat → Int) : ∀ (r nn i x : Nat), i + r = 630 → r < nn → x ≤ 29 → x ≤ i / 21 → (∀ k, k < i → S k ≠ 0 → k / 21 ≤ x) → ∃ M : Nat, LB_Ss_mostCircles_4 fl S nn (x : Int) (i : Int) = some (M : Int) ∧ M ≤ 29 ∧ ∀ k, k < 630 → S k ≠ 0 → k / 21 ≤ M := by
  intro r
  induction r with
  | zero =>
    intro nn i x hr hnn h1 h2 h3
    obtain ⟨nn, rfl⟩ : ∃ r, nn = r + 1 := ⟨nn - 1, by omega⟩
    rw [LB_Ss_mostCircles_4, if_pos (by omega)]
    exact ⟨x, rfl, h1, fun k hk => h3 k (by omega)⟩
  | succ r ih =>
    intro nn i x hr hnn h1 h2 h3
    obtain ⟨nn, rfl⟩ : ∃ r, nn = r + 1 := ⟨nn - 1, by omega⟩
    rw [LB_Ss_mostCircles_4, if_neg (by omega), if_pos (by omega), Int.toNat_natCast]
    by_cases c : S i = 0
    · rw [if_pos c]
      unfold LB_Ss_mostCircles_27
      rw [if_pos (by omega), show ((i : Int) + 1) = ((i + 1 : Nat) : Int) by omega]
      exact ih nn (i + 1) x (by omega) (by omega) h1 (by omega) (fun k hk hs => by
        by_cases e : k = i
        · rw [e] at hs; exact absurd c hs
        · exact h3 k (by omega) hs)
    · have td : Int.tdiv (i : Int) 21 = ((i / 21 : Nat) : Int) := by rw [Int.tdiv_eq_ediv_of_nonneg (by omega)]; rfl
      rw [if_neg c, if_pos (by decide), td, if_pos (by omega)]
      unfold LB_Ss_mostCircles_27
      rw [if_pos (by omega), show ((i : Int) + 1) = ((i + 1 : Nat) : Int) by omega]
      exact ih nn (i + 1) (i / 21) (by omega) (by omega) (by omega) (by omega) (fun k hk hs => by omega)
theorem brE_HH (hn : n ≤ 10) {μ : Nat → Nat} {ci : Nat} (hci : ci ≤ 9) (e : Int) : brE n μ ci e = HH n μ ci 1 e := by
  unfold brE HH
  apply sm_congr
  intro a _
  have ext : ∀ d, smz (fun m => if 1 ≤ m then ((wCt n μ ci a m (2 ^ n) : Nat) : Int) * dpw (m - 1) (e - (2 * (a : Int) - (n : Int))) else 0) (30 + d) = smz (fun m => hterm n μ ci 1 e a m) 30 := by
    intro d
    induction d with
    | zero => rfl
    | succ d ih =>
      rw [show 30 + (d + 1) = 30 + d + 1 from rfl, sm_s, ih]
      have z : wCt n μ ci a (30 + d) (2 ^ n) = 0 := Classical.byContradiction (fun w => by have := wCt_hi w; omega)
      rw [if_pos (by omega), z]
      show _ + (0 : Int) * _ = _
      rw [Int.zero_mul]; omega
  exact ext 34
theorem C_bracket (fl : Nat) (hfl : 2000 ≤ fl) (hn : n ≤ 10) (h : EdgA n sg lb nm fr to at_) {ci : Nat} (hci : ci ≤ 9) (cr : Int) (mt st : Nat → Int) (ra si : Int) (te : Nat → Int) :
    ∃ cr' mt' st' te', LM_Ss_bracket fl (n : Int) (ci : Int) fr to cr mt st ra si te = some (cr', mt', st', 0, 1, te') ∧ PolC 0 1 te' (brP n (mu0 sg fr to at_) ci) := by
  unfold LM_Ss_bracket LB_Ss_bracket_0 LM_Po_clear LB_Po_clear_0
  rw [Option.bind_some]
  have ft : ∀ k, k < 161 → fillF te 161 (0 : Int) k = 0 := fun k hk => by unfold fillF; rw [if_pos hk]
  have main : ¬ (n = 0 ∧ ci = 0) → ∃ cr' mt' st' te', LB_Ss_bracket_25 fl (n : Int) (ci : Int) fr to cr mt st 0 1 (fillF te 161 0) = some (cr', mt', st', 0, 1, te') ∧ PolC 0 1 te' (brP n (mu0 sg fr to at_) ci) := fun hne => by
    unfold LB_Ss_bracket_25 LM_Ss_countStates LB_Ss_countStates_0
    obtain ⟨A', S', k1, k2⟩ := cs15 fl (by omega) hn h hci st (2 * n) fl 0 mt (by omega) (by omega) (fun f hf => by omega)
    have k1 : LB_Ss_countStates_15 fl (n : Int) (ci : Int) fr to fl 0 (n : Int) mt st = _ := k1
    obtain ⟨M, m1, m2, m3⟩ := mc4 fl S' 630 fl 0 0 (by omega) (by omega) (by omega) (by omega) (fun k hk => by omega)
    have m1 : LM_Ss_mostCircles fl S' = some (M : Int) := m1
    have hM : ∀ a m, M < m → wCt n (mu0 sg fr to at_) ci a m (2 ^ n) = 0 := fun a m hm => Classical.byContradiction (fun w => by
      have hm2 := wCt_hi w
      have ha : a ≤ n := by
        rcases Nat.lt_or_ge n a with x | x
        · exfalso
          apply w
          refine cnt_zero (fun y _ => ?_)
          simp only [decide_eq_false_iff_not]
          intro ⟨_, y2⟩
          have := cnt_lez (bS y) n
          omega
        · exact x
      obtain ⟨i, hi⟩ : ∃ i : Nat, (i : Int) = (m : Int) * 21 + (2 * (a : Int) - (n : Int)) + 10 := ⟨((m : Int) * 21 + (2 * (a : Int) - (n : Int)) + 10).toNat, by omega⟩
      have sv := StC_at hn k2 ha (by omega) hi
      have := m3 i (by omega) (by rw [sv]; omega)
      omega)
    rw [if_neg (show ¬ (10 : Int) < (n : Int) by omega), k1, Option.bind_some]
    show ∃ cr' mt' st' te', ((LM_Ss_mostCircles fl S').bind fun o1 => LB_Ss_bracket_47 fl (n : Int) (ci : Int) fr to fl o1 (n : Int) o1 (n : Int) A' S' 0 1 (fillF te 161 0)) = some (cr', mt', st', 0, 1, te') ∧ PolC 0 1 te' (brP n (mu0 sg fr to at_) ci)
    rw [m1, Option.bind_some]
    obtain ⟨T', y1, y2⟩ := bc47 fl (by omega) (n : Int) (ci : Int) fr to hn hci k2 m2 hM A' M fl (n : Int) (fillF te 161 0) (Nat.le_refl _) (by omega) (fun i hi => by rw [ft i hi, HH_0 hM (by omega)]) (by rw [if_pos rfl])
    refine ⟨_, _, _, T', y1, Or.inl rfl, by omega, fun i hi => ?_, fun e => ?_⟩
    · rw [y2 i hi]; exact HH_abs hn hci (by omega) _
    · by_cases w : (0 : Int) - 80 ≤ e ∧ e ≤ 0 + 80
      · rw [if_pos w, y2 _ (by omega), ← brE_HH hn hci]
        unfold brP
        rw [if_neg hne, show (((e - 0 + 80).toNat : Nat) : Int) - 80 = e by omega]; omega
      · rw [if_neg w]; exact brP_far hn hci (by omega)
  by_cases c : n = 0
  · rw [if_neg (by omega)]
    by_cases d : ci = 0
    · rw [if_neg (by omega)]
      show ∃ cr' mt' st' te', ((LM_Po_add fl 0 1 (fillF te 161 0)).bind fun o1 => some (cr, mt, st, (0 : Int), (1 : Int), o1)) = some (cr', mt', st', 0, 1, te') ∧ PolC 0 1 te' (brP n (mu0 sg fr to at_) ci)
      rw [C_poadd fl (by omega) (fillF te 161 0) (by rw [ft _ (by omega)]; omega), Option.bind_some]
      refine ⟨_, _, _, _, rfl, Or.inl rfl, by omega, fun i hi => ?_, fun e => ?_⟩
      · by_cases w : i = ((0 : Int) + 80).toNat
        · rw [w, up_eq, ft _ (by omega)]; omega
        · rw [up_ne _ _ w, ft i hi]; omega
      · unfold brP
        rw [if_pos ⟨c, d⟩]
        by_cases w : (0 : Int) - 80 ≤ e ∧ e ≤ 0 + 80
        · rw [if_pos w]
          by_cases e0 : e = 0
          · rw [if_pos e0, show (e - 0 + 80).toNat = ((0 : Int) + 80).toNat by omega, up_eq, ft _ (by omega)]; rfl
          · rw [if_neg e0, up_ne _ _ (by omega), ft _ (by omega)]; rfl
        · rw [if_neg w, if_neg (by omega)]
    · rw [if_pos (by omega)]
      exact main (fun w => d w.2)
  · rw [if_pos (by omega)]
    exact main (fun w => c w.1)
end
