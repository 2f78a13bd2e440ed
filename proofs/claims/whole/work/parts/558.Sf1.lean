/-- the next edge of a Seifert round -/
def sfn (sg to at_ : Nat → Int) (e : Nat) : Nat := (at_ (if (to e).toNat % 2 = 1 then 4 * ((to e).toNat / 4) + 2 else upO sg ((to e).toNat / 4))).toNat
def sfR (f : Nat → Nat) (N : Nat) : Nat → (Nat → Int) × Nat
  | 0 => ((fun _ => -1), 0)
  | k + 1 => if 0 ≤ (sfR f N k).1 k then sfR f N k else ((mkz f 0 (N + 1) k (sfR f N k).1).1, (sfR f N k).2 + 1)
theorem sfR_s (f : Nat → Nat) (N k : Nat) : sfR f N (k + 1) = if 0 ≤ (sfR f N k).1 k then sfR f N k else ((mkz f 0 (N + 1) k (sfR f N k).1).1, (sfR f N k).2 + 1) := rfl
theorem sfR_le (f : Nat → Nat) (N : Nat) : ∀ k, (sfR f N k).2 ≤ k := by
  intro k
  induction k with
  | zero => exact Nat.le_refl _
  | succ k ih =>
    rw [sfR_s]
    split
    · omega
    · show (sfR f N k).2 + 1 ≤ k + 1
      omega
/-- marks 0 and 1 instead of -1 and 0 -/
def pl1 (A : Nat → Int) : Nat → Int := fun x => if A x < 0 then 0 else 1
def pl2 (N : Nat) (B A : Nat → Int) : Nat → Int := fun x => if A x < 0 then (if x < N then 0 else B x) else 1
theorem pl2_up (N : Nat) (B A : Nat → Int) (x : Nat) : up (pl2 N B A) x 1 = pl2 N B (up A x 0) := by
  funext y
  unfold pl2 up
  by_cases w : y = x
  · rw [if_pos w, if_pos w, if_neg (by decide)]
  · rw [if_neg w, if_neg w]
theorem pl2_st {N : Nat} {B a : Nat → Int} (h : like N B (pl1 a)) : pl2 N B (fun x => if x < N then a x else -1) = B := by
  funext y
  unfold pl2
  by_cases w : y < N
  · have := h y w
    unfold pl1 at this
    simp only [if_pos w]
    exact this.symm
  · simp only [if_neg w]; rfl
theorem pl2_like {N : Nat} {B A a : Nat → Int} (h : like N A a) : like N (pl2 N B A) (pl1 a) := fun y hy => by
  unfold pl2 pl1
  rw [h y hy, if_pos hy]
section
variable {n : Nat} {sg lb nm fr to at_ : Nat → Int}
theorem sfn_ok (h : EdgA n sg lb nm fr to at_) (sg' : Nat → Int) {e : Nat} (he : e < 2 * n) : (to e).toNat < 4 * n ∧ to e = ((to e).toNat : Int) ∧ (if (to e).toNat % 2 = 1 then 4 * ((to e).toNat / 4) + 2 else upO sg' ((to e).toNat / 4)) < 4 * n ∧ at_ (if (to e).toNat % 2 = 1 then 4 * ((to e).toNat / 4) + 2 else upO sg' ((to e).toNat / 4)) = ((sfn sg' to at_ e : Nat) : Int) ∧ sfn sg' to at_ e < 2 * n := by
  obtain ⟨_, _, t1, t2, _⟩ := fr_ok h he
  have b : (if (to e).toNat % 2 = 1 then 4 * ((to e).toNat / 4) + 2 else upO sg' ((to e).toNat / 4)) < 4 * n := by
    unfold upO
    split
    · omega
    · split <;> omega
  obtain ⟨f, f1, f2, _⟩ := h.2.2 _ b
  refine ⟨t2, t1, b, ?_, ?_⟩
  · unfold sfn; rw [f2, Int.toNat_natCast]
  · unfold sfn; rw [f2, Int.toNat_natCast]; exact f1
theorem isU (fl : Nat) {x : Int} {q : Nat} (hx : x = (q : Int)) : LM_Sh_isUpper fl x = some (if q % 2 = 1 then 1 else 0) ∧ LM_Md_isUpper fl x = some (if q % 2 = 1 then 1 else 0) := by
  unfold LM_Sh_isUpper LB_Sh_isUpper_0 LM_Md_isUpper LB_Md_isUpper_0
  by_cases c : q % 2 = 1
  · rw [if_neg (by omega), if_pos c]; exact ⟨rfl, rfl⟩
  · rw [if_pos (by omega), if_neg c]; exact ⟨rfl, rfl⟩
theorem sc12 (fl : Nat) (hfl : 200 ≤ fl) (hn : n ≤ 20) (h : EdgA n sg lb nm fr to at_) {S : Nat → Int} :
    ∀ (r nn k : Nat) (B : Nat → Int), k + r = 2 * n → r < nn → like (2 * n) B (pl1 (sfR (sfn S to at_) (2 * n) k).1) →
    ∃ B', LB_Sh_seifertRounds_12 fl ((2 * n : Nat) : Int) at_ to S nn ((sfR (sfn S to at_) (2 * n) k).2 : Int) (k : Int) B = some ((((sfR (sfn S to at_) (2 * n) (2 * n)).2 : Nat) : Int), B') := by
  have hfl2 : ∀ x, x < 2 * n → sfn S to at_ x < 2 * n := fun x hx => (sfn_ok h S hx).2.2.2.2
  intro r
  induction r with
  | zero =>
    intro nn k B hr hnn hB
    obtain ⟨nn, rfl⟩ : ∃ r, nn = r + 1 := ⟨nn - 1, by omega⟩
    rw [LB_Sh_seifertRounds_12, if_pos (by omega), show k = 2 * n by omega]
    exact ⟨B, rfl⟩
  | succ r ih =>
    intro nn k B hr hnn hB
    obtain ⟨nn, rfl⟩ : ∃ r, nn = r + 1 := ⟨nn - 1, by omega⟩
    have le := sfR_le (sfn S to at_) (2 * n) k
    have bk := hB k (by omega)
    unfold pl1 at bk
    rw [LB_Sh_seifertRounds_12, if_neg (by omega), if_pos (by omega), Int.toNat_natCast, bk]
    by_cases c : 0 ≤ (sfR (sfn S to at_) (2 * n) k).1 k
    · rw [if_neg (show ¬ ((sfR (sfn S to at_) (2 * n) k).1 k < 0) by omega), if_pos (by decide)]
      unfold LB_Sh_seifertRounds_117
      rw [if_pos (by omega), show ((k : Int) + 1) = ((k + 1 : Nat) : Int) by omega]
      have := ih nn (k + 1) B (by omega) (by omega) (by rw [sfR_s, if_pos c]; exact hB)
      rw [sfR_s, if_pos c] at this
      exact this
    · rw [if_pos (show (sfR (sfn S to at_) (2 * n) k).1 k < 0 by omega), if_neg (by decide)]
      have ul := U_le (2 * n) (fun x => if x < 2 * n then (sfR (sfn S to at_) (2 * n) k).1 x else -1)
      have L := mk_loop (N := 2 * n) (f := sfn S to at_) (v := 0) (Int.le_refl _) hfl2 (fun nn' x t A => LB_Sh_seifertRounds_35 fl ((2 * n : Nat) : Int) at_ to S (LB_Sh_seifertRounds_12 fl ((2 * n : Nat) : Int) at_ to S nn) nn' ((sfR (sfn S to at_) (2 * n) k).2 : Int) (k : Int) (x : Int) (t : Int) (pl2 (2 * n) B A))
        (fun x t A => LB_Sh_seifertRounds_114 fl ((2 * n : Nat) : Int) at_ to S (LB_Sh_seifertRounds_12 fl ((2 * n : Nat) : Int) at_ to S nn) ((sfR (sfn S to at_) (2 * n) k).2 : Int) (k : Int) (x : Int) (t : Int) (pl2 (2 * n) B A))
        (fun nn' x t A hx ht hA => by
          rw [LB_Sh_seifertRounds_35]
          by_cases w : ((2 * n : Nat) : Int) ≤ (t : Int)
          · rw [if_pos w]
          · rw [if_neg w, if_pos (by omega), Int.toNat_natCast, if_pos (by unfold pl2; rw [if_neg (by omega)]; decide)])
        (fun nn' x t A hx ht hA => by
          obtain ⟨t1, t2, t3, t4, t5⟩ := sfn_ok h S hx
          rw [LB_Sh_seifertRounds_35, if_neg (by omega), if_pos (by omega), Int.toNat_natCast, if_neg (fun z => z (by unfold pl2; rw [if_pos hA, if_pos hx])), if_pos (by omega), (isU fl t2).1, Option.bind_some, pl2_up]
          unfold LB_Sh_seifertRounds_105
          by_cases u : (to x).toNat % 2 = 1
          · rw [if_pos u] at t3 t4
            rw [if_pos u, if_neg (by decide), if_pos (by omega), if_pos (by omega), if_pos (by omega), show Int.toNat (4 * (to x / 4) + 2) = 4 * ((to x).toNat / 4) + 2 by omega, t4]
            rfl
          · rw [if_neg u] at t3 t4
            rw [if_neg u, if_pos rfl, show to x / 4 = (((to x).toNat / 4 : Nat) : Int) by omega, C_upO fl hn (show (to x).toNat / 4 < n by omega), Option.bind_some, if_pos (by omega), if_pos (by omega), Int.toNat_natCast, t4]
            rfl) (Uz (2 * n) (sfR (sfn S to at_) (2 * n) k).1) (2 * n + 1) fl k 0 (fun x => if x < 2 * n then (sfR (sfn S to at_) (2 * n) k).1 x else -1) (sfR (sfn S to at_) (2 * n) k).1 rfl (by have := U_le (2 * n) (sfR (sfn S to at_) (2 * n) k).1; omega) (by have := U_le (2 * n) (sfR (sfn S to at_) (2 * n) k).1; omega) (by omega) (by have := U_le (2 * n) (sfR (sfn S to at_) (2 * n) k).1; omega) (fun y hy => by
            show (if y < 2 * n then (sfR (sfn S to at_) (2 * n) k).1 y else -1) = _
            rw [if_pos hy])
      obtain ⟨x', A', hx', L1, L2⟩ := L
      rw [pl2_st hB, show ((0 : Nat) : Int) = 0 from rfl] at L1
      rw [L1]
      unfold LB_Sh_seifertRounds_114 LB_Sh_seifertRounds_117
      rw [if_pos (by omega), if_pos (by omega), show ((k : Int) + 1) = ((k + 1 : Nat) : Int) by omega]
      have := ih nn (k + 1) (pl2 (2 * n) B A') (by omega) (by omega) (by
        rw [sfR_s, if_neg c]
        exact pl2_like L2)
      rw [sfR_s, if_neg c] at this
      rw [show (((sfR (sfn S to at_) (2 * n) k).2 : Nat) : Int) + 1 = (((sfR (sfn S to at_) (2 * n) k).2 + 1 : Nat) : Int) by omega]
      exact this
theorem C_seifert (fl : Nat) (hfl : 200 ≤ fl) (hn : n ≤ 20) (h : EdgA n sg lb nm fr to at_) (S sc : Nat → Int) :
    ∃ B', LM_Sh_seifertRounds fl ((2 * n : Nat) : Int) at_ to S sc = some ((((sfR (sfn S to at_) (2 * n) (2 * n)).2 : Nat) : Int), B') := by
  unfold LM_Sh_seifertRounds LB_Sh_seifertRounds_0
  exact sc12 fl hfl hn h (2 * n) fl 0 _ (by omega) (by omega) (fun y hy => by unfold fillF pl1; rw [if_pos (by omega)]; rfl)
theorem sm27 (fl : Nat) (hfl : 200 ≤ fl) (hn : n ≤ 20) (h : EdgA n sg lb nm fr to at_) {S : Nat → Int} (hS : ∀ c, c < n → S c = 1 ∨ S c = -1) {ci : Int} (hci : 0 ≤ ci ∧ ci ≤ 100) :
    ∀ (r nn k : Nat) (B : Nat → Int), k + r = 2 * n → r < nn → like (2 * n) B (pl1 (sfR (sfn S to at_) (2 * n) k).1) →
    ∃ B', LB_Md_seifert_27 fl ((2 * n : Nat) : Int) ci S to at_ nn ((sfR (sfn S to at_) (2 * n) k).2 : Int) (k : Int) B = some ((((sfR (sfn S to at_) (2 * n) (2 * n)).2 : Nat) : Int) + ci, B') := by
  have hfl2 : ∀ x, x < 2 * n → sfn S to at_ x < 2 * n := fun x hx => (sfn_ok h S hx).2.2.2.2
  intro r
  induction r with
  | zero =>
    intro nn k B hr hnn hB
    obtain ⟨nn, rfl⟩ : ∃ r, nn = r + 1 := ⟨nn - 1, by omega⟩
    have le := sfR_le (sfn S to at_) (2 * n) k
    rw [LB_Md_seifert_27, if_pos (by omega), if_pos (by omega), show k = 2 * n by omega]
    exact ⟨B, rfl⟩
  | succ r ih =>
    intro nn k B hr hnn hB
    obtain ⟨nn, rfl⟩ : ∃ r, nn = r + 1 := ⟨nn - 1, by omega⟩
    have le := sfR_le (sfn S to at_) (2 * n) k
    have bk := hB k (by omega)
    unfold pl1 at bk
    rw [LB_Md_seifert_27, if_neg (by omega), if_pos (by omega), Int.toNat_natCast, bk]
    by_cases c : 0 ≤ (sfR (sfn S to at_) (2 * n) k).1 k
    · rw [if_neg (show ¬ ((sfR (sfn S to at_) (2 * n) k).1 k < 0) by omega), if_neg (by decide)]
      unfold LB_Md_seifert_116
      rw [if_pos (by omega), show ((k : Int) + 1) = ((k + 1 : Nat) : Int) by omega]
      have := ih nn (k + 1) B (by omega) (by omega) (by rw [sfR_s, if_pos c]; exact hB)
      rw [sfR_s, if_pos c] at this
      exact this
    · rw [if_pos (show (sfR (sfn S to at_) (2 * n) k).1 k < 0 by omega), if_pos (by decide), if_pos (by omega)]
      have L := mk_loop (N := 2 * n) (f := sfn S to at_) (v := 0) (Int.le_refl _) hfl2 (fun nn' x t A => LB_Md_seifert_52 fl ((2 * n : Nat) : Int) ci S to at_ (LB_Md_seifert_27 fl ((2 * n : Nat) : Int) ci S to at_ nn) nn' ((sfR (sfn S to at_) (2 * n) k).2 + 1 : Int) (k : Int) (x : Int) (pl2 (2 * n) B A))
        (fun x t A => LB_Md_seifert_116 fl ((2 * n : Nat) : Int) ci S to at_ (LB_Md_seifert_27 fl ((2 * n : Nat) : Int) ci S to at_ nn) ((sfR (sfn S to at_) (2 * n) k).2 + 1 : Int) (k : Int) (pl2 (2 * n) B A))
        (fun nn' x t A hx ht hA => by
          rw [LB_Md_seifert_52, if_pos (by omega), Int.toNat_natCast, if_pos (by unfold pl2; rw [if_neg (by omega)]; decide)])
        (fun nn' x t A hx ht hA => by
          obtain ⟨t1, t2, t3, t4, t5⟩ := sfn_ok h S hx
          rw [LB_Md_seifert_52, if_pos (by omega), Int.toNat_natCast, if_neg (fun z => z (by unfold pl2; rw [if_pos hA, if_pos hx])), (isU fl t2).2, Option.bind_some, pl2_up]
          unfold LB_Md_seifert_111
          by_cases u : (to x).toNat % 2 = 1
          · rw [if_pos u] at t3 t4
            rw [if_pos u, if_neg (by decide), if_pos (by omega), if_pos (by omega), show Int.toNat (4 * (to x / 4) + 2) = 4 * ((to x).toNat / 4) + 2 by omega, t4]
          · rw [if_neg u] at t3 t4
            have cn : (to x).toNat / 4 < n := by omega
            have x2 := ixor2 (upI S ((to x).toNat / 4)) (by unfold upI; split <;> omega)
            rw [opp_upI] at x2
            rw [if_neg u, if_pos rfl, show to x / 4 = (((to x).toNat / 4 : Nat) : Int) by omega, M_upI fl hn cn S (hS _ cn), Option.bind_some, x2, if_pos (by omega), Int.toNat_natCast, t4]) (Uz (2 * n) (sfR (sfn S to at_) (2 * n) k).1) (2 * n + 1) fl k 0 (fun x => if x < 2 * n then (sfR (sfn S to at_) (2 * n) k).1 x else -1) (sfR (sfn S to at_) (2 * n) k).1 rfl (by have := U_le (2 * n) (sfR (sfn S to at_) (2 * n) k).1; omega) (by have := U_le (2 * n) (sfR (sfn S to at_) (2 * n) k).1; omega) (by omega) (by have := U_le (2 * n) (sfR (sfn S to at_) (2 * n) k).1; omega) (fun y hy => by
            show (if y < 2 * n then (sfR (sfn S to at_) (2 * n) k).1 y else -1) = _
            rw [if_pos hy])
      obtain ⟨x', A', hx', L1, L2⟩ := L
      rw [pl2_st hB] at L1
      rw [L1]
      unfold LB_Md_seifert_116
      rw [if_pos (by omega), show ((k : Int) + 1) = ((k + 1 : Nat) : Int) by omega]
      have := ih nn (k + 1) (pl2 (2 * n) B A') (by omega) (by omega) (by
        rw [sfR_s, if_neg c]
        exact pl2_like L2)
      rw [sfR_s, if_neg c] at this
      rw [show (((sfR (sfn S to at_) (2 * n) k).2 : Nat) : Int) + 1 = (((sfR (sfn S to at_) (2 * n) k).2 + 1 : Nat) : Int) by omega]
      exact this
theorem sm4 (fl : Nat) (hfl : 200 ≤ fl) (hn : n ≤ 20) (h : EdgA n sg lb nm fr to at_) {S : Nat → Int} (hS : ∀ c, c < n → S c = 1 ∨ S c = -1) {ci : Int} (hci : 0 ≤ ci ∧ ci ≤ 100) :
    ∀ (r nn k : Nat) (B : Nat → Int), k + r = 2 * n → r < nn → (∀ y, y < k → B y = 0) → ∃ B', LB_Md_seifert_4 fl ((2 * n : Nat) : Int) ci S to at_ nn 0 (k : Int) B = some ((((sfR (sfn S to at_) (2 * n) (2 * n)).2 : Nat) : Int) + ci, B') := by
  intro r
  induction r with
  | zero =>
    intro nn k B hr hnn hB
    obtain ⟨nn, rfl⟩ : ∃ r, nn = r + 1 := ⟨nn - 1, by omega⟩
    rw [LB_Md_seifert_4, if_pos (by omega)]
    exact sm27 fl hfl hn h hS hci (2 * n) fl 0 B (by omega) (by omega) (fun y hy => by rw [hB y (by omega)]; rfl)
  | succ r ih =>
    intro nn k B hr hnn hB
    obtain ⟨nn, rfl⟩ : ∃ r, nn = r + 1 := ⟨nn - 1, by omega⟩
    rw [LB_Md_seifert_4, if_neg (by omega), if_pos (by omega), if_pos (by omega), Int.toNat_natCast, show ((k : Int) + 1) = ((k + 1 : Nat) : Int) by omega]
    refine ih nn (k + 1) _ (by omega) (by omega) (fun y hy => ?_)
    by_cases w : y = k
    · rw [w, up_eq]
    · rw [up_ne _ _ w]; exact hB y (by omega)
theorem M_seifert (fl : Nat) (hfl : 200 ≤ fl) (hn : n ≤ 20) (h : EdgA n sg lb nm fr to at_) {S : Nat → Int} (hS : ∀ c, c < n → S c = 1 ∨ S c = -1) {ci : Int} (hci : 0 ≤ ci ∧ ci ≤ 100) (ro : Nat → Int) :
    ∃ B', LM_Md_seifert fl ((2 * n : Nat) : Int) ci S to at_ ro = some ((((sfR (sfn S to at_) (2 * n) (2 * n)).2 : Nat) : Int) + ci, B') := by
  unfold LM_Md_seifert LB_Md_seifert_0
  exact sm4 fl hfl hn h hS hci (2 * n) fl 0 ro (by omega) (by omega) (fun y hy => by omega)
/-- sums of signs -/
def sgs (sg : Nat → Int) : Nat → Int
  | 0 => 0
  | k + 1 => sgs sg k + sg k
theorem sgs_b {sg : Nat → Int} : ∀ k, (∀ c, c < k → sg c = 1 ∨ sg c = -1) → -(k : Int) ≤ sgs sg k ∧ sgs sg k ≤ (k : Int) := by
  intro k
  induction k with
  | zero => intro _; show -((0 : Nat) : Int) ≤ 0 ∧ (0 : Int) ≤ ((0 : Nat) : Int); decide
  | succ k ih =>
    intro h
    have := ih (fun c hc => h c (by omega))
    have := h k (by omega)
    show -((k + 1 : Nat) : Int) ≤ sgs sg k + sg k ∧ sgs sg k + sg k ≤ ((k + 1 : Nat) : Int)
    omega
theorem ss4 (fl : Nat) (hn : n ≤ 20) {S : Nat → Int} (hS : ∀ c, c < n → S c = 1 ∨ S c = -1) : ∀ (r nn k : Nat), k + r = n → r < nn → LB_Di_sumOfSigns_4 fl (n : Int) S nn (sgs S k) (k : Int) = some (sgs S n) ∧ LB_Md_signs_4 fl (n : Int) S nn (sgs S k) (k : Int) = some (sgs S n) := by
  intro r
  induction r with
  | zero =>
    intro nn k hr hnn
    obtain ⟨nn, rfl⟩ : ∃ r, nn = r + 1 := ⟨nn - 1, by omega⟩
    rw [LB_Di_sumOfSigns_4, LB_Md_signs_4, if_pos (by omega), if_pos (by omega), show k = n by omega]
    exact ⟨rfl, rfl⟩
  | succ r ih =>
    intro nn k hr hnn
    obtain ⟨nn, rfl⟩ : ∃ r, nn = r + 1 := ⟨nn - 1, by omega⟩
    have b := sgs_b k (fun c hc => hS c (by omega))
    have s := hS k (by omega)
    have I := ih nn (k + 1) (by omega) (by omega)
    constructor
    · rw [LB_Di_sumOfSigns_4, if_neg (by omega), if_pos (by omega), Int.toNat_natCast, if_pos (by omega), show ((k : Int) + 1) = ((k + 1 : Nat) : Int) by omega]
      exact I.1
    · rw [LB_Md_signs_4, if_neg (by omega), if_pos (by omega), Int.toNat_natCast, if_pos (by omega), show ((k : Int) + 1) = ((k + 1 : Nat) : Int) by omega]
      exact I.2
theorem CM_signs (fl : Nat) (hfl : 200 ≤ fl) (hn : n ≤ 20) {S : Nat → Int} (hS : ∀ c, c < n → S c = 1 ∨ S c = -1) : LM_Di_sumOfSigns fl (n : Int) S = some (sgs S n) ∧ LM_Md_signs fl (n : Int) S = some (sgs S n) := by
  unfold LM_Di_sumOfSigns LB_Di_sumOfSigns_0 LM_Md_signs LB_Md_signs_0
  exact ss4 fl hn hS n fl 0 (by omega) (by omega)
theorem sgs_like {S sg : Nat → Int} : ∀ k, like k S sg → sgs S k = sgs sg k := by
  intro k
  induction k with
  | zero => intro _; rfl
  | succ k ih =>
    intro h
    show sgs S k + S k = sgs sg k + sg k
    rw [ih (fun c hc => h c (by omega)), h k (by omega)]
/-- alternating -/
def altB (fr to : Nat → Int) : Nat → Bool
  | 0 => true
  | k + 1 => altB fr to k && decide ((fr k).toNat % 2 ≠ (to k).toNat % 2)
theorem ca2 (fl : Nat) (hn : n ≤ 20) (h : EdgA n sg lb nm fr to at_) : ∀ (r nn k : Nat), k + r = 2 * n → r < nn → altB fr to k = true → LB_Sh_isAlternating_2 fl ((2 * n : Nat) : Int) fr to nn (k : Int) = some (if altB fr to (2 * n) = true then 1 else 0) := by
  have no : ∀ r k, altB fr to k = false → altB fr to (k + r) = false := by
    intro r
    induction r with
    | zero => intro k w; exact w
    | succ r ih => intro k w; rw [show k + (r + 1) = k + r + 1 by omega]; show (altB fr to (k + r) && _) = false; rw [ih k w]; rfl
  intro r
  induction r with
  | zero =>
    intro nn k hr hnn ha
    obtain ⟨nn, rfl⟩ : ∃ r, nn = r + 1 := ⟨nn - 1, by omega⟩
    rw [LB_Sh_isAlternating_2, if_pos (by omega), ← show k = 2 * n by omega, if_pos ha]
  | succ r ih =>
    intro nn k hr hnn ha
    obtain ⟨nn, rfl⟩ : ∃ r, nn = r + 1 := ⟨nn - 1, by omega⟩
    obtain ⟨f1, f2, t1, t2, _⟩ := fr_ok h (show k < 2 * n by omega)
    rw [LB_Sh_isAlternating_2, if_neg (by omega), if_pos (by omega), Int.toNat_natCast, (isU fl f1).1, Option.bind_some, (isU fl t1).1, Option.bind_some]
    have ak : altB fr to (k + 1) = decide ((fr k).toNat % 2 ≠ (to k).toNat % 2) := by show (altB fr to k && _) = _; rw [ha]; rfl
    by_cases w : (fr k).toNat % 2 = (to k).toNat % 2
    · rw [if_neg (fun z => z (by rw [w]))]
      have := no r (k + 1) (by rw [ak]; simp [w])
      rw [show k + 1 + r = 2 * n by omega] at this
      rw [this]; rfl
    · rw [if_pos (by split <;> split <;> omega), if_pos (by omega), show ((k : Int) + 1) = ((k + 1 : Nat) : Int) by omega]
      exact ih nn (k + 1) (by omega) (by omega) (by rw [ak]; simp [w])
theorem C_alt (fl : Nat) (hfl : 200 ≤ fl) (hn : n ≤ 20) (h : EdgA n sg lb nm fr to at_) : LM_Sh_isAlternating fl ((2 * n : Nat) : Int) fr to = some (if altB fr to (2 * n) = true then 1 else 0) := by
  unfold LM_Sh_isAlternating LB_Sh_isAlternating_0
  exact ca2 fl hn h (2 * n) fl 0 (by omega) (by omega) rfl
theorem ma4 (fl : Nat) (hn : n ≤ 20) (h : EdgA n sg lb nm fr to at_) : ∀ (r nn k : Nat), k + r = 2 * n → r < nn → LB_Md_isAlternating_4 fl ((2 * n : Nat) : Int) fr to nn (if altB fr to k = true then 1 else 0) (k : Int) = some (if altB fr to (2 * n) = true then 1 else 0) := by
  intro r
  induction r with
  | zero =>
    intro nn k hr hnn
    obtain ⟨nn, rfl⟩ : ∃ r, nn = r + 1 := ⟨nn - 1, by omega⟩
    rw [LB_Md_isAlternating_4, if_pos (by omega), if_pos (by split <;> omega), ← show k = 2 * n by omega]
  | succ r ih =>
    intro nn k hr hnn
    obtain ⟨nn, rfl⟩ : ∃ r, nn = r + 1 := ⟨nn - 1, by omega⟩
    obtain ⟨f1, f2, t1, t2, _⟩ := fr_ok h (show k < 2 * n by omega)
    have nx := ih nn (k + 1) (by omega) (by omega)
    have as : altB fr to (k + 1) = (altB fr to k && decide ((fr k).toNat % 2 ≠ (to k).toNat % 2)) := rfl
    rw [show ((k + 1 : Nat) : Int) = (k : Int) + 1 by omega] at nx
    rw [LB_Md_isAlternating_4, if_neg (by omega)]
    unfold LB_Md_isAlternating_41 LB_Md_isAlternating_42
    cases ha : altB fr to k
    · rw [ha, Bool.false_and] at as
      rw [as] at nx
      simp only [if_neg (show ¬ (false = true) by decide)] at nx ⊢
      rw [if_pos trivial, if_pos (by omega)]
      exact nx
    · rw [ha, Bool.true_and] at as
      simp only [if_pos (show (true = true) from rfl)]
      rw [if_neg (by decide), if_pos (by omega), Int.toNat_natCast, (isU fl f1).2, Option.bind_some, (isU fl t1).2, Option.bind_some]
      by_cases w : (fr k).toNat % 2 = (to k).toNat % 2
      · rw [if_pos (by rw [w]), if_pos (by omega)]
        rw [as, show decide ((fr k).toNat % 2 ≠ (to k).toNat % 2) = false by simp [w]] at nx
        exact nx
      · rw [if_neg (by split <;> split <;> omega), if_pos (by omega)]
        rw [as, show decide ((fr k).toNat % 2 ≠ (to k).toNat % 2) = true by simp [w]] at nx
        exact nx
theorem M_alt (fl : Nat) (hfl : 200 ≤ fl) (hn : n ≤ 20) (h : EdgA n sg lb nm fr to at_) : LM_Md_isAlternating fl ((2 * n : Nat) : Int) fr to = some (if altB fr to (2 * n) = true then 1 else 0) := by
  unfold LM_Md_isAlternating LB_Md_isAlternating_0
  exact ma4 fl hn h (2 * n) fl 0 (by omega) (by omega)
end
