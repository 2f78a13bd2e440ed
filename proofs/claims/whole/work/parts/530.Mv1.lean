def mgL (a b l : Int) : Int := if l = a ∨ l = b then min a b else l
theorem mgL_same (a l : Int) : mgL a a l = l := by unfold mgL; split <;> omega
/-- labels after two places' edges have become one -/
def jl (x y : Nat) (lb : Nat → Int) : Nat → Int := fun q => mgL (lb x) (lb y) (lb q)
def jc (x y : Nat) (lb : Nat → Int) (ci : Int) : Int := if lb x = lb y then ci + 1 else ci
/-- places when a crossing has gone; crossings -/
def sk (c q : Nat) : Nat := if q < 4 * c then q else q + 4
def sk1 (c k : Nat) : Nat := if k < c then k else k + 1
theorem like_mg {N : Nat} {A lb : Nat → Int} (h : like N A lb) {x y : Nat} (hx : x < N) (hy : y < N) : like N (jl x y A) (jl x y lb) := fun q hq => by
  unfold jl; rw [h x hx, h y hy, h q hq]
theorem rn7 (fl : Nat) {n : Nat} (hn : n ≤ 20) (o m : Int) (kn : Int) (A : Nat → Int) :
    ∀ (d nn q : Nat) (B : Nat → Int), q + d = 4 * n → d < nn → (∀ p, p < 4 * n → B p = if p < q then (if A p = o then m else A p) else A p) →
    ∃ B', LB_Di_rename_7 fl (n : Int) nn o m (q : Int) kn B = some (kn, B') ∧ (∀ p, p < 4 * n → B' p = if A p = o then m else A p) := by
  intro d
  induction d with
  | zero =>
    intro nn q B hd hnn hB
    obtain ⟨nn, rfl⟩ : ∃ r, nn = r + 1 := ⟨nn - 1, by omega⟩
    rw [LB_Di_rename_7, if_pos (by omega), if_pos (by omega)]
    exact ⟨B, rfl, fun p hp => by rw [hB p hp, if_pos (by omega)]⟩
  | succ d ih =>
    intro nn q B hd hnn hB
    obtain ⟨nn, rfl⟩ : ∃ r, nn = r + 1 := ⟨nn - 1, by omega⟩
    have hq := hB q (by omega)
    rw [if_neg (by omega)] at hq
    rw [LB_Di_rename_7, if_pos (by omega), if_neg (by omega), if_pos (by omega), Int.toNat_natCast, hq]
    unfold LB_Di_rename_34
    by_cases w : A q = o
    · rw [if_neg (fun w2 => w2 w), if_pos (by omega), show ((q : Int) + 1) = ((q + 1 : Nat) : Int) by omega]
      refine ih nn (q + 1) _ (by omega) (by omega) (fun p hp => ?_)
      by_cases e : p = q
      · rw [e, up_eq, if_pos (by omega), if_pos w]
      · rw [up_ne _ _ e, hB p hp]
        by_cases e2 : p < q
        · rw [if_pos e2, if_pos (show p < q + 1 by omega)]
        · rw [if_neg e2, if_neg (show ¬ p < q + 1 by omega)]
    · rw [if_pos w, if_pos (by omega), show ((q : Int) + 1) = ((q + 1 : Nat) : Int) by omega]
      refine ih nn (q + 1) _ (by omega) (by omega) (fun p hp => ?_)
      rw [hB p hp]
      by_cases e2 : p < q
      · rw [if_pos e2, if_pos (show p < q + 1 by omega)]
      · rw [if_neg e2]
        by_cases e : p = q
        · rw [e, if_pos (show q < q + 1 by omega), if_neg w]
        · rw [if_neg (show ¬ p < q + 1 by omega)]
theorem C_rename (fl : Nat) (hfl : 200 ≤ fl) {n : Nat} (hn : n ≤ 20) (o m kn : Int) (A : Nat → Int) :
    ∃ B', LM_Di_rename fl (n : Int) o m kn A = some (0, B') ∧ (∀ p, p < 4 * n → B' p = if A p = o then m else A p) := by
  unfold LM_Di_rename LB_Di_rename_0
  exact rn7 fl hn o m 0 A (4 * n) fl 0 A (by omega) (by omega) (fun p hp => by rw [if_neg (by omega)])
theorem C_join (fl : Nat) (hfl : 200 ≤ fl) {n : Nat} (hn : n ≤ 20) {x y : Nat} (hx : x < 4 * n) (hy : y < 4 * n) (ci : Int) (hci : 0 ≤ ci ∧ ci ≤ 1000) (A : Nat → Int) :
    ∃ B', LM_Di_joinAt fl (n : Int) (x : Int) (y : Int) ci 0 A = some (jc x y A ci, 0, B') ∧ like (4 * n) B' (jl x y A) := by
  unfold LM_Di_joinAt LB_Di_joinAt_0 jc
  rw [if_pos (by omega), if_pos (by omega), Int.toNat_natCast, Int.toNat_natCast]
  by_cases w : A x = A y
  · rw [if_neg (fun w2 => w2 w), if_pos (by omega), if_pos w]
    exact ⟨A, rfl, fun q _ => by unfold jl; rw [w, mgL_same]⟩
  · rw [if_pos w, if_neg w]
    obtain ⟨B', h1, h2⟩ := C_rename fl hfl hn (if A x < A y then A y else A x) (if A y < A x then A y else A x) 0 A
    rw [h1, Option.bind_some]
    refine ⟨B', rfl, fun q hq => ?_⟩
    rw [h2 q hq]
    unfold jl mgL
    (repeat' split) <;> omega
/-- crossing c bubbles to the end -/
def pmv (c k q : Nat) : Nat := if q < 4 * c then q else if q < 4 * k then q + 4 else if q < 4 * k + 4 then 4 * c + (q - 4 * k) else q
def pms (c k j : Nat) : Nat := if j < c then j else if j < k then j + 1 else if j = k then c else j
theorem me52 (fl : Nat) {n c k : Nat} (hn : n ≤ 20) (hk : k + 1 < n) (hc : c ≤ k) (kb : Int → Int → Int → (Nat → Int) → (Nat → Int) → Option (Int × Int × (Nat → Int) × (Nat → Int))) (x1 x3 kn : Int) (S lb : Nat → Int) :
    ∀ (d nn i : Nat) (A : Nat → Int), i + d = 4 → d < nn → (∀ q, q < 4 * n → A q = lb (if 4 * k ≤ q ∧ q < 4 * k + i then q + 4 else if 4 * k + 4 ≤ q ∧ q < 4 * k + 4 + i then 4 * c + (q - (4 * k + 4)) else pmv c k q)) →
    ∃ A', LB_Di_moveToEnd_52 fl (n : Int) kb nn x1 (k : Int) x3 ((4 * k + i : Nat) : Int) kn A S = kb x1 ((k + 1 : Nat) : Int) kn A' S ∧ (∀ q, q < 4 * n → A' q = lb (pmv c (k + 1) q)) := by
  intro d
  induction d with
  | zero =>
    intro nn i A hd hnn hA
    obtain ⟨nn, rfl⟩ : ∃ r, nn = r + 1 := ⟨nn - 1, by omega⟩
    rw [LB_Di_moveToEnd_52, if_pos (by omega), if_pos (by omega), if_pos (by omega), show ((k : Int) + 1) = ((k + 1 : Nat) : Int) by omega]
    refine ⟨A, rfl, fun q hq => ?_⟩
    rw [hA q hq]
    congr 1
    unfold pmv
    (repeat' split) <;> omega
  | succ d ih =>
    intro nn i A hd hnn hA
    obtain ⟨nn, rfl⟩ : ∃ r, nn = r + 1 := ⟨nn - 1, by omega⟩
    have e1 : Int.toNat (((4 * k + i : Nat) : Int) + 4) = 4 * k + i + 4 := by omega
    rw [LB_Di_moveToEnd_52, if_pos (by omega), if_neg (by omega), if_pos (by omega), if_pos (by omega), if_pos (by omega), e1, Int.toNat_natCast, show (((4 * k + i : Nat) : Int) + 1) = ((4 * k + (i + 1) : Nat) : Int) by omega]
    refine ih nn (i + 1) _ (by omega) (by omega) (fun q hq => ?_)
    have a1 := hA (4 * k + i) (by omega)
    have a2 := hA (4 * k + i + 4) (by omega)
    by_cases w1 : q = 4 * k + i + 4
    · rw [w1, up_eq, a1]; congr 1; unfold pmv; (repeat' split) <;> omega
    · rw [up_ne _ _ w1]
      by_cases w2 : q = 4 * k + i
      · rw [w2, up_eq, a2]; congr 1; unfold pmv; (repeat' split) <;> omega
      · rw [up_ne _ _ w2, hA q hq]; congr 1; unfold pmv; (repeat' split) <;> omega
theorem me7 (fl : Nat) (hfl : 200 ≤ fl) {n c : Nat} (hn : n ≤ 20) (hc : c < n) (kn : Int) (lb sg : Nat → Int) :
    ∀ (d nn k : Nat) (A S : Nat → Int), k + 1 + d = n → c ≤ k → d < nn → (∀ q, q < 4 * n → A q = lb (pmv c k q)) → (∀ j, j < n → S j = sg (pms c k j)) →
    ∃ A' S', LB_Di_moveToEnd_7 fl (n : Int) nn (c : Int) (k : Int) kn A S = some (((n - 1 : Nat) : Int), kn, A', S') ∧ (∀ q, q < 4 * n → A' q = lb (pmv c (n - 1) q)) ∧ (∀ j, j < n → S' j = sg (pms c (n - 1) j)) := by
  intro d
  induction d with
  | zero =>
    intro nn k A S hd hck hnn hA hS
    obtain ⟨nn, rfl⟩ : ∃ r, nn = r + 1 := ⟨nn - 1, by omega⟩
    rw [LB_Di_moveToEnd_7, if_pos (by omega), if_pos (by omega), if_pos (by omega), show ((n : Int) - 1) = ((n - 1 : Nat) : Int) by omega]
    rw [show k = n - 1 by omega] at hA hS
    exact ⟨A, S, rfl, hA, hS⟩
  | succ d ih =>
    intro nn k A S hd hck hnn hA hS
    obtain ⟨nn, rfl⟩ : ∃ r, nn = r + 1 := ⟨nn - 1, by omega⟩
    have e1 : Int.toNat ((k : Int) + 1) = k + 1 := by omega
    rw [LB_Di_moveToEnd_7, if_pos (by omega), if_neg (by omega), if_pos (by omega), if_pos (by omega), if_pos (by omega), e1, Int.toNat_natCast]
    obtain ⟨A', h1, h2⟩ := me52 fl hn (show k + 1 < n by omega) hck (LB_Di_moveToEnd_7 fl (n : Int) nn) (c : Int) (S k) kn (up (up S k (S (k + 1))) (k + 1) (S k)) lb 4 fl 0 A (by omega) (by omega) (fun q hq => by rw [hA q hq]; congr 1; rw [if_neg (by omega), if_neg (by omega)])
    rw [show ((4 * k + 0 : Nat) : Int) = 4 * (k : Int) by omega] at h1
    rw [h1]
    refine ih nn (k + 1) A' _ (by omega) (by omega) (by omega) h2 (fun j hj => ?_)
    have s1 := hS k (by omega)
    have s2 := hS (k + 1) (by omega)
    by_cases w1 : j = k + 1
    · rw [w1, up_eq, s1]; congr 1; unfold pms; (repeat' split) <;> omega
    · rw [up_ne _ _ w1]
      by_cases w2 : j = k
      · rw [w2, up_eq, s2]; congr 1; unfold pms; (repeat' split) <;> omega
      · rw [up_ne _ _ w2, hS j hj]; congr 1; unfold pms; (repeat' split) <;> omega
theorem C_moveToEnd (fl : Nat) (hfl : 200 ≤ fl) {n c : Nat} (hn : n ≤ 20) (hc : c < n) (kn : Int) (lb sg : Nat → Int) :
    ∃ A' S', LM_Di_moveToEnd fl (n : Int) (c : Int) kn lb sg = some (((n - 1 : Nat) : Int), 0, A', S') ∧ (∀ q, q < 4 * n → A' q = lb (pmv c (n - 1) q)) ∧ (∀ j, j < n → S' j = sg (pms c (n - 1) j)) := by
  unfold LM_Di_moveToEnd LB_Di_moveToEnd_0
  exact me7 fl hfl hn hc 0 lb sg (n - 1 - c) fl c lb sg (by omega) (Nat.le_refl _) (by omega) (fun q _ => by congr 1; unfold pmv; (repeat' split) <;> omega) (fun j _ => by congr 1; unfold pms; (repeat' split) <;> omega)
def upI (sg : Nat → Int) (c : Nat) : Nat := 4 * c + (if sg c ≤ 0 then 1 else 3)
def upO (sg : Nat → Int) (c : Nat) : Nat := 4 * c + (if sg c ≤ 0 then 3 else 1)
theorem opp_upI (sg : Nat → Int) (c : Nat) : opp (upI sg c) = upO sg c := by unfold opp upI upO; split <;> split <;> omega
theorem C_upI (fl : Nat) {n c : Nat} (hn : n ≤ 20) (hc : c < n) (sg : Nat → Int) : LM_Di_upperIn fl sg (c : Int) = some ((upI sg c : Nat) : Int) := by
  unfold LM_Di_upperIn LB_Di_upperIn_0 upI
  rw [if_pos (by omega), Int.toNat_natCast]
  split
  · rw [if_pos (by omega)]; congr 1
  · rw [if_pos (by omega)]; congr 1
theorem C_upO (fl : Nat) {n c : Nat} (hn : n ≤ 20) (hc : c < n) (sg : Nat → Int) : LM_Di_upperOut fl sg (c : Int) = some ((upO sg c : Nat) : Int) := by
  unfold LM_Di_upperOut LB_Di_upperOut_0 upO
  rw [if_pos (by omega), Int.toNat_natCast]
  split
  · rw [if_pos (by omega)]; congr 1
  · rw [if_pos (by omega)]; congr 1
theorem M_upI (fl : Nat) {n c : Nat} (hn : n ≤ 20) (hc : c < n) (sg : Nat → Int) (hs : sg c = 1 ∨ sg c = -1) : LM_Md_upperIn fl sg (c : Int) = some ((upI sg c : Nat) : Int) := by
  unfold LM_Md_upperIn LB_Md_upperIn_0 upI
  rw [if_pos (by omega), Int.toNat_natCast]
  rcases hs with s | s
  · rw [if_neg (by omega), if_pos (by omega), if_neg (by omega)]; congr 1
  · rw [if_pos (by omega), if_pos (by omega), if_pos (by omega)]; congr 1
/-- what is left when the crossing c is joined along x1 y1, then x2 y2, and has gone -/
def goL (lb : Nat → Int) (c x1 y1 x2 y2 : Nat) : Nat → Int := fun q => jl x2 y2 (jl x1 y1 lb) (sk c q)
def goC (lb : Nat → Int) (x1 y1 x2 y2 : Nat) (ci : Int) : Int := jc x2 y2 (jl x1 y1 lb) (jc x1 y1 lb ci)
def goS (sg : Nat → Int) (c : Nat) : Nat → Int := fun k => sg (sk1 c k)
