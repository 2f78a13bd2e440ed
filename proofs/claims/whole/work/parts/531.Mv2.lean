theorem like_pm {n c : Nat} (hc : c < n) {A lb : Nat → Int} (h : ∀ q, q < 4 * n → A q = lb (pmv c (n - 1) q)) {x y x' y' : Nat} (hx : x < 4 * n) (hy : y < 4 * n) (ex : pmv c (n - 1) x = x') (ey : pmv c (n - 1) y = y') : ∀ q, q < 4 * n → jl x y A q = jl x' y' lb (pmv c (n - 1) q) := fun q hq => by
  unfold jl; rw [h x hx, h y hy, h q hq, ex, ey]
theorem pm_last {n c k : Nat} (hc : c < n) (hk : k < 4) : pmv c (n - 1) (4 * (n - 1) + k) = 4 * c + k := by unfold pmv; (repeat' split) <;> omega
theorem pm_sk {n c q : Nat} (hc : c < n) (hq : q < 4 * (n - 1)) : pmv c (n - 1) q = sk c q := by unfold pmv sk; (repeat' split) <;> omega
theorem pms_sk {n c j : Nat} (hc : c < n) (hj : j < n - 1) : pms c (n - 1) j = sk1 c j := by unfold pms sk1; (repeat' split) <;> omega
theorem pms_last {n c : Nat} (hc : c < n) : pms c (n - 1) (n - 1) = c := by unfold pms; (repeat' split) <;> omega
/-- two joins at the crossing that stands last -/
theorem C_two (fl : Nat) (hfl : 200 ≤ fl) {n c : Nat} (hn : n ≤ 20) (hc : c < n) (ci : Int) (hci : 0 ≤ ci ∧ ci ≤ 900) {A lb : Nat → Int} (hA : ∀ q, q < 4 * n → A q = lb (pmv c (n - 1) q)) {a b d e : Nat} (ha : a < 4) (hb : b < 4) (hd : d < 4) (he : e < 4) :
    ∃ B B', LM_Di_joinAt fl (n : Int) ((4 * (n - 1) + a : Nat) : Int) ((4 * (n - 1) + b : Nat) : Int) ci 0 A = some (jc (4 * c + a) (4 * c + b) lb ci, 0, B) ∧ LM_Di_joinAt fl (n : Int) ((4 * (n - 1) + d : Nat) : Int) ((4 * (n - 1) + e : Nat) : Int) (jc (4 * c + a) (4 * c + b) lb ci) 0 B = some (goC lb (4 * c + a) (4 * c + b) (4 * c + d) (4 * c + e) ci, 0, B') ∧ like (4 * (n - 1)) B' (goL lb c (4 * c + a) (4 * c + b) (4 * c + d) (4 * c + e)) := by
  obtain ⟨B, h1, h2⟩ := C_join fl hfl hn (show 4 * (n - 1) + a < 4 * n by omega) (show 4 * (n - 1) + b < 4 * n by omega) ci (by omega) A
  have ejc : jc (4 * (n - 1) + a) (4 * (n - 1) + b) A ci = jc (4 * c + a) (4 * c + b) lb ci := by
    unfold jc; rw [hA _ (by omega), hA _ (by omega), pm_last hc ha, pm_last hc hb]
  rw [ejc] at h1
  have hB : ∀ q, q < 4 * n → B q = jl (4 * c + a) (4 * c + b) lb (pmv c (n - 1) q) := fun q hq => by
    rw [h2 q hq, like_pm hc hA (by omega) (by omega) (pm_last hc ha) (pm_last hc hb) q hq]
  have hb1 : 0 ≤ jc (4 * c + a) (4 * c + b) lb ci ∧ jc (4 * c + a) (4 * c + b) lb ci ≤ 1000 := by unfold jc; split <;> omega
  obtain ⟨B', h3, h4⟩ := C_join fl hfl hn (show 4 * (n - 1) + d < 4 * n by omega) (show 4 * (n - 1) + e < 4 * n by omega) (jc (4 * c + a) (4 * c + b) lb ci) hb1 B
  have ejc2 : jc (4 * (n - 1) + d) (4 * (n - 1) + e) B (jc (4 * c + a) (4 * c + b) lb ci) = goC lb (4 * c + a) (4 * c + b) (4 * c + d) (4 * c + e) ci := by
    unfold goC
    conv => lhs; unfold jc
    conv => rhs; unfold jc
    rw [hB _ (by omega), hB _ (by omega), pm_last hc hd, pm_last hc he]
  rw [ejc2] at h3
  refine ⟨B, B', h1, h3, fun q hq => ?_⟩
  rw [h4 q (by omega), like_pm hc hB (by omega) (by omega) (pm_last hc hd) (pm_last hc he) q (by omega), pm_sk hc hq]
  rfl
theorem upI_lt (sg : Nat → Int) (c : Nat) : ∃ a, a < 4 ∧ upI sg c = 4 * c + a ∧ upO sg c = 4 * c + (4 - a) ∧ (a = 1 ∨ a = 3) := by
  unfold upI upO
  split
  · exact ⟨1, by omega, rfl, rfl, Or.inl rfl⟩
  · exact ⟨3, by omega, rfl, rfl, Or.inr rfl⟩
theorem C_lift (fl : Nat) (hfl : 200 ≤ fl) {n c : Nat} (hn : n ≤ 20) (hc : c < n) (ci : Int) (hci : 0 ≤ ci ∧ ci ≤ 900) (kn : Int) (lb sg : Nat → Int) :
    ∃ B S, LM_Di_lift fl (c : Int) (n : Int) ci kn lb sg = some (((n - 1 : Nat) : Int), goC lb (4 * c) (4 * c + 2) (upI sg c) (upO sg c) ci, 0, B, S) ∧ like (4 * (n - 1)) B (goL lb c (4 * c) (4 * c + 2) (upI sg c) (upO sg c)) ∧ like (n - 1) S (goS sg c) := by
  unfold LM_Di_lift LB_Di_lift_0
  obtain ⟨A, S, h1, h2, h3⟩ := C_moveToEnd fl hfl hn hc kn lb sg
  rw [h1, Option.bind_some]
  dsimp only
  have hsl : S (n - 1) = sg c := by rw [h3 _ (by omega), pms_last hc]
  obtain ⟨a, a1, a2, a3, a4⟩ := upI_lt sg c
  have eI : upI S (n - 1) = 4 * (n - 1) + a := by
    unfold upI at a2 ⊢; rw [hsl]; split at a2 <;> split <;> omega
  have eO : upO S (n - 1) = 4 * (n - 1) + (4 - a) := by
    unfold upO at a3 ⊢; rw [hsl]; split at a3 <;> split <;> omega
  obtain ⟨B, B', g1, g2, g3⟩ := C_two fl hfl hn hc ci hci h2 (a := 0) (b := 2) (d := a) (e := 4 - a) (by omega) (by omega) a1 (by omega)
  rw [if_pos (by omega), show (4 * (((n - 1 : Nat)) : Int)) = ((4 * (n - 1) + 0 : Nat) : Int) by omega, show (((4 * (n - 1) + 0 : Nat) : Int) + 2) = ((4 * (n - 1) + 2 : Nat) : Int) by omega, g1, Option.bind_some, C_upI fl hn (show n - 1 < n by omega), Option.bind_some, C_upO fl hn (show n - 1 < n by omega), Option.bind_some, eI, eO]
  dsimp only
  rw [g2, Option.bind_some, if_pos (by omega), a2, a3, show ((n : Int) - 1) = ((n - 1 : Nat) : Int) by omega]
  refine ⟨B', S, rfl, g3, fun j hj => ?_⟩
  rw [h3 j (by omega), pms_sk hc hj]; rfl
theorem C_smooth (fl : Nat) (hfl : 200 ≤ fl) {n c : Nat} (hn : n ≤ 20) (hc : c < n) (ci : Int) (hci : 0 ≤ ci ∧ ci ≤ 900) (kn : Int) (lb sg : Nat → Int) :
    ∃ B S, LM_Di_smooth fl (c : Int) (n : Int) ci kn lb sg = some (if goC lb (4 * c) (upO sg c) (upI sg c) (4 * c + 2) ci ≤ 20 then 1 else 0, ((n - 1 : Nat) : Int), goC lb (4 * c) (upO sg c) (upI sg c) (4 * c + 2) ci, 0, B, S) ∧ like (4 * (n - 1)) B (goL lb c (4 * c) (upO sg c) (upI sg c) (4 * c + 2)) ∧ like (n - 1) S (goS sg c) := by
  unfold LM_Di_smooth LB_Di_smooth_0
  rw [if_neg (by omega), if_pos (by omega)]
  obtain ⟨A, S, h1, h2, h3⟩ := C_moveToEnd fl hfl hn hc kn lb sg
  rw [h1, Option.bind_some]
  dsimp only
  have hsl : S (n - 1) = sg c := by rw [h3 _ (by omega), pms_last hc]
  obtain ⟨a, a1, a2, a3, a4⟩ := upI_lt sg c
  have eI : upI S (n - 1) = 4 * (n - 1) + a := by
    unfold upI at a2 ⊢; rw [hsl]; split at a2 <;> split <;> omega
  have eO : upO S (n - 1) = 4 * (n - 1) + (4 - a) := by
    unfold upO at a3 ⊢; rw [hsl]; split at a3 <;> split <;> omega
  obtain ⟨B, B', g1, g2, g3⟩ := C_two fl hfl hn hc ci hci h2 (a := 0) (b := 4 - a) (d := a) (e := 2) (by omega) (by omega) a1 (by omega)
  rw [Nat.add_zero (4 * c)] at g1 g2 g3
  rw [C_upO fl hn (show n - 1 < n by omega), Option.bind_some, if_pos (by omega), eO, show (4 * (((n - 1 : Nat)) : Int)) = ((4 * (n - 1) + 0 : Nat) : Int) by omega, g1, Option.bind_some, C_upI fl hn (show n - 1 < n by omega), Option.bind_some, eI, if_pos (by omega), show (((4 * (n - 1) + 0 : Nat) : Int) + 2) = ((4 * (n - 1) + 2 : Nat) : Int) by omega]
  dsimp only
  rw [g2, Option.bind_some, a2, a3, show ((n : Int) - 1) = ((n - 1 : Nat) : Int) by omega]
  dsimp only
  have eS : like (n - 1) S (goS sg c) := fun j hj => by rw [h3 j (by omega), pms_sk hc hj]; rfl
  by_cases w : goC lb (4 * c) (4 * c + (4 - a)) (4 * c + a) (4 * c + 2) ci ≤ 20
  · rw [if_neg (by omega), if_pos (by omega), if_pos w]
    exact ⟨B', S, rfl, g3, eS⟩
  · rw [if_pos (by omega), if_pos (by omega), if_neg w]
    exact ⟨B', S, rfl, g3, eS⟩
theorem mg33 (fl : Nat) {n : Nat} (hn : n ≤ 20) (a b ci : Int) (A : Nat → Int) :
    ∀ (d nn q : Nat) (B : Nat → Int), q + d = 4 * n → d < nn → (∀ p, p < 4 * n → B p = if p < q then mgL a b (A p) else A p) →
    ∃ B', LB_Md_merge_33 fl (n : Int) nn a b (min a b) (q : Int) ci B = some (ci, B') ∧ (∀ p, p < 4 * n → B' p = mgL a b (A p)) := by
  intro d
  induction d with
  | zero =>
    intro nn q B hd hnn hB
    obtain ⟨nn, rfl⟩ : ∃ r, nn = r + 1 := ⟨nn - 1, by omega⟩
    rw [LB_Md_merge_33, if_pos (by omega), if_pos (by omega)]
    exact ⟨B, rfl, fun p hp => by rw [hB p hp, if_pos (by omega)]⟩
  | succ d ih =>
    intro nn q B hd hnn hB
    obtain ⟨nn, rfl⟩ : ∃ r, nn = r + 1 := ⟨nn - 1, by omega⟩
    have hq := hB q (by omega)
    rw [if_neg (by omega)] at hq
    rw [LB_Md_merge_33, if_pos (by omega), if_neg (by omega), if_pos (by omega), Int.toNat_natCast, hq]
    unfold LB_Md_merge_84 LB_Md_merge_98
    have fin : ∀ v : Int, v = mgL a b (A q) → ∃ B', LB_Md_merge_33 fl (n : Int) nn a b (min a b) ((q : Int) + 1) ci (up B q v) = some (ci, B') ∧ (∀ p, p < 4 * n → B' p = mgL a b (A p)) := fun v hv => by
      rw [show ((q : Int) + 1) = ((q + 1 : Nat) : Int) by omega]
      refine ih nn (q + 1) _ (by omega) (by omega) (fun p hp => ?_)
      by_cases e : p = q
      · rw [e, up_eq, if_pos (by omega), hv]
      · rw [up_ne _ _ e, hB p hp]
        by_cases e2 : p < q
        · rw [if_pos e2, if_pos (by omega)]
        · rw [if_neg e2, if_neg (by omega)]
    by_cases w : A q = a
    · rw [if_pos w, if_pos (by omega), if_pos (by omega), Int.toNat_natCast]
      exact fin _ (by unfold mgL; rw [if_pos (Or.inl w)])
    · rw [if_neg w]
      by_cases w2 : A q = b
      · rw [if_neg (fun w3 => w3 w2), if_pos (by omega), if_pos (by omega), Int.toNat_natCast]
        exact fin _ (by unfold mgL; rw [if_pos (Or.inr w2)])
      · rw [if_pos w2, if_pos (by omega), if_pos (by omega), Int.toNat_natCast]
        exact fin _ (by unfold mgL; rw [if_neg (by omega)])
theorem M_merge (fl : Nat) (hfl : 200 ≤ fl) {n : Nat} (hn : n ≤ 20) {x y : Nat} (ci : Int) (hci : 0 ≤ ci ∧ ci ≤ 1000) (A : Nat → Int) :
    ∃ B', LM_Md_merge fl (n : Int) (A x) (A y) ci A = some (jc x y A ci, B') ∧ like (4 * n) B' (jl x y A) := by
  unfold LM_Md_merge LB_Md_merge_0 LB_Md_merge_29 jc
  by_cases w : A x = A y
  · rw [if_neg (fun w2 => w2 w), if_pos (by omega), if_pos w]
    exact ⟨A, rfl, fun q _ => by unfold jl; rw [w, mgL_same]⟩
  · rw [if_pos w, if_neg w]
    obtain ⟨B', h1, h2⟩ := mg33 fl hn (A x) (A y) ci A (4 * n) fl 0 A (by omega) (by omega) (fun p hp => by rw [if_neg (by omega)])
    rw [show ((0 : Nat) : Int) = 0 from rfl] at h1
    by_cases w2 : A y ≤ A x
    · rw [if_pos w2]
      rw [show min (A x) (A y) = A y by omega] at h1
      exact ⟨B', h1, h2⟩
    · rw [if_neg w2]
      rw [show min (A x) (A y) = A x by omega] at h1
      exact ⟨B', h1, h2⟩
theorem dr48 (fl : Nat) {n k : Nat} (hn : n ≤ 20) (hk : k < n) (kb : Int → Int → Int → (Nat → Int) → (Nat → Int) → Option (Int × (Nat → Int) × (Nat → Int))) (x1 N : Int) (S lb : Nat → Int) :
    ∀ (d nn i : Nat) (A : Nat → Int), i + d = 4 → d < nn → (∀ q, A q = if q < 4 * k + i ∧ 4 * k ≤ q then lb (q + 4) else lb q) →
    ∃ A', LB_Md_drop_48 fl kb nn x1 (k : Int) (i : Int) N A S = kb x1 ((k + 1 : Nat) : Int) N A' S ∧ (∀ q, A' q = if q < 4 * k + 4 ∧ 4 * k ≤ q then lb (q + 4) else lb q) := by
  intro d
  induction d with
  | zero =>
    intro nn i A hd hnn hA
    obtain ⟨nn, rfl⟩ : ∃ r, nn = r + 1 := ⟨nn - 1, by omega⟩
    rw [LB_Md_drop_48, if_pos (by omega), if_pos (by omega), show ((k : Int) + 1) = ((k + 1 : Nat) : Int) by omega]
    exact ⟨A, rfl, fun q => by rw [hA q, show i = 4 by omega]⟩
  | succ d ih =>
    intro nn i A hd hnn hA
    obtain ⟨nn, rfl⟩ : ∃ r, nn = r + 1 := ⟨nn - 1, by omega⟩
    have e1 : Int.toNat (4 * (k : Int) + 4 + (i : Int)) = 4 * k + i + 4 := by omega
    have e2 : Int.toNat (4 * (k : Int) + (i : Int)) = 4 * k + i := by omega
    rw [LB_Md_drop_48, if_neg (by omega), if_pos (by omega), if_pos (by omega), if_pos (by omega), if_pos (by omega), e1, e2, show ((i : Int) + 1) = ((i + 1 : Nat) : Int) by omega]
    refine ih nn (i + 1) _ (by omega) (by omega) (fun q => ?_)
    by_cases w : q = 4 * k + i
    · rw [w, up_eq, if_pos (by omega), hA, if_neg (by omega)]
    · rw [up_ne _ _ w, hA q]
      by_cases w2 : q < 4 * k + i ∧ 4 * k ≤ q
      · rw [if_pos w2, if_pos (by omega)]
      · rw [if_neg w2, if_neg (by omega)]
theorem dr15 (fl : Nat) (hfl : 200 ≤ fl) {n c : Nat} (hn : n ≤ 20) (hc : c ≤ n) (x1 : Int) (lb sg : Nat → Int) :
    ∀ (d nn k : Nat) (A S : Nat → Int), k + d = n → c ≤ k → d < nn → (∀ q, A q = if q < 4 * k ∧ 4 * c ≤ q then lb (q + 4) else lb q) → (∀ j, S j = if j < k ∧ c ≤ j then sg (j + 1) else sg j) →
    ∃ A' S', LB_Md_drop_15 fl nn x1 (k : Int) (n : Int) A S = some ((n : Int), A', S') ∧ (∀ q, q < 4 * n → A' q = lb (sk c q)) ∧ (∀ j, j < n → S' j = sg (sk1 c j)) := by
  intro d
  induction d with
  | zero =>
    intro nn k A S hd hck hnn hA hS
    obtain ⟨nn, rfl⟩ : ∃ r, nn = r + 1 := ⟨nn - 1, by omega⟩
    rw [LB_Md_drop_15, if_pos (by omega)]
    refine ⟨A, S, rfl, fun q hq => ?_, fun j hj => ?_⟩
    · rw [hA q]; unfold sk
      by_cases w : q < 4 * c
      · rw [if_neg (by omega), if_pos w]
      · rw [if_pos (by omega), if_neg w]
    · rw [hS j]; unfold sk1
      by_cases w : j < c
      · rw [if_neg (by omega), if_pos w]
      · rw [if_pos (by omega), if_neg w]
  | succ d ih =>
    intro nn k A S hd hck hnn hA hS
    obtain ⟨nn, rfl⟩ : ∃ r, nn = r + 1 := ⟨nn - 1, by omega⟩
    have e1 : Int.toNat ((k : Int) + 1) = k + 1 := by omega
    rw [LB_Md_drop_15, if_neg (by omega), if_pos (by omega), if_pos (by omega), e1, Int.toNat_natCast]
    obtain ⟨A', h1, h2⟩ := dr48 fl hn (show k < n by omega) (LB_Md_drop_15 fl nn) x1 (n : Int) (up S k (S (k + 1))) A 4 fl 0 A (by omega) (by omega) (fun q => by rw [if_neg (by omega)])
    rw [show ((0 : Nat) : Int) = 0 from rfl] at h1
    rw [h1]
    refine ih nn (k + 1) A' _ (by omega) (by omega) (by omega) (fun q => ?_) (fun j => ?_)
    · rw [h2 q]
      by_cases w : q < 4 * k + 4 ∧ 4 * k ≤ q
      · rw [if_pos w, hA, if_neg (by omega), if_pos (by omega)]
      · rw [if_neg w, hA]
        by_cases w2 : q < 4 * k ∧ 4 * c ≤ q
        · rw [if_pos w2, if_pos (by omega)]
        · rw [if_neg w2, if_neg (by omega)]
    · by_cases w : j = k
      · rw [w, up_eq, hS, if_neg (by omega), if_pos (by omega)]
      · rw [up_ne _ _ w, hS]
        by_cases w2 : j < k ∧ c ≤ j
        · rw [if_pos w2, if_pos (by omega)]
        · rw [if_neg w2, if_neg (by omega)]
theorem M_drop (fl : Nat) (hfl : 200 ≤ fl) {n c : Nat} (hn : n ≤ 20) (hc : c < n) (lb sg : Nat → Int) :
    ∃ A' S', LM_Md_drop fl (c : Int) (n : Int) lb sg = some (((n - 1 : Nat) : Int), A', S') ∧ (∀ q, q < 4 * (n - 1) → A' q = lb (sk c q)) ∧ (∀ j, j < n - 1 → S' j = sg (sk1 c j)) := by
  unfold LM_Md_drop LB_Md_drop_0
  rw [if_pos (by omega), show ((n : Int) - 1) = ((n - 1 : Nat) : Int) by omega]
  exact dr15 fl hfl (show n - 1 ≤ 20 by omega) (by omega) (c : Int) lb sg (n - 1 - c) fl c lb sg (by omega) (Nat.le_refl _) (by omega) (fun q => by rw [if_neg (by omega)]) (fun j => by rw [if_neg (by omega)])
theorem like_jl2 {N : Nat} {B A : Nat → Int} {x1 y1 x2 y2 : Nat} (h : like N B (jl x1 y1 A)) (hx : x2 < N) (hy : y2 < N) : like N (jl x2 y2 B) (jl x2 y2 (jl x1 y1 A)) := fun q hq => by
  unfold jl; rw [h x2 hx, h y2 hy, h q hq]; rfl
theorem M_lift (fl : Nat) (hfl : 200 ≤ fl) {n c : Nat} (hn : n ≤ 20) (hc : c < n) (ci : Int) (hci : 0 ≤ ci ∧ ci ≤ 900) (lb sg : Nat → Int) (hs : sg c = 1 ∨ sg c = -1) :
    ∃ B S, LM_Md_lift fl (c : Int) (n : Int) ci lb sg = some (((n - 1 : Nat) : Int), goC lb (4 * c) (4 * c + 2) (upI sg c) (upO sg c) ci, B, S) ∧ like (4 * (n - 1)) B (goL lb c (4 * c) (4 * c + 2) (upI sg c) (upO sg c)) ∧ like (n - 1) S (goS sg c) := by
  unfold LM_Md_lift LB_Md_lift_0
  obtain ⟨a, a1, a2, a3, a4⟩ := upI_lt sg c
  have hI : upI sg c < 4 * n := by omega
  have hO : upO sg c < 4 * n := by omega
  have e1 : Int.toNat (4 * (c : Int)) = 4 * c := by omega
  have e2 : Int.toNat (4 * (c : Int) + 2) = 4 * c + 2 := by omega
  obtain ⟨B, g1, g2⟩ := M_merge fl hfl hn (x := 4 * c) (y := 4 * c + 2) ci (by omega) lb
  have hb1 : 0 ≤ jc (4 * c) (4 * c + 2) lb ci ∧ jc (4 * c) (4 * c + 2) lb ci ≤ 1000 := by unfold jc; split <;> omega
  rw [if_pos (by omega), if_pos (by omega), e1, e2, g1, Option.bind_some, M_upI fl hn hc sg hs, Option.bind_some, ixor2 _ (by omega), opp_upI, if_pos (by omega), if_pos (by omega), Int.toNat_natCast, Int.toNat_natCast]
  dsimp only
  obtain ⟨B2, g3, g4⟩ := M_merge fl hfl hn (x := upI sg c) (y := upO sg c) (jc (4 * c) (4 * c + 2) lb ci) hb1 B
  have ejc2 : jc (upI sg c) (upO sg c) B (jc (4 * c) (4 * c + 2) lb ci) = goC lb (4 * c) (4 * c + 2) (upI sg c) (upO sg c) ci := by
    unfold goC
    conv => lhs; unfold jc
    conv => rhs; unfold jc
    rw [g2 _ hI, g2 _ hO]
  rw [ejc2] at g3
  rw [g3, Option.bind_some]
  obtain ⟨A', S', d1, d2, d3⟩ := M_drop fl hfl hn hc B2 sg
  dsimp only
  rw [d1, Option.bind_some]
  refine ⟨A', S', rfl, fun q hq => ?_, d3⟩
  have hsk : sk c q < 4 * n := by unfold sk; split <;> omega
  rw [d2 q hq, g4 _ hsk, like_jl2 g2 hI hO _ hsk]
  rfl
theorem M_smooth (fl : Nat) (hfl : 200 ≤ fl) {n c : Nat} (hn : n ≤ 20) (hc : c < n) (ci : Int) (hci : 0 ≤ ci ∧ ci ≤ 900) (lb sg : Nat → Int) (hs : sg c = 1 ∨ sg c = -1) :
    ∃ B S, LM_Md_smooth fl (c : Int) (n : Int) ci lb sg = some (((n - 1 : Nat) : Int), goC lb (4 * c) (upO sg c) (upI sg c) (4 * c + 2) ci, B, S) ∧ like (4 * (n - 1)) B (goL lb c (4 * c) (upO sg c) (upI sg c) (4 * c + 2)) ∧ like (n - 1) S (goS sg c) := by
  unfold LM_Md_smooth LB_Md_smooth_0
  obtain ⟨a, a1, a2, a3, a4⟩ := upI_lt sg c
  have hI : upI sg c < 4 * n := by omega
  have hO : upO sg c < 4 * n := by omega
  have e1 : Int.toNat (4 * (c : Int)) = 4 * c := by omega
  have e2 : Int.toNat (4 * (c : Int) + 2) = 4 * c + 2 := by omega
  obtain ⟨B, g1, g2⟩ := M_merge fl hfl hn (x := 4 * c) (y := upO sg c) ci (by omega) lb
  have hb1 : 0 ≤ jc (4 * c) (upO sg c) lb ci ∧ jc (4 * c) (upO sg c) lb ci ≤ 1000 := by unfold jc; split <;> omega
  rw [M_upI fl hn hc sg hs, Option.bind_some, ixor2 _ (by omega), opp_upI, if_pos (by omega), if_pos (by omega), e1, Int.toNat_natCast, g1, Option.bind_some, if_pos (by omega), if_pos (by omega), e2, Int.toNat_natCast]
  dsimp only
  obtain ⟨B2, g3, g4⟩ := M_merge fl hfl hn (x := upI sg c) (y := 4 * c + 2) (jc (4 * c) (upO sg c) lb ci) hb1 B
  have ejc2 : jc (upI sg c) (4 * c + 2) B (jc (4 * c) (upO sg c) lb ci) = goC lb (4 * c) (upO sg c) (upI sg c) (4 * c + 2) ci := by
    unfold goC
    conv => lhs; unfold jc
    conv => rhs; unfold jc
    rw [g2 _ hI, g2 _ (by omega)]
  rw [ejc2] at g3
  rw [g3, Option.bind_some]
  obtain ⟨A', S', d1, d2, d3⟩ := M_drop fl hfl hn hc B2 sg
  dsimp only
  rw [d1, Option.bind_some]
  refine ⟨A', S', rfl, fun q hq => ?_, d3⟩
  have hsk : sk c q < 4 * n := by unfold sk; split <;> omega
  rw [d2 q hq, g4 _ hsk, like_jl2 g2 hI (by omega) _ hsk]
  rfl
