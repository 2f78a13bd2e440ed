def mrg (a b p : Nat) : Nat := if p = a ∨ p = b then min a b else p
theorem mrg_idem {q : Nat → Nat} {a b : Nat} (hq : ∀ c, q (q c) = q c) (ha : q a = a) (hb : q b = b) (c : Nat) : mrg a b (q (mrg a b (q c))) = mrg a b (q c) := by
  by_cases w : q c = a ∨ q c = b
  · have e : mrg a b (q c) = min a b := by unfold mrg; rw [if_pos w]
    have hm : q (min a b) = a ∨ q (min a b) = b := by
      rcases Nat.le_total a b with m | m
      · rw [Nat.min_eq_left m]; exact Or.inl ha
      · rw [Nat.min_eq_right m]; exact Or.inr hb
    rw [e]; unfold mrg; rw [if_pos hm]
  · have e : mrg a b (q c) = q c := by unfold mrg; rw [if_neg w]
    rw [e, hq, e]
/-- the least crossing of a piece, after e edges -/
def pcF (fr to : Nat → Int) : Nat → Nat → Nat
  | 0, c => c
  | e + 1, c => mrg (pcF fr to e ((fr e).toNat / 4)) (pcF fr to e ((to e).toNat / 4)) (pcF fr to e c)
theorem pcF_s (fr to : Nat → Int) (e c : Nat) : pcF fr to (e + 1) c = mrg (pcF fr to e ((fr e).toNat / 4)) (pcF fr to e ((to e).toNat / 4)) (pcF fr to e c) := rfl
theorem pcF_le (fr to : Nat → Int) : ∀ e c, pcF fr to e c ≤ c := by
  intro e
  induction e with
  | zero => intro c; exact Nat.le_refl _
  | succ e ih =>
    intro c
    rw [pcF_s]
    have := ih c
    unfold mrg
    split
    · rename_i w
      rcases w with w | w <;> omega
    · exact this
theorem pcF_idem (fr to : Nat → Int) : ∀ e c, pcF fr to e (pcF fr to e c) = pcF fr to e c := by
  intro e
  induction e with
  | zero => intro c; rfl
  | succ e ih => intro c; rw [pcF_s fr to e c, pcF_s]; exact mrg_idem ih (ih _) (ih _) c
theorem pcF_adj (fr to : Nat → Int) : ∀ e f, f < e → pcF fr to e ((fr f).toNat / 4) = pcF fr to e ((to f).toNat / 4) := by
  intro e
  induction e with
  | zero => intro f hf; omega
  | succ e ih =>
    intro f hf
    rw [pcF_s, pcF_s]
    by_cases w : f = e
    · subst w
      unfold mrg
      rw [if_pos (Or.inl rfl), if_pos (Or.inr rfl)]
    · rw [ih f (by omega)]
/-- how many pieces -/
def pcs (fr to : Nat → Int) (n e : Nat) : Nat := cntP (fun c => pcF fr to e c == c) n
theorem cnt_lez (p : Nat → Bool) : ∀ m, cntP p m ≤ m := by
  intro m
  induction m with
  | zero => exact Nat.le_refl _
  | succ m ih => rw [cnt_s]; split <;> omega
theorem pcs_0 (fr to : Nat → Int) : ∀ n, pcs fr to n 0 = n := by
  intro n
  induction n with
  | zero => rfl
  | succ n ih => unfold pcs at *; rw [cnt_s, ih]; simp [pcF]
theorem pcs_same {fr to : Nat → Int} {n e : Nat} (h : pcF fr to e ((fr e).toNat / 4) = pcF fr to e ((to e).toNat / 4)) : (∀ c, pcF fr to (e + 1) c = pcF fr to e c) ∧ pcs fr to n (e + 1) = pcs fr to n e := by
  have : ∀ c, pcF fr to (e + 1) c = pcF fr to e c := fun c => by
    rw [pcF_s, h]; unfold mrg
    split
    · rename_i w; rcases w with w | w <;> omega
    · rfl
  refine ⟨this, cnt_congr (fun q _ => ?_)⟩
  rw [this q]
theorem pcs_less {fr to : Nat → Int} {n e : Nat} (hf : (fr e).toNat / 4 < n) (ht : (to e).toNat / 4 < n) (h : pcF fr to e ((fr e).toNat / 4) ≠ pcF fr to e ((to e).toNat / 4)) : pcs fr to n (e + 1) + 1 = pcs fr to n e := by
  have ia := pcF_idem fr to e ((fr e).toNat / 4)
  have ib := pcF_idem fr to e ((to e).toNat / 4)
  have la := pcF_le fr to e ((fr e).toNat / 4)
  have lb := pcF_le fr to e ((to e).toNat / 4)
  unfold pcs
  have hs := pcF_s fr to e
  generalize pcF fr to e ((fr e).toNat / 4) = a at *
  generalize pcF fr to e ((to e).toNat / 4) = b at *
  have hx : ∃ x, x < n ∧ pcF fr to e x = x ∧ x = max a b := by
    rcases Nat.le_total a b with m | m
    · exact ⟨b, by omega, ib, by omega⟩
    · exact ⟨a, by omega, ia, by omega⟩
  obtain ⟨x, x1, x2, x3⟩ := hx
  rw [cnt_rm (p := fun c => pcF fr to e c == c) (x := x) (by simp [x2]) x1]
  congr 1
  refine cnt_congr (fun c hc => ?_)
  show (pcF fr to (e + 1) c == c) = (pcF fr to e c == c && c != x)
  rw [hs c]
  unfold mrg
  have ic := pcF_idem fr to e c
  by_cases w : pcF fr to e c = a ∨ pcF fr to e c = b
  · rw [if_pos w]
    by_cases c1 : c = a ∨ c = b
    · have hcc : pcF fr to e c = c := by rcases c1 with c1 | c1 <;> rw [c1] <;> assumption
      rw [hcc]
      by_cases c2 : c = x
      · have : ¬ min a b = c := by omega
        simp [c2, this]; omega
      · have : min a b = c := by omega
        simp [c2, this]
    · have n1 : ¬ min a b = c := by omega
      have n2 : ¬ pcF fr to e c = c := by omega
      rw [beq_eq_false_iff_ne.2 n1, beq_eq_false_iff_ne.2 n2]; rfl
  · rw [if_neg w]
    by_cases c2 : pcF fr to e c = c
    · have : c ≠ x := by omega
      simp [c2, this]
    · simp [c2]
section
variable {n : Nat} {sg lb nm fr to at_ : Nat → Int}
theorem cp81 (fl : Nat) (hn : n ≤ 20) (kb : Int → Int → Int → (Nat → Int) → Option (Int × (Nat → Int))) (x2 : Int) (hx2 : 0 ≤ x2 ∧ x2 < 100) (a b : Nat) (P : Int) (hP : -100 ≤ P ∧ P < 100) (q : Nat → Nat) :
    ∀ (d nn c : Nat) (A : Nat → Int), c + d = n → d < nn → (∀ y, y < n → A y = if y < c then ((mrg a b (q y) : Nat) : Int) else (q y : Int)) →
    ∃ A', LB_Sh_findPieces_81 fl ((2 * n : Nat) : Int) fr to kb nn (n : Int) x2 (a : Int) (b : Int) ((min a b : Nat) : Int) (c : Int) P A = kb (n : Int) (x2 + 1) (P - 1) A' ∧ (∀ y, y < n → A' y = ((mrg a b (q y) : Nat) : Int)) := by
  intro d
  induction d with
  | zero =>
    intro nn c A hd hnn hA
    obtain ⟨nn, rfl⟩ : ∃ r, nn = r + 1 := ⟨nn - 1, by omega⟩
    rw [LB_Sh_findPieces_81, if_pos (by omega), if_pos (by omega)]
    unfold LB_Sh_findPieces_145
    rw [if_pos (by omega)]
    exact ⟨A, rfl, fun y hy => by rw [hA y hy, if_pos (by omega)]⟩
  | succ d ih =>
    intro nn c A hd hnn hA
    obtain ⟨nn, rfl⟩ : ∃ r, nn = r + 1 := ⟨nn - 1, by omega⟩
    have hc := hA c (by omega)
    rw [if_neg (by omega)] at hc
    rw [LB_Sh_findPieces_81, if_neg (by omega), if_pos (by omega), Int.toNat_natCast, hc]
    unfold LB_Sh_findPieces_116 LB_Sh_findPieces_128
    have fin : ∀ v : Int, v = ((mrg a b (q c) : Nat) : Int) → ∃ A', LB_Sh_findPieces_81 fl ((2 * n : Nat) : Int) fr to kb nn (n : Int) x2 (a : Int) (b : Int) ((min a b : Nat) : Int) ((c : Int) + 1) P (up A c v) = kb (n : Int) (x2 + 1) (P - 1) A' ∧ (∀ y, y < n → A' y = ((mrg a b (q y) : Nat) : Int)) := fun v hv => by
      rw [show ((c : Int) + 1) = ((c + 1 : Nat) : Int) by omega]
      refine ih nn (c + 1) _ (by omega) (by omega) (fun y hy => ?_)
      by_cases w : y = c
      · rw [w, up_eq, if_pos (by omega), hv]
      · rw [up_ne _ _ w, hA y hy]
        by_cases w2 : y < c
        · rw [if_pos w2, if_pos (by omega)]
        · rw [if_neg w2, if_neg (by omega)]
    unfold mrg at fin ⊢
    by_cases w : q c = a
    · rw [if_pos (by omega), if_pos (by omega), if_pos (by omega), Int.toNat_natCast]
      exact fin _ (by rw [if_pos (Or.inl w)])
    · rw [if_neg (by omega)]
      by_cases w2 : q c = b
      · rw [if_neg (by omega), if_pos (by omega), if_pos (by omega), Int.toNat_natCast]
        exact fin _ (by rw [if_pos (Or.inr w2)])
      · rw [if_pos (by omega), if_pos (by omega), if_pos (by omega), Int.toNat_natCast]
        exact fin _ (by rw [if_neg (by omega)])
theorem cp27 (fl : Nat) (hfl : 200 ≤ fl) (hn : n ≤ 20) (h : EdgA n sg lb nm fr to at_) :
    ∀ (d nn e : Nat) (A : Nat → Int), e + d = 2 * n → d < nn → (∀ y, y < n → A y = ((pcF fr to e y : Nat) : Int)) →
    ∃ A', LB_Sh_findPieces_27 fl ((2 * n : Nat) : Int) fr to nn (n : Int) (e : Int) ((pcs fr to n e : Nat) : Int) A = some (((pcs fr to n (2 * n) : Nat) : Int), A') ∧ (∀ y, y < n → A' y = ((pcF fr to (2 * n) y : Nat) : Int)) := by
  intro d
  induction d with
  | zero =>
    intro nn e A hd hnn hA
    obtain ⟨nn, rfl⟩ : ∃ r, nn = r + 1 := ⟨nn - 1, by omega⟩
    have : e = 2 * n := by omega
    subst this
    rw [LB_Sh_findPieces_27, if_pos (by omega)]
    exact ⟨A, rfl, hA⟩
  | succ d ih =>
    intro nn e A hd hnn hA
    obtain ⟨nn, rfl⟩ : ∃ r, nn = r + 1 := ⟨nn - 1, by omega⟩
    obtain ⟨p, q, b1, b2, b3, b4, _⟩ := Edg_fr h (show e < 2 * n by omega)
    have ef : (fr e).toNat / 4 = p / 4 := by omega
    have et : (to e).toNat / 4 = q / 4 := by omega
    have i1 : Int.toNat (fr e / 4) = p / 4 := by omega
    have i2 : Int.toNat (to e / 4) = q / 4 := by omega
    rw [LB_Sh_findPieces_27, if_neg (by omega), if_pos (by omega), Int.toNat_natCast, if_pos (by omega), if_pos (by omega), i1, i2, hA (p / 4) (by omega), hA (q / 4) (by omega)]
    have hpc := cnt_lez (fun c => pcF fr to e c == c) n
    have hpc : pcs fr to n e ≤ n := hpc
    by_cases w : pcF fr to e (p / 4) = pcF fr to e (q / 4)
    · rw [if_pos (by omega)]
      unfold LB_Sh_findPieces_145
      obtain ⟨s1, s2⟩ := pcs_same (n := n) (fr := fr) (to := to) (e := e) (by rw [ef, et]; exact w)
      rw [if_pos (by omega), show ((e : Int) + 1) = ((e + 1 : Nat) : Int) by omega, ← s2]
      exact ih nn (e + 1) A (by omega) (by omega) (fun y hy => by rw [hA y hy, s1])
    · rw [if_neg (by omega)]
      have s1 := pcs_less (n := n) (fr := fr) (to := to) (e := e) (by omega) (by omega) (by rw [ef, et]; exact w)
      have em : (if ((pcF fr to e (q / 4) : Nat) : Int) < ((pcF fr to e (p / 4) : Nat) : Int) then ((pcF fr to e (q / 4) : Nat) : Int) else ((pcF fr to e (p / 4) : Nat) : Int)) = ((min (pcF fr to e (p / 4)) (pcF fr to e (q / 4)) : Nat) : Int) := by
        split <;> omega
      rw [em]
      obtain ⟨A', g1, g2⟩ := cp81 (fr := fr) (to := to) fl hn (LB_Sh_findPieces_27 fl ((2 * n : Nat) : Int) fr to nn) (e : Int) (by omega) (pcF fr to e (p / 4)) (pcF fr to e (q / 4)) ((pcs fr to n e : Nat) : Int) (by omega) (pcF fr to e) n fl 0 A (by omega) (by omega) (fun y hy => by rw [if_neg (by omega)]; exact hA y hy)
      rw [show (0 : Int) = ((0 : Nat) : Int) from rfl, g1, show ((e : Int) + 1) = ((e + 1 : Nat) : Int) by omega, show (((pcs fr to n e : Nat) : Int) - 1) = ((pcs fr to n (e + 1) : Nat) : Int) by omega]
      exact ih nn (e + 1) A' (by omega) (by omega) (fun y hy => by rw [g2 y hy, pcF_s, ef, et])
theorem cp2 (fl : Nat) (hn : n ≤ 20) (P : Int) :
    ∀ (d nn c : Nat) (A : Nat → Int), c + d = n → d < nn → (∀ y, y < c → A y = (y : Int)) →
    ∃ A', LB_Sh_findPieces_2 fl ((2 * n : Nat) : Int) fr to nn (n : Int) (c : Int) P A = LB_Sh_findPieces_27 fl ((2 * n : Nat) : Int) fr to fl (n : Int) 0 (n : Int) A' ∧ (∀ y, y < n → A' y = (y : Int)) := by
  intro d
  induction d with
  | zero =>
    intro nn c A hd hnn hA
    obtain ⟨nn, rfl⟩ : ∃ r, nn = r + 1 := ⟨nn - 1, by omega⟩
    rw [LB_Sh_findPieces_2, if_pos (by omega)]
    exact ⟨A, rfl, fun y hy => hA y (by omega)⟩
  | succ d ih =>
    intro nn c A hd hnn hA
    obtain ⟨nn, rfl⟩ : ∃ r, nn = r + 1 := ⟨nn - 1, by omega⟩
    rw [LB_Sh_findPieces_2, if_neg (by omega), if_pos (by omega), if_pos (by omega), Int.toNat_natCast, show ((c : Int) + 1) = ((c + 1 : Nat) : Int) by omega]
    refine ih nn (c + 1) _ (by omega) (by omega) (fun y hy => ?_)
    by_cases w : y = c
    · rw [w, up_eq]
    · rw [up_ne _ _ w]; exact hA y (by omega)
theorem C_findPieces (fl : Nat) (hfl : 200 ≤ fl) (hn : n ≤ 20) (h : EdgA n sg lb nm fr to at_) (P : Int) (A : Nat → Int) :
    ∃ A', LM_Sh_findPieces fl ((2 * n : Nat) : Int) fr to (n : Int) P A = some (((pcs fr to n (2 * n) : Nat) : Int), A') ∧ (∀ y, y < n → A' y = ((pcF fr to (2 * n) y : Nat) : Int)) := by
  unfold LM_Sh_findPieces LB_Sh_findPieces_0
  obtain ⟨A1, h1, h2⟩ := cp2 (fr := fr) (to := to) fl hn P n fl 0 A (by omega) (by omega) (fun y hy => by omega)
  rw [show ((0 : Nat) : Int) = 0 from rfl] at h1
  rw [h1]
  have := cp27 fl hfl hn h (2 * n) fl 0 A1 (by omega) (by omega) h2
  rw [pcs_0] at this
  exact this
/-- the reference's -/
theorem mp79 (fl : Nat) (hn : n ≤ 20) (kb : Int → Int → (Nat → Int) → Option (Int × (Nat → Int))) (x1 : Int) (hx1 : 0 ≤ x1 ∧ x1 < 100) (a b : Nat) (P : Int) (q : Nat → Nat) :
    ∀ (d nn c : Nat) (A : Nat → Int), c + d = n → d < nn → (∀ y, y < n → A y = if y < c then ((mrg a b (q y) : Nat) : Int) else (q y : Int)) →
    ∃ A', LB_Md_findPieces_79 fl ((2 * n : Nat) : Int) fr (n : Int) to kb nn x1 (a : Int) (b : Int) ((min a b : Nat) : Int) (c : Int) P A = kb (x1 + 1) P A' ∧ (∀ y, y < n → A' y = ((mrg a b (q y) : Nat) : Int)) := by
  intro d
  induction d with
  | zero =>
    intro nn c A hd hnn hA
    obtain ⟨nn, rfl⟩ : ∃ r, nn = r + 1 := ⟨nn - 1, by omega⟩
    rw [LB_Md_findPieces_79, if_pos (by omega), if_pos (by omega)]
    exact ⟨A, rfl, fun y hy => by rw [hA y hy, if_pos (by omega)]⟩
  | succ d ih =>
    intro nn c A hd hnn hA
    obtain ⟨nn, rfl⟩ : ∃ r, nn = r + 1 := ⟨nn - 1, by omega⟩
    have hc := hA c (by omega)
    rw [if_neg (by omega)] at hc
    rw [LB_Md_findPieces_79, if_neg (by omega), if_pos (by omega), Int.toNat_natCast, hc]
    unfold LB_Md_findPieces_119 LB_Md_findPieces_131
    have fin : ∀ v : Int, v = ((mrg a b (q c) : Nat) : Int) → ∃ A', LB_Md_findPieces_79 fl ((2 * n : Nat) : Int) fr (n : Int) to kb nn x1 (a : Int) (b : Int) ((min a b : Nat) : Int) ((c : Int) + 1) P (up A c v) = kb (x1 + 1) P A' ∧ (∀ y, y < n → A' y = ((mrg a b (q y) : Nat) : Int)) := fun v hv => by
      rw [show ((c : Int) + 1) = ((c + 1 : Nat) : Int) by omega]
      refine ih nn (c + 1) _ (by omega) (by omega) (fun y hy => ?_)
      by_cases w : y = c
      · rw [w, up_eq, if_pos (by omega), hv]
      · rw [up_ne _ _ w, hA y hy]
        by_cases w2 : y < c
        · rw [if_pos w2, if_pos (by omega)]
        · rw [if_neg w2, if_neg (by omega)]
    unfold mrg at fin ⊢
    by_cases w : q c = a
    · rw [if_pos (by omega), if_pos (by omega), if_pos (by omega), Int.toNat_natCast]
      exact fin _ (by rw [if_pos (Or.inl w)])
    · rw [if_neg (by omega)]
      by_cases w2 : q c = b
      · rw [if_neg (by omega), if_pos (by omega), if_pos (by omega), Int.toNat_natCast]
        exact fin _ (by rw [if_pos (Or.inr w2)])
      · rw [if_pos (by omega), if_pos (by omega), if_pos (by omega), Int.toNat_natCast]
        exact fin _ (by rw [if_neg (by omega)])
theorem mp151 (fl : Nat) (hn : n ≤ 20) (q : Nat → Nat) (A : Nat → Int) (hA : ∀ y, y < n → A y = (q y : Int)) :
    ∀ (d nn c : Nat), c + d = n → d < nn → LB_Md_findPieces_151 fl ((2 * n : Nat) : Int) fr (n : Int) to nn (c : Int) ((cntP (fun c => q c == c) c : Nat) : Int) A = some (((cntP (fun c => q c == c) n : Nat) : Int), A) := by
  intro d
  induction d with
  | zero =>
    intro nn c hd hnn
    obtain ⟨nn, rfl⟩ : ∃ r, nn = r + 1 := ⟨nn - 1, by omega⟩
    rw [LB_Md_findPieces_151, if_pos (by omega), show c = n by omega]
  | succ d ih =>
    intro nn c hd hnn
    obtain ⟨nn, rfl⟩ : ∃ r, nn = r + 1 := ⟨nn - 1, by omega⟩
    have := cnt_lez (fun c => q c == c) c
    have hs := ih nn (c + 1) (by omega) (by omega)
    rw [cnt_s] at hs
    rw [LB_Md_findPieces_151, if_neg (by omega), if_pos (by omega), Int.toNat_natCast, hA c (by omega)]
    unfold LB_Md_findPieces_182
    by_cases w : q c = c
    · rw [if_neg (by omega), if_pos (by omega), show ((c : Int) + 1) = ((c + 1 : Nat) : Int) by omega]
      rw [if_pos (by simp [w])] at hs
      rw [← hs]; congr 1
    · rw [if_pos (by omega), if_pos (by omega), show ((c : Int) + 1) = ((c + 1 : Nat) : Int) by omega]
      rw [if_neg (by simp [w])] at hs
      rw [← hs]; congr 1 <;> omega
theorem mp28 (fl : Nat) (hfl : 200 ≤ fl) (hn : n ≤ 20) (h : EdgA n sg lb nm fr to at_) (P : Int) :
    ∀ (d nn e : Nat) (A : Nat → Int), e + d = 2 * n → d < nn → (∀ y, y < n → A y = ((pcF fr to e y : Nat) : Int)) →
    ∃ A', LB_Md_findPieces_28 fl ((2 * n : Nat) : Int) fr (n : Int) to nn (e : Int) P A = some (((pcs fr to n (2 * n) : Nat) : Int), A') ∧ (∀ y, y < n → A' y = ((pcF fr to (2 * n) y : Nat) : Int)) := by
  intro d
  induction d with
  | zero =>
    intro nn e A hd hnn hA
    obtain ⟨nn, rfl⟩ : ∃ r, nn = r + 1 := ⟨nn - 1, by omega⟩
    have : e = 2 * n := by omega
    subst this
    rw [LB_Md_findPieces_28, if_pos (by omega)]
    exact ⟨A, mp151 fl hn (pcF fr to (2 * n)) A hA n fl 0 (by omega) (by omega), hA⟩
  | succ d ih =>
    intro nn e A hd hnn hA
    obtain ⟨nn, rfl⟩ : ∃ r, nn = r + 1 := ⟨nn - 1, by omega⟩
    obtain ⟨p, q, b1, b2, b3, b4, _⟩ := Edg_fr h (show e < 2 * n by omega)
    have ef : (fr e).toNat / 4 = p / 4 := by omega
    have et : (to e).toNat / 4 = q / 4 := by omega
    have i1 : Int.toNat (fr e / 4) = p / 4 := by omega
    have i2 : Int.toNat (to e / 4) = q / 4 := by omega
    rw [LB_Md_findPieces_28, if_neg (by omega), if_pos (by omega), Int.toNat_natCast, if_pos (by omega), if_pos (by omega), i1, i2, hA (p / 4) (by omega), hA (q / 4) (by omega)]
    unfold LB_Md_findPieces_74
    have fin : ∀ v : Int, v = ((min (pcF fr to e (p / 4)) (pcF fr to e (q / 4)) : Nat) : Int) → ∃ A', LB_Md_findPieces_79 fl ((2 * n : Nat) : Int) fr (n : Int) to (LB_Md_findPieces_28 fl ((2 * n : Nat) : Int) fr (n : Int) to nn) fl (e : Int) ((pcF fr to e (p / 4) : Nat) : Int) ((pcF fr to e (q / 4) : Nat) : Int) v 0 P A = some (((pcs fr to n (2 * n) : Nat) : Int), A') ∧ (∀ y, y < n → A' y = ((pcF fr to (2 * n) y : Nat) : Int)) := fun v hv => by
      obtain ⟨A', g1, g2⟩ := mp79 (fr := fr) (to := to) fl hn (LB_Md_findPieces_28 fl ((2 * n : Nat) : Int) fr (n : Int) to nn) (e : Int) (by omega) (pcF fr to e (p / 4)) (pcF fr to e (q / 4)) P (pcF fr to e) n fl 0 A (by omega) (by omega) (fun y hy => by rw [if_neg (by omega)]; exact hA y hy)
      rw [hv, show (0 : Int) = ((0 : Nat) : Int) from rfl, g1, show ((e : Int) + 1) = ((e + 1 : Nat) : Int) by omega]
      exact ih nn (e + 1) A' (by omega) (by omega) (fun y hy => by rw [g2 y hy, pcF_s, ef, et])
    split
    · exact fin _ (by omega)
    · exact fin _ (by omega)
theorem mp2 (fl : Nat) (hn : n ≤ 20) (P : Int) :
    ∀ (d nn c : Nat) (A : Nat → Int), c + d = n → d < nn → (∀ y, y < c → A y = (y : Int)) →
    ∃ A', LB_Md_findPieces_2 fl ((2 * n : Nat) : Int) fr (n : Int) to nn (c : Int) P A = LB_Md_findPieces_28 fl ((2 * n : Nat) : Int) fr (n : Int) to fl 0 P A' ∧ (∀ y, y < n → A' y = (y : Int)) := by
  intro d
  induction d with
  | zero =>
    intro nn c A hd hnn hA
    obtain ⟨nn, rfl⟩ : ∃ r, nn = r + 1 := ⟨nn - 1, by omega⟩
    rw [LB_Md_findPieces_2, if_pos (by omega)]
    exact ⟨A, rfl, fun y hy => hA y (by omega)⟩
  | succ d ih =>
    intro nn c A hd hnn hA
    obtain ⟨nn, rfl⟩ : ∃ r, nn = r + 1 := ⟨nn - 1, by omega⟩
    rw [LB_Md_findPieces_2, if_neg (by omega), if_pos (by omega), if_pos (by omega), Int.toNat_natCast, show ((c : Int) + 1) = ((c + 1 : Nat) : Int) by omega]
    refine ih nn (c + 1) _ (by omega) (by omega) (fun y hy => ?_)
    by_cases w : y = c
    · rw [w, up_eq]
    · rw [up_ne _ _ w]; exact hA y (by omega)
theorem M_findPieces (fl : Nat) (hfl : 200 ≤ fl) (hn : n ≤ 20) (h : EdgA n sg lb nm fr to at_) (P : Int) (A : Nat → Int) :
    ∃ A', LM_Md_findPieces fl ((2 * n : Nat) : Int) fr (n : Int) to P A = some (((pcs fr to n (2 * n) : Nat) : Int), A') ∧ (∀ y, y < n → A' y = ((pcF fr to (2 * n) y : Nat) : Int)) := by
  unfold LM_Md_findPieces LB_Md_findPieces_0
  obtain ⟨A1, h1, h2⟩ := mp2 (fr := fr) (to := to) fl hn P n fl 0 A (by omega) (by omega) (fun y hy => by omega)
  rw [show ((0 : Nat) : Int) = 0 from rfl] at h1
  rw [h1]
  exact mp28 fl hfl hn h P (2 * n) fl 0 A1 (by omega) (by omega) h2
end
