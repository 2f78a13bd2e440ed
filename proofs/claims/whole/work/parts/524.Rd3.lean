/-- arrays that are the rounds' -/
def rArr (s : (Nat → Int) × Nat × (Nat → Nat) × (Nat → Nat)) (st : Nat → Int) : Prop := ∀ c, c < s.2.1 → st c = (s.2.2.1 c : Int)
def rLen (s : (Nat → Int) × Nat × (Nat → Nat) × (Nat → Nat)) (sz : Nat → Int) : Prop := ∀ c, c < s.2.1 → sz c = (s.2.2.2 c : Int)
theorem rArr_s {f : Nat → Nat} {N k : Nat} {st : Nat → Int} (h : rArr (rndz f N k) st) (c : ¬ 0 ≤ (rndz f N k).1 k) : rArr (rndz f N (k + 1)) (up st (rndz f N k).2.1 (k : Int)) := by
  intro c' hc
  rw [rnd_s, if_neg c] at hc ⊢
  have hc : c' < (rndz f N k).2.1 + 1 := hc
  show _ = (((if c' = (rndz f N k).2.1 then k else (rndz f N k).2.2.1 c') : Nat) : Int)
  by_cases e : c' = (rndz f N k).2.1
  · rw [if_pos e, e, up_eq]
  · rw [if_neg e, up_ne _ _ e]; exact h c' (by omega)
theorem rLen_s {f : Nat → Nat} {N k : Nat} {sz : Nat → Int} (h : rLen (rndz f N k) sz) (c : ¬ 0 ≤ (rndz f N k).1 k) : rLen (rndz f N (k + 1)) (up sz (rndz f N k).2.1 (((mkz f ((rndz f N k).2.1 : Int) (N + 1) k (rndz f N k).1).2 : Nat) : Int)) := by
  intro c' hc
  rw [rnd_s, if_neg c] at hc ⊢
  have hc : c' < (rndz f N k).2.1 + 1 := hc
  show _ = (((if c' = (rndz f N k).2.1 then (mkz f ((rndz f N k).2.1 : Int) (N + 1) k (rndz f N k).1).2 else (rndz f N k).2.2.2 c') : Nat) : Int)
  by_cases e : c' = (rndz f N k).2.1
  · rw [if_pos e, e, up_eq]
  · rw [if_neg e, up_ne _ _ e]; exact h c' (by omega)
section
variable {n : Nat} {sg lb nm fr to at_ : Nat → Int}
theorem cf10 (fl : Nat) (hfl : 200 ≤ fl) (hn : n ≤ 20) (h : EdgA n sg lb nm fr to at_) :
    ∀ (d nn k : Nat) (A sz st : Nat → Int), k + d = 4 * n → d < nn → like (4 * n) A (rndz (tnz fr to at_) (4 * n) k).1 → rArr (rndz (tnz fr to at_) (4 * n) k) st → rLen (rndz (tnz fr to at_) (4 * n) k) sz →
    ∃ A' sz' st', LB_Sh_findFaces_10 fl ((2 * n : Nat) : Int) at_ fr to nn (k : Int) (((rndz (tnz fr to at_) (4 * n) k).2.1 : Nat) : Int) A sz st = some ((((rndz (tnz fr to at_) (4 * n) (4 * n)).2.1 : Nat) : Int), A', sz', st') ∧ like (4 * n) A' (rndz (tnz fr to at_) (4 * n) (4 * n)).1 ∧ rArr (rndz (tnz fr to at_) (4 * n) (4 * n)) st' ∧ rLen (rndz (tnz fr to at_) (4 * n) (4 * n)) sz' := by
  have hcl := tn_closed h
  generalize hf : tnz fr to at_ = f at *
  intro d
  induction d with
  | zero =>
    intro nn k A sz st hd hnn hA hst hsz
    obtain ⟨nn, rfl⟩ : ∃ r, nn = r + 1 := ⟨nn - 1, by omega⟩
    have : k = 4 * n := by omega
    subst this
    rw [LB_Sh_findFaces_10, if_pos (by omega), if_pos (by omega)]
    exact ⟨A, sz, st, rfl, hA, hst, hsz⟩
  | succ d ih =>
    intro nn k A sz st hd hnn hA hst hsz
    obtain ⟨nn, rfl⟩ : ∃ r, nn = r + 1 := ⟨nn - 1, by omega⟩
    have hR := rnd_ok hcl k (by omega)
    have hle := hR.2.2.2.1
    rw [LB_Sh_findFaces_10, if_pos (by omega), if_neg (by omega), if_pos (by omega), Int.toNat_natCast, hA k (by omega)]
    by_cases c : 0 ≤ (rndz f (4 * n) k).1 k
    · rw [if_pos c]
      unfold LB_Sh_findFaces_100
      have e : rndz f (4 * n) (k + 1) = rndz f (4 * n) k := by rw [rnd_s, if_pos c]
      rw [if_pos (by omega), show ((k : Int) + 1) = ((k + 1 : Nat) : Int) by omega]
      have := ih nn (k + 1) A sz st (by omega) (by omega) (by rw [e]; exact hA) (by rw [e]; exact hst) (by rw [e]; exact hsz)
      rw [e] at this
      exact this
    · rw [if_neg c]
      obtain ⟨x', A', hx', g1, g2⟩ := mk_loop (f := f) (N := 4 * n) (v := ((rndz f (4 * n) k).2.1 : Int)) (by omega) hcl.1
        (fun nn' x t B => LB_Sh_findFaces_33 fl ((2 * n : Nat) : Int) at_ fr to (LB_Sh_findFaces_10 fl ((2 * n : Nat) : Int) at_ fr to nn) nn' (k : Int) (x : Int) (t : Int) (((rndz f (4 * n) k).2.1 : Nat) : Int) B sz st)
        (fun x t B => LB_Sh_findFaces_70 fl ((2 * n : Nat) : Int) at_ fr to (LB_Sh_findFaces_10 fl ((2 * n : Nat) : Int) at_ fr to nn) (k : Int) (x : Int) (t : Int) (((rndz f (4 * n) k).2.1 : Nat) : Int) B sz st)
        (fun nn' x t B hx ht hB => by
          show LB_Sh_findFaces_33 _ _ _ _ _ _ _ _ _ _ _ _ _ _ = _
          rw [LB_Sh_findFaces_33]
          by_cases w : (80 : Int) ≤ (t : Int)
          · rw [if_pos w]
          · rw [if_neg w, if_pos (by omega), Int.toNat_natCast, if_pos hB])
        (fun nn' x t B hx ht hB => by
          show LB_Sh_findFaces_33 _ _ _ _ _ _ _ _ _ _ _ _ _ _ = LB_Sh_findFaces_33 _ _ _ _ _ _ _ _ _ _ _ _ _ _
          rw [LB_Sh_findFaces_33, if_neg (by omega), if_pos (by omega), Int.toNat_natCast, if_neg (by omega), C_nextDart fl hn h hx, Option.bind_some, if_pos (by omega), hf]
          rfl)
        (Uz (4 * n) (rndz f (4 * n) k).1) (4 * n + 1) fl k 0 A (rndz f (4 * n) k).1 rfl (by have := U_le (4 * n) (rndz f (4 * n) k).1; omega) (by have := U_le (4 * n) (rndz f (4 * n) k).1; omega) (by omega) (by have := U_le (4 * n) (rndz f (4 * n) k).1; omega) hA
      have g1 : LB_Sh_findFaces_33 fl ((2 * n : Nat) : Int) at_ fr to (LB_Sh_findFaces_10 fl ((2 * n : Nat) : Int) at_ fr to nn) fl (k : Int) (k : Int) 0 (((rndz f (4 * n) k).2.1 : Nat) : Int) A sz st = LB_Sh_findFaces_70 fl ((2 * n : Nat) : Int) at_ fr to (LB_Sh_findFaces_10 fl ((2 * n : Nat) : Int) at_ fr to nn) (k : Int) (x' : Int) ((0 + (mkz f ((rndz f (4 * n) k).2.1 : Int) (4 * n + 1) k (rndz f (4 * n) k).1).2 : Nat) : Int) (((rndz f (4 * n) k).2.1 : Nat) : Int) A' sz st := g1
      rw [g1, Nat.zero_add]
      unfold LB_Sh_findFaces_70 LB_Sh_findFaces_100
      rw [if_pos (by omega), if_pos (by omega), if_pos (by omega), Int.toNat_natCast, show ((k : Int) + 1) = ((k + 1 : Nat) : Int) by omega]
      have e : rndz f (4 * n) (k + 1) = ((mkz f ((rndz f (4 * n) k).2.1 : Int) (4 * n + 1) k (rndz f (4 * n) k).1).1, (rndz f (4 * n) k).2.1 + 1, (fun c => if c = (rndz f (4 * n) k).2.1 then k else (rndz f (4 * n) k).2.2.1 c), (fun c => if c = (rndz f (4 * n) k).2.1 then (mkz f ((rndz f (4 * n) k).2.1 : Int) (4 * n + 1) k (rndz f (4 * n) k).1).2 else (rndz f (4 * n) k).2.2.2 c)) := by rw [rnd_s, if_neg c]
      have e1 : (rndz f (4 * n) (k + 1)).1 = (mkz f ((rndz f (4 * n) k).2.1 : Int) (4 * n + 1) k (rndz f (4 * n) k).1).1 := by rw [e]
      have e2 : (((rndz f (4 * n) k).2.1 : Nat) : Int) + 1 = (((rndz f (4 * n) (k + 1)).2.1 : Nat) : Int) := by rw [e]; rfl
      rw [e2]
      exact ih nn (k + 1) A' _ _ (by omega) (by omega) (by rw [e1]; exact g2) (rArr_s hst c) (rLen_s hsz c)
theorem C_findFaces (fl : Nat) (hfl : 200 ≤ fl) (hn : n ≤ 20) (h : EdgA n sg lb nm fr to at_) (A sz st : Nat → Int) :
    ∃ A' sz' st', LM_Sh_findFaces fl ((2 * n : Nat) : Int) at_ fr to 0 A sz st = some ((((rndz (tnz fr to at_) (4 * n) (4 * n)).2.1 : Nat) : Int), A', sz', st') ∧ like (4 * n) A' (rndz (tnz fr to at_) (4 * n) (4 * n)).1 ∧ rArr (rndz (tnz fr to at_) (4 * n) (4 * n)) st' ∧ rLen (rndz (tnz fr to at_) (4 * n) (4 * n)) sz' := by
  unfold LM_Sh_findFaces LB_Sh_findFaces_0
  exact cf10 fl hfl hn h (4 * n) fl 0 (fillF A 80 (-1)) sz st (by omega) (by omega) (fun x hx => by unfold fillF; rw [if_pos (by omega)]; rfl) (fun c hc => absurd hc (Nat.not_lt_zero c)) (fun c hc => absurd hc (Nat.not_lt_zero c))
theorem cc10 (fl : Nat) (hfl : 200 ≤ fl) (hn : n ≤ 20) (h : EdgA n sg lb nm fr to at_) :
    ∀ (d nn k : Nat) (A : Nat → Int), k + d = 2 * n → d < nn → like (2 * n) A (rndz (nx to at_) (2 * n) k).1 →
    ∃ A', LB_Sh_findComponents_10 fl ((2 * n : Nat) : Int) at_ to nn (k : Int) (((rndz (nx to at_) (2 * n) k).2.1 : Nat) : Int) A = some ((((rndz (nx to at_) (2 * n) (2 * n)).2.1 : Nat) : Int), A') ∧ like (2 * n) A' (rndz (nx to at_) (2 * n) (2 * n)).1 := by
  have hcl := nx_closed h
  generalize hf : nx to at_ = f at *
  intro d
  induction d with
  | zero =>
    intro nn k A hd hnn hA
    obtain ⟨nn, rfl⟩ : ∃ r, nn = r + 1 := ⟨nn - 1, by omega⟩
    have : k = 2 * n := by omega
    subst this
    rw [LB_Sh_findComponents_10, if_pos (by omega)]
    exact ⟨A, rfl, hA⟩
  | succ d ih =>
    intro nn k A hd hnn hA
    obtain ⟨nn, rfl⟩ : ∃ r, nn = r + 1 := ⟨nn - 1, by omega⟩
    have hR := rnd_ok hcl k (by omega)
    have hle := hR.2.2.2.1
    rw [LB_Sh_findComponents_10, if_neg (by omega), if_pos (by omega), Int.toNat_natCast, hA k (by omega)]
    by_cases c : 0 ≤ (rndz f (2 * n) k).1 k
    · rw [if_pos c]
      unfold LB_Sh_findComponents_80
      have e : rndz f (2 * n) (k + 1) = rndz f (2 * n) k := by rw [rnd_s, if_pos c]
      rw [if_pos (by omega), show ((k : Int) + 1) = ((k + 1 : Nat) : Int) by omega]
      have := ih nn (k + 1) A (by omega) (by omega) (by rw [e]; exact hA)
      rw [e] at this
      exact this
    · rw [if_neg c]
      obtain ⟨x', A', hx', g1, g2⟩ := mk_loop (f := f) (N := 2 * n) (v := ((rndz f (2 * n) k).2.1 : Int)) (by omega) hcl.1
        (fun nn' x t B => LB_Sh_findComponents_31 fl ((2 * n : Nat) : Int) at_ to (LB_Sh_findComponents_10 fl ((2 * n : Nat) : Int) at_ to nn) nn' (k : Int) (x : Int) (t : Int) (((rndz f (2 * n) k).2.1 : Nat) : Int) B)
        (fun x t B => LB_Sh_findComponents_70 fl ((2 * n : Nat) : Int) at_ to (LB_Sh_findComponents_10 fl ((2 * n : Nat) : Int) at_ to nn) (k : Int) (x : Int) (t : Int) (((rndz f (2 * n) k).2.1 : Nat) : Int) B)
        (fun nn' x t B hx ht hB => by
          show LB_Sh_findComponents_31 _ _ _ _ _ _ _ _ _ _ _ = _
          rw [LB_Sh_findComponents_31]
          by_cases w : ((2 * n : Nat) : Int) ≤ (t : Int)
          · rw [if_pos w]
          · rw [if_neg w, if_pos (by omega), Int.toNat_natCast, if_pos hB])
        (fun nn' x t B hx ht hB => by
          show LB_Sh_findComponents_31 _ _ _ _ _ _ _ _ _ _ _ = LB_Sh_findComponents_31 _ _ _ _ _ _ _ _ _ _ _
          rw [LB_Sh_findComponents_31, if_neg (by omega), if_pos (by omega), Int.toNat_natCast, if_neg (by omega), C_nextEdge fl hn h hx, Option.bind_some, if_pos (by omega), hf]
          rfl)
        (Uz (2 * n) (rndz f (2 * n) k).1) (2 * n + 1) fl k 0 A (rndz f (2 * n) k).1 rfl (by have := U_le (2 * n) (rndz f (2 * n) k).1; omega) (by have := U_le (2 * n) (rndz f (2 * n) k).1; omega) (by omega) (by have := U_le (2 * n) (rndz f (2 * n) k).1; omega) hA
      have g1 : LB_Sh_findComponents_31 fl ((2 * n : Nat) : Int) at_ to (LB_Sh_findComponents_10 fl ((2 * n : Nat) : Int) at_ to nn) fl (k : Int) (k : Int) 0 (((rndz f (2 * n) k).2.1 : Nat) : Int) A = LB_Sh_findComponents_70 fl ((2 * n : Nat) : Int) at_ to (LB_Sh_findComponents_10 fl ((2 * n : Nat) : Int) at_ to nn) (k : Int) (x' : Int) ((0 + (mkz f ((rndz f (2 * n) k).2.1 : Int) (2 * n + 1) k (rndz f (2 * n) k).1).2 : Nat) : Int) (((rndz f (2 * n) k).2.1 : Nat) : Int) A' := g1
      rw [g1]
      unfold LB_Sh_findComponents_70 LB_Sh_findComponents_80
      rw [if_pos (by omega), if_pos (by omega), show ((k : Int) + 1) = ((k + 1 : Nat) : Int) by omega]
      have e : rndz f (2 * n) (k + 1) = ((mkz f ((rndz f (2 * n) k).2.1 : Int) (2 * n + 1) k (rndz f (2 * n) k).1).1, (rndz f (2 * n) k).2.1 + 1, (fun c => if c = (rndz f (2 * n) k).2.1 then k else (rndz f (2 * n) k).2.2.1 c), (fun c => if c = (rndz f (2 * n) k).2.1 then (mkz f ((rndz f (2 * n) k).2.1 : Int) (2 * n + 1) k (rndz f (2 * n) k).1).2 else (rndz f (2 * n) k).2.2.2 c)) := by rw [rnd_s, if_neg c]
      have e1 : (rndz f (2 * n) (k + 1)).1 = (mkz f ((rndz f (2 * n) k).2.1 : Int) (2 * n + 1) k (rndz f (2 * n) k).1).1 := by rw [e]
      have e2 : (((rndz f (2 * n) k).2.1 : Nat) : Int) + 1 = (((rndz f (2 * n) (k + 1)).2.1 : Nat) : Int) := by rw [e]; rfl
      rw [e2]
      exact ih nn (k + 1) A' (by omega) (by omega) (by rw [e1]; exact g2)
theorem C_findComponents (fl : Nat) (hfl : 200 ≤ fl) (hn : n ≤ 20) (h : EdgA n sg lb nm fr to at_) (A : Nat → Int) :
    ∃ A', LM_Sh_findComponents fl ((2 * n : Nat) : Int) at_ to 0 A = some ((((rndz (nx to at_) (2 * n) (2 * n)).2.1 : Nat) : Int), A') ∧ like (2 * n) A' (rndz (nx to at_) (2 * n) (2 * n)).1 := by
  unfold LM_Sh_findComponents LB_Sh_findComponents_0
  exact cc10 fl hfl hn h (2 * n) fl 0 (fillF A 40 (-1)) (by omega) (by omega) (fun x hx => by unfold fillF; rw [if_pos (by omega)]; rfl)
end
