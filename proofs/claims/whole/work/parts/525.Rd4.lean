section
variable {n : Nat} {sg lb nm fr to at_ fo : Nat → Int}
theorem mr129 (fl : Nat) (hfl : 200 ≤ fl) (hn : n ≤ 20) (h : EdgA n sg lb nm fr to at_) (co : Int) (cA : Nat → Int) :
    ∀ (d nn k : Nat) (A st : Nat → Int), k + d = 4 * n → d < nn → like (4 * n) A (rndz (tnz fr to at_) (4 * n) k).1 → rArr (rndz (tnz fr to at_) (4 * n) k) st →
    ∃ A' st', LB_Md_findRounds_129 fl ((2 * n : Nat) : Int) fr to fo at_ nn (k : Int) co (((rndz (tnz fr to at_) (4 * n) k).2.1 : Nat) : Int) cA A st = some (co, (((rndz (tnz fr to at_) (4 * n) (4 * n)).2.1 : Nat) : Int), cA, A', st') ∧ like (4 * n) A' (rndz (tnz fr to at_) (4 * n) (4 * n)).1 ∧ rArr (rndz (tnz fr to at_) (4 * n) (4 * n)) st' := by
  have hcl := tn_closed h
  generalize hf : tnz fr to at_ = f at *
  intro d
  induction d with
  | zero =>
    intro nn k A st hd hnn hA hst
    obtain ⟨nn, rfl⟩ : ∃ r, nn = r + 1 := ⟨nn - 1, by omega⟩
    have : k = 4 * n := by omega
    subst this
    rw [LB_Md_findRounds_129, if_pos (by omega), if_pos (by omega)]
    exact ⟨A, st, rfl, hA, hst⟩
  | succ d ih =>
    intro nn k A st hd hnn hA hst
    obtain ⟨nn, rfl⟩ : ∃ r, nn = r + 1 := ⟨nn - 1, by omega⟩
    have hR := rnd_ok hcl k (by omega)
    have hle := hR.2.2.2.1
    rw [LB_Md_findRounds_129, if_pos (by omega), if_neg (by omega), if_pos (by omega), Int.toNat_natCast, hA k (by omega)]
    by_cases c : 0 ≤ (rndz f (4 * n) k).1 k
    · rw [if_neg (by omega)]
      unfold LB_Md_findRounds_201
      have e : rndz f (4 * n) (k + 1) = rndz f (4 * n) k := by rw [rnd_s, if_pos c]
      rw [if_pos (by omega), show ((k : Int) + 1) = ((k + 1 : Nat) : Int) by omega]
      have := ih nn (k + 1) A st (by omega) (by omega) (by rw [e]; exact hA) (by rw [e]; exact hst)
      rw [e] at this
      exact this
    · rw [if_pos (by omega), if_pos (by omega), Int.toNat_natCast]
      have hst' := rArr_s hst c
      generalize hup : up st (rndz f (4 * n) k).2.1 (k : Int) = st1 at *
      obtain ⟨x', A', hx', g1, g2⟩ := mk_loop (f := f) (N := 4 * n) (v := ((rndz f (4 * n) k).2.1 : Int)) (by omega) hcl.1
        (fun nn' x t B => LB_Md_findRounds_163 fl ((2 * n : Nat) : Int) fr to fo at_ (LB_Md_findRounds_129 fl ((2 * n : Nat) : Int) fr to fo at_ nn) nn' (k : Int) (x : Int) co (((rndz f (4 * n) k).2.1 : Nat) : Int) cA B st1)
        (fun x t B => LB_Md_findRounds_201 fl ((2 * n : Nat) : Int) fr to fo at_ (LB_Md_findRounds_129 fl ((2 * n : Nat) : Int) fr to fo at_ nn) (k : Int) co ((((rndz f (4 * n) k).2.1 : Nat) : Int) + 1) cA B st1)
        (fun nn' x t B hx ht hB => by
          show LB_Md_findRounds_163 _ _ _ _ _ _ _ _ _ _ _ _ _ _ _ = _
          rw [LB_Md_findRounds_163, if_pos (by omega), Int.toNat_natCast, if_pos hB, if_pos (by omega)])
        (fun nn' x t B hx ht hB => by
          show LB_Md_findRounds_163 _ _ _ _ _ _ _ _ _ _ _ _ _ _ _ = LB_Md_findRounds_163 _ _ _ _ _ _ _ _ _ _ _ _ _ _ _
          rw [LB_Md_findRounds_163, if_pos (by omega), Int.toNat_natCast, if_neg (by omega), M_turn fl hn h hx, Option.bind_some, hf])
        (Uz (4 * n) (rndz f (4 * n) k).1) (4 * n + 1) fl k 0 A (rndz f (4 * n) k).1 rfl (by have := U_le (4 * n) (rndz f (4 * n) k).1; omega) (by have := U_le (4 * n) (rndz f (4 * n) k).1; omega) (by omega) (by have := U_le (4 * n) (rndz f (4 * n) k).1; omega) hA
      have g1 : LB_Md_findRounds_163 fl ((2 * n : Nat) : Int) fr to fo at_ (LB_Md_findRounds_129 fl ((2 * n : Nat) : Int) fr to fo at_ nn) fl (k : Int) (k : Int) co (((rndz f (4 * n) k).2.1 : Nat) : Int) cA A st1 = LB_Md_findRounds_201 fl ((2 * n : Nat) : Int) fr to fo at_ (LB_Md_findRounds_129 fl ((2 * n : Nat) : Int) fr to fo at_ nn) (k : Int) co ((((rndz f (4 * n) k).2.1 : Nat) : Int) + 1) cA A' st1 := g1
      rw [g1]
      unfold LB_Md_findRounds_201
      rw [if_pos (by omega), show ((k : Int) + 1) = ((k + 1 : Nat) : Int) by omega]
      have e : rndz f (4 * n) (k + 1) = ((mkz f ((rndz f (4 * n) k).2.1 : Int) (4 * n + 1) k (rndz f (4 * n) k).1).1, (rndz f (4 * n) k).2.1 + 1, (fun c => if c = (rndz f (4 * n) k).2.1 then k else (rndz f (4 * n) k).2.2.1 c), (fun c => if c = (rndz f (4 * n) k).2.1 then (mkz f ((rndz f (4 * n) k).2.1 : Int) (4 * n + 1) k (rndz f (4 * n) k).1).2 else (rndz f (4 * n) k).2.2.2 c)) := by rw [rnd_s, if_neg c]
      have e1 : (rndz f (4 * n) (k + 1)).1 = (mkz f ((rndz f (4 * n) k).2.1 : Int) (4 * n + 1) k (rndz f (4 * n) k).1).1 := by rw [e]
      have e2 : (((rndz f (4 * n) k).2.1 : Nat) : Int) + 1 = (((rndz f (4 * n) (k + 1)).2.1 : Nat) : Int) := by rw [e]; rfl
      rw [e2]
      exact ih nn (k + 1) A' _ (by omega) (by omega) (by rw [e1]; exact g2) hst'
theorem mr104 (fl : Nat) (hn : n ≤ 20) (co fa : Int) (cA st : Nat → Int) :
    ∀ (d nn k : Nat) (A : Nat → Int), k + d = 4 * n → d < nn → (∀ x, x < k → A x = -1) →
    ∃ A', LB_Md_findRounds_104 fl ((2 * n : Nat) : Int) fr to fo at_ nn (k : Int) co fa cA A st = LB_Md_findRounds_129 fl ((2 * n : Nat) : Int) fr to fo at_ fl 0 co fa cA A' st ∧ (∀ x, x < 4 * n → A' x = -1) := by
  intro d
  induction d with
  | zero =>
    intro nn k A hd hnn hA
    obtain ⟨nn, rfl⟩ : ∃ r, nn = r + 1 := ⟨nn - 1, by omega⟩
    rw [LB_Md_findRounds_104, if_pos (by omega), if_pos (by omega)]
    exact ⟨A, rfl, fun x hx => hA x (by omega)⟩
  | succ d ih =>
    intro nn k A hd hnn hA
    obtain ⟨nn, rfl⟩ : ∃ r, nn = r + 1 := ⟨nn - 1, by omega⟩
    rw [LB_Md_findRounds_104, if_pos (by omega), if_neg (by omega), if_pos (by omega), if_pos (by omega), Int.toNat_natCast, show ((k : Int) + 1) = ((k + 1 : Nat) : Int) by omega]
    refine ih nn (k + 1) _ (by omega) (by omega) (fun x hx => ?_)
    by_cases e : x = k
    · rw [e, up_eq]
    · rw [up_ne _ _ e]; exact hA x (by omega)
theorem mr30 (fl : Nat) (hfl : 200 ≤ fl) (hn : n ≤ 20) (h : EdgA n sg lb nm fr to at_) (hfo : ∀ e, e < 2 * n → fo e = ((nx to at_ e : Nat) : Int)) (fa : Int) (fA st : Nat → Int) :
    ∀ (d nn k : Nat) (A : Nat → Int), k + d = 2 * n → d < nn → like (2 * n) A (rndz (nx to at_) (2 * n) k).1 →
    ∃ A', LB_Md_findRounds_30 fl ((2 * n : Nat) : Int) fr to fo at_ nn (k : Int) (((rndz (nx to at_) (2 * n) k).2.1 : Nat) : Int) fa A fA st = LB_Md_findRounds_104 fl ((2 * n : Nat) : Int) fr to fo at_ fl 0 (((rndz (nx to at_) (2 * n) (2 * n)).2.1 : Nat) : Int) 0 A' fA st ∧ like (2 * n) A' (rndz (nx to at_) (2 * n) (2 * n)).1 := by
  have hcl := nx_closed h
  generalize hf : nx to at_ = f at *
  intro d
  induction d with
  | zero =>
    intro nn k A hd hnn hA
    obtain ⟨nn, rfl⟩ : ∃ r, nn = r + 1 := ⟨nn - 1, by omega⟩
    have : k = 2 * n := by omega
    subst this
    rw [LB_Md_findRounds_30, if_pos (by omega)]
    exact ⟨A, rfl, hA⟩
  | succ d ih =>
    intro nn k A hd hnn hA
    obtain ⟨nn, rfl⟩ : ∃ r, nn = r + 1 := ⟨nn - 1, by omega⟩
    have hR := rnd_ok hcl k (by omega)
    have hle := hR.2.2.2.1
    rw [LB_Md_findRounds_30, if_neg (by omega), if_pos (by omega), Int.toNat_natCast, hA k (by omega)]
    by_cases c : 0 ≤ (rndz f (2 * n) k).1 k
    · rw [if_neg (by omega)]
      unfold LB_Md_findRounds_91
      have e : rndz f (2 * n) (k + 1) = rndz f (2 * n) k := by rw [rnd_s, if_pos c]
      rw [if_pos (by omega), show ((k : Int) + 1) = ((k + 1 : Nat) : Int) by omega]
      have := ih nn (k + 1) A (by omega) (by omega) (by rw [e]; exact hA)
      rw [e] at this
      exact this
    · rw [if_pos (by omega)]
      obtain ⟨x', A', hx', g1, g2⟩ := mk_loop (f := f) (N := 2 * n) (v := ((rndz f (2 * n) k).2.1 : Int)) (by omega) hcl.1
        (fun nn' x t B => LB_Md_findRounds_52 fl ((2 * n : Nat) : Int) fr to fo at_ (LB_Md_findRounds_30 fl ((2 * n : Nat) : Int) fr to fo at_ nn) nn' (k : Int) (x : Int) (((rndz f (2 * n) k).2.1 : Nat) : Int) fa B fA st)
        (fun x t B => LB_Md_findRounds_91 fl ((2 * n : Nat) : Int) fr to fo at_ (LB_Md_findRounds_30 fl ((2 * n : Nat) : Int) fr to fo at_ nn) (k : Int) ((((rndz f (2 * n) k).2.1 : Nat) : Int) + 1) fa B fA st)
        (fun nn' x t B hx ht hB => by
          show LB_Md_findRounds_52 _ _ _ _ _ _ _ _ _ _ _ _ _ _ _ = _
          rw [LB_Md_findRounds_52, if_pos (by omega), Int.toNat_natCast, if_pos hB, if_pos (by omega)])
        (fun nn' x t B hx ht hB => by
          show LB_Md_findRounds_52 _ _ _ _ _ _ _ _ _ _ _ _ _ _ _ = LB_Md_findRounds_52 _ _ _ _ _ _ _ _ _ _ _ _ _ _ _
          rw [LB_Md_findRounds_52, if_pos (by omega), Int.toNat_natCast, if_neg (by omega), hfo x hx])
        (Uz (2 * n) (rndz f (2 * n) k).1) (2 * n + 1) fl k 0 A (rndz f (2 * n) k).1 rfl (by have := U_le (2 * n) (rndz f (2 * n) k).1; omega) (by have := U_le (2 * n) (rndz f (2 * n) k).1; omega) (by omega) (by have := U_le (2 * n) (rndz f (2 * n) k).1; omega) hA
      have g1 : LB_Md_findRounds_52 fl ((2 * n : Nat) : Int) fr to fo at_ (LB_Md_findRounds_30 fl ((2 * n : Nat) : Int) fr to fo at_ nn) fl (k : Int) (k : Int) (((rndz f (2 * n) k).2.1 : Nat) : Int) fa A fA st = LB_Md_findRounds_91 fl ((2 * n : Nat) : Int) fr to fo at_ (LB_Md_findRounds_30 fl ((2 * n : Nat) : Int) fr to fo at_ nn) (k : Int) ((((rndz f (2 * n) k).2.1 : Nat) : Int) + 1) fa A' fA st := g1
      rw [g1]
      unfold LB_Md_findRounds_91
      rw [if_pos (by omega), show ((k : Int) + 1) = ((k + 1 : Nat) : Int) by omega]
      have e : rndz f (2 * n) (k + 1) = ((mkz f ((rndz f (2 * n) k).2.1 : Int) (2 * n + 1) k (rndz f (2 * n) k).1).1, (rndz f (2 * n) k).2.1 + 1, (fun c => if c = (rndz f (2 * n) k).2.1 then k else (rndz f (2 * n) k).2.2.1 c), (fun c => if c = (rndz f (2 * n) k).2.1 then (mkz f ((rndz f (2 * n) k).2.1 : Int) (2 * n + 1) k (rndz f (2 * n) k).1).2 else (rndz f (2 * n) k).2.2.2 c)) := by rw [rnd_s, if_neg c]
      have e1 : (rndz f (2 * n) (k + 1)).1 = (mkz f ((rndz f (2 * n) k).2.1 : Int) (2 * n + 1) k (rndz f (2 * n) k).1).1 := by rw [e]
      have e2 : (((rndz f (2 * n) k).2.1 : Nat) : Int) + 1 = (((rndz f (2 * n) (k + 1)).2.1 : Nat) : Int) := by rw [e]; rfl
      rw [e2]
      exact ih nn (k + 1) A' (by omega) (by omega) (by rw [e1]; exact g2)
theorem mr7 (fl : Nat) (hn : n ≤ 20) (fa : Int) (fA st : Nat → Int) :
    ∀ (d nn k : Nat) (A : Nat → Int), k + d = 2 * n → d < nn → (∀ x, x < k → A x = -1) →
    ∃ A', LB_Md_findRounds_7 fl ((2 * n : Nat) : Int) fr to fo at_ nn (k : Int) 0 fa A fA st = LB_Md_findRounds_30 fl ((2 * n : Nat) : Int) fr to fo at_ fl 0 0 fa A' fA st ∧ (∀ x, x < 2 * n → A' x = -1) := by
  intro d
  induction d with
  | zero =>
    intro nn k A hd hnn hA
    obtain ⟨nn, rfl⟩ : ∃ r, nn = r + 1 := ⟨nn - 1, by omega⟩
    rw [LB_Md_findRounds_7, if_pos (by omega)]
    exact ⟨A, rfl, fun x hx => hA x (by omega)⟩
  | succ d ih =>
    intro nn k A hd hnn hA
    obtain ⟨nn, rfl⟩ : ∃ r, nn = r + 1 := ⟨nn - 1, by omega⟩
    rw [LB_Md_findRounds_7, if_neg (by omega), if_pos (by omega), if_pos (by omega), Int.toNat_natCast, show ((k : Int) + 1) = ((k + 1 : Nat) : Int) by omega]
    refine ih nn (k + 1) _ (by omega) (by omega) (fun x hx => ?_)
    by_cases e : x = k
    · rw [e, up_eq]
    · rw [up_ne _ _ e]; exact hA x (by omega)
theorem M_findRounds (fl : Nat) (hfl : 200 ≤ fl) (hn : n ≤ 20) (h : EdgA n sg lb nm fr to at_) (hfo : ∀ e, e < 2 * n → fo e = ((nx to at_ e : Nat) : Int)) (co fa : Int) (cA fA st : Nat → Int) :
    ∃ cA' fA' st', LM_Md_findRounds fl ((2 * n : Nat) : Int) fr to fo at_ co fa cA fA st = some ((((rndz (nx to at_) (2 * n) (2 * n)).2.1 : Nat) : Int), (((rndz (tnz fr to at_) (4 * n) (4 * n)).2.1 : Nat) : Int), cA', fA', st') ∧ like (2 * n) cA' (rndz (nx to at_) (2 * n) (2 * n)).1 ∧ like (4 * n) fA' (rndz (tnz fr to at_) (4 * n) (4 * n)).1 ∧ rArr (rndz (tnz fr to at_) (4 * n) (4 * n)) st' := by
  unfold LM_Md_findRounds LB_Md_findRounds_0
  obtain ⟨A1, h1, h2⟩ := mr7 (fr := fr) (to := to) (at_ := at_) (fo := fo) fl hn fa fA st (2 * n) fl 0 cA (by omega) (by omega) (fun x hx => by omega)
  rw [show ((0 : Nat) : Int) = 0 from rfl] at h1
  rw [h1]
  obtain ⟨A2, h3, h4⟩ := mr30 fl hfl hn h hfo fa fA st (2 * n) fl 0 A1 (by omega) (by omega) (fun x hx => by rw [h2 x hx]; rfl)
  have e0 : (((rndz (nx to at_) (2 * n) 0).2.1 : Nat) : Int) = 0 := rfl
  rw [e0, show ((0 : Nat) : Int) = 0 from rfl] at h3
  rw [h3]
  obtain ⟨A3, h5, h6⟩ := mr104 (fr := fr) (to := to) (at_ := at_) (fo := fo) fl hn (((rndz (nx to at_) (2 * n) (2 * n)).2.1 : Nat) : Int) 0 A2 st (4 * n) fl 0 fA (by omega) (by omega) (fun x hx => by omega)
  rw [show ((0 : Nat) : Int) = 0 from rfl] at h5
  rw [h5]
  obtain ⟨A4, st', h7, h8, h9⟩ := mr129 (fo := fo) fl hfl hn h (((rndz (nx to at_) (2 * n) (2 * n)).2.1 : Nat) : Int) A2 (4 * n) fl 0 A3 st (by omega) (by omega) (fun x hx => by rw [h6 x hx]; rfl) (fun c hc => absurd hc (Nat.not_lt_zero c))
  have e1 : (((rndz (tnz fr to at_) (4 * n) 0).2.1 : Nat) : Int) = 0 := rfl
  rw [e1, show ((0 : Nat) : Int) = 0 from rfl] at h7
  rw [h7]
  exact ⟨A2, A4, st', rfl, h4, h8, h9⟩
end
