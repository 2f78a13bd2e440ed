section
variable {n : Nat} {sg lb nm fr to at_ : Nat → Int}
theorem mb70 (fl : Nat) (hfl : 200 ≤ fl) (hn : n ≤ 20) (h : EdgA n sg lb nm fr to at_) (A st : Nat → Int) (hA : ∀ y, y < n → A y = ((pcF fr to (2 * n) y : Nat) : Int)) (hst : rArr (rndz (tnz fr to at_) (4 * n) (4 * n)) st) (kb : Int → Option Int) {c : Nat} (hc : c < n) (V : Nat) (hV : V ≤ n) :
    ∀ (d nn f : Nat), f + d = (rndz (tnz fr to at_) (4 * n) (4 * n)).2.1 → d < nn →
    LB_Md_broken_70 fl (((rndz (tnz fr to at_) (4 * n) (4 * n)).2.1 : Nat) : Int) fr (n : Int) to st A kb nn (c : Int) (V : Int) ((facP fr to n (rndz (tnz fr to at_) (4 * n) (4 * n)) c f : Nat) : Int) (f : Int) = if facP fr to n (rndz (tnz fr to at_) (4 * n) (4 * n)) c (rndz (tnz fr to at_) (4 * n) (4 * n)).2.1 = V + 2 then kb ((c + 1 : Nat) : Int) else some (c : Int) := by
  have hF := cnt_F h
  intro d
  induction d with
  | zero =>
    intro nn f hd hnn
    obtain ⟨nn, rfl⟩ : ∃ r, nn = r + 1 := ⟨nn - 1, by omega⟩
    rw [LB_Md_broken_70, if_pos (by omega), if_pos (by omega)]
    unfold LB_Md_broken_124
    rw [show f = (rndz (tnz fr to at_) (4 * n) (4 * n)).2.1 by omega]
    by_cases w : facP fr to n (rndz (tnz fr to at_) (4 * n) (4 * n)) c (rndz (tnz fr to at_) (4 * n) (4 * n)).2.1 = V + 2
    · rw [if_pos (by omega), if_pos (by omega), if_pos w]; rfl
    · rw [if_neg (by omega), if_neg w]
  | succ d ih =>
    intro nn f hd hnn
    obtain ⟨nn, rfl⟩ : ∃ r, nn = r + 1 := ⟨nn - 1, by omega⟩
    have hs := st_lt h (show f < _ by omega)
    have hse := hst f (by omega)
    have ha := arr_ok h hs
    obtain ⟨p, q, b1, b2, b3, b4, _⟩ := Edg_fr h (show (rndz (tnz fr to at_) (4 * n) (4 * n)).2.2.1 f / 2 < 2 * n by omega)
    have hb2 : facP fr to n (rndz (tnz fr to at_) (4 * n) (4 * n)) c f ≤ f := cnt_lez _ _
    -- the piece of the dart's edge
    have hpc : pcF fr to (2 * n) (arrz fr to ((rndz (tnz fr to at_) (4 * n) (4 * n)).2.2.1 f) / 4) = pcF fr to (2 * n) ((fr ((rndz (tnz fr to at_) (4 * n) (4 * n)).2.2.1 f / 2)).toNat / 4) := by
      unfold arrz
      by_cases w : (rndz (tnz fr to at_) (4 * n) (4 * n)).2.2.1 f % 2 = 0
      · rw [if_pos w]; exact (pcF_adj fr to (2 * n) _ (by omega)).symm
      · rw [if_neg w]
    rw [LB_Md_broken_70, if_neg (by omega), if_pos (by omega), Int.toNat_natCast, hse, M_arrives fl hn h hs, Option.bind_some, if_pos (by omega), show Int.toNat (((arrz fr to ((rndz (tnz fr to at_) (4 * n) (4 * n)).2.2.1 f) : Nat) : Int) / 4) = arrz fr to ((rndz (tnz fr to at_) (4 * n) (4 * n)).2.2.1 f) / 4 by omega, hA _ (by omega), hpc]
    unfold LB_Md_broken_107
    have hs2 := ih nn (f + 1) (by omega) (by omega)
    have es : facP fr to n (rndz (tnz fr to at_) (4 * n) (4 * n)) c (f + 1) = facP fr to n (rndz (tnz fr to at_) (4 * n) (4 * n)) c f + (if (pcF fr to (2 * n) ((fr ((rndz (tnz fr to at_) (4 * n) (4 * n)).2.2.1 f / 2)).toNat / 4) == c) = true then 1 else 0) := rfl
    rw [es] at hs2
    by_cases w : pcF fr to (2 * n) ((fr ((rndz (tnz fr to at_) (4 * n) (4 * n)).2.2.1 f / 2)).toNat / 4) = c
    · rw [if_neg (by omega), if_pos (by omega), show ((f : Int) + 1) = ((f + 1 : Nat) : Int) by omega]
      rw [if_pos (by simp [w])] at hs2
      rw [← hs2]; congr 1
    · rw [if_pos (by omega), if_pos (by omega), show ((f : Int) + 1) = ((f + 1 : Nat) : Int) by omega]
      rw [if_neg (by simp [w])] at hs2
      rw [← hs2]; congr 1 <;> omega
theorem mb30 (fl : Nat) (hfl : 200 ≤ fl) (hn : n ≤ 20) (h : EdgA n sg lb nm fr to at_) (A st : Nat → Int) (hA : ∀ y, y < n → A y = ((pcF fr to (2 * n) y : Nat) : Int)) (hst : rArr (rndz (tnz fr to at_) (4 * n) (4 * n)) st) (kb : Int → Option Int) {c : Nat} (hc : c < n) :
    ∀ (d nn k : Nat), k + d = n → d < nn →
    LB_Md_broken_30 fl (((rndz (tnz fr to at_) (4 * n) (4 * n)).2.1 : Nat) : Int) fr (n : Int) to st A kb nn (c : Int) ((croP fr to n c k : Nat) : Int) (k : Int) = if facP fr to n (rndz (tnz fr to at_) (4 * n) (4 * n)) c (rndz (tnz fr to at_) (4 * n) (4 * n)).2.1 = croP fr to n c n + 2 then kb ((c + 1 : Nat) : Int) else some (c : Int) := by
  have hF := cnt_F h
  intro d
  induction d with
  | zero =>
    intro nn k hd hnn
    obtain ⟨nn, rfl⟩ : ∃ r, nn = r + 1 := ⟨nn - 1, by omega⟩
    have hb2 : croP fr to n c k ≤ k := cnt_lez _ _
    rw [LB_Md_broken_30, if_pos (by omega), show n = k by omega]
    have := mb70 fl hfl hn h A st hA hst kb hc (croP fr to n c k) (by omega) (rndz (tnz fr to at_) (4 * n) (4 * n)).2.1 fl 0 (by omega) (by omega)
    rw [show n = k by omega] at this
    exact this
  | succ d ih =>
    intro nn k hd hnn
    obtain ⟨nn, rfl⟩ : ∃ r, nn = r + 1 := ⟨nn - 1, by omega⟩
    have hb2 : croP fr to n c k ≤ k := cnt_lez _ _
    rw [LB_Md_broken_30, if_neg (by omega), if_pos (by omega), Int.toNat_natCast, hA k (by omega)]
    unfold LB_Md_broken_57
    have hs2 := ih nn (k + 1) (by omega) (by omega)
    have es : croP fr to n c (k + 1) = croP fr to n c k + (if (pcF fr to (2 * n) k == c) = true then 1 else 0) := rfl
    rw [es] at hs2
    by_cases w : pcF fr to (2 * n) k = c
    · rw [if_neg (by omega), if_pos (by omega), show ((k : Int) + 1) = ((k + 1 : Nat) : Int) by omega]
      rw [if_pos (by simp [w])] at hs2
      rw [← hs2]; congr 1
    · rw [if_pos (by omega), if_pos (by omega), show ((k : Int) + 1) = ((k + 1 : Nat) : Int) by omega]
      rw [if_neg (by simp [w])] at hs2
      rw [← hs2]; congr 1 <;> omega
theorem mb2 (fl : Nat) (hfl : 200 ≤ fl) (hn : n ≤ 20) (h : EdgA n sg lb nm fr to at_) (A st : Nat → Int) (hA : ∀ y, y < n → A y = ((pcF fr to (2 * n) y : Nat) : Int)) (hst : rArr (rndz (tnz fr to at_) (4 * n) (4 * n)) st) :
    ∀ (d nn c : Nat), c + d = n → d < nn → (∀ b, b < c → facP fr to n (rndz (tnz fr to at_) (4 * n) (4 * n)) (pcF fr to (2 * n) b) (rndz (tnz fr to at_) (4 * n) (4 * n)).2.1 = croP fr to n (pcF fr to (2 * n) b) n + 2) →
    (LB_Md_broken_2 fl (((rndz (tnz fr to at_) (4 * n) (4 * n)).2.1 : Nat) : Int) fr (n : Int) to st A nn (c : Int) = some (-1) ∧ All3 fr to n (rndz (tnz fr to at_) (4 * n) (4 * n))) ∨
    (∃ b : Nat, LB_Md_broken_2 fl (((rndz (tnz fr to at_) (4 * n) (4 * n)).2.1 : Nat) : Int) fr (n : Int) to st A nn (c : Int) = some (b : Int) ∧ Bad3 fr to n (rndz (tnz fr to at_) (4 * n) (4 * n)) b) := by
  intro d
  induction d with
  | zero =>
    intro nn c hd hnn hG
    obtain ⟨nn, rfl⟩ : ∃ r, nn = r + 1 := ⟨nn - 1, by omega⟩
    rw [LB_Md_broken_2, if_pos (by omega)]
    exact Or.inl ⟨rfl, fun b hb => hG b (by omega)⟩
  | succ d ih =>
    intro nn c hd hnn hG
    obtain ⟨nn, rfl⟩ : ∃ r, nn = r + 1 := ⟨nn - 1, by omega⟩
    have hpl := pcF_le fr to (2 * n) c
    have hid := pcF_idem fr to (2 * n) c
    rw [LB_Md_broken_2, if_neg (by omega), if_pos (by omega), Int.toNat_natCast, hA c (by omega)]
    by_cases w : pcF fr to (2 * n) c = c
    · rw [if_pos (by omega)]
      have := mb30 fl hfl hn h A st hA hst (LB_Md_broken_2 fl (((rndz (tnz fr to at_) (4 * n) (4 * n)).2.1 : Nat) : Int) fr (n : Int) to st A nn) (show c < n by omega) n fl 0 (by omega) (by omega)
      have e0 : ((croP fr to n c 0 : Nat) : Int) = 0 := rfl
      rw [e0, show ((0 : Nat) : Int) = 0 from rfl] at this
      rw [this]
      by_cases g : facP fr to n (rndz (tnz fr to at_) (4 * n) (4 * n)) c (rndz (tnz fr to at_) (4 * n) (4 * n)).2.1 = croP fr to n c n + 2
      · rw [if_pos g]
        exact ih nn (c + 1) (by omega) (by omega) (fun b hb => by
          by_cases e : b = c
          · rw [e, w]; exact g
          · exact hG b (by omega))
      · rw [if_neg g]
        exact Or.inr ⟨c, rfl, by omega, by rw [w]; exact g, hG⟩
    · rw [if_neg (by omega)]
      unfold LB_Md_broken_124
      rw [if_pos (by omega), show ((c : Int) + 1) = ((c + 1 : Nat) : Int) by omega]
      exact ih nn (c + 1) (by omega) (by omega) (fun b hb => by
        by_cases e : b = c
        · have := hG (pcF fr to (2 * n) c) (by omega)
          rw [hid] at this
          rw [e]; exact this
        · exact hG b (by omega))
theorem M_broken (fl : Nat) (hfl : 200 ≤ fl) (hn : n ≤ 20) (h : EdgA n sg lb nm fr to at_) (A st : Nat → Int) (hA : ∀ y, y < n → A y = ((pcF fr to (2 * n) y : Nat) : Int)) (hst : rArr (rndz (tnz fr to at_) (4 * n) (4 * n)) st) :
    (LM_Md_broken fl (((rndz (tnz fr to at_) (4 * n) (4 * n)).2.1 : Nat) : Int) fr (n : Int) to st A = some (-1) ∧ All3 fr to n (rndz (tnz fr to at_) (4 * n) (4 * n))) ∨
    (∃ b : Nat, LM_Md_broken fl (((rndz (tnz fr to at_) (4 * n) (4 * n)).2.1 : Nat) : Int) fr (n : Int) to st A = some (b : Int) ∧ Bad3 fr to n (rndz (tnz fr to at_) (4 * n) (4 * n)) b) := by
  unfold LM_Md_broken LB_Md_broken_0
  exact mb2 fl hfl hn h A st hA hst n fl 0 (by omega) (by omega) (fun b hb => by omega)
theorem Bad3_one {s : (Nat → Int) × Nat × (Nat → Nat) × (Nat → Nat)} {b c : Nat} (h1 : Bad3 fr to n s b) (h2 : Bad3 fr to n s c) : b = c := by
  rcases Nat.lt_trichotomy b c with w | w | w
  · exact absurd (h2.2.2 b w) h1.2.1
  · exact w
  · exact absurd (h1.2.2 c w) h2.2.1
theorem Bad3_not {s : (Nat → Int) × Nat × (Nat → Nat) × (Nat → Nat)} {b : Nat} (h1 : Bad3 fr to n s b) (h2 : All3 fr to n s) : False := h1.2.1 (h2 b h1.1)
end
