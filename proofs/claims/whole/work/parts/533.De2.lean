/-- at how many of its endsz an edge is upper -/
def upp (fr to : Nat → Int) (e : Nat) : Nat := (if (fr e).toNat % 2 = 1 then 1 else 0) + (if (to e).toNat % 2 = 1 then 1 else 0)
/-- what canz be done at a face -/
def deedS (fr to at_ : Nat → Int) (s k : Nat) : Int :=
  if k = 1 then 1 else if 3 < k then 0
  else if k = 2 then (if arrz fr to s / 4 ≠ arrz fr to (tnz fr to at_ s) / 4 ∧ (upp fr to (s / 2) = 2 ∧ upp fr to (tnz fr to at_ s / 2) = 0 ∨ upp fr to (s / 2) = 0 ∧ upp fr to (tnz fr to at_ s / 2) = 2) then 2 else 0)
  else (if (arrz fr to s / 4 ≠ arrz fr to (tnz fr to at_ s) / 4 ∧ arrz fr to (tnz fr to at_ s) / 4 ≠ arrz fr to (tnz fr to at_ (tnz fr to at_ s)) / 4 ∧ arrz fr to s / 4 ≠ arrz fr to (tnz fr to at_ (tnz fr to at_ s)) / 4) ∧
    (upp fr to (s / 2) = 2 ∨ upp fr to (tnz fr to at_ s / 2) = 2 ∨ upp fr to (tnz fr to at_ (tnz fr to at_ s) / 2) = 2) ∧ (upp fr to (s / 2) = 0 ∨ upp fr to (tnz fr to at_ s / 2) = 0 ∨ upp fr to (tnz fr to at_ (tnz fr to at_ s) / 2) = 0) ∧ (upp fr to (s / 2) = 1 ∨ upp fr to (tnz fr to at_ s / 2) = 1 ∨ upp fr to (tnz fr to at_ (tnz fr to at_ s) / 2) = 1) then 3 else 0)
theorem upp_le (fr to : Nat → Int) (e : Nat) : upp fr to e ≤ 2 := by unfold upp; split <;> split <;> omega
section
variable {n : Nat} {sg lb nm fr to at_ : Nat → Int}
theorem deed_step (fl : Nat) (hn : n ≤ 20) (h : EdgA n sg lb nm fr to at_) (sz st : Nat → Int) (nn : Nat) (x1 : Int) (k i : Nat) (hi : i < k) (hk : k ≤ 3) (x3 x4 x5 : Int) (h3 : 0 ≤ x3 ∧ x3 ≤ 10) (h4 : 0 ≤ x4 ∧ x4 ≤ 10) {d : Nat} (hd : d < 4 * n) :
    LB_Sh_deed_40 fl at_ sz st fr to (nn + 1) x1 (k : Int) x3 x4 x5 (d : Int) (i : Int) = LB_Sh_deed_40 fl at_ sz st fr to nn x1 (k : Int) (x3 + (if upp fr to (d / 2) = 2 then 1 else 0)) (x4 + (if upp fr to (d / 2) = 0 then 1 else 0)) (ior x5 (ishl 1 (((arrz fr to d / 4 : Nat) : Int) % 32))) ((tnz fr to at_ d : Nat) : Int) ((i + 1 : Nat) : Int) := by
  obtain ⟨p, q, b1, b2, b3, b4, _⟩ := Edg_fr h (show d / 2 < 2 * n by omega)
  have e : Int.toNat ((d : Int) / 2) = d / 2 := by omega
  have ea := (arr_ok h hd).1
  have ed4 : (((arrz fr to d : Nat) : Int) / 4) = ((arrz fr to d / 4 : Nat) : Int) := by omega
  rw [LB_Sh_deed_40, if_neg (by omega), if_pos (by omega), e, b3, C_up, Option.bind_some]
  unfold LB_Sh_deed_83 LB_Sh_deed_84 LB_Sh_deed_114 LB_Sh_deed_119
  rw [show ((d : Int) / 2) = ((d / 2 : Nat) : Int) by omega]
  rw [if_pos (show 0 ≤ ((d / 2 : Nat) : Int) ∧ ((d / 2 : Nat) : Int) < 40 by omega)]
  simp only [Int.toNat_natCast, b3, b4, C_up, Option.bind_some, C_arrival fl hn h hd, C_nextDart fl hn h hd, ed4]
  have eu : upp fr to (d / 2) = (if p % 2 = 1 then 1 else 0) + (if q % 2 = 1 then 1 else 0) := by unfold upp; rw [b3, b4, Int.toNat_natCast, Int.toNat_natCast]
  rw [eu, show ((i : Int) + 1) = ((i + 1 : Nat) : Int) by omega]
  by_cases c1 : p % 2 = 1
  · by_cases c2 : q % 2 = 1
    · simp [c1, c2]
      repeat rw [if_pos (by omega)]
    · simp [c1, c2]
      repeat rw [if_pos (by omega)]
  · by_cases c2 : q % 2 = 1
    · simp [c1, c2]
      repeat rw [if_pos (by omega)]
    · simp [c1, c2]
      repeat rw [if_pos (by omega)]
theorem C_deed (fl : Nat) (hfl : 200 ≤ fl) (hn : n ≤ 20) (h : EdgA n sg lb nm fr to at_) (sz st : Nat → Int) {f s k : Nat} (hf : f < 80) (hs : st f = (s : Int)) (hz : sz f = (k : Int)) (hs4 : s < 4 * n) (hk : 1 ≤ k) :
    LM_Sh_deed fl at_ sz st fr to (f : Int) = some (deedS fr to at_ s k) := by
  unfold LM_Sh_deed LB_Sh_deed_0
  have hy := (tn_closed h).1 s hs4
  have hz2 := (tn_closed h).1 _ hy
  have ax := (arr_ok h hs4).1
  have ay := (arr_ok h hy).1
  have az := (arr_ok h hz2).1
  have u1 := upp_le fr to (s / 2)
  have u2 := upp_le fr to (tnz fr to at_ s / 2)
  have u3 := upp_le fr to (tnz fr to at_ (tnz fr to at_ s) / 2)
  rw [if_pos (by omega), Int.toNat_natCast, hz, hs]
  unfold deedS
  by_cases k1 : k = 1
  · rw [if_neg (by omega), if_pos k1]
  · rw [if_pos (by omega), if_neg k1]
    by_cases k3 : 3 < k
    · rw [if_neg (by omega), if_pos k3]
    · rw [if_pos (by omega), if_neg k3]
      obtain ⟨fl', e⟩ : ∃ r, fl = r + 4 := ⟨fl - 4, by omega⟩
      have bc : ∀ x, LM_Int_bitCount fl x = LM_Int_bitCount 0 x := fun x => rfl
      have run : LB_Sh_deed_40 fl at_ sz st fr to fl (f : Int) (k : Int) 0 0 0 (s : Int) 0 = LB_Sh_deed_40 fl at_ sz st fr to (fl' + 3 + 1) (f : Int) (k : Int) 0 0 0 (s : Int) ((0 : Nat) : Int) := by rw [show fl' + 3 + 1 = fl by omega]; rfl
      rw [run, deed_step fl hn h sz st (fl' + 3) (f : Int) k 0 (by omega) (by omega) 0 0 0 (by omega) (by omega) hs4]
      rw [show fl' + 3 = fl' + 2 + 1 by omega, deed_step fl hn h sz st (fl' + 2) (f : Int) k 1 (by omega) (by omega) _ _ _ (by split <;> omega) (by split <;> omega) hy]
      by_cases k2 : k = 2
      · rw [if_pos k2, show fl' + 2 = fl' + 1 + 1 by omega, LB_Sh_deed_40, if_pos (by omega), bc, bits2 _ (by omega) _ (by omega), Option.bind_some, k2]
        generalize arrz fr to s / 4 = a at *
        generalize arrz fr to (tnz fr to at_ s) / 4 = b at *
        generalize upp fr to (s / 2) = u at *
        generalize upp fr to (tnz fr to at_ s / 2) = v at *
        have hu : u = 0 ∨ u = 1 ∨ u = 2 := by omega
        have hv : v = 0 ∨ v = 1 ∨ v = 2 := by omega
        by_cases ab : a = b
        · simp only [ab]
          rcases hu with rfl | rfl | rfl <;> rcases hv with rfl | rfl | rfl <;> simp
        · rcases hu with rfl | rfl | rfl <;> rcases hv with rfl | rfl | rfl <;> simp [ab]
      · rw [if_neg k2, show fl' + 2 = fl' + 1 + 1 by omega, deed_step fl hn h sz st (fl' + 1) (f : Int) k 2 (by omega) (by omega) _ _ _ (by split <;> split <;> omega) (by split <;> split <;> omega) hz2, LB_Sh_deed_40, if_pos (by omega), bc, bits3 _ (by omega) _ (by omega) _ (by omega), Option.bind_some, show k = 3 by omega]
        generalize arrz fr to s / 4 = a at *
        generalize arrz fr to (tnz fr to at_ s) / 4 = b at *
        generalize arrz fr to (tnz fr to at_ (tnz fr to at_ s)) / 4 = c at *
        generalize upp fr to (s / 2) = u at *
        generalize upp fr to (tnz fr to at_ s / 2) = v at *
        generalize upp fr to (tnz fr to at_ (tnz fr to at_ s) / 2) = w at *
        have hu : u = 0 ∨ u = 1 ∨ u = 2 := by omega
        have hv : v = 0 ∨ v = 1 ∨ v = 2 := by omega
        have hw : w = 0 ∨ w = 1 ∨ w = 2 := by omega
        by_cases ab : a = b
        · by_cases ac : a = c
          · rcases hu with rfl | rfl | rfl <;> rcases hv with rfl | rfl | rfl <;> rcases hw with rfl | rfl | rfl <;> simp [ab, ac] <;> (split <;> omega)
          · rcases hu with rfl | rfl | rfl <;> rcases hv with rfl | rfl | rfl <;> rcases hw with rfl | rfl | rfl <;> simp [ab, ac] <;> (split <;> omega)
        · by_cases ac : a = c ∨ b = c
          · have ndz : ¬ (a ≠ b ∧ b ≠ c ∧ a ≠ c) := by omega
            simp only [if_neg ab, if_pos ac]
            rw [if_neg (show ¬ ((a ≠ b ∧ b ≠ c ∧ a ≠ c) ∧ _) from fun w => ndz w.1)]
            rcases hu with rfl | rfl | rfl <;> rcases hv with rfl | rfl | rfl <;> rcases hw with rfl | rfl | rfl <;> simp
          · have n1 : b ≠ c := by omega
            have n2 : a ≠ c := by omega
            simp only [if_neg ab, if_neg ac]
            rcases hu with rfl | rfl | rfl <;> rcases hv with rfl | rfl | rfl <;> rcases hw with rfl | rfl | rfl <;> simp [ab, n1, n2]
theorem M_uppers (fl : Nat) (hn : n ≤ 20) (h : EdgA n sg lb nm fr to at_) {e : Nat} (he : e < 2 * n) : LM_Md_uppers fl fr to (e : Int) = some ((upp fr to e : Nat) : Int) := by
  unfold LM_Md_uppers LB_Md_uppers_0 LB_Md_uppers_17
  obtain ⟨p, q, b1, b2, b3, b4, _⟩ := Edg_fr h he
  have eu : upp fr to e = (if p % 2 = 1 then 1 else 0) + (if q % 2 = 1 then 1 else 0) := by unfold upp; rw [b3, b4, Int.toNat_natCast, Int.toNat_natCast]
  have g : 0 ≤ (e : Int) ∧ (e : Int) < 48 := by omega
  rw [eu, if_pos g, Int.toNat_natCast, b3, M_up, Option.bind_some, if_pos g, if_pos g, b4, M_up, Option.bind_some, Option.bind_some]
  by_cases c1 : p % 2 = 1 <;> by_cases c2 : q % 2 = 1 <;> simp [c1, c2]
theorem do13 (fl : Nat) (hn : n ≤ 20) (h : EdgA n sg lb nm fr to at_) (st : Nat → Int) {f s k : Nat} (hf : f < 96) (hs : st f = (s : Int)) (hs4 : s < 4 * n) (hk : k ≤ 80) (hit : it (tnz fr to at_) k s = s) (hne : ∀ j, 0 < j → j < k → it (tnz fr to at_) j s ≠ s) :
    ∀ (d nn j : Nat), j + d = k → 0 < j → d < nn → LB_Md_dartsOf_13 fl fr to st at_ nn (f : Int) (j : Int) ((it (tnz fr to at_) j s : Nat) : Int) = some (k : Int) := by
  intro d
  induction d with
  | zero =>
    intro nn j hd hj hnn
    obtain ⟨nn, rfl⟩ : ∃ r, nn = r + 1 := ⟨nn - 1, by omega⟩
    have : j = k := by omega
    subst this
    rw [LB_Md_dartsOf_13, if_pos (by omega), Int.toNat_natCast, hs, if_pos (by rw [hit])]
  | succ d ih =>
    intro nn j hd hj hnn
    obtain ⟨nn, rfl⟩ : ∃ r, nn = r + 1 := ⟨nn - 1, by omega⟩
    have hl := it_lt (tn_closed h) hs4 j
    have := hne j hj (by omega)
    rw [LB_Md_dartsOf_13, if_pos (by omega), Int.toNat_natCast, hs, if_neg (by omega), M_turn fl hn h hl, Option.bind_some, if_pos (by omega), show ((j : Int) + 1) = ((j + 1 : Nat) : Int) by omega]
    exact ih nn (j + 1) (by omega) (by omega) (by omega)
theorem M_dartsOf (fl : Nat) (hfl : 200 ≤ fl) (hn : n ≤ 20) (h : EdgA n sg lb nm fr to at_) (st : Nat → Int) {f s k : Nat} (hf : f < 96) (hs : st f = (s : Int)) (hs4 : s < 4 * n) (hk : k ≤ 80) (hk1 : 1 ≤ k) (hit : it (tnz fr to at_) k s = s) (hne : ∀ j, 0 < j → j < k → it (tnz fr to at_) j s ≠ s) : LM_Md_dartsOf fl fr to st at_ (f : Int) = some (k : Int) := by
  unfold LM_Md_dartsOf LB_Md_dartsOf_0
  rw [if_pos (by omega), Int.toNat_natCast, hs, M_turn fl hn h hs4, Option.bind_some]
  exact do13 fl hn h st hf hs hs4 hk hit hne (k - 1) fl 1 (by omega) (by omega) (by omega)
theorem M_what (fl : Nat) (hfl : 200 ≤ fl) (hn : n ≤ 20) (h : EdgA n sg lb nm fr to at_) (st : Nat → Int) {f s k : Nat} (hf : f < 96) (hs : st f = (s : Int)) (hs4 : s < 4 * n) (hk : k ≤ 80) (hk1 : 1 ≤ k) (hit : it (tnz fr to at_) k s = s) (hne : ∀ j, 0 < j → j < k → it (tnz fr to at_) j s ≠ s) : LM_Md_what fl fr to st at_ (f : Int) = some (deedS fr to at_ s k) := by
  unfold LM_Md_what LB_Md_what_0
  have hy := (tn_closed h).1 s hs4
  have hz2 := (tn_closed h).1 _ hy
  rw [M_dartsOf fl hfl hn h st hf hs hs4 hk hk1 hit hne, Option.bind_some]
  unfold deedS LB_Md_what_16
  by_cases k1 : k = 1
  · rw [if_pos (by omega), if_neg (by omega), if_pos k1]
  · rw [if_neg (by omega), if_neg k1]
    by_cases k3 : 3 < k
    · rw [if_neg (by omega), if_pos (by omega), if_pos k3]
    · have q1 : ∀ x : Nat, ((x : Int) / 4) = ((x / 4 : Nat) : Int) := fun x => by omega
      have q2 : ∀ x : Nat, ((x : Int) / 2) = ((x / 2 : Nat) : Int) := fun x => by omega
      rw [if_pos (by omega), if_neg k3, if_pos (by omega), Int.toNat_natCast, hs, M_turn fl hn h hs4, Option.bind_some, M_turn fl hn h hy, Option.bind_some, M_arrives fl hn h hs4, Option.bind_some, M_arrives fl hn h hy, Option.bind_some, M_arrives fl hn h hz2, Option.bind_some, q2 s, M_uppers fl hn h (show s / 2 < 2 * n by omega), Option.bind_some, q2 (tnz fr to at_ s), M_uppers fl hn h (show tnz fr to at_ s / 2 < 2 * n by omega), Option.bind_some, q2 (tnz fr to at_ (tnz fr to at_ s)), M_uppers fl hn h (show tnz fr to at_ (tnz fr to at_ s) / 2 < 2 * n by omega), Option.bind_some]
      unfold LB_Md_what_165 LB_Md_what_180 LB_Md_what_202 LB_Md_what_198 LB_Md_what_203 LB_Md_what_130 LB_Md_what_141
      simp only [q1]
      have u1 := upp_le fr to (s / 2)
      have u2 := upp_le fr to (tnz fr to at_ s / 2)
      have u3 := upp_le fr to (tnz fr to at_ (tnz fr to at_ s) / 2)
      generalize arrz fr to s / 4 = a at *
      generalize arrz fr to (tnz fr to at_ s) / 4 = b at *
      generalize arrz fr to (tnz fr to at_ (tnz fr to at_ s)) / 4 = c at *
      generalize upp fr to (s / 2) = u at *
      generalize upp fr to (tnz fr to at_ s / 2) = v at *
      generalize upp fr to (tnz fr to at_ (tnz fr to at_ s) / 2) = w at *
      have hu : u = 0 ∨ u = 1 ∨ u = 2 := by omega
      have hv : v = 0 ∨ v = 1 ∨ v = 2 := by omega
      have hw : w = 0 ∨ w = 1 ∨ w = 2 := by omega
      have ia : ((a : Int) = (b : Int)) ↔ a = b := by omega
      have ib : ((b : Int) = (c : Int)) ↔ b = c := by omega
      have ic : ((a : Int) = (c : Int)) ↔ a = c := by omega
      simp only [ia, ib, ic]
      by_cases k2 : k = 2
      · rw [if_neg (by omega), if_pos k2]
        by_cases ab : a = b
        · rw [if_pos ab, if_neg (fun w => w.1 ab)]
        · rw [if_neg ab]
          rcases hu with rfl | rfl | rfl <;> rcases hv with rfl | rfl | rfl <;> simp [ab]
      · rw [if_pos (by omega), if_neg k2]
        by_cases ab : a = b
        · rcases hu with rfl | rfl | rfl <;> rcases hv with rfl | rfl | rfl <;> rcases hw with rfl | rfl | rfl <;> simp [ab]
        · by_cases bc : b = c
          · rcases hu with rfl | rfl | rfl <;> rcases hv with rfl | rfl | rfl <;> rcases hw with rfl | rfl | rfl <;> simp [bc]
          · by_cases ac : a = c
            · rcases hu with rfl | rfl | rfl <;> rcases hv with rfl | rfl | rfl <;> rcases hw with rfl | rfl | rfl <;> simp [ab, ac]
            · rcases hu with rfl | rfl | rfl <;> rcases hv with rfl | rfl | rfl <;> rcases hw with rfl | rfl | rfl <;> simp [ab, bc, ac]
end
