/-- what the faces and crossings of a piece make: two, on a sphere -/
def facP (fr to : Nat → Int) (n : Nat) (s : (Nat → Int) × Nat × (Nat → Nat) × (Nat → Nat)) (r : Nat) (k : Nat) : Nat := cntP (fun f => pcF fr to (2 * n) ((fr (s.2.2.1 f / 2)).toNat / 4) == r) k
def croP (fr to : Nat → Int) (n : Nat) (r : Nat) (k : Nat) : Nat := cntP (fun c => pcF fr to (2 * n) c == r) k
/-- the least crossing of a piece that is on no sphere -/
def Bad3 (fr to : Nat → Int) (n : Nat) (s : (Nat → Int) × Nat × (Nat → Nat) × (Nat → Nat)) (c : Nat) : Prop := c < n ∧ facP fr to n s (pcF fr to (2 * n) c) s.2.1 ≠ croP fr to n (pcF fr to (2 * n) c) n + 2 ∧ ∀ b, b < c → facP fr to n s (pcF fr to (2 * n) b) s.2.1 = croP fr to n (pcF fr to (2 * n) b) n + 2
def All3 (fr to : Nat → Int) (n : Nat) (s : (Nat → Int) × Nat × (Nat → Nat) × (Nat → Nat)) : Prop := ∀ b, b < n → facP fr to n s (pcF fr to (2 * n) b) s.2.1 = croP fr to n (pcF fr to (2 * n) b) n + 2
section
variable {n : Nat} {sg lb nm fr to at_ : Nat → Int}
theorem st_lt (h : EdgA n sg lb nm fr to at_) {f : Nat} (hf : f < (rndz (tnz fr to at_) (4 * n) (4 * n)).2.1) : (rndz (tnz fr to at_) (4 * n) (4 * n)).2.2.1 f < 4 * n := ((rnd_ok (tn_closed h) (4 * n) (Nat.le_refl _)).2.2.2.2.1 f hf).1
theorem cnt_F (h : EdgA n sg lb nm fr to at_) : (rndz (tnz fr to at_) (4 * n) (4 * n)).2.1 ≤ 4 * n := (rnd_ok (tn_closed h) (4 * n) (Nat.le_refl _)).2.2.2.1
theorem pof (fl : Nat) (hn : n ≤ 20) (h : EdgA n sg lb nm fr to at_) (A : Nat → Int) (hA : ∀ y, y < n → A y = ((pcF fr to (2 * n) y : Nat) : Int)) {e : Nat} (he : e < 2 * n) : LM_Sh_pieceOfEdge fl fr A (e : Int) = some ((pcF fr to (2 * n) ((fr e).toNat / 4) : Nat) : Int) := by
  unfold LM_Sh_pieceOfEdge LB_Sh_pieceOfEdge_0
  obtain ⟨p, q, b1, b2, b3, b4, _⟩ := Edg_fr h he
  have e1 : Int.toNat (fr e / 4) = p / 4 := by omega
  have e2 : (fr e).toNat / 4 = p / 4 := by omega
  rw [if_pos (by omega), Int.toNat_natCast, if_pos (by omega), e1, e2, hA _ (by omega)]
theorem cs11 (fl : Nat) (hfl : 200 ≤ fl) (hn : n ≤ 20) (h : EdgA n sg lb nm fr to at_) (A st : Nat → Int) (hA : ∀ y, y < n → A y = ((pcF fr to (2 * n) y : Nat) : Int)) (hst : rArr (rndz (tnz fr to at_) (4 * n) (4 * n)) st) (br cu : Int) :
    ∀ (d nn f : Nat) (S : Nat → Int), f + d = (rndz (tnz fr to at_) (4 * n) (4 * n)).2.1 → d < nn → (∀ r, r < n → S r = (facP fr to n (rndz (tnz fr to at_) (4 * n) (4 * n)) r f : Int) - 2) →
    ∃ S', LB_Sh_checkSpheres_11 fl (((rndz (tnz fr to at_) (4 * n) (4 * n)).2.1 : Nat) : Int) st fr A nn (n : Int) (f : Int) br cu S = LB_Sh_checkSpheres_48 fl (((rndz (tnz fr to at_) (4 * n) (4 * n)).2.1 : Nat) : Int) st fr A fl (n : Int) 0 br cu S' ∧ (∀ r, r < n → S' r = (facP fr to n (rndz (tnz fr to at_) (4 * n) (4 * n)) r (rndz (tnz fr to at_) (4 * n) (4 * n)).2.1 : Int) - 2) := by
  have hF := cnt_F h
  intro d
  induction d with
  | zero =>
    intro nn f S hd hnn hS
    obtain ⟨nn, rfl⟩ : ∃ r, nn = r + 1 := ⟨nn - 1, by omega⟩
    rw [LB_Sh_checkSpheres_11, if_pos (by omega)]
    exact ⟨S, rfl, fun r hr => by rw [hS r hr, show f = (rndz (tnz fr to at_) (4 * n) (4 * n)).2.1 by omega]⟩
  | succ d ih =>
    intro nn f S hd hnn hS
    obtain ⟨nn, rfl⟩ : ∃ r, nn = r + 1 := ⟨nn - 1, by omega⟩
    have hs := st_lt h (show f < _ by omega)
    have hse := hst f (by omega)
    obtain ⟨p, q, b1, b2, b3, b4, _⟩ := Edg_fr h (show (rndz (tnz fr to at_) (4 * n) (4 * n)).2.2.1 f / 2 < 2 * n by omega)
    have hpl := pcF_le fr to (2 * n) ((fr ((rndz (tnz fr to at_) (4 * n) (4 * n)).2.2.1 f / 2)).toNat / 4)
    rw [LB_Sh_checkSpheres_11, if_neg (by omega), if_pos (by omega), Int.toNat_natCast, hse, show (((rndz (tnz fr to at_) (4 * n) (4 * n)).2.2.1 f : Int) / 2) = (((rndz (tnz fr to at_) (4 * n) (4 * n)).2.2.1 f / 2 : Nat) : Int) by omega, pof fl hn h A hA (by omega), Option.bind_some, if_pos (by omega), Int.toNat_natCast]
    have hr := hS (pcF fr to (2 * n) ((fr ((rndz (tnz fr to at_) (4 * n) (4 * n)).2.2.1 f / 2)).toNat / 4)) (by omega)
    have hb := cnt_lez (fun f => pcF fr to (2 * n) ((fr ((rndz (tnz fr to at_) (4 * n) (4 * n)).2.2.1 f / 2)).toNat / 4) == pcF fr to (2 * n) ((fr ((rndz (tnz fr to at_) (4 * n) (4 * n)).2.2.1 f / 2)).toNat / 4)) f
    have hb2 : facP fr to n (rndz (tnz fr to at_) (4 * n) (4 * n)) (pcF fr to (2 * n) ((fr ((rndz (tnz fr to at_) (4 * n) (4 * n)).2.2.1 f / 2)).toNat / 4)) f ≤ f := cnt_lez _ _
    rw [if_pos (by omega), show ((f : Int) + 1) = ((f + 1 : Nat) : Int) by omega]
    refine ih nn (f + 1) _ (by omega) (by omega) (fun r hr2 => ?_)
    have es : facP fr to n (rndz (tnz fr to at_) (4 * n) (4 * n)) r (f + 1) = facP fr to n (rndz (tnz fr to at_) (4 * n) (4 * n)) r f + (if (pcF fr to (2 * n) ((fr ((rndz (tnz fr to at_) (4 * n) (4 * n)).2.2.1 f / 2)).toNat / 4) == r) = true then 1 else 0) := rfl
    by_cases w : r = pcF fr to (2 * n) ((fr ((rndz (tnz fr to at_) (4 * n) (4 * n)).2.2.1 f / 2)).toNat / 4)
    · rw [w] at es ⊢
      rw [up_eq, es, if_pos (by simp), hr]; omega
    · rw [up_ne _ _ w, es, if_neg (by simp; exact fun w2 => w w2.symm), hS r hr2]; omega
theorem cs48 (fl : Nat) (hfl : 200 ≤ fl) (hn : n ≤ 20) (F : Int) (A st : Nat → Int) (hA : ∀ y, y < n → A y = ((pcF fr to (2 * n) y : Nat) : Int)) (br cu : Int) (g : Nat → Int) (hg : ∀ r, r < n → -100 ≤ g r ∧ g r ≤ 100) :
    ∀ (d nn c : Nat) (S : Nat → Int), c + d = n → d < nn → (∀ r, r < n → S r = g r - (croP fr to n r c : Int)) →
    ∃ S', LB_Sh_checkSpheres_48 fl F st fr A nn (n : Int) (c : Int) br cu S = LB_Sh_checkSpheres_76 fl F st fr A fl (n : Int) 0 br cu S' ∧ (∀ r, r < n → S' r = g r - (croP fr to n r n : Int)) := by
  intro d
  induction d with
  | zero =>
    intro nn c S hd hnn hS
    obtain ⟨nn, rfl⟩ : ∃ r, nn = r + 1 := ⟨nn - 1, by omega⟩
    rw [LB_Sh_checkSpheres_48, if_pos (by omega)]
    exact ⟨S, rfl, fun r hr => by rw [hS r hr, show c = n by omega]⟩
  | succ d ih =>
    intro nn c S hd hnn hS
    obtain ⟨nn, rfl⟩ : ∃ r, nn = r + 1 := ⟨nn - 1, by omega⟩
    have hpl := pcF_le fr to (2 * n) c
    have hr := hS (pcF fr to (2 * n) c) (by omega)
    have hgr := hg (pcF fr to (2 * n) c) (by omega)
    have hb2 : croP fr to n (pcF fr to (2 * n) c) c ≤ c := cnt_lez _ _
    rw [LB_Sh_checkSpheres_48, if_neg (by omega), if_pos (by omega), Int.toNat_natCast, hA c (by omega), if_pos (by omega), Int.toNat_natCast, if_pos (by omega), show ((c : Int) + 1) = ((c + 1 : Nat) : Int) by omega]
    refine ih nn (c + 1) _ (by omega) (by omega) (fun r hr2 => ?_)
    have es : croP fr to n r (c + 1) = croP fr to n r c + (if (pcF fr to (2 * n) c == r) = true then 1 else 0) := rfl
    by_cases w : r = pcF fr to (2 * n) c
    · rw [w] at es ⊢
      rw [up_eq, es, if_pos (by simp), hr]; omega
    · rw [up_ne _ _ w, es, if_neg (by simp; exact fun w2 => w w2.symm), hS r hr2]; omega
theorem cs76 (fl : Nat) (hfl : 200 ≤ fl) (hn : n ≤ 20) (F : Int) (A st : Nat → Int) (hA : ∀ y, y < n → A y = ((pcF fr to (2 * n) y : Nat) : Int)) (cu : Int) (S : Nat → Int) :
    ∀ (d nn c : Nat), c + d = n → d < nn → (∀ b, b < c → S (pcF fr to (2 * n) b) = 0) →
    (LB_Sh_checkSpheres_76 fl F st fr A nn (n : Int) (c : Int) 0 cu S = some (0, cu, S) ∧ (∀ b, b < n → S (pcF fr to (2 * n) b) = 0)) ∨
    (∃ b : Nat, LB_Sh_checkSpheres_76 fl F st fr A nn (n : Int) (c : Int) 0 cu S = some (3, (b : Int), S) ∧ b < n ∧ S (pcF fr to (2 * n) b) ≠ 0 ∧ ∀ b', b' < b → S (pcF fr to (2 * n) b') = 0) := by
  intro d
  induction d with
  | zero =>
    intro nn c hd hnn hS
    obtain ⟨nn, rfl⟩ : ∃ r, nn = r + 1 := ⟨nn - 1, by omega⟩
    rw [LB_Sh_checkSpheres_76, if_pos (by omega)]
    exact Or.inl ⟨rfl, fun b hb => hS b (by omega)⟩
  | succ d ih =>
    intro nn c hd hnn hS
    obtain ⟨nn, rfl⟩ : ∃ r, nn = r + 1 := ⟨nn - 1, by omega⟩
    have hpl := pcF_le fr to (2 * n) c
    rw [LB_Sh_checkSpheres_76, if_neg (by omega), if_neg (by decide), if_pos (by omega), Int.toNat_natCast, hA c (by omega), if_pos (by omega), Int.toNat_natCast]
    unfold LB_Sh_checkSpheres_109
    by_cases w : S (pcF fr to (2 * n) c) = 0
    · rw [if_pos w, if_pos (by omega), show ((c : Int) + 1) = ((c + 1 : Nat) : Int) by omega]
      exact ih nn (c + 1) (by omega) (by omega) (fun b hb => by
        by_cases e : b = c
        · rw [e]; exact w
        · exact hS b (by omega))
    · have brk : LM_Sh_breaks fl 3 (c : Int) 0 cu = some (0, 3, (c : Int)) := rfl
      rw [if_neg w, brk, Option.bind_some, if_pos (by omega), show ((c : Int) + 1) = ((c + 1 : Nat) : Int) by omega]
      refine Or.inr ⟨c, ?_, by omega, w, hS⟩
      obtain ⟨nn, rfl⟩ : ∃ r, nn = r + 1 := ⟨nn - 1, by omega⟩
      rw [LB_Sh_checkSpheres_76]
      by_cases e : (n : Int) ≤ ((c + 1 : Nat) : Int)
      · rw [if_pos e]
      · rw [if_neg e, if_pos (show ¬ (3 : Int) = 0 by decide)]
theorem C_checkSpheres (fl : Nat) (hfl : 200 ≤ fl) (hn : n ≤ 20) (h : EdgA n sg lb nm fr to at_) (A st S : Nat → Int) (hA : ∀ y, y < n → A y = ((pcF fr to (2 * n) y : Nat) : Int)) (hst : rArr (rndz (tnz fr to at_) (4 * n) (4 * n)) st) (cu : Int) :
    (∃ S', LM_Sh_checkSpheres fl (((rndz (tnz fr to at_) (4 * n) (4 * n)).2.1 : Nat) : Int) st fr A (n : Int) 0 cu S = some (0, cu, S') ∧ All3 fr to n (rndz (tnz fr to at_) (4 * n) (4 * n))) ∨
    (∃ (c : Nat) (S' : Nat → Int), LM_Sh_checkSpheres fl (((rndz (tnz fr to at_) (4 * n) (4 * n)).2.1 : Nat) : Int) st fr A (n : Int) 0 cu S = some (3, (c : Int), S') ∧ Bad3 fr to n (rndz (tnz fr to at_) (4 * n) (4 * n)) c) := by
  unfold LM_Sh_checkSpheres LB_Sh_checkSpheres_0
  have hF := cnt_F h
  obtain ⟨S1, h1, h2⟩ := cs11 fl hfl hn h A st hA hst 0 cu (rndz (tnz fr to at_) (4 * n) (4 * n)).2.1 fl 0 (fillF S 80 (-2)) (by omega) (by omega) (fun r hr => by unfold fillF; rw [if_pos (by omega)]; rfl)
  rw [show ((0 : Nat) : Int) = 0 from rfl] at h1
  rw [h1]
  obtain ⟨S2, h3, h4⟩ := cs48 fl hfl hn (((rndz (tnz fr to at_) (4 * n) (4 * n)).2.1 : Nat) : Int) A st hA 0 cu (fun r => (facP fr to n (rndz (tnz fr to at_) (4 * n) (4 * n)) r (rndz (tnz fr to at_) (4 * n) (4 * n)).2.1 : Int) - 2) (fun r hr => by
    have : facP fr to n (rndz (tnz fr to at_) (4 * n) (4 * n)) r (rndz (tnz fr to at_) (4 * n) (4 * n)).2.1 ≤ (rndz (tnz fr to at_) (4 * n) (4 * n)).2.1 := cnt_lez _ _
    show -100 ≤ (_ : Int) - 2 ∧ (_ : Int) - 2 ≤ 100
    omega) n fl 0 S1 (by omega) (by omega) (fun r hr => by rw [h2 r hr]; show _ = _ - ((0 : Nat) : Int); omega)
  rw [show ((0 : Nat) : Int) = 0 from rfl] at h3
  rw [h3]
  have key : ∀ b, b < n → (S2 (pcF fr to (2 * n) b) = 0 ↔ facP fr to n (rndz (tnz fr to at_) (4 * n) (4 * n)) (pcF fr to (2 * n) b) (rndz (tnz fr to at_) (4 * n) (4 * n)).2.1 = croP fr to n (pcF fr to (2 * n) b) n + 2) := fun b hb => by
    have := pcF_le fr to (2 * n) b
    rw [h4 _ (by omega)]
    show (_ : Int) - 2 - _ = 0 ↔ _
    omega
  rcases cs76 (fr := fr) (to := to) fl hfl hn (((rndz (tnz fr to at_) (4 * n) (4 * n)).2.1 : Nat) : Int) A st hA cu S2 n fl 0 (by omega) (by omega) (fun b hb => by omega) with ⟨g1, g2⟩ | ⟨b, g1, g2, g3, g4⟩
  · exact Or.inl ⟨S2, g1, fun b hb => (key b hb).1 (g2 b hb)⟩
  · exact Or.inr ⟨b, S2, g1, g2, fun w => g3 ((key b g2).2 w), fun b' hb' => (key b' (by omega)).1 (g4 b' hb')⟩
end
