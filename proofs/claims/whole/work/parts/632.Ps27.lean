theorem ibyte_s {b : Int} (h : -128 ≤ b ∧ b < 128) : ibyte b = b := by
  unfold ibyte
  rw [Int8.toInt_ofInt]
  exact Int.bmod_eq_of_le (by simp; omega) (by simp; omega)
/-- what the reference's read answers -/
def RRM (n : Int) (r : (List Lin) ⊕ (Int × Nat)) (X : Option (Int × Int × Int × Int × Int × Int × Int × Int × Int × Int × Int × Int × (Nat → Int) × (Nat → Int) × (Nat → Int) × (Nat → Int))) : Prop := match r with
  | .inl L => ∃ at_ tm fr pa bg ks nu tt, X = some ((L.length : Int), 0, n, at_, tm, fr, 1, 0, -1, (L.length : Int), 0, pa, bg, ks, nu, tt) ∧ LiM L bg ks nu ∧ bg L.length = ((tot L : Nat) : Int) ∧ L.length ≤ 64
  | .inr e => ∃ at_ tm fr pa bg ks nu tt, X = some (-1, 0, n, at_, tm, fr, 1, e.1, (e.2 : Int), 0, 0, pa, bg, ks, nu, tt)
theorem sText_ne {tx : Nat → Int} {sz : Nat} : ∀ (d b : Nat) (L : List Lin) (e : Int × Nat), sText tx sz d b L = .inr e → e.1 ≠ 0 := by
  intro d
  induction d with
  | zero => intro b L e h; cases h
  | succ d ih =>
    intro b L e h
    unfold sText at h
    split at h
    · cases h
    · split at h
      · exact ih _ _ _ h
      · split at h
        · rw [← Sum.inr.inj h]; exact refC_ne tx sz _ (by decide)
        · split at h
          · rw [← Sum.inr.inj h]; exact refC_ne tx sz _ (by decide)
          · cases er : sLine tx sz (kw tx sz (idl tx sz b)) (nxt tx sz (idl tx sz b)) with
            | inl a => rw [er] at h; exact ih _ _ _ h
            | inr e2 =>
              rw [er] at h
              have := ok_line tx sz _ _ e2 er
              rw [← Sum.inr.inj h]; exact this
theorem M_read17 (fl : Nat) (hfl : 12000 ≤ fl) {tx tp : Nat → Int} {n : Nat} (hn : n ≤ 4000) (ht : TXT tx tp n) (hb : ∀ i, i < n → -128 ≤ tp i ∧ tp i < 128) (x3 x4 x5 x6 x7 x8 x9 x10 x11 x12 : Int) (x13 : Int) (bg ks nu : Nat → Int) :
    ∀ (d nn i : Nat) (tt : Nat → Int), i + d = n → d < nn → (∀ j, j < i → tt j = tp j) →
    RRM (n : Int) (sText tx n n 0 []) (LB_Md_read_17 fl tp nn (n : Int) (i : Int) x3 x4 x5 x6 x7 x8 x9 x10 x11 x12 x13 bg ks nu tt) := by
  intro d
  induction d with
  | zero =>
    intro nn i tt hi hnn h
    obtain ⟨nn, rfl⟩ : ∃ r, nn = r + 1 := ⟨nn - 1, by omega⟩
    have ht2 : TXT tx tt n := fun j hj => by rw [h j (by omega)]; exact ht j hj
    have key := M_text fl (by omega) hn ht2 0 n fl 0 x6 x7 bg ks nu [] (by omega) (by omega) (by omega) (by show 0 ≤ 64; omega) (by show 0 ≤ 0; omega) (fun i hi => absurd hi (by show ¬ i < 0; omega))
    rw [LB_Md_read_17, if_pos (by omega)]
    unfold LM_Md_readText LB_Md_readText_0
    cases er : sText tx n n 0 [] with
    | inl L =>
      rw [er] at key
      obtain ⟨a1, t1, f1, p1, b1, k1, u1, m1, m2, m3, m4⟩ := key
      have m1' : LB_Md_readText_32 fl (n : Int) tt fl 1 0 x6 x7 0 (-1) 0 0 0 bg ks nu = some (a1, t1, f1, 0, -1, (L.length : Int), 0, p1, b1, k1, u1) := m1
      rw [m1', Option.bind_some, if_pos rfl]
      exact ⟨_, _, _, _, _, _, _, _, rfl, m2, m3, m4⟩
    | inr e =>
      have he := sText_ne n 0 [] e er
      rw [er] at key
      obtain ⟨a1, t1, f1, p1, b1, k1, u1, m1⟩ := key
      have m1' : LB_Md_readText_32 fl (n : Int) tt fl 1 0 x6 x7 0 (-1) 0 0 0 bg ks nu = some (a1, t1, f1, e.1, (e.2 : Int), 0, 0, p1, b1, k1, u1) := m1
      rw [m1', Option.bind_some, if_neg he]
      exact ⟨_, _, _, _, _, _, _, _, rfl⟩
  | succ d ih =>
    intro nn i tt hi hnn h
    obtain ⟨nn, rfl⟩ : ∃ r, nn = r + 1 := ⟨nn - 1, by omega⟩
    rw [LB_Md_read_17, if_neg (by omega), if_pos (by omega), if_pos (by omega), Int.toNat_natCast, ibyte_s (hb i (by omega)), show ((i : Int) + 1) = ((i + 1 : Nat) : Int) by omega]
    refine ih nn (i + 1) _ (by omega) (by omega) (fun j hj => ?_)
    by_cases c : j = i
    · rw [c, up_eq]
    · rw [up_ne _ _ c]; exact h j (by omega)
theorem M_read (fl : Nat) (hfl : 12000 ≤ fl) {tx tp : Nat → Int} {n : Nat} {tp0 : Int} (hn : (n : Int) ≤ tp0) (h4 : tp0 ≤ 4000) (ht : TXT tx tp n) (hb : ∀ i, i < n → -128 ≤ tp i ∧ tp i < 128) (x4 x5 x6 x7 x8 x9 x10 x11 x12 x13 : Int) (bg ks nu tt : Nat → Int) :
    RRM (n : Int) (sText tx n n 0 []) (LM_Md_read fl tp (n : Int) tp0 x4 x5 x6 x7 x8 x9 x10 x11 x12 x13 bg ks nu tt) := by
  unfold LM_Md_read LB_Md_read_0
  rw [if_neg (by omega), if_pos hn]
  exact M_read17 fl hfl (by omega) ht hb _ _ _ _ _ _ _ _ _ _ _ bg ks nu n fl 0 tt (by omega) (by omega) (fun j hj => by omega)
