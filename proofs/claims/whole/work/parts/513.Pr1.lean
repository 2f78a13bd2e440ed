/-- the class's paper: size, overflown, bytes -/
abbrev Pap := Int × Int × (Nat → Int)
def pp : List Int → Pap → Pap
  | [], s => s
  | b :: l, s => pp l (if 4000 ≤ s.1 then (s.1, 1, s.2.2) else (s.1 + 1, s.2.1, up s.2.2 s.1.toNat b))
/-- the reference's: size, bytes -/
def mm : List Int → Int × (Nat → Int) → Int × (Nat → Int)
  | [], s => s
  | b :: l, s => mm l (s.1 + 1, up s.2 s.1.toNat b)
theorem pp_app : ∀ (l k : List Int) (s : Pap), pp (l ++ k) s = pp k (pp l s) := by
  intro l
  induction l with
  | nil => intro k s; rfl
  | cons b l ih => intro k s; exact ih k _
theorem mm_app : ∀ (l k : List Int) (s : Int × (Nat → Int)), mm (l ++ k) s = mm k (mm l s) := by
  intro l
  induction l with
  | nil => intro k s; rfl
  | cons b l ih => intro k s; exact ih k _
def pok (s : Pap) : Prop := 0 ≤ s.1 ∧ s.1 ≤ 4000
theorem pok_pp : ∀ (l : List Int) (s : Pap), pok s → pok (pp l s) := by
  intro l
  induction l with
  | nil => intro s h; exact h
  | cons b l ih =>
    intro s h
    refine ih _ ?_
    unfold pok at *
    split
    · exact h
    · exact ⟨by show 0 ≤ s.1 + 1; omega, by show s.1 + 1 ≤ 4000; omega⟩
theorem mm_size : ∀ (l : List Int) (s : Int × (Nat → Int)), (mm l s).1 = s.1 + (l.length : Int) := by
  intro l
  induction l with
  | nil => intro s; exact (Int.add_zero _).symm
  | cons b l ih => intro s; show (mm l _).1 = _; rw [ih]; show s.1 + 1 + (l.length : Int) = _; rw [List.length_cons]; omega
def asc (l : List Int) : Prop := ∀ b, b ∈ l → 0 ≤ b ∧ b < 128
theorem asc_app {l k : List Int} (h1 : asc l) (h2 : asc k) : asc (l ++ k) := fun b hb => by
  rcases List.mem_append.1 hb with h | h
  · exact h1 b h
  · exact h2 b h
theorem asc_cons {b : Int} {k : List Int} (h1 : 0 ≤ b ∧ b < 128) (h2 : asc k) : asc (b :: k) := fun c hc => by
  rcases List.mem_cons.1 hc with h | h
  · rw [h]; exact h1
  · exact h2 c h
theorem asc_nil : asc [] := fun b hb => by cases hb
theorem ibyte_id {b : Int} (h : 0 ≤ b ∧ b < 128) : ibyte b = b := by
  unfold ibyte
  rw [Int8.toInt_ofInt]
  exact Int.bmod_eq_of_le (by simp; omega) (by simp; omega)
theorem P_put (fl : Nat) (b : Int) (s : Pap) (h : pok s) : LM_Pa_put fl b s.1 s.2.1 s.2.2 = some (pp [b] s) := by
  unfold LM_Pa_put LB_Pa_put_0
  unfold pok at h
  show _ = some (if 4000 ≤ s.1 then (s.1, 1, s.2.2) else (s.1 + 1, s.2.1, up s.2.2 s.1.toNat b))
  by_cases c : 4000 ≤ s.1
  · rw [if_pos c, if_pos c]
  · rw [if_neg c, if_pos (by omega), if_pos (by omega), if_neg c]
theorem M_say (fl : Nat) (b : Int) (s : Int × (Nat → Int)) (h : 0 ≤ s.1 ∧ s.1 < 8000) (hb : 0 ≤ b ∧ b < 128) : LM_Md_say fl b s.1 s.2 = some (mm [b] s) := by
  unfold LM_Md_say LB_Md_say_0
  rw [if_pos (by omega), if_pos (by omega), ibyte_id hb]
  rfl
/-- a literal's bytes -/
def lit (i : Nat) : List Int := strI.getD i []
theorem lit_len : ∀ i, i < 79 → (lit i).length = strL.getD i 0 := by decide
theorem lit_asc : ∀ i, i < 79 → ∀ b, b ∈ lit i → 0 ≤ b ∧ b < 128 := by decide
theorem P_text2 (fl : Nat) {i : Nat} (hi : i < 79) : ∀ (d nn k : Nat) (s : Pap), k + d = strL.getD i 0 → d < nn → pok s → LB_Pa_putText_2 fl nn i (k : Int) s.1 s.2.1 s.2.2 = some (pp ((lit i).drop k) s) := by
  intro d
  induction d with
  | zero =>
    intro nn k s hd hnn hs
    obtain ⟨nn, rfl⟩ : ∃ r, nn = r + 1 := ⟨nn - 1, by omega⟩
    rw [LB_Pa_putText_2, if_pos hi, if_pos (by omega), List.drop_eq_nil_of_le (by rw [lit_len i hi]; omega)]
    rfl
  | succ d ih =>
    intro nn k s hd hnn hs
    obtain ⟨nn, rfl⟩ : ∃ r, nn = r + 1 := ⟨nn - 1, by omega⟩
    have hk : k < (lit i).length := by rw [lit_len i hi]; omega
    have hL : strL.getD i 0 < 1000 := by
      have : ∀ i, i < 79 → strL.getD i 0 < 1000 := by decide
      exact this i hi
    rw [LB_Pa_putText_2, if_pos hi, if_neg (by omega), if_pos ⟨hi, by omega, by omega⟩, Int.toNat_natCast]
    rw [show (strI.getD i []) = lit i from rfl, P_put fl _ s hs, Option.bind_some, if_pos (by omega), show ((k : Int) + 1) = ((k + 1 : Nat) : Int) by omega]
    rw [ih nn (k + 1) _ (by omega) (by omega) (pok_pp _ _ hs), ← pp_app, List.drop_eq_getElem_cons hk]
    congr 2
    rw [List.getD_eq_getElem?_getD, List.getElem?_eq_getElem hk]
    rfl
theorem P_text (fl : Nat) (hfl : 2000 ≤ fl) {i : Nat} (hi : i < 79) (s : Pap) (h : pok s) : LM_Pa_putText fl i s.1 s.2.1 s.2.2 = some (pp (lit i) s) := by
  have hL : strL.getD i 0 < 1000 := by
    have : ∀ i, i < 79 → strL.getD i 0 < 1000 := by decide
    exact this i hi
  have := P_text2 fl hi (strL.getD i 0) fl 0 s (by omega) (by omega) h
  rwa [List.drop_zero] at this
theorem M_all2 (fl : Nat) {i : Nat} (hi : i < 79) : ∀ (d nn k : Nat) (s : Int × (Nat → Int)), k + d = strL.getD i 0 → d < nn → 0 ≤ s.1 → s.1 + d ≤ 8000 → LB_Md_sayAll_2 fl nn i (k : Int) s.1 s.2 = some (mm ((lit i).drop k) s) := by
  intro d
  induction d with
  | zero =>
    intro nn k s hd hnn h1 h2
    obtain ⟨nn, rfl⟩ : ∃ r, nn = r + 1 := ⟨nn - 1, by omega⟩
    rw [LB_Md_sayAll_2, if_pos hi, if_pos (by omega), List.drop_eq_nil_of_le (by rw [lit_len i hi]; omega)]
    rfl
  | succ d ih =>
    intro nn k s hd hnn h1 h2
    obtain ⟨nn, rfl⟩ : ∃ r, nn = r + 1 := ⟨nn - 1, by omega⟩
    have hk : k < (lit i).length := by rw [lit_len i hi]; omega
    have hL : strL.getD i 0 < 1000 := by
      have : ∀ i, i < 79 → strL.getD i 0 < 1000 := by decide
      exact this i hi
    have eg : (lit i).getD k 0 = (lit i)[k] := by rw [List.getD_eq_getElem?_getD, List.getElem?_eq_getElem hk]; rfl
    rw [LB_Md_sayAll_2, if_pos hi, if_neg (by omega), if_pos ⟨hi, by omega, by omega⟩, Int.toNat_natCast]
    rw [show (strI.getD i []) = lit i from rfl, eg, M_say fl _ s (by omega) (lit_asc i hi _ (List.getElem_mem hk)), Option.bind_some, if_pos (by omega), show ((k : Int) + 1) = ((k + 1 : Nat) : Int) by omega]
    rw [ih nn (k + 1) _ (by omega) (by omega) (by show 0 ≤ s.1 + 1; omega) (by show s.1 + 1 + (d : Int) ≤ 8000; omega), ← mm_app, List.drop_eq_getElem_cons hk]
    rfl
theorem M_all (fl : Nat) (hfl : 2000 ≤ fl) {i : Nat} (hi : i < 79) (s : Int × (Nat → Int)) (h : 0 ≤ s.1 ∧ s.1 ≤ 7900) : LM_Md_sayAll fl i s.1 s.2 = some (mm (lit i) s) := by
  have hL : strL.getD i 0 < 100 := by
    have : ∀ i, i < 79 → strL.getD i 0 < 100 := by decide
    exact this i hi
  have := M_all2 fl hi (strL.getD i 0) fl 0 s (by omega) (by omega) h.1 (by omega)
  rwa [List.drop_zero] at this
/-- how many digits (of numbers below 10 ^ (k + 1)) -/
def ndz : Nat → Nat → Nat
  | 0, _ => 1
  | k + 1, w => if w < 10 then 1 else ndz k (w / 10) + 1
/-- the last digits, the highest first -/
def dg (w : Nat) : Nat → List Int
  | 0 => []
  | j + 1 => (48 + ((w / 10 ^ j % 10 : Nat) : Int)) :: dg w j
def num (v : Int) : List Int := (if v < 0 then [45] else []) ++ dg v.natAbs (ndz 17 v.natAbs)
theorem nd_le : ∀ k w, ndz k w ≤ k + 1 := by
  intro k
  induction k with
  | zero => intro w; exact Nat.le_refl _
  | succ k ih => intro w; unfold ndz; split
                 · omega
                 · have := ih (w / 10); omega
theorem nd_pos : ∀ k w, 1 ≤ ndz k w := by
  intro k
  cases k with
  | zero => intro w; exact Nat.le_refl _
  | succ k => intro w; unfold ndz; split <;> omega
theorem dg_asc (w : Nat) : ∀ j, asc (dg w j) := by
  intro j
  induction j with
  | zero => exact asc_nil
  | succ j ih => exact asc_cons (by have := Nat.mod_lt (w / 10 ^ j) (show 0 < 10 by omega); omega) ih
theorem dg_len (w : Nat) : ∀ j, (dg w j).length = j := by
  intro j
  induction j with
  | zero => rfl
  | succ j ih => show (dg w j).length + 1 = _; rw [ih]
theorem num_asc (v : Int) : asc (num v) := by
  unfold num
  refine asc_app ?_ (dg_asc _ _)
  split
  · exact asc_cons (by omega) asc_nil
  · exact asc_nil
theorem num_len (v : Int) : (num v).length ≤ 19 := by
  unfold num
  rw [List.length_append, dg_len]
  have := nd_le 17 v.natAbs
  split
  · show 1 + _ ≤ _; omega
  · show 0 + _ ≤ _; omega
