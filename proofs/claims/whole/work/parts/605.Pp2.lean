theorem sgL_len (f : Bool) (v : Int) : (sgL f v).length ≤ 3 := by
  unfold sgL
  split <;> split <;> decide
theorem nd_small : ∀ (k w j : Nat), w < 10 ^ (j + 1) → ndz k w ≤ j + 1 := by
  intro k
  induction k with
  | zero => intro w j h; show 1 ≤ j + 1; omega
  | succ k ih =>
    intro w j h
    unfold ndz
    split
    · omega
    · cases j with
      | zero => rw [Nat.zero_add, Nat.pow_one] at h; omega
      | succ j =>
        have := ih (w / 10) j (by rw [Nat.pow_succ] at h; exact Nat.div_lt_of_lt_mul (by rw [Nat.mul_comm]; exact h))
        omega
theorem num_small {v : Int} {j : Nat} (h : v.natAbs < 10 ^ (j + 1)) : (num v).length ≤ j + 2 := by
  unfold num
  rw [List.length_append, dg_len]
  have := nd_small 17 v.natAbs j h
  split
  · show 1 + _ ≤ _; omega
  · show 0 + _ ≤ _; omega
theorem vaL_len (vb : Int) {e : Int} (he : -400 ≤ e ∧ e ≤ 400) : (vaL vb e).length ≤ 6 := by
  unfold vaL exL
  have := num_small (v := e) (j := 2) (by have : (10 : Nat) ^ (2 + 1) = 1000 := by decide
                                          omega)
  split
  · show 0 ≤ 6; omega
  · split
    · show 0 + 1 ≤ 6; omega
    · rw [List.length_cons, List.length_cons]; omega
theorem teL_len (vb : Int) {a e : Int} (ha : 0 ≤ a ∧ a ≤ 1000000000000000) (he : -400 ≤ e ∧ e ≤ 400) : (teL vb a e).length ≤ 23 := by
  unfold teL
  have := num_small (v := a) (j := 15) (by have : (10 : Nat) ^ (15 + 1) = 10000000000000000 := by decide
                                           omega)
  have := vaL_len vb he
  rw [List.length_append]
  split
  · show 0 + _ ≤ 23; omega
  · omega
/-- the rest of a term, the continuation behind it -/
theorem M_po123 (fl : Nat) (hfl : 2000 ≤ fl) (po : Nat → Int) (kb : Int → Int → Int → Int → (Nat → Int) → Option (Int × (Nat → Int))) {x1 x2 e x4 a : Int} (he : -400 ≤ e ∧ e ≤ 400) (s : Int × (Nat → Int)) (h : 0 ≤ s.1 ∧ s.1 ≤ 7900) :
    LB_Md_sayPoly_123 fl po kb x1 x2 e x4 a s.1 s.2 = kb x1 x2 (e + 1) (mm (vaL (vB x1) e) s).1 (mm (vaL (vB x1) e) s).2 := by
  unfold LB_Md_sayPoly_123 vaL
  by_cases c0 : e = 0
  · rw [if_neg (by omega), if_pos c0]
    unfold LB_Md_sayPoly_167
    rw [if_pos (by omega)]
    rfl
  · rw [if_pos c0, if_neg c0]
    have main : ∀ b : Int, 0 ≤ b ∧ b < 128 → LB_Md_sayPoly_144 fl po kb b x1 x2 e x4 a s.1 s.2 = kb x1 x2 (e + 1) (mm (b :: exL e) s).1 (mm (b :: exL e) s).2 := by
      intro b hb
      unfold LB_Md_sayPoly_144 exL LB_Md_sayPoly_167
      rw [M_say fl b s (by omega) hb, Option.bind_some]
      by_cases c1 : e = 1
      · rw [if_neg (by omega), if_pos c1, if_pos (by omega)]
      · rw [if_pos c1, if_neg c1, M_say fl 94 (mm [b] s) (by rw [mm_size]; show 0 ≤ s.1 + 1 ∧ s.1 + 1 < 8000; omega) (by omega), Option.bind_some]
        rw [M_num fl (by omega) e (by have : (10 : Nat) ^ 18 = 1000000000000000000 := by decide
                                      omega) (mm [94] (mm [b] s)) (by rw [mm_size, mm_size]; show 0 ≤ s.1 + 1 + 1 ∧ s.1 + 1 + 1 ≤ 7960; omega), Option.bind_some, if_pos (by omega)]
        rfl
    unfold vB
    by_cases c1 : x1 = 18
    · rw [if_neg (by omega), if_pos c1]; exact main 116 (by omega)
    · rw [if_pos c1, if_neg c1]; exact main 65 (by omega)
theorem M_po87 (fl : Nat) (hfl : 2000 ≤ fl) (po : Nat → Int) (kb : Int → Int → Int → Int → (Nat → Int) → Option (Int × (Nat → Int))) {x1 x2 e x4 : Int} (he : -400 ≤ e ∧ e ≤ 400) (h4 : -1000000000000000 ≤ x4 ∧ x4 ≤ 1000000000000000) (s : Int × (Nat → Int)) (h : 0 ≤ s.1 ∧ s.1 ≤ 7800) :
    LB_Md_sayPoly_87 fl po kb x1 x2 e x4 s.1 s.2 = kb x1 1 (e + 1) (mm (teL (vB x1) (ia x4) e) s).1 (mm (teL (vB x1) (ia x4) e) s).2 := by
  have main : ∀ a : Int, a = ia x4 → LB_Md_sayPoly_104 fl po kb a x1 1 e x4 s.1 s.2 = kb x1 1 (e + 1) (mm (teL (vB x1) (ia x4) e) s).1 (mm (teL (vB x1) (ia x4) e) s).2 := by
    intro a ha
    rw [← ha]
    have hn := num_len a
    have h117 : LB_Md_sayPoly_117 fl po kb x1 1 e x4 a s.1 s.2 = kb x1 1 (e + 1) (mm (num a ++ vaL (vB x1) e) s).1 (mm (num a ++ vaL (vB x1) e) s).2 := by
      unfold LB_Md_sayPoly_117
      rw [M_num fl (by omega) a (by have : (10 : Nat) ^ 18 = 1000000000000000000 := by decide
                                    unfold ia at ha; omega) s (by omega), Option.bind_some, M_po123 fl hfl po kb he (mm (num a) s) (by rw [mm_size]; omega), mm_app]
    unfold LB_Md_sayPoly_104 teL
    by_cases c0 : e = 0
    · rw [if_pos c0, if_neg (by omega)]; exact h117
    · rw [if_neg c0]
      by_cases c1 : a = 1
      · rw [if_pos c1, if_pos ⟨c1, c0⟩, List.nil_append]; exact M_po123 fl hfl po kb he s (by omega)
      · rw [if_neg c1, if_neg (by omega)]; exact h117
  unfold LB_Md_sayPoly_87
  by_cases c : 0 ≤ x4
  · rw [if_pos c]; exact main x4 (by unfold ia; omega)
  · rw [if_neg c, if_pos (by omega)]; exact main (-x4) (by unfold ia; omega)
theorem M_poly20 (fl : Nat) (hfl : 2000 ≤ fl) {po : Nat → Int} {c : Int → Int} (h : PolM po c) (x1 : Int) :
    ∀ (d nn : Nat) (e x2 : Int) (f : Bool) (s : Int × (Nat → Int)), e + d = 101 → -100 ≤ e → d < nn → (f = true ↔ x2 = 0) → 0 ≤ s.1 → s.1 + 26 * d ≤ 7700 → LB_Md_sayPoly_20 fl po nn x1 x2 e s.1 s.2 = some (mm (poL (vB x1) c d e f) s) := by
  intro d
  induction d with
  | zero =>
    intro nn e x2 f s hd he hnn hf h1 h2
    obtain ⟨nn, rfl⟩ : ∃ r, nn = r + 1 := ⟨nn - 1, by omega⟩
    rw [LB_Md_sayPoly_20, if_pos (by omega)]
    unfold LB_Md_sayPoly_183 poL
    by_cases c0 : x2 = 0
    · rw [if_neg (by omega), if_pos (hf.2 c0), M_say fl 48 s (by omega) (by omega), Option.bind_some, M_say fl 10 (mm [48] s) (by rw [mm_size]; show 0 ≤ s.1 + 1 ∧ s.1 + 1 < 8000; omega) (by omega), Option.bind_some, mm_app]
    · rw [if_pos c0, if_neg (fun g => c0 (hf.1 g)), M_say fl 10 s (by omega) (by omega), Option.bind_some, List.nil_append]
  | succ d ih =>
    intro nn e x2 f s hd he hnn hf h1 h2
    obtain ⟨nn, rfl⟩ : ∃ r, nn = r + 1 := ⟨nn - 1, by omega⟩
    have hb := M_bnd h e
    have ec : po (Int.toNat (100 + e)) = c e := by
      rw [h.2 e, if_pos (by omega)]
      congr 2
      omega
    rw [LB_Md_sayPoly_20, if_neg (by omega), if_pos (by omega), ec, poL_s]
    by_cases c0 : c e = 0
    · rw [if_neg (by omega), if_pos c0]
      unfold LB_Md_sayPoly_167
      rw [if_pos (by omega)]
      exact ih nn (e + 1) x2 f s (by omega) (by omega) (by omega) hf h1 (by omega)
    · rw [if_pos c0, if_neg c0]
      have hl1 := sgL_len f (c e)
      have hl2 := teL_len (vB x1) (a := ia (c e)) (e := e) (by unfold ia; omega) (by omega)
      have key : LB_Md_sayPoly_87 fl po (LB_Md_sayPoly_20 fl po nn) x1 x2 e (c e) (mm (sgL f (c e)) s).1 (mm (sgL f (c e)) s).2 = some (mm (sgL f (c e) ++ (teL (vB x1) (ia (c e)) e ++ poL (vB x1) c d (e + 1) false)) s) := by
        rw [M_po87 fl hfl po _ (by omega) hb (mm (sgL f (c e)) s) (by rw [mm_size]; omega)]
        rw [ih nn (e + 1) 1 false _ (by omega) (by omega) (by omega) (by constructor <;> intro g <;> first | exact absurd g (by decide) | omega) (by rw [mm_size, mm_size]; omega) (by rw [mm_size, mm_size]; omega), mm_app, mm_app]
      have e76 : lit 76 = [32, 45, 32] := by decide
      have e77 : lit 77 = [32, 43, 32] := by decide
      by_cases c2 : x2 = 0
      · have hf2 := hf.2 c2
        rw [if_pos c2]
        by_cases c3 : 0 ≤ c e
        · have es : sgL f (c e) = [] := by unfold sgL; rw [if_pos hf2, if_pos c3]
          rw [if_pos c3]
          rw [es] at key ⊢
          exact key
        · have es : sgL f (c e) = [45] := by unfold sgL; rw [if_pos hf2, if_neg c3]
          rw [if_neg c3, M_say fl 45 s (by omega) (by omega), Option.bind_some]
          rw [es] at key ⊢
          exact key
      · have hf2 : ¬ (f = true) := fun g => c2 (hf.1 g)
        rw [if_neg c2]
        unfold LB_Md_sayPoly_68
        by_cases c3 : 0 ≤ c e
        · have es : sgL f (c e) = [32, 43, 32] := by unfold sgL; rw [if_neg hf2, if_pos c3]
          rw [if_pos c3, M_all fl hfl (by decide) s (by omega), Option.bind_some, e77]
          rw [es] at key ⊢
          exact key
        · have es : sgL f (c e) = [32, 45, 32] := by unfold sgL; rw [if_neg hf2, if_neg c3]
          rw [if_neg c3, M_all fl hfl (by decide) s (by omega), Option.bind_some, e76]
          rw [es] at key ⊢
          exact key
theorem M_poly (fl : Nat) (hfl : 2000 ≤ fl) {po : Nat → Int} {c : Int → Int} (h : PolM po c) {k : Nat} (hk : 1 ≤ k ∧ k ≤ 18) (s : Int × (Nat → Int)) (hs : 0 ≤ s.1 ∧ s.1 ≤ 2000) :
    LM_Md_sayPoly fl po (k : Int) s.1 s.2 = some (mm (poW k c) s) := by
  have e75 : lit 75 = [32, 61, 32] := by decide
  have hl : ∀ i, i < 79 → (lit i).length < 100 := by decide
  have hl1 := hl (k - 1) (by omega)
  unfold LM_Md_sayPoly LB_Md_sayPoly_0
  have ew : lit (k + 41) = lit (k - 1) := by rw [show k + 41 = (k - 1) + 42 by omega]; exact word_eq _ (by omega)
  rw [word_M fl hk, Option.bind_some, M_all fl hfl (by omega) s (by omega), Option.bind_some, ew, M_all fl hfl (by decide) _ (by rw [mm_size]; omega), Option.bind_some, e75]
  rw [M_poly20 fl hfl h (k : Int) 201 fl (-100) 0 true _ (by omega) (by omega) (by omega) (by constructor <;> intro _ <;> rfl) (by rw [mm_size, mm_size]; omega) (by rw [mm_size, mm_size]; show s.1 + ((lit (k - 1)).length : Int) + 3 + _ ≤ _; omega)]
  unfold poW
  rw [mm_app, mm_app, poT_M _ h]
theorem poL_asc {vb : Int} (hv : 0 ≤ vb ∧ vb < 128) (c : Int → Int) : ∀ (d : Nat) (e : Int) (f : Bool), asc (poL vb c d e f) := by
  intro d
  induction d with
  | zero =>
    intro e f
    unfold poL
    refine asc_app ?_ (asc_cons (by omega) asc_nil)
    split
    · exact asc_cons (by omega) asc_nil
    · exact asc_nil
  | succ d ih =>
    intro e f
    rw [poL_s]
    split
    · exact ih _ _
    · refine asc_app ?_ (asc_app ?_ (ih _ _))
      · unfold sgL
        split <;> split
        · exact asc_nil
        · exact asc_cons (by omega) asc_nil
        · exact asc_cons (by omega) (asc_cons (by omega) (asc_cons (by omega) asc_nil))
        · exact asc_cons (by omega) (asc_cons (by omega) (asc_cons (by omega) asc_nil))
      · unfold teL vaL exL
        refine asc_app ?_ ?_
        · split
          · exact asc_nil
          · exact num_asc _
        · split
          · exact asc_nil
          · refine asc_cons hv ?_
            split
            · exact asc_nil
            · exact asc_cons (by omega) (num_asc _)
theorem poW_asc {k : Nat} (hk : 1 ≤ k ∧ k ≤ 18) (c : Int → Int) : asc (poW k c) := by
  unfold poW
  refine asc_app (lit_asc _ (by omega)) (asc_app (asc_cons (by omega) (asc_cons (by omega) (asc_cons (by omega) asc_nil))) ?_)
  exact poL_asc (by unfold vB; split <;> omega) c _ _ _
theorem poL_len {vb : Int} {c : Int → Int} (hb : ∀ e, -1000000000000000 ≤ c e ∧ c e ≤ 1000000000000000) : ∀ (d : Nat) (e : Int) (f : Bool), -400 ≤ e → e + d ≤ 401 → (poL vb c d e f).length ≤ 26 * d + 2 := by
  intro d
  induction d with
  | zero =>
    intro e f h1 h2
    unfold poL
    split <;> simp
  | succ d ih =>
    intro e f h1 h2
    rw [poL_s]
    have g := hb e
    have i1 := ih (e + 1) f (by omega) (by omega)
    have i2 := ih (e + 1) false (by omega) (by omega)
    have hl1 := sgL_len f (c e)
    have hl2 := teL_len vb (a := ia (c e)) (e := e) (by unfold ia; omega) (by omega)
    split
    · omega
    · rw [List.length_append, List.length_append]; omega
theorem poW_len {k : Nat} (hk : 1 ≤ k ∧ k ≤ 18) {po : Nat → Int} {c : Int → Int} (h : PolM po c) : (poW k c).length ≤ 5400 := by
  have hl : ∀ i, i < 79 → (lit i).length < 100 := by decide
  have hl1 := hl (k - 1) (by omega)
  have := poL_len (vb := vB (k : Int)) (M_bnd h) 201 (-100) true (by omega) (by omega)
  unfold poW
  rw [List.length_append, List.length_append, ← poT_M _ h]
  show _ + (3 + _) ≤ 5400
  omega
