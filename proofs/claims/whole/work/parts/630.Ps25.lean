/-- the reference's store of lines while it reads -/
def LiM (L : List Lin) (bg ks nu : Nat → Int) : Prop := ∀ i, i < L.length → bg i = ((tot (L.take i) : Nat) : Int) ∧ ks i = ((L.getD i (0, [])).1 : Int) ∧ ∀ j, j < (L.getD i (0, [])).2.length → nu (tot (L.take i) + j) = (L.getD i (0, [])).2.getD j 0
theorem LiM_add {L : List Lin} {bg ks nu nu' : Nat → Int} {pa' : Int} (h : LiM L bg ks nu) {k : Nat} {l : List Int} (hn : NM nu (tot L) nu' pa' l) : LiM (L ++ [(k, l)]) (up bg L.length ((tot L : Nat) : Int)) (up ks L.length (k : Int)) nu' := by
  obtain ⟨n1, n2, n3⟩ := hn
  have el : (L ++ [(k, l)]).length = L.length + 1 := by rw [List.length_append]; rfl
  intro i hi
  rw [el] at hi
  by_cases c : i = L.length
  · rw [c, getD_l2, up_eq, up_eq, take_l1 _ _ (Nat.le_refl _), List.take_of_length_le (Nat.le_refl _)]
    exact ⟨rfl, rfl, n3⟩
  · have hi2 : i < L.length := by omega
    rw [getD_l1 _ _ hi2, up_ne _ _ c, up_ne _ _ c, take_l1 _ _ (by omega)]
    refine ⟨(h i hi2).1, (h i hi2).2.1, fun j hj => ?_⟩
    have := tot_take L i hi2
    rw [n2 _ (by omega)]
    exact (h i hi2).2.2 j hj
abbrev MX := Int × Int × Int × Int × Int × Int × Int × (Nat → Int) × (Nat → Int) × (Nat → Int)
/-- the reference begins a line whose word is at q -/
theorem M_first (fl : Nat) (hfl : 5000 ≤ fl) {tx ty : Nat → Int} {sz : Nat} (hs : sz ≤ 4000) (ht : TXT tx ty sz) {q : Nat} {at_ tm fr fa pl : Int} (h : AtM tx sz q at_ tm fr fa pl) (hk0 : tkK tx sz q ≠ 0) (hk1 : tkK tx sz q ≠ 1) {L : List Lin} {bg ks nu : Nat → Int} (hL : L.length ≤ 64) (hT : tot L ≤ q) :
    (kw tx sz q = 0 ∧ ∃ at' tm' fr', LM_Md_readFirst fl (sz : Int) ty at_ tm fr fa pl (L.length : Int) ((tot L : Nat) : Int) bg ks nu = some (at', tm', fr', refC tx sz q 3, (q : Int), (L.length : Int), ((tot L : Nat) : Int), bg, ks, nu)) ∨
    (kw tx sz q ≠ 0 ∧ 64 ≤ L.length ∧ ∃ at' tm' fr', LM_Md_readFirst fl (sz : Int) ty at_ tm fr fa pl (L.length : Int) ((tot L : Nat) : Int) bg ks nu = some (at', tm', fr', refC tx sz q 5, (q : Int), (L.length : Int), ((tot L : Nat) : Int), bg, ks, nu)) ∨
    (kw tx sz q ≠ 0 ∧ ¬ 64 ≤ L.length ∧ ∃ X, RM tx sz nu (tot L) [] 4020 (sLine tx sz (kw tx sz q) (nxt tx sz q)) X ∧ LM_Md_readFirst fl (sz : Int) ty at_ tm fr fa pl (L.length : Int) ((tot L : Nat) : Int) bg ks nu = (X.bind fun o1 => some (o1.1, o1.2.1, o1.2.2.1, o1.2.2.2.1, o1.2.2.2.2.1, ((L.length : Int) + (1 : Int)), o1.2.2.2.2.2.1, (up bg L.length ((tot L : Nat) : Int)), (up ks L.length ((kw tx sz q : Nat) : Int)), o1.2.2.2.2.2.2))) := by
  have hq := h.1
  have h' := h
  obtain ⟨_, ⟨h2, h3, h4, h5, h6, h7⟩ | ⟨h2, _⟩⟩ := h'
  · have hr := tkK_r tx sz q
    have e := tkM_b hr 2 (by omega)
    have hkw := M_kind fl hfl hs ht h 18 fl 1 (by omega) (by omega) (by omega)
    have hk18 := kwF_r tx sz q 18 1 (by omega) (by omega)
    have kw3 : tkK tx sz q ≠ 2 → kw tx sz q = 0 := by
      intro g
      have : ∀ d k, kwF tx sz q d k = 0 := by
        intro d
        induction d with
        | zero => intro k; rfl
        | succ d ih => intro k; show (if wdP tx sz q (lit (k - 1)) then k else kwF tx sz q d (k + 1)) = 0; rw [if_neg (fun w => g w.1)]; exact ih _
      exact this 18 1
    have t26 : (kw tx sz q = 0 ∧ LB_Md_readFirst_26 fl (sz : Int) ty at_ tm fr fa pl (L.length : Int) ((tot L : Nat) : Int) bg ks nu = some (at_, tm, fr, 3, (q : Int), (L.length : Int), ((tot L : Nat) : Int), bg, ks, nu)) ∨ (kw tx sz q ≠ 0 ∧ 64 ≤ L.length ∧ LB_Md_readFirst_26 fl (sz : Int) ty at_ tm fr fa pl (L.length : Int) ((tot L : Nat) : Int) bg ks nu = some (at_, tm, fr, 5, (q : Int), (L.length : Int), ((tot L : Nat) : Int), bg, ks, nu)) ∨ (kw tx sz q ≠ 0 ∧ ¬ 64 ≤ L.length ∧ ∃ X, RM tx sz nu (tot L) [] 4020 (sLine tx sz (kw tx sz q) (nxt tx sz q)) X ∧ LB_Md_readFirst_26 fl (sz : Int) ty at_ tm fr fa pl (L.length : Int) ((tot L : Nat) : Int) bg ks nu = (X.bind fun o1 => some (o1.1, o1.2.1, o1.2.2.1, o1.2.2.2.1, o1.2.2.2.2.1, ((L.length : Int) + (1 : Int)), o1.2.2.2.2.2.1, (up bg L.length ((tot L : Nat) : Int)), (up ks L.length ((kw tx sz q : Nat) : Int)), o1.2.2.2.2.2.2))) := by
      unfold LB_Md_readFirst_26 LM_Md_fail LB_Md_fail_0
      have ek : LM_Md_kindHere fl at_ tm fr ty = some ((kw tx sz q : Nat) : Int) := hkw
      rw [ek, Option.bind_some, if_pos h6, if_pos h6, Option.bind_some, Option.bind_some, h5]
      by_cases c : kw tx sz q = 0
      · exact Or.inl ⟨c, by rw [if_neg (by omega)]⟩
      · by_cases c2 : 64 ≤ L.length
        · exact Or.inr (Or.inl ⟨c, c2, by rw [if_pos (by omega), if_neg (by omega)]⟩)
        · refine Or.inr (Or.inr ⟨c, c2, _, M_line fl hfl hs ht h (Decidable.byContradiction (fun g => c (kw3 g))) ⟨rfl, fun i hi => rfl, fun i hi => absurd hi (by show ¬ i < 0; omega)⟩ hT (k := kw tx sz q) ⟨by omega, hk18⟩, ?_⟩)
          rw [if_pos (by omega), if_pos (by omega), if_pos (by omega), if_pos (by omega), Int.toNat_natCast, h5]
          exact congrArg (Option.bind _) (funext fun o => if_pos ⟨by omega, by omega⟩)
    unfold LM_Md_readFirst LB_Md_readFirst_0
    by_cases c : tkK tx sz q = 3
    · have c0 : kw tx sz q = 0 := kw3 (by omega)
      have eb := M_bad fl hfl hs ht hq c 0
      left
      refine ⟨c0, at_, tm, fr, ?_⟩
      have t := t26.resolve_right (fun g => by rcases g with g | g <;> exact g.1 c0)
      rw [if_neg (show ¬ ¬ (tm = 2) by omega)]
      by_cases c2 : nbP tx sz q
      · rw [if_pos ⟨c2.2.1, Or.inr c2.2.2⟩] at eb
        have er : refC tx sz q 3 = 3 := by unfold refC; rw [if_neg hk1, if_neg (fun g => g.2 c2)]
        rw [h3, h5] at t ⊢
        rw [eb, Option.bind_some, if_pos rfl, t.2, er]
      · rw [if_neg (fun g => c2 ⟨c, g.1, g.2.resolve_left (fun x => x rfl)⟩)] at eb
        have er : refC tx sz q 3 = 2 := by unfold refC; rw [if_neg hk1, if_pos ⟨c, c2⟩]
        unfold LM_Md_fail LB_Md_fail_0
        rw [h3, h5, eb, Option.bind_some, if_neg (show ¬ (1 : Int) = 0 by omega), if_pos h6, Option.bind_some, er]
    · have er : ∀ code, refC tx sz q code = code := fun code => by unfold refC; rw [if_neg hk1, if_neg (fun g => c g.1)]
      rw [if_pos (show ¬ (tm = 2) by omega), er, er]
      rcases t26 with t | t | t
      · exact Or.inl ⟨t.1, at_, tm, fr, t.2⟩
      · exact Or.inr (Or.inl ⟨t.1, t.2.1, at_, tm, fr, t.2.2⟩)
      · exact Or.inr (Or.inr t)
  · exact absurd h2 hk1
