theorem RM_nil {tx : Nat → Int} {sz q : Nat} {nu0 nu : Nat → Int} {b : Nat} {pa : Int} {l : List Int} (B : Nat) {at_ tm fr fa pl : Int} (h : AtM tx sz q at_ tm fr fa pl) (hn : NM nu0 b nu pa l) : RM tx sz nu0 b l B (.inl (q, [])) (some (at_, tm, fr, fa, pl, pa, nu)) := ⟨_, _, _, _, _, _, _, rfl, h, by rw [List.append_nil]; exact hn⟩
theorem M_rlet (fl : Nat) (hfl : 5000 ≤ fl) {tx ty : Nat → Int} {sz : Nat} (hs : sz ≤ 4000) (ht : TXT tx ty sz) {nu0 : Nat → Int} {b : Nat} :
    ∀ (d nn q : Nat) (at_ tm fr fa pl pa : Int) (nu : Nat → Int) (l : List Int), d ≤ 32 → d + 1 < nn → AtM tx sz q at_ tm fr fa pl → NM nu0 b nu pa l → b + l.length < q →
    RM tx sz nu0 b l 4020 (sLet tx sz d q) (LB_Md_readBraid_11 fl (sz : Int) ty nn (32 - (d : Int)) at_ tm fr fa pl pa nu) := by
  have tok : ∀ (q : Nat) (at_ tm fr fa pl : Int), AtM tx sz q at_ tm fr fa pl → tkK tx sz q ≠ 1 → (tm = 2 ↔ tkK tx sz q = 3) ∧ at_ = ((tkE tx sz q : Nat) : Int) ∧ fr = (q : Int) := by
    intro q at_ tm fr fa pl h hk
    obtain ⟨h1, ⟨h2, h3, h4, h5, h6, h7⟩ | ⟨h2, h3, h4, h5⟩⟩ := h
    · have e := tkM_b (tkK_r tx sz q) 2 (by omega)
      exact ⟨by rw [h4]; constructor <;> intro g <;> omega, h3, h5⟩
    · exact absurd h2 hk
  -- the token is a letter's: what follows
  have bad35 : ∀ (q : Nat) (at_ tm fr fa pl pa : Int) (nu : Nat → Int) (l : List Int) (kb : KB) (x1 : Int) (r : Rs), AtM tx sz q at_ tm fr fa pl → tkK tx sz q ≠ 1 → fa = 0 → NM nu0 b nu pa l → b + l.length < q → (tkK tx sz q = 3 → ¬ nbP tx sz q → r = .inr (2, q)) → RM tx sz nu0 b l 4020 r (LB_Md_readBraid_61 fl (sz : Int) ty kb x1 at_ tm fr fa pl pa nu) ∨ (tkK tx sz q = 3 ∧ ¬ nbP tx sz q) → RM tx sz nu0 b l 4020 r (LB_Md_readBraid_35 fl (sz : Int) ty kb x1 at_ tm fr fa pl pa nu) := by
    intro q at_ tm fr fa pl pa nu l kb x1 r h hk hfa hn hb hr h61
    have hq := h.1
    have h1 := hn.1
    obtain ⟨t1, t2, t3⟩ := tok q at_ tm fr fa pl h hk
    unfold LB_Md_readBraid_35
    by_cases c : tkK tx sz q = 3
    · have eb := M_bad fl hfl hs ht hq c 0
      rw [if_neg (fun g => g (t1.2 c)), t2, t3]
      by_cases c2 : nbP tx sz q
      · rw [if_pos ⟨c2.2.1, Or.inr c2.2.2⟩] at eb
        rw [eb, Option.bind_some, if_pos rfl]
        have := h61.resolve_right (fun g => g.2 c2)
        rw [t2, t3] at this
        exact this
      · rw [if_neg (fun g => c2 ⟨c, g.1, g.2.resolve_left (fun x => x rfl)⟩)] at eb
        unfold LM_Md_fail LB_Md_fail_0
        rw [eb, Option.bind_some, if_neg (by omega), if_pos hfa, Option.bind_some, hr c c2]
        refine ⟨by show (2 : Int) ≠ 0; decide, _, _, _, _, _, rfl, ?_, by omega, by omega⟩
        rw [← t2, ← t3]; exact FaM_of h
    · rw [if_pos (fun g => c (t1.1 g))]
      exact h61.resolve_right (fun g => c g.1)
  intro d
  induction d with
  | zero =>
    intro nn q at_ tm fr fa pl pa nu l hd hnn h hn hb
    obtain ⟨nn, rfl⟩ : ∃ r, nn = r + 1 := ⟨nn - 1, by omega⟩
    have hq := h.1
    have h1 := hn.1
    rcases AtM_fa h with ⟨w1, w2⟩ | ⟨w1, w2, w3⟩
    · have es : sLet tx sz 0 q = .inl (q, []) := if_neg (fun c => c.elim (fun x => by omega) (fun x => by have := x.1; omega))
      rw [es, LB_Md_readBraid_11, if_pos (by omega)]
      exact RM_nil _ h hn
    · obtain ⟨t1, t2, t3⟩ := tok q at_ tm fr fa pl h w1
      have go : ltP tx sz q → RM tx sz nu0 b l 4020 (sLet tx sz 0 q) (LB_Md_readBraid_35 fl (sz : Int) ty (LB_Md_readBraid_11 fl (sz : Int) ty nn) (32 - ((0 : Nat) : Int)) at_ tm fr fa pl pa nu) := by
        intro c
        have es : sLet tx sz 0 q = .inr (refC tx sz q 5, q) := if_pos c
        rw [es]
        refine bad35 q at_ tm fr fa pl pa nu l _ _ _ h w1 w2 hn hb (fun c3 c4 => by unfold refC; rw [if_neg w1, if_pos ⟨c3, c4⟩]) ?_
        by_cases c5 : tkK tx sz q = 3 ∧ ¬ nbP tx sz q
        · exact Or.inr c5
        · left
          have er : refC tx sz q 5 = 5 := by unfold refC; rw [if_neg w1, if_neg c5]
          unfold LB_Md_readBraid_61 LM_Md_fail LB_Md_fail_0
          rw [if_neg (by omega), if_pos w2, Option.bind_some, er]
          exact ⟨by show (5 : Int) ≠ 0; decide, _, _, _, _, _, by rw [w3], FaM_of h, by omega, by omega⟩
      rw [LB_Md_readBraid_11, if_neg (fun g => g w2)]
      by_cases c : tkK tx sz q = 3
      · rw [if_pos (t1.2 c)]; exact go (Or.inl c)
      · rw [if_neg (fun g => c (t1.1 g)), M_mark fl hs ht h 45, Option.bind_some]
        by_cases c2 : mkP tx sz q 45
        · rw [if_pos c2, if_neg (by omega)]; exact go (Or.inr c2)
        · have es : sLet tx sz 0 q = .inl (q, []) := if_neg (fun g => g.elim c c2)
          rw [es, if_neg c2, if_pos rfl]
          exact RM_nil _ h hn
  | succ d ih =>
    intro nn q at_ tm fr fa pl pa nu l hd hnn h hn hb
    obtain ⟨nn, rfl⟩ : ∃ r, nn = r + 1 := ⟨nn - 1, by omega⟩
    have hq := h.1
    have h1 := hn.1
    rcases AtM_fa h with ⟨w1, w2⟩ | ⟨w1, w2, w3⟩
    · have es : sLet tx sz (d + 1) q = .inl (q, []) := if_neg (fun c => c.elim (fun x => by omega) (fun x => by have := x.1; omega))
      rw [es, LB_Md_readBraid_11, if_pos (by omega)]
      exact RM_nil _ h hn
    · obtain ⟨t1, t2, t3⟩ := tok q at_ tm fr fa pl h w1
      have go : ltP tx sz q → RM tx sz nu0 b l 4020 (sLet tx sz (d + 1) q) (LB_Md_readBraid_35 fl (sz : Int) ty (LB_Md_readBraid_11 fl (sz : Int) ty nn) (32 - ((d + 1 : Nat) : Int)) at_ tm fr fa pl pa nu) := by
        intro c
        have es : sLet tx sz (d + 1) q = sq (sSgd tx sz q) (sLet tx sz d) := if_pos c
        rw [es]
        refine bad35 q at_ tm fr fa pl pa nu l _ _ _ h w1 w2 hn hb (fun c3 c4 => ?_) (Or.inl ?_)
        · have e1 : sSgd tx sz q = sNum tx sz 1 q := if_neg (fun g => by have := g.1; omega)
          have e2 : sNum tx sz 1 q = .inr (refC tx sz q 4, q) := if_neg c4
          have e3 : refC tx sz q 4 = 2 := by unfold refC; rw [if_neg w1, if_pos ⟨c3, c4⟩]
          rw [e1, e2, e3]
          rfl
        · unfold LB_Md_readBraid_61
          rw [if_pos (by omega)]
          refine RM_num fl (M_signed fl hfl hs ht h) hn (by omega) (G := fun o => if (-2147483648 ≤ ((32 - ((d + 1 : Nat) : Int)) + (1 : Int)) ∧ ((32 - ((d + 1 : Nat) : Int)) + (1 : Int)) < 2147483648) then LB_Md_readBraid_11 fl (sz : Int) ty nn ((32 - ((d + 1 : Nat) : Int)) + (1 : Int)) o.1 o.2.1 o.2.2.1 o.2.2.2.1 o.2.2.2.2.1 o.2.2.2.2.2.1 o.2.2.2.2.2.2 else none) (fun q1 l1 a1 t1 f1 g1 p1 pa1 nu1 e1 h1 n1 => ?_) (fun a1 t1 f1 g1 p1 pa1 nu1 k1 k2 k3 k4 => ?_)
          · have a1' := sSgd_p hq e1
            show RM tx sz nu0 b (l ++ l1) 4020 (sLet tx sz d q1) (if (-2147483648 ≤ ((32 - ((d + 1 : Nat) : Int)) + (1 : Int)) ∧ ((32 - ((d + 1 : Nat) : Int)) + (1 : Int)) < 2147483648) then LB_Md_readBraid_11 fl (sz : Int) ty nn ((32 - ((d + 1 : Nat) : Int)) + (1 : Int)) a1 t1 f1 g1 p1 pa1 nu1 else none)
            rw [if_pos (by omega), show (32 - ((d + 1 : Nat) : Int)) + (1 : Int) = 32 - (d : Int) by omega]
            exact ih nn q1 a1 t1 f1 g1 p1 pa1 nu1 (l ++ l1) (by omega) (by omega) h1 n1 (by rw [List.length_append]; omega)
          · show FR tx sz g1 p1 4020 (if (-2147483648 ≤ ((32 - ((d + 1 : Nat) : Int)) + (1 : Int)) ∧ ((32 - ((d + 1 : Nat) : Int)) + (1 : Int)) < 2147483648) then LB_Md_readBraid_11 fl (sz : Int) ty nn ((32 - ((d + 1 : Nat) : Int)) + (1 : Int)) a1 t1 f1 g1 p1 pa1 nu1 else none)
            obtain ⟨mm, rfl⟩ : ∃ r, nn = r + 1 := ⟨nn - 1, by omega⟩
            rw [if_pos (by omega), LB_Md_readBraid_11, if_pos k2]
            exact ⟨_, _, _, _, _, rfl, k1, k3, by omega⟩
      rw [LB_Md_readBraid_11, if_neg (fun g => g w2)]
      by_cases c : tkK tx sz q = 3
      · rw [if_pos (t1.2 c)]; exact go (Or.inl c)
      · rw [if_neg (fun g => c (t1.1 g)), M_mark fl hs ht h 45, Option.bind_some]
        by_cases c2 : mkP tx sz q 45
        · rw [if_pos c2, if_neg (by omega)]; exact go (Or.inr c2)
        · have es : sLet tx sz (d + 1) q = .inl (q, []) := if_neg (fun g => g.elim c c2)
          rw [es, if_neg c2, if_pos rfl]
          exact RM_nil _ h hn
