abbrev MY := Int × Int × Int × Int × Int × Int × Int × Int × (Nat → Int) × (Nat → Int) × (Nat → Int)
/-- what the reference's reading of a text answers -/
def RTM (nx0 : Int) (r : (List Lin) ⊕ (Int × Nat)) (X : Option MY) : Prop := match r with
  | .inl L => ∃ at_ tm fr pa bg ks nu, X = some (at_, tm, fr, 0, -1, (L.length : Int), nx0, pa, bg, ks, nu) ∧ LiM L bg ks nu ∧ bg L.length = ((tot L : Nat) : Int) ∧ L.length ≤ 64
  | .inr e => ∃ at_ tm fr pa bg ks nu, X = some (at_, tm, fr, e.1, (e.2 : Int), 0, nx0, pa, bg, ks, nu)
theorem M_text (fl : Nat) (hfl : 5000 ≤ fl) {tx ty : Nat → Int} {sz : Nat} (hs : sz ≤ 4000) (ht : TXT tx ty sz) (nx0 : Int) :
    ∀ (d nn b : Nat) (tm fr : Int) (bg ks nu : Nat → Int) (L : List Lin), sz ≤ b + d → b ≤ sz → 2 * d + 5 < nn → L.length ≤ 64 → tot L ≤ b → LiM L bg ks nu →
    RTM nx0 (sText tx sz d b L) (LB_Md_readText_32 fl (sz : Int) ty nn 1 (b : Int) tm fr 0 (-1) (L.length : Int) nx0 ((tot L : Nat) : Int) bg ks nu) := by
  have fin : ∀ (nn : Nat) (at_ tm fr : Int) (bg ks nu : Nat → Int) (L : List Lin), 1 ≤ nn → L.length ≤ 64 → LiM L bg ks nu → RTM nx0 (.inl L) (LB_Md_readText_32 fl (sz : Int) ty nn 0 at_ tm fr 0 (-1) (L.length : Int) nx0 ((tot L : Nat) : Int) bg ks nu) := by
    intro nn at_ tm fr bg ks nu L hnn hL h
    obtain ⟨nn, rfl⟩ : ∃ r, nn = r + 1 := ⟨nn - 1, by omega⟩
    rw [LB_Md_readText_32, if_pos rfl]
    unfold LB_Md_readText_98
    rw [if_pos (by omega), if_pos rfl, Int.toNat_natCast]
    refine ⟨_, _, _, _, _, _, _, rfl, fun i hi => ?_, by rw [up_eq], hL⟩
    rw [up_ne _ _ (by omega)]
    exact h i hi
  have bad : ∀ (nn : Nat) (at_ tm fr pa ln : Int) (bg ks nu : Nat → Int) (e : Int × Nat), 1 ≤ nn → e.1 ≠ 0 → 0 ≤ ln → ln ≤ 65 → RTM nx0 (.inr e) (LB_Md_readText_32 fl (sz : Int) ty nn 1 at_ tm fr e.1 (e.2 : Int) ln nx0 pa bg ks nu) := by
    intro nn at_ tm fr pa ln bg ks nu e hnn he h0 h1
    obtain ⟨nn, rfl⟩ : ∃ r, nn = r + 1 := ⟨nn - 1, by omega⟩
    rw [LB_Md_readText_32, if_neg (show ¬ (1 : Int) = 0 by omega), if_pos he]
    unfold LB_Md_readText_98
    rw [if_pos (by omega), if_neg he]
    exact ⟨_, _, _, _, _, _, _, rfl⟩
  have look : ∀ (b : Nat) (tm fr : Int), b ≤ sz → ∃ a1 t1 f1 g1 p1, LM_Md_look fl (sz : Int) ty (b : Int) tm fr 0 (-1) = some (a1, t1, f1, g1, p1) ∧ AtM tx sz (idl tx sz b) a1 t1 f1 g1 p1 := by
    intro b tm fr hb
    rw [M_look fl hfl ty hs hb]
    unfold lkR
    rw [tx_idl ht hb, tx_tkK ht, tx_tkE ht]
    have hn := (idl_le (tx := tx) hb).2
    by_cases c : tkK tx sz (idl tx sz b) = 1
    · rw [if_pos c]
      exact ⟨_, _, _, _, _, rfl, hn, Or.inr ⟨c, rfl, rfl, rfl⟩⟩
    · rw [if_neg c]
      exact ⟨_, _, _, _, _, rfl, hn, Or.inl ⟨c, rfl, rfl, rfl, rfl, rfl⟩⟩
  -- an end at q: one step further
  have idEnd : ∀ q, q ≤ sz → tkK tx sz q = 0 → idl tx sz q = q := by
    intro q hq c
    have h10 : sz ≤ q ∨ tx q = 10 := by
      by_cases g : sz ≤ q
      · exact Or.inl g
      · right
        by_cases g1 : tx q = 10
        · exact g1
        · exfalso
          unfold tkK at c
          rw [if_neg g, if_neg g1] at c
          split at c
          · omega
          · split at c
            · omega
            · split at c <;> omega
    have e1 : sc (fun i => tx i = 32) sz q = q := sc_f (h10.elim Or.inl (fun g => Or.inr (by omega)))
    unfold idl
    rw [e1, if_neg (fun w => by omega)]
  have atEnd : ∀ (nn b : Nat) (tm fr : Int) (bg ks nu : Nat → Int) (L : List Lin), b = sz → 3 ≤ nn → L.length ≤ 64 → LiM L bg ks nu → RTM nx0 (.inl L) (LB_Md_readText_32 fl (sz : Int) ty nn 1 (b : Int) tm fr 0 (-1) (L.length : Int) nx0 ((tot L : Nat) : Int) bg ks nu) := by
    intro nn b tm fr bg ks nu L hb hnn hL h
    obtain ⟨nn, rfl⟩ : ∃ r, nn = r + 1 := ⟨nn - 1, by omega⟩
    obtain ⟨a1, t1, f1, g1, p1, n1, n2⟩ := look b tm fr (by omega)
    have ez : tkK tx sz b = 0 := by unfold tkK; rw [if_pos (by omega)]
    rw [idEnd b (by omega) ez] at n2
    obtain ⟨_, ⟨h2, h3, h4, h5, h6, h7⟩ | ⟨h2, _⟩⟩ := n2
    · have et : t1 = 0 := by rw [h4, ez]; rfl
      have ee : tkE tx sz b = b := by unfold tkE; rw [if_pos ez]
      rw [ee] at h3
      rw [LB_Md_readText_32, if_neg (show ¬ (1 : Int) = 0 by omega), if_neg (show ¬ ¬ ((0 : Int) = 0) by omega), n1, Option.bind_some, if_pos et, if_neg (show ¬ ¬ (g1 = 0) by omega), if_pos (show (sz : Int) ≤ a1 by omega)]
      unfold LB_Md_readText_84
      rw [if_pos (show -2147483648 ≤ a1 + 1 ∧ a1 + 1 < 2147483648 by omega)]
      show RTM nx0 (.inl L) (LB_Md_readText_32 fl (sz : Int) ty nn 0 (a1 + 1) t1 f1 g1 p1 (L.length : Int) nx0 ((tot L : Nat) : Int) bg ks nu)
      rw [h6, h7]
      exact fin nn _ _ _ bg ks nu L (by omega) hL h
    · omega
  have sEndT : ∀ d L, sText tx sz d (sz + 1) L = .inl L := by
    intro d L
    cases d with
    | zero => rfl
    | succ d => exact if_pos (by omega)
  -- an end at q
  have step : ∀ (d nn q : Nat) (tm fr : Int) (bg ks nu : Nat → Int) (L : List Lin), q ≤ sz → tkK tx sz q = 0 → 3 ≤ nn → L.length ≤ 64 → LiM L bg ks nu → (∀ tm fr, q + 1 ≤ sz → RTM nx0 (sText tx sz d (q + 1) L) (LB_Md_readText_32 fl (sz : Int) ty nn 1 ((q + 1 : Nat) : Int) tm fr 0 (-1) (L.length : Int) nx0 ((tot L : Nat) : Int) bg ks nu)) → ∀ b, b ≤ sz → idl tx sz b = q → RTM nx0 (sText tx sz d (q + 1) L) (LB_Md_readText_32 fl (sz : Int) ty (nn + 1) 1 (b : Int) tm fr 0 (-1) (L.length : Int) nx0 ((tot L : Nat) : Int) bg ks nu) := by
    intro d nn q tm fr bg ks nu L hq ez hnn hL h hi b hb hbq
    obtain ⟨a1, t1, f1, g1, p1, n1, n2⟩ := look b tm fr hb
    rw [hbq] at n2
    obtain ⟨_, ⟨h2, h3, h4, h5, h6, h7⟩ | ⟨h2, _⟩⟩ := n2
    · have et : t1 = 0 := by rw [h4, ez]; rfl
      have ee : tkE tx sz q = q := by unfold tkE; rw [if_pos ez]
      rw [ee] at h3
      rw [LB_Md_readText_32, if_neg (show ¬ (1 : Int) = 0 by omega), if_neg (show ¬ ¬ ((0 : Int) = 0) by omega), n1, Option.bind_some, if_pos et, if_neg (show ¬ ¬ (g1 = 0) by omega)]
      unfold LB_Md_readText_84
      by_cases c : sz ≤ q
      · rw [if_pos (show (sz : Int) ≤ a1 by omega), if_pos (show -2147483648 ≤ a1 + 1 ∧ a1 + 1 < 2147483648 by omega), show q = sz by omega, sEndT]
        show RTM nx0 (.inl L) (LB_Md_readText_32 fl (sz : Int) ty nn 0 (a1 + 1) t1 f1 g1 p1 (L.length : Int) nx0 ((tot L : Nat) : Int) bg ks nu)
        rw [h6, h7]
        exact fin nn _ _ _ bg ks nu L (by omega) hL h
      · rw [if_neg (show ¬ (sz : Int) ≤ a1 by omega), if_pos (show -2147483648 ≤ a1 + 1 ∧ a1 + 1 < 2147483648 by omega)]
        show RTM nx0 (sText tx sz d (q + 1) L) (LB_Md_readText_32 fl (sz : Int) ty nn 1 (a1 + 1) t1 f1 g1 p1 (L.length : Int) nx0 ((tot L : Nat) : Int) bg ks nu)
        rw [h6, h7, show a1 + 1 = ((q + 1 : Nat) : Int) by omega]
        exact hi t1 f1 (by omega)
    · omega
  intro d
  induction d with
  | zero =>
    intro nn b tm fr bg ks nu L hd hb hnn hL hT h
    exact atEnd nn b tm fr bg ks nu L (by omega) (by omega) hL h
  | succ d ih =>
    intro nn b tm fr bg ks nu L hd hb hnn hL hT h
    by_cases c : sz ≤ b
    · have es : sText tx sz (d + 1) b L = .inl L := if_pos c
      rw [es]
      exact atEnd nn b tm fr bg ks nu L (by omega) (by omega) hL h
    · obtain ⟨nn, rfl⟩ : ∃ r, nn = r + 1 := ⟨nn - 1, by omega⟩
      have hqb := idl_le (tx := tx) hb
      obtain ⟨q, eq⟩ : ∃ q, idl tx sz b = q := ⟨_, rfl⟩
      rw [eq] at hqb
      by_cases c0 : tkK tx sz q = 0
      · have es : sText tx sz (d + 1) b L = sText tx sz d (q + 1) L := by
          show (if sz ≤ b then _ else _) = _
          rw [if_neg c, eq, if_pos c0]
        rw [es]
        exact step d nn q tm fr bg ks nu L hqb.2 c0 (by omega) hL h (fun tm fr hq1 => ih nn (q + 1) tm fr bg ks nu L (by omega) hq1 (by omega) hL (by omega) h) b hb eq
      · obtain ⟨a1, t1, f1, g1, p1, n1, n2⟩ := look b tm fr hb
        rw [eq] at n2
        have kw3 : tkK tx sz q ≠ 2 → kw tx sz q = 0 := by
          intro g
          have : ∀ d k, kwF tx sz q d k = 0 := by
            intro d
            induction d with
            | zero => intro k; rfl
            | succ d ih => intro k; show (if wdP tx sz q (lit (k - 1)) then k else kwF tx sz q d (k + 1)) = 0; rw [if_neg (fun w => g w.1)]; exact ih _
          exact this 18 1
        rw [LB_Md_readText_32, if_neg (show ¬ (1 : Int) = 0 by omega), if_neg (show ¬ ¬ ((0 : Int) = 0) by omega), n1, Option.bind_some]
        show RTM nx0 (sText tx sz (d + 1) b L) (if t1 = (0 : Int) then (if ¬ (g1 = (0 : Int)) then (LB_Md_readText_32 fl (sz : Int) ty nn 1 a1 t1 f1 g1 p1 (L.length : Int) nx0 ((tot L : Nat) : Int) bg ks nu) else _) else ((LM_Md_readFirst fl (sz : Int) ty a1 t1 f1 g1 p1 (L.length : Int) ((tot L : Nat) : Int) bg ks nu).bind _))
        by_cases c1 : tkK tx sz q = 1
        · obtain ⟨s1, s2, s3⟩ := AtM_stray n2 c1
          have es : sText tx sz (d + 1) b L = .inr (1, q) := by
            show (if sz ≤ b then _ else _) = _
            rw [if_neg c, eq, if_neg c0, if_pos (kw3 (by omega))]
            unfold refC
            rw [if_pos c1]
          rw [es, if_pos s1, if_pos (show ¬ (g1 = 0) by omega), s2, s3]
          exact bad nn _ _ _ _ _ bg ks nu (1, q) (by omega) (by show (1 : Int) ≠ 0; decide) (by omega) (by omega)
        · have hr := tkK_r tx sz q
          have ht1 : ¬ t1 = 0 := by
            obtain ⟨_, ⟨h2, h3, h4, h5, h6, h7⟩ | ⟨h2, _⟩⟩ := n2
            · rw [h4]; unfold tkM; split <;> omega
            · exact absurd h2 c1
          rw [if_neg ht1]
          rcases M_first fl hfl hs ht n2 c0 c1 (bg := bg) (ks := ks) (nu := nu) hL (by omega) with ⟨m1, a2, t2, f2, m2⟩ | ⟨m1, m3, a2, t2, f2, m2⟩ | ⟨m1, m3, X, m4, m2⟩
          · have es : sText tx sz (d + 1) b L = .inr (refC tx sz q 3, q) := by
              show (if sz ≤ b then _ else _) = _
              rw [if_neg c, eq, if_neg c0, if_pos m1]
            rw [es, m2, Option.bind_some]
            exact bad nn a2 t2 f2 ((tot L : Nat) : Int) (L.length : Int) bg ks nu (refC tx sz q 3, q) (by omega) (refC_ne tx sz q (by decide)) (by omega) (by omega)
          · have es : sText tx sz (d + 1) b L = .inr (refC tx sz q 5, q) := by
              show (if sz ≤ b then _ else _) = _
              rw [if_neg c, eq, if_neg c0, if_neg m1, if_pos m3]
            rw [es, m2, Option.bind_some]
            exact bad nn a2 t2 f2 ((tot L : Nat) : Int) (L.length : Int) bg ks nu (refC tx sz q 5, q) (by omega) (refC_ne tx sz q (by decide)) (by omega) (by omega)
          · have es : sText tx sz (d + 1) b L = (match sLine tx sz (kw tx sz q) (nxt tx sz q) with
                | .inl a => sText tx sz d (a.1 + 1) (L ++ [(kw tx sz q, a.2)])
                | .inr e => .inr e) := by
              show (if sz ≤ b then _ else _) = _
              rw [if_neg c, eq, if_neg c0, if_neg m1, if_neg m3]
              cases sLine tx sz (kw tx sz q) (nxt tx sz q) <;> rfl
            have hx := nxt_b (tx := tx) hqb.2
            have hx1 := hx.2.2 c0
            rw [es, m2]
            cases er : sLine tx sz (kw tx sz q) (nxt tx sz q) with
            | inr e =>
              rw [er] at m4
              obtain ⟨k0, a2, t2, f2, pa2, nu2, k1, k2⟩ := m4
              rw [k1, Option.bind_some, Option.bind_some]
              exact bad nn _ _ _ _ _ _ _ _ e (by omega) k0 (by show 0 ≤ (L.length : Int) + 1; omega) (by show (L.length : Int) + 1 ≤ 65; omega)
            | inl a =>
              rw [er] at m4
              obtain ⟨a2, t2, f2, g2, p2, pa2, nu2, k1, k2, k3⟩ := m4
              have k3 : NM nu (tot L) nu2 pa2 a.2 := k3
              have pp1 := sLine_p hx.2.1 (show sLine tx sz (kw tx sz q) (nxt tx sz q) = .inl (a.1, a.2) from er)
              obtain ⟨_, ⟨h2, h3, h4, h5, h6, h7⟩ | ⟨h2, _⟩⟩ := k2
              · have ee : tkE tx sz a.1 = a.1 := by unfold tkE; rw [if_pos pp1.2.2]
                rw [ee] at h3
                have el : (((L ++ [(kw tx sz q, a.2)]).length : Nat) : Int) = (L.length : Int) + 1 := by rw [List.length_append]; rfl
                have el2 : (L ++ [(kw tx sz q, a.2)]).length = L.length + 1 := by rw [List.length_append]; rfl
                have et : tot (L ++ [(kw tx sz q, a.2)]) = tot L + a.2.length := by rw [tot_app]; rfl
                have ep : pa2 = ((tot (L ++ [(kw tx sz q, a.2)]) : Nat) : Int) := by rw [k3.1, et]
                rw [k1, Option.bind_some, Option.bind_some]
                show RTM nx0 (sText tx sz d (a.1 + 1) (L ++ [(kw tx sz q, a.2)])) (LB_Md_readText_32 fl (sz : Int) ty nn 1 a2 t2 f2 g2 p2 ((L.length : Int) + 1) nx0 pa2 (up bg L.length ((tot L : Nat) : Int)) (up ks L.length ((kw tx sz q : Nat) : Int)) nu2)
                rw [h6, h7, h3, ep, ← el]
                obtain ⟨n3, rfl⟩ : ∃ r, nn = r + 1 := ⟨nn - 1, by omega⟩
                exact step d n3 a.1 t2 f2 _ _ nu2 _ pp1.2.1 pp1.2.2 (by omega) (by omega) (LiM_add h k3) (fun tm fr hq1 => ih n3 (a.1 + 1) tm fr _ _ nu2 _ (by omega) hq1 (by omega) (by omega) (by rw [et]; omega) (LiM_add h k3)) a.1 pp1.2.1 (idEnd a.1 pp1.2.1 pp1.2.2)
              · have := pp1.2.2
                omega
