/-- what the class's reading of a text answers -/
def RT (on hr size : Int) (r : (List Lin) ⊕ (Int × Nat)) (X : Option (Int × Int × Int × Int × Int × Int × Int × Int × Int × Int × Int × Int × Int × (Nat → Int) × (Nat → Int) × (Nat → Int))) : Prop := match r with
  | .inl L => ∃ be tk pl va mi kd st vl, X = some ((L.length : Int), on, hr, size, be, tk, pl, va, mi, 0, -1, (L.length : Int), 0, kd, st, vl) ∧ LiS L kd st vl ∧ L.length ≤ 64
  | .inr e => ∃ be tk pl va mi kd st vl, X = some (-1, on, hr, size, be, tk, pl, va, mi, e.1, (e.2 : Int), 0, 0, kd, st, vl) ∧ st 0 = 0
theorem C_beg (fl : Nat) (hfl : 5000 ≤ fl) {tx : Nat → Int} {sz : Nat} (hs : sz ≤ 4000) {b : Nat} (hb : b ≤ sz) (tk pl va mi : Int) : ∃ be' tk' pl' va' mi', LM_Rd_advance fl (sz : Int) tx (b : Int) tk pl va mi = some (be', tk', pl', va', mi') ∧ AtC tx sz (idl tx sz b) be' tk' pl' va' mi' := by
  obtain ⟨va', mi', g1, g2⟩ := C_adv fl hfl tx hs hb tk pl va mi
  exact ⟨_, _, _, va', mi', g1, (idl_le hb).2, rfl, rfl, rfl, g2⟩
theorem C_text (fl : Nat) (hfl : 5000 ≤ fl) {tx : Nat → Int} {sz : Nat} (hs : sz ≤ 4000) (on hr : Int) :
    ∀ (d nn i b : Nat) (tk pl va mi : Int) (kd st vl : Nat → Int) (L : List Lin), i + d = sz → d < nn → i ≤ b → b ≤ sz + 1 → L.length ≤ 64 → tot L ≤ b → LiS L kd st vl →
    RT on hr (sz : Int) (sText tx sz d b L) (LB_En_read_35 fl tx nn (sz : Int) (i : Int) on hr (sz : Int) (b : Int) tk pl va mi 0 (-1) (L.length : Int) 0 kd st vl) := by
  have fin : ∀ (i b : Nat) (tk pl va mi : Int) (kd st vl : Nat → Int) (L : List Lin), L.length ≤ 64 → LiS L kd st vl → RT on hr (sz : Int) (.inl L) (LB_En_read_80 fl tx (sz : Int) (i : Int) on hr (sz : Int) (b : Int) tk pl va mi 0 (-1) (L.length : Int) 0 kd st vl) := by
    intro i b tk pl va mi kd st vl L hL h
    unfold LB_En_read_80 LM_Li_waiting LB_Li_waiting_0
    rw [if_pos rfl, if_pos (by omega), Option.bind_some, Int.sub_zero]
    exact ⟨_, _, _, _, _, _, _, _, rfl, h, hL⟩
  have bad : ∀ (nn i : Nat) (be tk pl va mi : Int) (kd st vl : Nat → Int) (cn : Int) (e : Int × Nat), e.1 ≠ 0 → 1 ≤ nn → st 0 = 0 → RT on hr (sz : Int) (.inr e) (LB_En_read_35 fl tx nn (sz : Int) (i : Int) on hr (sz : Int) be tk pl va mi e.1 (e.2 : Int) cn 0 kd st vl) := by
    intro nn i be tk pl va mi kd st vl cn e he hnn h0
    obtain ⟨nn, rfl⟩ : ∃ r, nn = r + 1 := ⟨nn - 1, by omega⟩
    have e80 : RT on hr (sz : Int) (.inr e) (LB_En_read_80 fl tx (sz : Int) (i : Int) on hr (sz : Int) be tk pl va mi e.1 (e.2 : Int) cn 0 kd st vl) := by
      unfold LB_En_read_80 LM_Li_clear LB_Li_clear_0
      rw [if_neg he, Option.bind_some]
      exact ⟨_, _, _, _, _, _, _, _, rfl, h0⟩
    rw [LB_En_read_35]
    by_cases c : (sz : Int) ≤ (i : Int)
    · rw [if_pos c]; exact e80
    · unfold LM_Rd_hasMore LB_Rd_hasMore_0
      rw [if_neg c, if_pos he]
      by_cases c2 : (sz : Int) ≤ be
      · rw [if_pos c2, Option.bind_some, if_pos rfl]; exact e80
      · rw [if_neg c2, Option.bind_some, if_pos rfl]; exact e80
  intro d
  induction d with
  | zero =>
    intro nn i b tk pl va mi kd st vl L hi hnn hib hb hL hT h
    obtain ⟨nn, rfl⟩ : ∃ r, nn = r + 1 := ⟨nn - 1, by omega⟩
    rw [LB_En_read_35, if_pos (by omega)]
    exact fin i b tk pl va mi kd st vl L hL h
  | succ d ih =>
    intro nn i b tk pl va mi kd st vl L hi hnn hib hb hL hT h
    obtain ⟨nn, rfl⟩ : ∃ r, nn = r + 1 := ⟨nn - 1, by omega⟩
    rw [LB_En_read_35, if_neg (by omega)]
    unfold LM_Rd_hasMore LB_Rd_hasMore_0
    by_cases c : sz ≤ b
    · have es : sText tx sz (d + 1) b L = .inl L := if_pos c
      rw [es, if_pos (by omega), Option.bind_some, if_pos rfl]
      exact fin i b tk pl va mi kd st vl L hL h
    · rw [if_neg (by omega), if_neg (by omega), Option.bind_some, if_neg (by omega)]
      obtain ⟨b1, t1, p1, w1, m1, g1, g2⟩ := C_beg fl hfl (tx := tx) hs (show b ≤ sz by omega) tk pl va mi
      have hq := idl_le (tx := tx) (show b ≤ sz by omega)
      unfold LM_Rd_beginLine LB_Rd_beginLine_0
      rw [g1, Option.bind_some]
      obtain ⟨q, eq⟩ : ∃ q, idl tx sz b = q := ⟨_, rfl⟩
      rw [eq] at hq g2
      have e4 := g2.2.2.2.1
      have ek := g2.2.2.1
      have hx := nxt_b (tx := tx) hq.2
      show RT on hr (sz : Int) (sText tx sz (d + 1) b L) (Option.bind (if ¬ (t1 = (0 : Int)) then _ else (if (-2147483648 ≤ (p1 + (1 : Int)) ∧ (p1 + (1 : Int)) < 2147483648) then _ else none)) _)
      by_cases c0 : tkK tx sz q = 0
      · have es : sText tx sz (d + 1) b L = sText tx sz d (q + 1) L := by
          show (if sz ≤ b then _ else _) = _
          rw [if_neg c, eq, if_pos c0]
        rw [es, if_neg (by omega), if_pos (by omega), Option.bind_some, if_pos rfl]
        unfold LB_En_read_74
        rw [if_pos (by omega)]
        have := ih nn (i + 1) (q + 1) t1 p1 w1 m1 kd st vl L (by omega) (by omega) (by omega) (by omega) hL (by omega) h
        rw [show ((i : Int) + 1) = ((i + 1 : Nat) : Int) by omega]
        rw [show ((q + 1 : Nat) : Int) = p1 + 1 by omega] at this
        exact this
      · rw [if_pos (by omega)]
        have hkw := C_kind fl hfl hs g2 18 fl 1 (by omega) (by omega) (by omega)
        have hk18 := kwF_r tx sz q 18 1 (by omega) (by omega)
        have h0 : st 0 = 0 := by have := h.1 0 (by omega); rw [this]; rfl
        show RT on hr (sz : Int) (sText tx sz (d + 1) b L) (Option.bind ((LB_Rd_kindOfWord_2 fl b1 t1 p1 tx fl ((1 : Nat) : Int)).bind _) _)
        rw [hkw, Option.bind_some]
        by_cases c1 : kw tx sz q = 0
        · have es : sText tx sz (d + 1) b L = .inr (refC tx sz q 3, q) := by
            show (if sz ≤ b then _ else _) = _
            rw [if_neg c, eq, if_neg c0, if_pos c1]
          have c1' : kwF tx sz q 18 1 = 0 := c1
          rw [es, if_neg (by omega)]
          show RT on hr (sz : Int) _ (Option.bind ((LM_Rd_refuse fl t1 p1 w1 m1 3 0 (-1)).bind _) _)
          rw [C_refuse fl g2, Option.bind_some, if_pos (Or.inl rfl), Option.bind_some, if_pos rfl]
          unfold LB_En_read_74
          rw [if_pos (by omega), show ((i : Int) + 1) = ((i + 1 : Nat) : Int) by omega]
          exact bad nn (i + 1) b1 t1 p1 w1 m1 kd st vl (L.length : Int) (refC tx sz q 3, q) (refC_ne tx sz q (by decide)) (by omega) h0
        · have c1' : ¬ kwF tx sz q 18 1 = 0 := c1
          rw [if_pos (by omega)]
          unfold LM_Li_isFull LB_Li_isFull_0
          by_cases c2 : 64 ≤ L.length
          · have es : sText tx sz (d + 1) b L = .inr (refC tx sz q 5, q) := by
              show (if sz ≤ b then _ else _) = _
              rw [if_neg c, eq, if_neg c0, if_neg c1, if_pos c2]
            rw [es, if_neg (by omega), Option.bind_some, if_neg (by omega)]
            show RT on hr (sz : Int) _ (Option.bind ((LM_Rd_refuse fl t1 p1 w1 m1 5 0 (-1)).bind _) _)
            rw [C_refuse fl g2, Option.bind_some, if_pos (Or.inl rfl), Option.bind_some, if_pos rfl]
            unfold LB_En_read_74
            rw [if_pos (by omega), show ((i : Int) + 1) = ((i + 1 : Nat) : Int) by omega]
            exact bad nn (i + 1) b1 t1 p1 w1 m1 kd st vl (L.length : Int) (refC tx sz q 5, q) (refC_ne tx sz q (by decide)) (by omega) h0
          · have es : sText tx sz (d + 1) b L = (match sLine tx sz (kw tx sz q) (nxt tx sz q) with
                | .inl a => sText tx sz d (a.1 + 1) (L ++ [(kw tx sz q, a.2)])
                | .inr e => .inr e) := by
              show (if sz ≤ b then _ else _) = _
              rw [if_neg c, eq, if_neg c0, if_neg c1, if_neg c2]
              cases sLine tx sz (kw tx sz q) (nxt tx sz q) <;> rfl
            obtain ⟨b2, t2, p2, w2, m2, n1, n2⟩ := C_next fl hfl hs g2
            have hx1 := hx.2.2 c0
            rw [if_pos (by omega), Option.bind_some, if_pos rfl]
            unfold LM_Li_open LB_Li_open_0
            rw [if_neg (by omega), if_pos (by omega), if_pos (by omega), if_pos (by omega), Option.bind_some, Int.toNat_natCast, show Int.toNat ((L.length : Int) + 1) = L.length + 1 by omega]
            show RT on hr (sz : Int) (sText tx sz (d + 1) b L) (Option.bind ((LM_Rd_advance fl (sz : Int) tx b1 t1 p1 w1 m1).bind _) _)
            rw [n1, Option.bind_some, Option.bind_some, if_neg (by show ¬ ((1 : Int) = 0); omega)]
            show RT on hr (sz : Int) (sText tx sz (d + 1) b L) ((LM_Li_kindOfLast fl ((L.length : Int) + 1) (up kd L.length ((kwF tx sz q 18 1 : Nat) : Int))).bind fun o2 => ((LM_Rd_readRest fl (sz : Int) ((L.length : Int) + 1) tx o2 b2 t2 p2 w2 m2 0 (-1) (up st (L.length + 1) (st L.length)) vl).bind _))
            have ekl : LM_Li_kindOfLast fl ((L.length : Int) + 1) (up kd L.length ((kwF tx sz q 18 1 : Nat) : Int)) = some ((kwF tx sz q 18 1 : Nat) : Int) := by
              unfold LM_Li_kindOfLast LB_Li_kindOfLast_0
              rw [if_neg (by omega), if_pos (by omega), show Int.toNat ((L.length : Int) + 1 - 1) = L.length by omega, up_eq]
            rw [ekl, Option.bind_some]
            have eT : st L.length = ((tot L : Nat) : Int) := by
              have := h.1 L.length (Nat.le_refl _)
              rw [List.take_of_length_le (Nat.le_refl _)] at this
              exact this
            have nc0 : NC (up st (L.length + 1) (st L.length)) vl L.length (tot L) (up st (L.length + 1) (st L.length)) vl [] := by
              refine ⟨fun k hk => rfl, fun i hi => rfl, ?_, fun i hi => absurd hi (by show ¬ i < 0; omega)⟩
              rw [up_eq, eT]
              rfl
            have key := C_rest fl hfl hs n2 nc0 (by omega) (by show tot L + 0 < nxt tx sz q; omega) 0 (-1) (k := kwF tx sz q 18 1) ⟨by omega, hk18⟩
            rw [es]
            cases er : sLine tx sz (kw tx sz q) (nxt tx sz q) with
            | inr e =>
              rw [show kwF tx sz q 18 1 = kw tx sz q from rfl] at key
              rw [er] at key
              obtain ⟨b3, t3, p3, w3, m3, s3, v3, k1, k2⟩ := key
              rw [show kwF tx sz q 18 1 = kw tx sz q from rfl, k1, Option.bind_some]
              unfold LB_En_read_74
              rw [if_pos (by omega), show ((i : Int) + 1) = ((i + 1 : Nat) : Int) by omega]
              refine bad nn (i + 1) b3 t3 p3 w3 m3 _ s3 v3 _ e (ok_line tx sz _ _ e er) (by omega) ?_
              rw [k2 0 (by omega), up_ne _ _ (by omega)]
              exact h0
            | inl a =>
              rw [show kwF tx sz q 18 1 = kw tx sz q from rfl] at key
              rw [er] at key
              obtain ⟨b3, t3, p3, w3, m3, s3, v3, k1, k2, k3, k4⟩ := key
              rw [show kwF tx sz q 18 1 = kw tx sz q from rfl, k1, Option.bind_some]
              unfold LB_En_read_74
              rw [if_pos (by omega), show ((i : Int) + 1) = ((i + 1 : Nat) : Int) by omega]
              have pp1 := sLine_p hx.2.1 (show sLine tx sz (kw tx sz q) (nxt tx sz q) = .inl (a.1, a.2) from er)
              have := ih nn (i + 1) (a.1 + 1) t3 p3 w3 m3 (up kd L.length ((kw tx sz q : Nat) : Int)) s3 v3 (L ++ [(kw tx sz q, a.2)]) (by omega) (by omega) (by omega) (by omega) (by rw [List.length_append]; show L.length + 1 ≤ 64; omega) (by rw [tot_app]; show tot L + (a.2.length + 0) ≤ a.1 + 1; omega) (LiS_add h k4)
              rw [show (((L ++ [(kw tx sz q, a.2)]).length : Nat) : Int) = (L.length : Int) + 1 by rw [List.length_append]; rfl, show ((a.1 + 1 : Nat) : Int) = (a.1 : Int) + 1 by omega] at this
              exact this
/-- the class reads -/
theorem C_read (fl : Nat) (hfl : 5000 ≤ fl) {tx : Nat → Int} {n : Nat} {on : Int} (hn : (n : Int) ≤ on) (hon : on ≤ 4000) (hr sz be tk pl va mi ff fp cn dn : Int) (kd st vl : Nat → Int) (h0 : st 0 = 0) :
    RT 0 1 (n : Int) (sText tx n n 0 []) (LM_En_read fl tx (n : Int) on hr sz be tk pl va mi ff fp cn dn kd st vl) := by
  unfold LM_En_read LB_En_read_0 LM_Rd_begin LB_Rd_begin_0 LM_Li_clear LB_Li_clear_0
  rw [if_neg (by omega), if_pos hn, Option.bind_some, Option.bind_some]
  exact C_text fl hfl (by omega) 0 1 n fl 0 0 tk pl va mi kd st vl [] (by omega) (by omega) (by omega) (by omega) (by show 0 ≤ 64; omega) (by show 0 ≤ 0; omega) ⟨fun i hi => by
    have : i = 0 := by
      have : i ≤ 0 := hi
      omega
    rw [this, h0]; rfl, fun i hi => absurd hi (by show ¬ i < 0; omega)⟩
theorem C_readN (fl : Nat) {tx : Nat → Int} {n on : Int} (h : n < 0 ∨ on < n) (hr sz be tk pl va mi ff fp cn dn : Int) (kd st vl : Nat → Int) : LM_En_read fl tx n on hr sz be tk pl va mi ff fp cn dn kd st vl = some (-2, on, hr, sz, be, tk, pl, va, mi, ff, fp, cn, dn, kd, st, vl) := by
  unfold LM_En_read LB_En_read_0
  by_cases c : n < 0
  · rw [if_pos c]
  · rw [if_neg c, if_neg (by omega)]
