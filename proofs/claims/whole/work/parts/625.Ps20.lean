theorem M_rterm (fl : Nat) (hfl : 5000 ≤ fl) {tx ty : Nat → Int} {sz : Nat} (hs : sz ≤ 4000) (ht : TXT tx ty sz) {q : Nat} {at_ tm fr fa pl : Int} (h : AtM tx sz q at_ tm fr fa pl) {nu0 nu : Nat → Int} {b : Nat} {pa : Int} {l : List Int} (hn : NM nu0 b nu pa l) (hb : b + l.length + 1 < q) (x1 : Int) (k : Nat) :
    RM tx sz nu0 b l 4020 (sTerm tx sz (sgv x1) (lit (if k = 18 then 22 else 23)) q) (LM_Md_readTerm fl (sz : Int) ty x1 (k : Int) at_ tm fr fa pl pa nu) := by
  have hq := h.1
  have h1 := hn.1
  have e63 : lit 63 = lit 22 := by decide
  have e64 : lit 64 = lit 23 := by decide
  have t28 : ∀ (q : Nat) (at_ tm fr fa pl x3 x5 : Int) (has : Bool), AtM tx sz q at_ tm fr fa pl → b + l.length + 1 < q → (0 ≤ x3 ∧ x3 < 1000000000000000000) → (has = true ↔ ¬ (x5 = 0)) → RM tx sz nu0 b l 4020 (sTm tx sz (sgv x1 * x3) (lit (if k = 18 then 22 else 23)) has q) (LB_Md_readTerm_28 fl (sz : Int) ty x1 (k : Int) x3 x5 at_ tm fr fa pl pa nu) := by
    intro q at_ tm fr fa pl x3 x5 has h hb h3 h5
    unfold LB_Md_readTerm_28
    by_cases c : k = 18
    · rw [if_pos c, if_neg (by omega), ← e63]
      exact M44t fl hfl hs ht h hn hb (by decide) h3 h5
    · rw [if_neg c, if_pos (by omega), ← e64]
      exact M44t fl hfl hs ht h hn hb (by decide) h3 h5
  have f28 : ∀ (at_ tm fr fa pl x3 x5 : Int), FaM tx sz at_ tm fr → fa ≠ 0 → (0 ≤ x3 ∧ x3 < 1000000000000000000) → FR tx sz fa pl 4020 (LB_Md_readTerm_28 fl (sz : Int) ty x1 (k : Int) x3 x5 at_ tm fr fa pl pa nu) := by
    intro at_ tm fr fa pl x3 x5 k1 k2 h3
    unfold LB_Md_readTerm_28
    by_cases c : (k : Int) = 18
    · rw [if_neg (fun g => g c)]
      exact FR_mono (F44t fl hfl hs ht k1 k2 nu (by decide) h3 (B := 4001) ⟨by omega, by omega, by omega⟩) (by omega)
    · rw [if_pos c]
      exact FR_mono (F44t fl hfl hs ht k1 k2 nu (by decide) h3 (B := 4001) ⟨by omega, by omega, by omega⟩) (by omega)
  unfold LM_Md_readTerm LB_Md_readTerm_0 LB_Md_readTerm_15
  have hr := tkK_r tx sz q
  by_cases c : tkK tx sz q = 3
  · have h' := h
    obtain ⟨_, ⟨h2, h3, h4, h5, h6, h7⟩ | ⟨h2, _⟩⟩ := h'
    · have e := tkM_b hr 2 (by omega)
      have eb := M_bad fl hfl hs ht hq c 1
      have hv := nv_b c
      by_cases c4 : ms tx sz q = 0
      · have es : sTerm tx sz (sgv x1) (lit (if k = 18 then 22 else 23)) q = sTm tx sz (sgv x1 * nv tx sz q) (lit (if k = 18 then 22 else 23)) true (nxt tx sz q) := by
          show (if tkK tx sz q = 3 then _ else _) = _
          rw [if_pos c, if_pos c4]
        rw [if_pos ⟨c4, Or.inl (by decide)⟩] at eb
        have hm : tkE tx sz q - q ≤ 18 := by
          by_cases g : 18 < tkE tx sz q - q
          · have : ms tx sz q = 1 := by unfold ms misF; rw [if_pos g]
            omega
          · omega
        obtain ⟨a1, t1, f1, g1, p1, n1, n2⟩ := M_next fl hfl hs ht h (by omega)
        have hx := nxt_b (tx := tx) hq
        rw [es, if_neg (show ¬ ¬ (tm = 2) by omega), if_neg (show ¬ (1 : Int) = 0 by omega)]
        unfold LM_Md_number LB_Md_number_0
        rw [if_pos (show tm = 2 by omega), n1, h3, h5, eb, Option.bind_some, if_pos rfl, M_value fl hfl hs ht hq c hm, Option.bind_some, Option.bind_some, Option.bind_some]
        exact t28 _ a1 t1 f1 g1 p1 (nv tx sz q) 1 true n2 (by omega) hv (by constructor <;> intro _ <;> first | omega | rfl)
      · have es : sTerm tx sz (sgv x1) (lit (if k = 18 then 22 else 23)) q = .inr (2, q) := by
          show (if tkK tx sz q = 3 then _ else _) = _
          rw [if_pos c, if_neg c4]
        rw [if_neg (fun g => c4 g.1)] at eb
        rw [es, if_neg (show ¬ ¬ (tm = 2) by omega), if_neg (show ¬ (1 : Int) = 0 by omega)]
        unfold LM_Md_number LB_Md_number_0 LM_Md_fail LB_Md_fail_0
        rw [if_pos (show tm = 2 by omega), h3, h5, eb, Option.bind_some, if_neg (show ¬ (1 : Int) = 0 by omega), if_pos h6, Option.bind_some, Option.bind_some]
        refine ⟨by show (2 : Int) ≠ 0; decide, f28 _ tm _ 2 (q : Int) 0 1 ?_ (by decide) (by omega)⟩
        rw [← h3, ← h5]; exact FaM_of h
    · omega
  · have es : sTerm tx sz (sgv x1) (lit (if k = 18 then 22 else 23)) q = sTm tx sz (sgv x1 * 1) (lit (if k = 18 then 22 else 23)) false q := by
      show (if tkK tx sz q = 3 then _ else _) = _
      rw [if_neg c]
    have ht2 : ¬ tm = 2 := by
      have e := tkM_b hr 2 (by omega)
      obtain ⟨_, ⟨h2, h3, h4, h5, h6, h7⟩ | ⟨h2, h3, _⟩⟩ := h
      · omega
      · omega
    rw [es, if_pos ht2, if_pos rfl]
    exact t28 q at_ tm fr fa pl 1 0 false h hb (by omega) (by constructor <;> intro g <;> first | exact absurd g (by decide) | exact absurd rfl g)
