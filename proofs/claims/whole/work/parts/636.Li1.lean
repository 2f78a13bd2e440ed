/-- a property of the numbers that a reader gives -/
def RsP (P : List Int → Prop) (r : Rs) : Prop := ∀ a, r = .inl a → P a.2
theorem RsP_sq {P Q R : List Int → Prop} {r : Rs} {f : Nat → Rs} (h1 : RsP P r) (h2 : ∀ q, RsP Q (f q)) (h : ∀ x y, P x → Q y → R (x ++ y)) : RsP R (sq r f) := by
  intro a e
  unfold sq at e
  cases r with
  | inr e1 => cases e
  | inl b =>
    have e' : (match f b.1 with | .inl c => (.inl (c.1, b.2 ++ c.2) : Rs) | .inr e => .inr e) = .inl a := e
    cases g : f b.1 with
    | inr e2 => rw [g] at e'; cases e'
    | inl c =>
      rw [g] at e'
      have e3 := Sum.inl.inj e'
      rw [← e3]
      exact h _ _ (h1 b rfl) (h2 b.1 c g)
theorem RsP_ite {P : List Int → Prop} {r s : Rs} {c : Prop} [Decidable c] (h1 : c → RsP P r) (h2 : ¬ c → RsP P s) : RsP P (if c then r else s) := by
  by_cases g : c
  · rw [if_pos g]; exact h1 g
  · rw [if_neg g]; exact h2 g
theorem RsP_inl {P : List Int → Prop} {q : Nat} {l : List Int} (h : P l) : RsP P (.inl (q, l)) := fun a e => by rw [← Sum.inl.inj e]; exact h
theorem RsP_inr {P : List Int → Prop} {e : Int × Nat} : RsP P (.inr e) := fun a h => by cases h
theorem RsP_im {P Q : List Int → Prop} {r : Rs} (h : RsP P r) (g : ∀ l, P l → Q l) : RsP Q r := fun a e => g _ (h a e)
def oneP (p : Int → Prop) (l : List Int) : Prop := ∃ v, l = [v] ∧ p v
def isN (v : Int) : Prop := 0 ≤ v ∧ v ≤ 9999
def isB (v : Int) : Prop := -9999 ≤ v ∧ v ≤ 9999
def isS (v : Int) : Prop := v = 1 ∨ v = -1
def is01 (v : Int) : Prop := v = 1 ∨ v = 0
section
variable (tx : Nat → Int) (sz : Nat)
theorem RsP_num (q : Nat) : RsP (oneP isN) (sNum tx sz 1 q) := RsP_ite (fun h => RsP_inl ⟨_, rfl, by
  have := (nv_b h.1).1
  have := h.2.2
  exact ⟨by omega, by omega⟩⟩) (fun _ => RsP_inr)
theorem RsP_mark (m : Int) (q : Nat) : RsP (fun l => l = []) (sMark tx sz m q) := RsP_ite (fun _ => RsP_inl rfl) (fun _ => RsP_inr)
theorem RsP_sgd (q : Nat) : RsP (oneP isB) (sSgd tx sz q) := RsP_ite (fun _ => RsP_ite (fun h => RsP_inl ⟨_, rfl, by
  have := (nv_b h.1).1
  have := h.2.2
  exact ⟨by omega, by omega⟩⟩) (fun _ => RsP_inr)) (fun _ => RsP_im (RsP_num tx sz q) (fun l ⟨v, e, h⟩ => ⟨v, e, by unfold isN at h; exact ⟨by omega, by omega⟩⟩))
theorem RsP_sign (q : Nat) : RsP (oneP isS) (sSign tx sz q) := RsP_ite (fun _ => RsP_inl ⟨_, rfl, Or.inl rfl⟩) (fun _ => RsP_ite (fun _ => RsP_inl ⟨_, rfl, Or.inr rfl⟩) (fun _ => RsP_inr))
theorem RsP_side (q : Nat) : RsP (oneP is01) (sSide tx sz q) := RsP_ite (fun _ => RsP_inl ⟨_, rfl, Or.inl rfl⟩) (fun _ => RsP_ite (fun _ => RsP_inl ⟨_, rfl, Or.inr rfl⟩) (fun _ => RsP_inr))
def crP (l : List Int) : Prop := ∃ s a b c d, l = [s, a, b, c, d] ∧ isS s ∧ isN a ∧ isN b ∧ isN c ∧ isN d
theorem RsP_cross (q : Nat) : RsP crP (sCross tx sz q) := by
  have m := fun (m : Int) (P : List Int → Prop) (q : Nat) (f : Nat → Rs) (h : ∀ q, RsP P (f q)) => RsP_sq (R := P) (RsP_mark tx sz m q) h (fun x y hx hy => by rw [hx]; exact hy)
  have n := fun (P Q : List Int → Prop) (q : Nat) (f : Nat → Rs) (h : ∀ q, RsP P (f q)) (g : ∀ v l, isN v → P l → Q (v :: l)) => RsP_sq (R := Q) (RsP_num tx sz q) h (fun x y hx hy => by
    obtain ⟨v, e, hv⟩ := hx
    rw [e]; exact g v y hv hy)
  refine RsP_sq (P := oneP isS) (Q := fun l => ∃ a b c d, l = [a, b, c, d] ∧ isN a ∧ isN b ∧ isN c ∧ isN d) (RsP_sign tx sz q) (fun q => ?_) (fun x y ⟨s, e, hs⟩ ⟨a, b, c, d, e2, h⟩ => ⟨s, a, b, c, d, by rw [e, e2]; rfl, hs, h⟩)
  refine m 91 _ q _ (fun q => ?_)
  refine n (fun l => ∃ b c d, l = [b, c, d] ∧ isN b ∧ isN c ∧ isN d) _ q _ (fun q => ?_) (fun v l hv ⟨b, c, d, e, h⟩ => ⟨v, b, c, d, by rw [e], hv, h⟩)
  refine m 44 _ q _ (fun q => ?_)
  refine n (fun l => ∃ c d, l = [c, d] ∧ isN c ∧ isN d) _ q _ (fun q => ?_) (fun v l hv ⟨c, d, e, h⟩ => ⟨v, c, d, by rw [e], hv, h⟩)
  refine m 44 _ q _ (fun q => ?_)
  refine n (fun l => ∃ d, l = [d] ∧ isN d) _ q _ (fun q => ?_) (fun v l hv ⟨d, e, h⟩ => ⟨v, d, by rw [e], hv, h⟩)
  refine m 44 _ q _ (fun q => ?_)
  refine n (fun l => l = []) _ q _ (fun q => ?_) (fun v l hv e => ⟨v, by rw [e], hv⟩)
  refine m 93 _ q _ (fun q => ?_)
  exact RsP_inl rfl
def cdLn (d : Nat) (l : List Int) : Prop := ∃ n, n ≤ d ∧ l.length = 5 * n + 1 ∧ (∀ c, c < n → isS (l.getD (5 * c) 0)) ∧ ∀ i, i < 5 * n + 1 → i % 5 ≠ 0 ∨ i = 5 * n → isN (l.getD i 0)
theorem cdLn_one {l : List Int} (h : oneP isN l) (d : Nat) : cdLn d l := by
  obtain ⟨v, e, h⟩ := h
  refine ⟨0, Nat.zero_le _, by rw [e]; rfl, fun c hc => by omega, fun i hi _ => ?_⟩
  have : i = 0 := by omega
  rw [this, e]; exact h
theorem cdLn_add {x y : List Int} {d : Nat} (hx : crP x) (hy : cdLn d y) : cdLn (d + 1) (x ++ y) := by
  obtain ⟨s, a, b, c, e, ex, hs, ha, hb, hc, he⟩ := hx
  obtain ⟨n, h1, h2, h3, h4⟩ := hy
  have g : ∀ i, (x ++ y).getD (i + 5) 0 = y.getD i 0 := fun i => by rw [ex]; rfl
  refine ⟨n + 1, by omega, by rw [List.length_append, ex, h2]; show 5 + (5 * n + 1) = _; omega, fun k hk => ?_, fun i hi hi2 => ?_⟩
  · cases k with
    | zero => rw [ex]; exact hs
    | succ k => rw [show 5 * (k + 1) = 5 * k + 5 by omega, g]; exact h3 k (by omega)
  · by_cases c5 : 5 ≤ i
    · obtain ⟨j, rfl⟩ : ∃ j, i = j + 5 := ⟨i - 5, by omega⟩
      rw [g]; exact h4 j (by omega) (by omega)
    · have : i = 1 ∨ i = 2 ∨ i = 3 ∨ i = 4 := by omega
      rcases this with w | w | w | w <;> rw [w, ex]
      · exact ha
      · exact hb
      · exact hc
      · exact he
theorem RsP_code : ∀ d q, RsP (cdLn d) (sCode tx sz d q) := by
  have tl : ∀ d q, RsP (cdLn d) (sTail tx sz q) := fun d q => RsP_ite (fun _ => RsP_im (RsP_num tx sz _) (fun l h => cdLn_one h d)) (fun _ => RsP_inl (cdLn_one ⟨0, rfl, by decide, by decide⟩ d))
  intro d
  induction d with
  | zero => intro q; exact RsP_ite (fun _ => RsP_inr) (fun _ => tl 0 q)
  | succ d ih => intro q; exact RsP_ite (fun _ => RsP_sq (RsP_cross tx sz q) ih (fun x y hx hy => cdLn_add hx hy)) (fun _ => tl (d + 1) q)
def leLn (d : Nat) (l : List Int) : Prop := l.length ≤ d ∧ ∀ i, i < l.length → isB (l.getD i 0)
theorem leLn_add {x y : List Int} {d : Nat} (hx : oneP isB x) (hy : leLn d y) : leLn (d + 1) (x ++ y) := by
  obtain ⟨v, e, hv⟩ := hx
  rw [e]
  refine ⟨by show y.length + 1 ≤ d + 1; have := hy.1; omega, fun i hi => ?_⟩
  cases i with
  | zero => exact hv
  | succ i => exact hy.2 i (by have : i + 1 < y.length + 1 := hi; omega)
theorem RsP_let : ∀ d q, RsP (leLn d) (sLet tx sz d q) := by
  intro d
  induction d with
  | zero => intro q; exact RsP_ite (fun _ => RsP_inr) (fun _ => RsP_inl ⟨Nat.le_refl _, fun i hi => absurd hi (by show ¬ i < 0; omega)⟩)
  | succ d ih => intro q; exact RsP_ite (fun _ => RsP_sq (RsP_sgd tx sz q) ih (fun x y hx hy => leLn_add hx hy)) (fun _ => RsP_inl ⟨Nat.zero_le _, fun i hi => absurd hi (by show ¬ i < 0; omega)⟩)
def isC (v : Int) : Prop := -1000000000000000000 < v ∧ v < 1000000000000000000
def tmP (l : List Int) : Prop := ∃ c e, l = [c, e] ∧ isC c ∧ isB e
theorem RsP_term {sg : Int} (hs : sg = 1 ∨ sg = -1) (lv : List Int) (q : Nat) : RsP tmP (sTerm tx sz sg lv q) := by
  have tm : ∀ c, isC c → ∀ has q, RsP tmP (sTm tx sz c lv has q) := fun c hc has q => RsP_ite (fun _ => RsP_ite (fun _ => RsP_sq (P := fun l => l = [c]) (RsP_inl rfl) (RsP_sgd tx sz) (fun x y hx ⟨v, e, hv⟩ => ⟨c, v, by rw [hx, e]; rfl, hc, hv⟩)) (fun _ => RsP_inl ⟨c, 1, rfl, hc, by decide, by decide⟩)) (fun _ => RsP_ite (fun _ => RsP_inl ⟨c, 0, rfl, hc, by decide, by decide⟩) (fun _ => RsP_inr))
  refine RsP_ite (fun h => RsP_ite (fun _ => tm _ ?_ true _) (fun _ => RsP_inr)) (fun _ => tm _ ?_ false q)
  · have := nv_b h
    rcases hs with w | w <;> rw [w] <;> exact ⟨by omega, by omega⟩
  · rcases hs with w | w <;> rw [w] <;> exact ⟨by decide, by decide⟩
def smLn (d : Nat) (l : List Int) : Prop := ∃ p, p ≤ d ∧ l.length = 2 * p ∧ ∀ i, i < p → isC (l.getD (2 * i) 0) ∧ isB (l.getD (2 * i + 1) 0)
theorem smLn_nil (d : Nat) : smLn d [] := ⟨0, Nat.zero_le _, rfl, fun i hi => by omega⟩
theorem smLn_add {x y : List Int} {d : Nat} (hx : tmP x) (hy : smLn d y) : smLn (d + 1) (x ++ y) := by
  obtain ⟨c, e, ex, hc, he⟩ := hx
  obtain ⟨p, h1, h2, h3⟩ := hy
  have g : ∀ i, (x ++ y).getD (i + 2) 0 = y.getD i 0 := fun i => by rw [ex]; rfl
  refine ⟨p + 1, by omega, by rw [List.length_append, ex, h2]; show 2 + 2 * p = _; omega, fun k hk => ?_⟩
  cases k with
  | zero => rw [ex]; exact ⟨hc, he⟩
  | succ k => rw [show 2 * (k + 1) + 1 = (2 * k + 1) + 2 by omega, show 2 * (k + 1) = 2 * k + 2 by omega, g, g]; exact h3 k (by omega)
theorem RsP_sumL (lv : List Int) : ∀ d q, RsP (smLn d) (sSumL tx sz lv d q) := by
  intro d
  induction d with
  | zero => intro q; exact RsP_ite (fun _ => RsP_inr) (fun _ => RsP_inl (smLn_nil 0))
  | succ d ih => intro q; exact RsP_ite (fun _ => RsP_sq (RsP_term tx sz (by split <;> simp) lv _) ih (fun x y hx hy => smLn_add hx hy)) (fun _ => RsP_inl (smLn_nil _))
theorem RsP_sum (lv : List Int) (q : Nat) : RsP (smLn 64) (sSum tx sz lv q) := RsP_sq (RsP_mark tx sz _ q) (fun q => RsP_ite (fun _ => RsP_sq (RsP_term tx sz (Or.inr rfl) lv _) (RsP_sumL tx sz lv 63) (fun x y hx hy => smLn_add hx hy)) (fun _ => RsP_sq (RsP_term tx sz (Or.inl rfl) lv _) (RsP_sumL tx sz lv 63) (fun x y hx hy => smLn_add hx hy))) (fun x y hx hy => by rw [hx]; exact hy)
/-- a line's numbers, by its kind -/
def gdL (k : Nat) (l : List Int) : Prop :=
  (k = 1 → cdLn 20 l) ∧ (k = 2 → ∃ v y, l = v :: y ∧ isN v ∧ leLn 32 y) ∧ ((k = 3 ∨ k = 4 ∨ k = 9 ∨ k = 10 ∨ k = 11) → oneP isN l) ∧ (k = 5 → ∃ a b c, l = [a, b, c] ∧ isN a ∧ isS b ∧ is01 c) ∧ (k = 6 → ∃ a b c, l = [a, b, c] ∧ isB a ∧ is01 b ∧ isB c) ∧ ((k = 16 ∨ k = 17 ∨ k = 18) → smLn 64 l) ∧ ((k = 7 ∨ k = 8 ∨ k = 12 ∨ k = 13 ∨ k = 14 ∨ k = 15) → l = [])
theorem RsP_rest {k : Nat} (q : Nat) : RsP (gdL k) (sRest tx sz k q) := by
  refine RsP_ite (fun h => RsP_im (RsP_code tx sz 20 q) fun l hl => ⟨fun _ => hl, ?_, ?_, ?_, ?_, ?_, ?_⟩) (fun h1 => ?_)
  iterate 6 exact fun w => by omega
  refine RsP_ite (fun h => RsP_im (RsP_sq (R := fun l => ∃ v y, l = v :: y ∧ isN v ∧ leLn 32 y) (RsP_num tx sz q) (RsP_let tx sz 32) (fun x y ⟨v, e, hv⟩ hy => ⟨v, y, by rw [e]; rfl, hv, hy⟩)) fun l hl => ⟨?_, fun _ => hl, ?_, ?_, ?_, ?_, ?_⟩) (fun h2 => ?_)
  iterate 6 exact fun w => by omega
  refine RsP_ite (fun h => RsP_im (RsP_num tx sz q) fun l hl => ⟨?_, ?_, fun _ => hl, ?_, ?_, ?_, ?_⟩) (fun h3 => ?_)
  iterate 6 exact fun w => by omega
  refine RsP_ite (fun h => RsP_im (RsP_sq (R := fun l => ∃ a b c, l = [a, b, c] ∧ isN a ∧ isS b ∧ is01 c) (RsP_num tx sz q) (fun q => RsP_sq (R := fun l => ∃ b c, l = [b, c] ∧ isS b ∧ is01 c) (RsP_sign tx sz q) (RsP_side tx sz) (fun x y ⟨v, e, hv⟩ ⟨w, e2, hw⟩ => ⟨v, w, by rw [e, e2]; rfl, hv, hw⟩)) (fun x y ⟨v, e, hv⟩ ⟨b, c, e2, hb, hc⟩ => ⟨v, b, c, by rw [e, e2]; rfl, hv, hb, hc⟩)) fun l hl => ⟨?_, ?_, ?_, fun _ => hl, ?_, ?_, ?_⟩) (fun h4 => ?_)
  iterate 6 exact fun w => by omega
  refine RsP_ite (fun h => RsP_im (RsP_sq (R := fun l => ∃ a b c, l = [a, b, c] ∧ isB a ∧ is01 b ∧ isB c) (RsP_sgd tx sz q) (fun q => RsP_sq (R := fun l => ∃ b c, l = [b, c] ∧ is01 b ∧ isB c) (RsP_side tx sz q) (RsP_sgd tx sz) (fun x y ⟨v, e, hv⟩ ⟨w, e2, hw⟩ => ⟨v, w, by rw [e, e2]; rfl, hv, hw⟩)) (fun x y ⟨v, e, hv⟩ ⟨b, c, e2, hb, hc⟩ => ⟨v, b, c, by rw [e, e2]; rfl, hv, hb, hc⟩)) fun l hl => ⟨?_, ?_, ?_, ?_, fun _ => hl, ?_, ?_⟩) (fun h5 => ?_)
  iterate 6 exact fun w => by omega
  refine RsP_ite (fun h => RsP_im (RsP_ite (fun _ => RsP_inl (smLn_nil 64)) (fun _ => RsP_sum tx sz _ q)) fun l hl => ⟨?_, ?_, ?_, ?_, ?_, fun _ => hl, ?_⟩) (fun h6 => ?_)
  iterate 6 exact fun w => by omega
  refine RsP_inl ⟨?_, ?_, ?_, ?_, ?_, ?_, fun _ => rfl⟩
  iterate 6 exact fun w => by omega
theorem RsP_line {k : Nat} (q : Nat) : RsP (gdL k) (sLine tx sz k q) := RsP_sq (Q := fun l => l = []) (RsP_rest tx sz q) (fun q => RsP_ite (fun _ => RsP_inl rfl) (fun _ => RsP_inr)) (fun x y hx hy => by rw [hy, List.append_nil]; exact hx)
end
/-- lines as they stand behind a good reading -/
def gdT (L : List Lin) : Prop := L.length ≤ 64 ∧ tot L ≤ 4000 ∧ ∀ i, i < L.length → (1 ≤ (L.getD i (0, [])).1 ∧ (L.getD i (0, [])).1 ≤ 18) ∧ gdL (L.getD i (0, [])).1 (L.getD i (0, [])).2
theorem gdT_nil : gdT [] := ⟨Nat.zero_le _, Nat.zero_le _, fun i hi => absurd hi (by show ¬ i < 0; omega)⟩
theorem sText_gd {tx : Nat → Int} {sz : Nat} (hs : sz ≤ 4000) : ∀ (d b : Nat) (L M : List Lin), gdT L → tot L ≤ b → sText tx sz d b L = .inl M → gdT M := by
  intro d
  induction d with
  | zero => intro b L M hL _ h; have := Sum.inl.inj h; rw [← this]; exact hL
  | succ d ih =>
    intro b L M hL hb h
    unfold sText at h
    by_cases c : sz ≤ b
    · rw [if_pos c] at h; rw [← Sum.inl.inj h]; exact hL
    · rw [if_neg c] at h
      have hi := idl_le (tx := tx) (sz := sz) (b := b) (by omega)
      generalize eq : idl tx sz b = q at h hi
      by_cases c0 : tkK tx sz q = 0
      · rw [if_pos c0] at h
        exact ih _ _ _ hL (by omega) h
      · rw [if_neg c0] at h
        by_cases c1 : kw tx sz q = 0
        · rw [if_pos c1] at h; cases h
        · rw [if_neg c1] at h
          by_cases c2 : 64 ≤ L.length
          · rw [if_pos c2] at h; cases h
          · rw [if_neg c2] at h
            have hx := nxt_b (tx := tx) (sz := sz) (q := q) hi.2
            have hx1 := hx.2.2 c0
            cases er : sLine tx sz (kw tx sz q) (nxt tx sz q) with
            | inr e => rw [er] at h; cases h
            | inl a =>
              rw [er] at h
              have h : sText tx sz d (a.1 + 1) (L ++ [(kw tx sz q, a.2)]) = .inl M := h
              have pp1 := sLine_p hx.2.1 (show sLine tx sz (kw tx sz q) (nxt tx sz q) = .inl (a.1, a.2) from er)
              have gl := RsP_line tx sz (k := kw tx sz q) (nxt tx sz q) a er
              have k18 := kwF_r tx sz q 18 1 (by omega) (by omega)
              have et : tot (L ++ [(kw tx sz q, a.2)]) = tot L + a.2.length := by rw [tot_app]; show tot L + (a.2.length + 0) = _; omega
              refine ih _ _ _ ⟨by rw [List.length_append]; show L.length + 1 ≤ 64; omega, by omega, fun i hi => ?_⟩ (by omega) h
              rw [List.length_append] at hi
              have hi : i < L.length + 1 := hi
              by_cases w : i = L.length
              · rw [w, getD_l2]
                exact ⟨⟨by show 1 ≤ kw tx sz q; omega, k18⟩, gl⟩
              · rw [getD_l1 _ _ (by omega)]
                exact hL.2.2 i (by omega)
def nvO (L : List Lin) (K : Nat) : Nat → Int := fun i => (L.getD K (0, [])).2.getD i 0
def mvO (L : List Lin) (K : Nat) : Nat := (L.getD K (0, [])).2.length
theorem take_s (L : List Lin) {K : Nat} (h : K < L.length) : tot (L.take (K + 1)) = tot (L.take K) + mvO L K := by
  rw [List.take_add_one, tot_app]
  have e : L[K]?.toList = [L.getD K (0, [])] := by
    rw [List.getD_eq_getElem?_getD, List.getElem?_eq_getElem h]; rfl
  rw [e]
  show tot (L.take K) + ((L.getD K (0, [])).2.length + 0) = _
  rfl
theorem LiS_Ln {L : List Lin} {kd st vl : Nat → Int} (h : LiS L kd st vl) (g : gdT L) {K : Nat} (hK : K < L.length) : LnC (L.length : Int) (K : Int) st vl (mvO L K) (nvO L K) := by
  have g1 := g.1
  have g2 := g.2.1
  have tt := tot_take L K hK
  exact ⟨L.length, K, tot (L.take K), rfl, rfl, hK, g1, h.1 K (by omega), by rw [h.1 (K + 1) (by omega), take_s L hK], by unfold mvO; omega, fun i hi => (h.2 K hK).2 i hi⟩
theorem LiM_Ln {L : List Lin} {bg ks nu : Nat → Int} (h : LiM L bg ks nu) (he : bg L.length = ((tot L : Nat) : Int)) (g : gdT L) {K : Nat} (hK : K < L.length) : LnM (K : Int) bg nu (mvO L K) (nvO L K) := by
  have g1 := g.1
  have g2 := g.2.1
  have tt := tot_take L K hK
  refine ⟨K, tot (L.take K), rfl, by omega, (h K hK).1, ?_, by unfold mvO; omega, fun i hi => (h K hK).2.2 i hi⟩
  rw [← take_s L hK]
  by_cases w : K + 1 = L.length
  · rw [w, he, List.take_of_length_le (Nat.le_refl _)]
  · exact (h (K + 1) (by omega)).1
