/-- the class's token at q; the reference's -/
def AtC (tx : Nat → Int) (sz q : Nat) (be tk pl va mi : Int) : Prop := q ≤ sz ∧ be = ((tkE tx sz q : Nat) : Int) ∧ tk = tkK tx sz q ∧ pl = (q : Int) ∧ tkV tx sz q va mi
def AtM (tx : Nat → Int) (sz q : Nat) (at_ tm fr fa pl : Int) : Prop := q ≤ sz ∧ ((tkK tx sz q ≠ 1 ∧ at_ = ((tkE tx sz q : Nat) : Int) ∧ tm = tkM (tkK tx sz q) ∧ fr = (q : Int) ∧ fa = 0 ∧ pl = -1) ∨ (tkK tx sz q = 1 ∧ tm = 0 ∧ fa = 1 ∧ pl = (q : Int)))
/-- the reference with a fault found -/
def FaM (tx : Nat → Int) (sz : Nat) (at_ tm fr : Int) : Prop := tm = 0 ∨ ∃ q : Nat, q ≤ sz ∧ tkK tx sz q ≠ 1 ∧ at_ = ((tkE tx sz q : Nat) : Int) ∧ tm = tkM (tkK tx sz q) ∧ fr = (q : Int)
def nxt (tx : Nat → Int) (sz q : Nat) : Nat := idl tx sz (tkE tx sz q)
theorem nxt_b {tx : Nat → Int} {sz q : Nat} (h : q ≤ sz) : q ≤ nxt tx sz q ∧ nxt tx sz q ≤ sz ∧ (tkK tx sz q ≠ 0 → q < nxt tx sz q) := by
  have h1 := tkE_b (tx := tx) h
  have h2 := idl_le (tx := tx) h1.2.1
  unfold nxt
  exact ⟨by omega, by omega, fun g => by have := h1.2.2 g; omega⟩
theorem C_next (fl : Nat) (hfl : 5000 ≤ fl) {tx : Nat → Int} {sz : Nat} (hs : sz ≤ 4000) {q : Nat} {be tk pl va mi : Int} (h : AtC tx sz q be tk pl va mi) : ∃ be' tk' pl' va' mi', LM_Rd_advance fl (sz : Int) tx be tk pl va mi = some (be', tk', pl', va', mi') ∧ AtC tx sz (nxt tx sz q) be' tk' pl' va' mi' := by
  obtain ⟨h1, h2, h3, h4, h5⟩ := h
  have hb := tkE_b (tx := tx) h1
  obtain ⟨va', mi', g1, g2⟩ := C_adv fl hfl tx hs hb.2.1 tk pl va mi
  rw [h2]
  exact ⟨_, _, _, va', mi', g1, (nxt_b h1).2.1, rfl, rfl, rfl, g2⟩
theorem tkM_b {k : Int} (h : 0 ≤ k ∧ k ≤ 4) (c : Int) (hc : 1 ≤ c ∧ c ≤ 3) : tkM k = c ↔ k = c + 1 := by unfold tkM; split <;> omega
theorem tkK_r (tx : Nat → Int) (sz q : Nat) : 0 ≤ tkK tx sz q ∧ tkK tx sz q ≤ 4 := by
  unfold tkK
  split
  · omega
  · split
    · omega
    · split
      · omega
      · split
        · omega
        · split <;> omega
theorem M_next (fl : Nat) (hfl : 5000 ≤ fl) {tx ty : Nat → Int} {sz : Nat} (hs : sz ≤ 4000) (ht : TXT tx ty sz) {q : Nat} {at_ tm fr fa pl : Int} (h : AtM tx sz q at_ tm fr fa pl) (hk : tkK tx sz q ≠ 1) : ∃ at' tm' fr' fa' pl', LM_Md_look fl (sz : Int) ty at_ tm fr fa pl = some (at', tm', fr', fa', pl') ∧ AtM tx sz (nxt tx sz q) at' tm' fr' fa' pl' := by
  obtain ⟨h1, ⟨h2, h3, h4, h5, h6, h7⟩ | ⟨h2, _⟩⟩ := h
  · have hb := tkE_b (tx := tx) h1
    rw [h6, h3, M_look fl hfl ty hs hb.2.1]
    unfold lkR
    rw [tx_idl ht hb.2.1, tx_tkK ht, tx_tkE ht]
    have hn := (nxt_b (tx := tx) h1).2.1
    show ∃ at' tm' fr' fa' pl', (if tkK tx sz (nxt tx sz q) = 1 then some (((nxt tx sz q : Nat) : Int), 0, fr, 1, ((nxt tx sz q : Nat) : Int)) else some (((tkE tx sz (nxt tx sz q) : Nat) : Int), tkM (tkK tx sz (nxt tx sz q)), ((nxt tx sz q : Nat) : Int), 0, pl)) = some (at', tm', fr', fa', pl') ∧ _
    by_cases c : tkK tx sz (nxt tx sz q) = 1
    · rw [if_pos c]
      exact ⟨_, _, _, _, _, rfl, hn, Or.inr ⟨c, rfl, rfl, rfl⟩⟩
    · rw [if_neg c]
      exact ⟨_, _, _, _, _, rfl, hn, Or.inl ⟨c, rfl, rfl, rfl, rfl, h7⟩⟩
  · exact absurd h2 hk
abbrev mkP (tx : Nat → Int) (sz q : Nat) (m : Int) : Prop := tkK tx sz q = 4 ∧ tx q = m
theorem C_mark (fl : Nat) {tx : Nat → Int} {sz q : Nat} {be tk pl va mi : Int} (h : AtC tx sz q be tk pl va mi) (m : Int) : LM_Rd_isMark fl tk va m = some (if mkP tx sz q m then 1 else 0) := by
  obtain ⟨h1, h2, h3, h4, h5⟩ := h
  unfold LM_Rd_isMark LB_Rd_isMark_0
  by_cases c : tkK tx sz q = 4
  · rw [if_neg (by omega), h5.2 c]
    by_cases c2 : tx q = m
    · rw [if_neg (fun g => g c2), if_pos ⟨c, c2⟩]
    · rw [if_pos c2, if_neg (fun g => c2 g.2)]
  · rw [if_pos (by omega), if_neg (fun g => c g.1)]
theorem tx_eq {tx ty : Nat → Int} {sz : Nat} (ht : TXT tx ty sz) {q : Nat} (h : tkK tx sz q ≠ 0) (h1 : tkK tx sz q ≠ 1) : ty q = tx q := by
  have g := tk_pr h h1
  have g1 := g.1
  have g2 := g.2
  have := ht q (tk_lt h)
  omega
theorem M_mark (fl : Nat) {tx ty : Nat → Int} {sz : Nat} (hs : sz ≤ 4000) (ht : TXT tx ty sz) {q : Nat} {at_ tm fr fa pl : Int} (h : AtM tx sz q at_ tm fr fa pl) (m : Int) : LM_Md_isSign fl tm fr ty m = some (if mkP tx sz q m then 1 else 0) := by
  have hr := tkK_r tx sz q
  unfold LM_Md_isSign LB_Md_isSign_0
  obtain ⟨h1, ⟨h2, h3, h4, h5, h6, h7⟩ | ⟨h2, h3, _⟩⟩ := h
  · have e := tkM_b hr 3 (by omega)
    by_cases c : tkK tx sz q = 4
    · have hq := tk_lt (tx := tx) (sz := sz) (q := q) (by omega)
      rw [if_neg (by omega), h5, if_pos (by omega), Int.toNat_natCast, tx_eq ht (by omega) (by omega)]
      by_cases c2 : tx q = m
      · rw [if_neg (fun g => g c2), if_pos ⟨c, c2⟩]
      · rw [if_pos c2, if_neg (fun g => c2 g.2)]
    · rw [if_pos (by omega), if_neg (fun g => c g.1)]
  · rw [if_pos (by omega), if_neg (fun g => by have := g.1; omega)]
/-- a number's value, and whether it is a good one -/
def nv (tx : Nat → Int) (sz q : Nat) : Int := dvl tx q (min (tkE tx sz q - q) 18)
def ms (tx : Nat → Int) (sz q : Nat) : Int := misF tx q (tkE tx sz q)
abbrev nbP (tx : Nat → Int) (sz q : Nat) : Prop := tkK tx sz q = 3 ∧ ms tx sz q = 0 ∧ nv tx sz q ≤ 9999
theorem nv_b {tx : Nat → Int} {sz q : Nat} (h : tkK tx sz q = 3) : 0 ≤ nv tx sz q ∧ nv tx sz q < 1000000000000000000 := by
  have hd := tk_dig h
  have h1 := dvl_b (tx := tx) (p := q) (min (tkE tx sz q - q) 18) (fun j hj => hd (q + j) (by omega) (by omega))
  have h2 := pow18 (k := min (tkE tx sz q - q) 18) (by omega)
  unfold nv
  omega
theorem ms_01 (tx : Nat → Int) (sz q : Nat) : ms tx sz q = 0 ∨ ms tx sz q = 1 := by
  unfold ms misF
  split
  · right; rfl
  · split
    · right; rfl
    · left; rfl
def refC (tx : Nat → Int) (sz q : Nat) (code : Int) : Int := if tkK tx sz q = 1 then 1 else if tkK tx sz q = 3 ∧ ¬ nbP tx sz q then 2 else code
theorem C_refuse (fl : Nat) {tx : Nat → Int} {sz q : Nat} {be tk pl va mi : Int} (h : AtC tx sz q be tk pl va mi) (code ff fp : Int) : LM_Rd_refuse fl tk pl va mi code ff fp = some (0, refC tx sz q code, (q : Int)) := by
  obtain ⟨h1, h2, h3, h4, h5⟩ := h
  unfold LM_Rd_refuse LB_Rd_refuse_0 LB_Rd_refuse_58 LB_Rd_refuse_50 refC
  rw [h4]
  by_cases c1 : tkK tx sz q = 1
  · rw [if_neg (by omega), if_pos c1]
  · rw [if_pos (by omega), if_neg c1]
    by_cases c3 : tkK tx sz q = 3
    · have hv := (h5.1 c3).1
      have hm := (h5.1 c3).2
      have e1 : va = nv tx sz q := hv
      have e2 : mi = ms tx sz q := hm
      rw [if_neg (by omega), e1, e2]
      by_cases c4 : ms tx sz q = 0
      · rw [if_neg (by omega)]
        by_cases c5 : nv tx sz q ≤ 9999
        · rw [if_pos c5, if_neg (fun g => g.2 ⟨c3, c4, c5⟩)]
        · rw [if_neg c5, if_pos ⟨c3, fun g => c5 g.2.2⟩]
      · rw [if_pos c4, if_pos ⟨c3, fun g => c4 g.2.1⟩]
    · rw [if_pos (by omega), if_neg (fun g => c3 g.1)]
theorem val7 (fl : Nat) {tx ty : Nat → Int} {sz : Nat} (hs : sz ≤ 4000) (ht : TXT tx ty sz) {q e : Nat} (he : e ≤ sz) (h18 : e - q ≤ 18) (hd : ∀ j, q ≤ j → j < e → isDi (tx j)) : ∀ (d nn k : Nat), q + k + d = e → d < nn → LB_Md_value_7 fl (e : Int) (q : Int) ty nn (dvl tx q k) ((q + k : Nat) : Int) = some (dvl tx q (e - q)) := by
  intro d
  induction d with
  | zero =>
    intro nn k hk hnn
    obtain ⟨nn, rfl⟩ : ∃ r, nn = r + 1 := ⟨nn - 1, by omega⟩
    rw [LB_Md_value_7, if_pos (by omega), show e - q = k by omega]
  | succ d ih =>
    intro nn k hk hnn
    obtain ⟨nn, rfl⟩ : ∃ r, nn = r + 1 := ⟨nn - 1, by omega⟩
    have h1 := dvl_b (tx := tx) (p := q) k (fun j hj => hd (q + j) (by omega) (by omega))
    have h2 : ((10 ^ k : Nat) : Int) ≤ 100000000000000000 := by
      have : 10 ^ k ≤ 10 ^ 17 := Nat.pow_le_pow_right (by omega) (by omega)
      have e : (10 : Nat) ^ 17 = 100000000000000000 := by decide
      omega
    have h3 := hd (q + k) (by omega) (by omega)
    have h4 := h3.1
    have h5 := h3.2
    have h6 := ht (q + k) (by omega)
    have e1 : ty (q + k) = tx (q + k) := by omega
    rw [LB_Md_value_7, if_neg (by omega), if_pos (by omega), Int.toNat_natCast, e1, if_pos (by omega), show (((q + k : Nat) : Int) + 1) = ((q + (k + 1) : Nat) : Int) by omega, show (10 * dvl tx q k + tx (q + k) - 48) = dvl tx q (k + 1) by show _ = 10 * dvl tx q k + (tx (q + k) - 48); omega]
    exact ih nn (k + 1) (by omega) (by omega)
theorem M_value (fl : Nat) (hfl : 5000 ≤ fl) {tx ty : Nat → Int} {sz : Nat} (hs : sz ≤ 4000) (ht : TXT tx ty sz) {q : Nat} (hq : q ≤ sz) (h3 : tkK tx sz q = 3) (h18 : tkE tx sz q - q ≤ 18) : LM_Md_value fl ((tkE tx sz q : Nat) : Int) (q : Int) ty = some (nv tx sz q) := by
  have hb := tkE_b (tx := tx) hq
  have := val7 fl hs ht hb.2.1 h18 (tk_dig h3) (tkE tx sz q - q) fl 0 (by omega) (by omega)
  unfold LM_Md_value LB_Md_value_0 nv
  rw [show min (tkE tx sz q - q) 18 = tkE tx sz q - q by omega]
  exact this
/-- a bad number: of a line's numbers (x1 = 0), of a term (x1 = 1) -/
theorem M_bad (fl : Nat) (hfl : 5000 ≤ fl) {tx ty : Nat → Int} {sz : Nat} (hs : sz ≤ 4000) (ht : TXT tx ty sz) {q : Nat} (hq : q ≤ sz) (h3 : tkK tx sz q = 3) (x1 : Int) : LM_Md_isBadNumber fl ((tkE tx sz q : Nat) : Int) (q : Int) ty x1 = some (if ms tx sz q = 0 ∧ (x1 ≠ 0 ∨ nv tx sz q ≤ 9999) then 0 else 1) := by
  have hb := tkE_b (tx := tx) hq
  have hl := tk_lt (tx := tx) (sz := sz) (q := q) (by omega)
  have hp := hb.2.2 (by omega)
  unfold LM_Md_isBadNumber LB_Md_isBadNumber_0 LB_Md_isBadNumber_41 LB_Md_isBadNumber_56
  rw [if_pos (by omega)]
  by_cases c1 : 18 < tkE tx sz q - q
  · have em : ms tx sz q = 1 := by unfold ms misF; rw [if_pos c1]
    rw [if_pos (by omega), if_neg (fun g => by have := g.1; omega)]
  · rw [if_neg (by omega), if_pos (by omega), Int.toNat_natCast, tx_eq ht (by omega) (by omega)]
    have fin : ms tx sz q = 0 → (if ¬ (x1 = 0) then (some ((0 : Int))) else ((LM_Md_value fl ((tkE tx sz q : Nat) : Int) (q : Int) ty).bind fun o0 => (if o0 ≤ (9999 : Int) then (some ((0 : Int))) else some 1))) = some (if ms tx sz q = 0 ∧ (x1 ≠ 0 ∨ nv tx sz q ≤ 9999) then 0 else 1) := by
      intro hm
      by_cases c2 : x1 = 0
      · rw [if_neg (fun g => g c2), M_value fl hfl hs ht hq h3 (by omega), Option.bind_some]
        by_cases c3 : nv tx sz q ≤ 9999
        · rw [if_pos c3, if_pos ⟨hm, Or.inr c3⟩]
        · rw [if_neg c3, if_neg (fun g => g.2.elim (fun x => x c2) c3)]
      · rw [if_pos c2, if_pos ⟨hm, Or.inl c2⟩]
    by_cases c2 : tx q = 48
    · rw [if_neg (fun g => g c2)]
      by_cases c3 : 1 < tkE tx sz q - q
      · have em : ms tx sz q = 1 := by unfold ms misF; rw [if_neg c1, if_pos ⟨c3, c2⟩]
        rw [if_pos (by omega), if_neg (fun g => by have := g.1; omega)]
      · have em : ms tx sz q = 0 := by unfold ms misF; rw [if_neg c1, if_neg (fun g => c3 g.1)]
        rw [if_neg (by omega)]
        exact fin em
    · have em : ms tx sz q = 0 := by unfold ms misF; rw [if_neg c1, if_neg (fun g => c2 g.2)]
      rw [if_pos c2]
      exact fin em
theorem M_wrong (fl : Nat) (hfl : 5000 ≤ fl) {tx ty : Nat → Int} {sz : Nat} (hs : sz ≤ 4000) (ht : TXT tx ty sz) {q : Nat} {at_ tm fr fa pl : Int} (h : AtM tx sz q at_ tm fr fa pl) : LM_Md_wrongHere fl at_ tm fr ty fa pl = some (refC tx sz q 4, (q : Int)) := by
  have hr := tkK_r tx sz q
  unfold LM_Md_wrongHere LB_Md_wrongHere_0 LB_Md_wrongHere_21 LB_Md_wrongHere_22 LM_Md_fail LB_Md_fail_0 refC
  obtain ⟨h1, ⟨h2, h3, h4, h5, h6, h7⟩ | ⟨h2, h3, h4, h5⟩⟩ := h
  · have e := tkM_b hr 2 (by omega)
    rw [if_neg h2]
    by_cases c : tkK tx sz q = 3
    · have eb := M_bad fl hfl hs ht h1 c 0
      rw [if_neg (by omega), h3, h5]
      by_cases c2 : nbP tx sz q
      · rw [if_pos ⟨c2.2.1, Or.inr c2.2.2⟩] at eb
        rw [eb, Option.bind_some, if_pos rfl, if_pos h6, Option.bind_some, if_neg (fun g => g.2 c2)]
      · rw [if_neg (fun g => c2 ⟨c, g.1, g.2.resolve_left (fun x => x rfl)⟩)] at eb
        rw [eb, Option.bind_some, if_neg (by omega), if_pos h6, Option.bind_some, if_pos ⟨c, c2⟩]
    · rw [if_pos (by omega), if_pos h6, Option.bind_some, if_neg (fun g => c g.1), h5]
  · rw [if_pos (by omega), if_neg (by omega), Option.bind_some, if_pos h2, h4, h5]
theorem FaM_wrong (fl : Nat) (hfl : 5000 ≤ fl) {tx ty : Nat → Int} {sz : Nat} (hs : sz ≤ 4000) (ht : TXT tx ty sz) {at_ tm fr fa pl : Int} (h : FaM tx sz at_ tm fr) (hf : fa ≠ 0) : LM_Md_wrongHere fl at_ tm fr ty fa pl = some (fa, pl) := by
  unfold LM_Md_wrongHere LB_Md_wrongHere_0 LB_Md_wrongHere_21 LB_Md_wrongHere_22 LM_Md_fail LB_Md_fail_0
  rcases h with h | ⟨q, h1, h2, h3, h4, h5⟩
  · rw [if_pos (by omega), if_neg hf, Option.bind_some]
  · have hr := tkK_r tx sz q
    have e := tkM_b hr 2 (by omega)
    by_cases c : tkK tx sz q = 3
    · rw [if_neg (by omega), h3, h5, M_bad fl hfl hs ht h1 c, Option.bind_some]
      rw [if_neg hf, Option.bind_some]
      split <;> rfl
    · rw [if_pos (by omega), if_neg hf, Option.bind_some]
theorem FaM_mark (fl : Nat) {tx ty : Nat → Int} {sz : Nat} (hs : sz ≤ 4000) {at_ tm fr : Int} (h : FaM tx sz at_ tm fr) (m : Int) : ∃ v, (v = 0 ∨ v = 1) ∧ LM_Md_isSign fl tm fr ty m = some v := by
  unfold LM_Md_isSign LB_Md_isSign_0
  rcases h with h | ⟨q, h1, h2, h3, h4, h5⟩
  · rw [if_pos (by omega)]; exact ⟨0, Or.inl rfl, rfl⟩
  · have hr := tkK_r tx sz q
    have e := tkM_b hr 3 (by omega)
    by_cases c : tkK tx sz q = 4
    · have hq := tk_lt (tx := tx) (sz := sz) (q := q) (by omega)
      rw [if_neg (by omega), if_pos (by omega)]
      split
      · exact ⟨0, Or.inl rfl, rfl⟩
      · exact ⟨1, Or.inr rfl, rfl⟩
    · rw [if_pos (by omega)]; exact ⟨0, Or.inl rfl, rfl⟩
theorem FaM_of {tx : Nat → Int} {sz q : Nat} {at_ tm fr fa pl : Int} (h : AtM tx sz q at_ tm fr fa pl) : FaM tx sz at_ tm fr := by
  obtain ⟨h1, ⟨h2, h3, h4, h5, h6, h7⟩ | ⟨h2, h3, h4, h5⟩⟩ := h
  · exact Or.inr ⟨q, h1, h2, h3, h4, h5⟩
  · exact Or.inl h3
