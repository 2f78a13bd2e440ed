theorem P_end (fl : Nat) (s : Pap) (h : pok s) : LM_Pa_putEnd fl s.1 s.2.1 s.2.2 = some (pp [10] s) := by
  unfold LM_Pa_putEnd LB_Pa_putEnd_0
  rw [P_put fl _ s h, Option.bind_some]
theorem P_spaced (fl : Nat) (hfl : 100 ≤ fl) (v : Int) (hv : v.natAbs < 10 ^ 18) (s : Pap) (hs : pok s) (di : Nat → Int) :
    ∃ di', LM_Pa_putSpaced fl v s.1 s.2.1 s.2.2 di = some ((pp (32 :: num v) s).1, (pp (32 :: num v) s).2.1, (pp (32 :: num v) s).2.2, di') := by
  unfold LM_Pa_putSpaced LB_Pa_putSpaced_0
  rw [P_put fl _ s hs, Option.bind_some]
  obtain ⟨di', h⟩ := P_num fl hfl v hv (pp [32] s) (pok_pp _ _ hs) di
  rw [h, Option.bind_some]
  exact ⟨di', rfl⟩
theorem M_behind (fl : Nat) (hfl : 100 ≤ fl) (v : Int) (hv : v.natAbs < 10 ^ 18) (s : Int × (Nat → Int)) (hs : 0 ≤ s.1 ∧ s.1 ≤ 7950) : LM_Md_sayBehind fl v s.1 s.2 = some (mm (32 :: num v) s) := by
  unfold LM_Md_sayBehind LB_Md_sayBehind_0
  rw [M_say fl _ s (by omega) (by omega), Option.bind_some, M_num fl hfl v hv (mm [32] s) (by show 0 ≤ s.1 + 1 ∧ s.1 + 1 ≤ 7960; omega), Option.bind_some]
  rfl
def ansL (i : Nat) : List Int := [35, 32] ++ (lit i ++ [10])
theorem P_answer (fl : Nat) (hfl : 2000 ≤ fl) {i : Nat} (hi : i < 79) (s : Pap) (h : pok s) : LM_Pa_putAnswer fl i s.1 s.2.1 s.2.2 = some (pp (ansL i) s) := by
  unfold LM_Pa_putAnswer LB_Pa_putAnswer_0 ansL
  have e : lit 25 = [35, 32] := by decide
  rw [P_text fl hfl (by decide) s h, Option.bind_some, P_text fl hfl hi _ (pok_pp _ _ h), Option.bind_some, P_end fl _ (pok_pp _ _ (pok_pp _ _ h)), Option.bind_some, e, pp_app, pp_app]
theorem M_answer (fl : Nat) (hfl : 2000 ≤ fl) {i : Nat} (hi : i < 79) (s : Int × (Nat → Int)) (h : 0 ≤ s.1 ∧ s.1 ≤ 7000) : LM_Md_answer fl i s.1 s.2 = some (mm (ansL i) s) := by
  unfold LM_Md_answer LB_Md_answer_0 ansL
  have e : lit 66 = [35, 32] := by decide
  have hL : (lit i).length < 100 := by
    have : ∀ i, i < 79 → (lit i).length < 100 := by decide
    exact this i hi
  rw [M_all fl hfl (by decide) s (by omega), Option.bind_some, e]
  rw [M_all fl hfl hi (mm [35, 32] s) (by rw [mm_size]; show 0 ≤ s.1 + 2 ∧ s.1 + 2 ≤ 7900; omega), Option.bind_some]
  rw [M_say fl 10 _ (by rw [mm_size, mm_size]; show 0 ≤ s.1 + 2 + _ ∧ s.1 + 2 + _ < 8000; omega) (by omega), Option.bind_some, mm_app, mm_app]
theorem ansL_asc {i : Nat} (hi : i < 79) : asc (ansL i) := by
  unfold ansL
  exact asc_app (asc_cons (by omega) (asc_cons (by omega) asc_nil)) (asc_app (lit_asc i hi) (asc_cons (by omega) asc_nil))
/-- a crossing's labels from q on -/
def tlL (lb : Nat → Int) (c : Nat) : Nat → Nat → List Int
  | 0, _ => [93]
  | d + 1, q => (if q = 0 then [] else [44, 32]) ++ (num (lb (4 * c + q)) ++ tlL lb c d (q + 1))
theorem tlL_s (lb : Nat → Int) (c d q : Nat) : tlL lb c (d + 1) q = (if q = 0 then [] else [44, 32]) ++ (num (lb (4 * c + q)) ++ tlL lb c d (q + 1)) := rfl
def crL (sg lb : Nat → Int) (c : Nat) : List Int := (if sg c ≤ 0 then [32, 45, 91] else [32, 43, 91]) ++ tlL lb c 4 0
def endL (ci : Int) : List Int := (if ci ≤ 0 then [] else [32, 111] ++ (32 :: num ci)) ++ [10]
/-- crossings from c on, and what comes behind them -/
def crsL (sg lb : Nat → Int) (ci : Int) : Nat → Nat → List Int
  | 0, _ => endL ci
  | d + 1, c => crL sg lb c ++ crsL sg lb ci d (c + 1)
theorem crsL_s (sg lb : Nat → Int) (ci : Int) (d c : Nat) : crsL sg lb ci (d + 1) c = crL sg lb c ++ crsL sg lb ci d (c + 1) := rfl
def codeL (n : Nat) (sg lb : Nat → Int) (ci : Int) : List Int := [99, 111, 100, 101] ++ crsL sg lb ci n 0
theorem P_dia40 (fl : Nat) (hfl : 2000 ≤ fl) {n c : Nat} (hc : c < 20) (ci : Int) (lb sg : Nat → Int) (hl : ∀ q, q < 4 → (lb (4 * c + q)).natAbs < 10 ^ 18) (kb : Int → Int → Int → (Nat → Int) → (Nat → Int) → Option (Int × Int × (Nat → Int) × (Nat → Int))) :
    ∀ (d nn q : Nat) (s : Pap) (di : Nat → Int), q + d = 4 → d < nn → pok s → ∃ di', LB_Pa_putDiagram_40 fl (n : Int) ci lb sg kb nn (c : Int) (q : Int) s.1 s.2.1 s.2.2 di = kb ((c + 1 : Nat) : Int) (pp (tlL lb c d q) s).1 (pp (tlL lb c d q) s).2.1 (pp (tlL lb c d q) s).2.2 di' := by
  intro d
  induction d with
  | zero =>
    intro nn q s di hd hnn hs
    obtain ⟨nn, rfl⟩ : ∃ r, nn = r + 1 := ⟨nn - 1, by omega⟩
    rw [LB_Pa_putDiagram_40, if_pos (by omega), P_put fl _ s hs, Option.bind_some, if_pos (by omega)]
    exact ⟨di, rfl⟩
  | succ d ih =>
    intro nn q s di hd hnn hs
    obtain ⟨nn, rfl⟩ : ∃ r, nn = r + 1 := ⟨nn - 1, by omega⟩
    have e : Int.toNat (4 * (c : Int) + (q : Int)) = 4 * c + q := by omega
    have e32 : lit 32 = [44, 32] := by decide
    rw [LB_Pa_putDiagram_40, if_neg (by omega)]
    unfold LB_Pa_putDiagram_55
    have fin : ∀ (t : Pap) (di : Nat → Int), pok t → ∃ di', ((LM_Pa_putNumber fl (lb (4 * c + q)) t.1 t.2.1 t.2.2 di).bind fun o0 => (if (-2147483648 ≤ ((q : Int) + (1 : Int)) ∧ ((q : Int) + (1 : Int)) < 2147483648) then (LB_Pa_putDiagram_40 fl (n : Int) ci lb sg kb nn (c : Int) ((q : Int) + (1 : Int)) o0.1 o0.2.1 o0.2.2.1 o0.2.2.2) else none)) = kb ((c + 1 : Nat) : Int) (pp (num (lb (4 * c + q)) ++ tlL lb c d (q + 1)) t).1 (pp (num (lb (4 * c + q)) ++ tlL lb c d (q + 1)) t).2.1 (pp (num (lb (4 * c + q)) ++ tlL lb c d (q + 1)) t).2.2 di' := by
      intro t di ht
      obtain ⟨di1, h1⟩ := P_num fl (by omega) (lb (4 * c + q)) (hl q (by omega)) t ht di
      rw [h1, Option.bind_some, if_pos (by omega), show ((q : Int) + 1) = ((q + 1 : Nat) : Int) by omega, pp_app]
      exact ih nn (q + 1) _ di1 (by omega) (by omega) (pok_pp _ _ ht)
    by_cases c0 : q = 0
    · rw [if_pos (by omega), if_pos (by omega), if_pos (by omega), e]
      obtain ⟨di', h⟩ := fin s di hs
      refine ⟨di', ?_⟩
      rw [h, tlL_s, if_pos c0, List.nil_append]
    · rw [if_neg (by omega), P_text fl hfl (by decide) s hs, Option.bind_some, if_pos (by omega), if_pos (by omega), e, e32]
      obtain ⟨di', h⟩ := fin (pp [44, 32] s) di (pok_pp _ _ hs)
      refine ⟨di', ?_⟩
      rw [h, tlL_s, if_neg c0, pp_app [44, 32]]
theorem P_dia10 (fl : Nat) (hfl : 2000 ≤ fl) {n : Nat} (hn : n ≤ 20) (ci : Int) (hci : ci.natAbs < 10 ^ 18) (lb sg : Nat → Int) (hl : ∀ q, q < 4 * n → (lb q).natAbs < 10 ^ 18) :
    ∀ (d nn c : Nat) (s : Pap) (di : Nat → Int), c + d = n → d < nn → pok s → ∃ di', LB_Pa_putDiagram_10 fl (n : Int) ci lb sg nn (c : Int) s.1 s.2.1 s.2.2 di = some ((pp (crsL sg lb ci d c) s).1, (pp (crsL sg lb ci d c) s).2.1, (pp (crsL sg lb ci d c) s).2.2, di') := by
  intro d
  induction d with
  | zero =>
    intro nn c s di hd hnn hs
    obtain ⟨nn, rfl⟩ : ∃ r, nn = r + 1 := ⟨nn - 1, by omega⟩
    rw [LB_Pa_putDiagram_10, if_pos (by omega)]
    unfold LB_Pa_putDiagram_110 crsL endL
    by_cases c0 : ci ≤ 0
    · rw [if_pos c0, if_pos c0, P_end fl s hs, Option.bind_some, List.nil_append]
      exact ⟨di, rfl⟩
    · have e : lit 33 = [32, 111] := by decide
      rw [if_neg c0, if_neg c0, P_text fl hfl (by decide) s hs, Option.bind_some, e]
      obtain ⟨di1, h1⟩ := P_spaced fl (by omega) ci hci (pp [32, 111] s) (pok_pp _ _ hs) di
      rw [h1, Option.bind_some, P_end fl _ (pok_pp _ _ (pok_pp _ _ hs)), Option.bind_some, pp_app, pp_app]
      exact ⟨di1, rfl⟩
  | succ d ih =>
    intro nn c s di hd hnn hs
    obtain ⟨nn, rfl⟩ : ∃ r, nn = r + 1 := ⟨nn - 1, by omega⟩
    rw [LB_Pa_putDiagram_10, if_neg (by omega), if_pos (by omega), Int.toNat_natCast]
    unfold LB_Pa_putDiagram_35
    have fin : ∀ i, i < 79 → ∃ di', ((LM_Pa_putText fl i s.1 s.2.1 s.2.2).bind fun o0 => (LB_Pa_putDiagram_40 fl (n : Int) ci lb sg (LB_Pa_putDiagram_10 fl (n : Int) ci lb sg nn) fl (c : Int) (0 : Int) o0.1 o0.2.1 o0.2.2 di)) = some ((pp (lit i ++ tlL lb c 4 0 ++ crsL sg lb ci d (c + 1)) s).1, (pp (lit i ++ tlL lb c 4 0 ++ crsL sg lb ci d (c + 1)) s).2.1, (pp (lit i ++ tlL lb c 4 0 ++ crsL sg lb ci d (c + 1)) s).2.2, di') := by
      intro i hi
      rw [P_text fl hfl hi s hs, Option.bind_some]
      obtain ⟨di1, h1⟩ := P_dia40 fl hfl (n := n) (show c < 20 by omega) ci lb sg (fun q hq => hl _ (by omega)) (LB_Pa_putDiagram_10 fl (n : Int) ci lb sg nn) 4 fl 0 (pp (lit i) s) di (by omega) (by omega) (pok_pp _ _ hs)
      rw [show ((0 : Nat) : Int) = 0 from rfl] at h1
      rw [h1]
      obtain ⟨di', h2⟩ := ih nn (c + 1) _ di1 (by omega) (by omega) (pok_pp (tlL lb c 4 0) _ (pok_pp (lit i) _ hs))
      refine ⟨di', ?_⟩
      rw [h2, pp_app, pp_app]
    have e1 : lit 31 = [32, 45, 91] := by decide
    have e2 : lit 30 = [32, 43, 91] := by decide
    by_cases c0 : sg c ≤ 0
    · rw [if_pos c0]
      obtain ⟨di', h⟩ := fin 31 (by decide)
      refine ⟨di', ?_⟩
      rw [h, e1, crsL_s]
      unfold crL
      rw [if_pos c0]
    · rw [if_neg c0]
      obtain ⟨di', h⟩ := fin 30 (by decide)
      refine ⟨di', ?_⟩
      rw [h, e2, crsL_s]
      unfold crL
      rw [if_neg c0]
theorem P_dia (fl : Nat) (hfl : 2000 ≤ fl) {n : Nat} (hn : n ≤ 20) (ci : Int) (hci : ci.natAbs < 10 ^ 18) (lb sg : Nat → Int) (hl : ∀ q, q < 4 * n → (lb q).natAbs < 10 ^ 18) (s : Pap) (hs : pok s) (di : Nat → Int) :
    ∃ di', LM_Pa_putDiagram fl (n : Int) ci lb sg s.1 s.2.1 s.2.2 di = some ((pp (codeL n sg lb ci) s).1, (pp (codeL n sg lb ci) s).2.1, (pp (codeL n sg lb ci) s).2.2, di') := by
  unfold LM_Pa_putDiagram LB_Pa_putDiagram_0 codeL
  have e : lit 0 = [99, 111, 100, 101] := by decide
  have ew : LM_En_wordOf fl 1 = some 0 := rfl
  rw [ew, Option.bind_some, P_text fl hfl (by decide) s hs, Option.bind_some, e]
  obtain ⟨di', h⟩ := P_dia10 fl hfl hn ci hci lb sg hl n fl 0 (pp [99, 111, 100, 101] s) di (by omega) (by omega) (pok_pp _ _ hs)
  refine ⟨di', ?_⟩
  rw [show ((0 : Nat) : Int) = 0 from rfl] at h
  rw [h, pp_app]
theorem num_ne (v : Int) : 1 ≤ (num v).length := by
  unfold num
  rw [List.length_append, dg_len]
  have := nd_pos 17 v.natAbs
  omega
/-- the reference has its bracket with the labels -/
def tlM (lb : Nat → Int) (c : Nat) : Nat → Nat → List Int
  | 0, _ => [93]
  | d + 1, q => (if q = 0 then [91] else [44, 32]) ++ (num (lb (4 * c + q)) ++ tlM lb c d (q + 1))
theorem tlM_s (lb : Nat → Int) (c d q : Nat) : tlM lb c (d + 1) q = (if q = 0 then [91] else [44, 32]) ++ (num (lb (4 * c + q)) ++ tlM lb c d (q + 1)) := rfl
theorem tlM_tlL (lb : Nat → Int) (c : Nat) : tlM lb c 4 0 = [91] ++ tlL lb c 4 0 := rfl
theorem tlM_len (lb : Nat → Int) (c : Nat) : ∀ d q, (tlM lb c d q).length ≤ 21 * d + 1 := by
  intro d
  induction d with
  | zero => intro q; exact Nat.le_refl _
  | succ d ih =>
    intro q
    rw [tlM_s, List.length_append, List.length_append]
    have h1 := num_len (lb (4 * c + q))
    have h2 := ih (q + 1)
    split
    · show 1 + _ ≤ _; omega
    · show 2 + _ ≤ _; omega
theorem M_dia51 (fl : Nat) (hfl : 2000 ≤ fl) {n c : Nat} (hc : c < 20) (ci : Int) (lb sg : Nat → Int) (hl : ∀ q, q < 4 → (lb (4 * c + q)).natAbs < 10 ^ 18) (kb : Int → Int → (Nat → Int) → Option (Int × (Nat → Int))) :
    ∀ (d nn q : Nat) (s : Int × (Nat → Int)), q + d = 4 → d < nn → 0 ≤ s.1 → s.1 + 21 * d ≤ 7800 → LB_Md_sayCode_51 fl (n : Int) ci lb sg kb nn (c : Int) (q : Int) s.1 s.2 = kb ((c + 1 : Nat) : Int) (mm (tlM lb c d q) s).1 (mm (tlM lb c d q) s).2 := by
  intro d
  induction d with
  | zero =>
    intro nn q s hd hnn h1 h2
    obtain ⟨nn, rfl⟩ : ∃ r, nn = r + 1 := ⟨nn - 1, by omega⟩
    rw [LB_Md_sayCode_51, if_pos (by omega), M_say fl _ s (by omega) (by omega), Option.bind_some, if_pos (by omega)]
    rfl
  | succ d ih =>
    intro nn q s hd hnn h1 h2
    obtain ⟨nn, rfl⟩ : ∃ r, nn = r + 1 := ⟨nn - 1, by omega⟩
    have e : Int.toNat (4 * (c : Int) + (q : Int)) = 4 * c + q := by omega
    have hn := num_len (lb (4 * c + q))
    have e72 : lit 72 = [44, 32] := by decide
    have e71 : lit 71 = [91] := by decide
    rw [LB_Md_sayCode_51, if_neg (by omega)]
    unfold LB_Md_sayCode_70
    have fin : ∀ i, i < 79 → (lit i).length ≤ 2 → ((LM_Md_sayAll fl i s.1 s.2).bind fun o0 => (if (-2147483648 ≤ (4 * (c : Int)) ∧ (4 * (c : Int)) < 2147483648) then (if (0 ≤ (4 * (c : Int) + (q : Int)) ∧ (4 * (c : Int) + (q : Int)) < 96) then ((LM_Md_sayNumber fl (lb (Int.toNat (4 * (c : Int) + (q : Int)))) o0.1 o0.2).bind fun o1 => (if (-2147483648 ≤ ((q : Int) + 1) ∧ ((q : Int) + 1) < 2147483648) then (LB_Md_sayCode_51 fl (n : Int) ci lb sg kb nn (c : Int) ((q : Int) + 1) o1.1 o1.2) else none)) else none) else none)) = kb ((c + 1 : Nat) : Int) (mm (lit i ++ (num (lb (4 * c + q)) ++ tlM lb c d (q + 1))) s).1 (mm (lit i ++ (num (lb (4 * c + q)) ++ tlM lb c d (q + 1))) s).2 := by
      intro i hi hlen
      rw [M_all fl hfl hi s (by omega), Option.bind_some, if_pos (by omega), if_pos (by omega), e, M_num fl (by omega) _ (hl q (by omega)) (mm (lit i) s) (by rw [mm_size]; omega), Option.bind_some, if_pos (by omega), show ((q : Int) + 1) = ((q + 1 : Nat) : Int) by omega]
      rw [ih nn (q + 1) _ (by omega) (by omega) (by rw [mm_size, mm_size]; omega) (by rw [mm_size, mm_size]; omega), mm_app, mm_app]
    by_cases c0 : q = 0
    · rw [if_neg (by omega), fin 71 (by decide) (by decide), e71, tlM_s, if_pos c0]
    · rw [if_pos (by omega), fin 72 (by decide) (by decide), e72, tlM_s, if_neg c0]
theorem M_dia8 (fl : Nat) (hfl : 2000 ≤ fl) {n : Nat} (hn : n ≤ 20) (ci : Int) (hci : ci.natAbs < 10 ^ 18) (lb sg : Nat → Int) (hsg : ∀ c, c < n → sg c = 1 ∨ sg c = -1) (hl : ∀ q, q < 4 * n → (lb q).natAbs < 10 ^ 18) :
    ∀ (d nn c : Nat) (s : Int × (Nat → Int)), c + d = n → d < nn → 0 ≤ s.1 → s.1 + 90 * d ≤ 7000 → LB_Md_sayCode_8 fl (n : Int) ci lb sg nn (c : Int) s.1 s.2 = some (mm (crsL sg lb ci d c) s) := by
  intro d
  induction d with
  | zero =>
    intro nn c s hd hnn h1 h2
    obtain ⟨nn, rfl⟩ : ∃ r, nn = r + 1 := ⟨nn - 1, by omega⟩
    have hnl := num_len ci
    rw [LB_Md_sayCode_8, if_pos (by omega)]
    unfold LB_Md_sayCode_138 crsL endL
    by_cases c0 : ci ≤ 0
    · rw [if_pos c0, if_pos c0, M_say fl _ s (by omega) (by omega), Option.bind_some, List.nil_append]
    · have e : lit 73 = [32, 111] := by decide
      rw [if_neg c0, if_neg c0, M_all fl hfl (by decide) s (by omega), Option.bind_some, e]
      rw [M_behind fl (by omega) ci hci (mm [32, 111] s) (by rw [mm_size]; show 0 ≤ s.1 + 2 ∧ s.1 + 2 ≤ 7950; omega), Option.bind_some]
      rw [M_say fl 10 _ (by rw [mm_size, mm_size]; show 0 ≤ s.1 + 2 + (((num ci).length + 1 : Nat) : Int) ∧ s.1 + 2 + (((num ci).length + 1 : Nat) : Int) < 8000; omega) (by omega), Option.bind_some, mm_app, mm_app]
  | succ d ih =>
    intro nn c s hd hnn h1 h2
    obtain ⟨nn, rfl⟩ : ∃ r, nn = r + 1 := ⟨nn - 1, by omega⟩
    have ht := tlM_len lb c 4 0
    have fin : ∀ b : Int, 0 ≤ b ∧ b < 128 → LB_Md_sayCode_46 fl (n : Int) ci lb sg (LB_Md_sayCode_8 fl (n : Int) ci lb sg nn) b (c : Int) (mm [32] s).1 (mm [32] s).2 = some (mm ([32, b, 91] ++ tlL lb c 4 0 ++ crsL sg lb ci d (c + 1)) s) := by
      intro b hb
      unfold LB_Md_sayCode_46
      rw [M_say fl b (mm [32] s) (by show 0 ≤ s.1 + 1 ∧ s.1 + 1 < 8000; omega) hb, Option.bind_some]
      have := M_dia51 fl hfl (n := n) (show c < 20 by omega) ci lb sg (fun q hq => hl _ (by omega)) (LB_Md_sayCode_8 fl (n : Int) ci lb sg nn) 4 fl 0 (mm [b] (mm [32] s)) (by omega) (by omega) (by show 0 ≤ s.1 + 1 + 1; omega) (by show s.1 + 1 + 1 + 21 * ((4 : Nat) : Int) ≤ 7800; omega)
      rw [show ((0 : Nat) : Int) = 0 from rfl] at this
      rw [this, ih nn (c + 1) _ (by omega) (by omega) (by rw [mm_size]; show 0 ≤ s.1 + 1 + 1 + _; omega) (by rw [mm_size]; show s.1 + 1 + 1 + _ + _ ≤ 7000; omega), tlM_tlL, mm_app, mm_app, mm_app]
      rfl
    rw [LB_Md_sayCode_8, if_neg (by omega), M_say fl _ s (by omega) (by omega), Option.bind_some, if_pos (by omega), Int.toNat_natCast, crsL_s]
    unfold crL
    rcases hsg c (by omega) with w | w
    · rw [if_neg (by omega), fin 43 (by omega), if_neg (by omega)]
    · rw [if_pos (by omega), fin 45 (by omega), if_pos (by omega)]
theorem M_dia (fl : Nat) (hfl : 2000 ≤ fl) {n : Nat} (hn : n ≤ 20) (ci : Int) (hci : ci.natAbs < 10 ^ 18) (lb sg : Nat → Int) (hsg : ∀ c, c < n → sg c = 1 ∨ sg c = -1) (hl : ∀ q, q < 4 * n → (lb q).natAbs < 10 ^ 18) (ma : Nat → Int) :
    LM_Md_sayCode fl (n : Int) ci lb sg 0 ma = some (mm (codeL n sg lb ci) (0, ma)) := by
  unfold LM_Md_sayCode LB_Md_sayCode_0 codeL
  have e : lit 42 = [99, 111, 100, 101] := by decide
  have h := M_all fl hfl (i := 42) (by decide) (0, ma) (by show (0 : Int) ≤ 0 ∧ (0 : Int) ≤ 7900; decide)
  rw [h, Option.bind_some, e]
  have := M_dia8 fl hfl hn ci hci lb sg hsg hl n fl 0 (mm [99, 111, 100, 101] (0, ma)) (by omega) (by omega) (by rw [mm_size]; show (0 : Int) ≤ 0 + 4; decide) (by rw [mm_size]; show (0 : Int) + 4 + 90 * (n : Int) ≤ 7000; omega)
  rw [show ((0 : Nat) : Int) = 0 from rfl] at this
  rw [this, mm_app]
