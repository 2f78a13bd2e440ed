/-- a diagram: how many crossings, circles, labels, signs -/
abbrev Dg := Nat × Int × (Nat → Int) × (Nat → Int)
/-- arrays that hold it -/
def DA (d : Dg) (n ci : Int) (A S : Nat → Int) : Prop := n = (d.1 : Int) ∧ ci = d.2.1 ∧ like (4 * d.1) A d.2.2.1 ∧ like d.1 S d.2.2.2
/-- it is one -/
def okD (d : Dg) : Prop := d.1 ≤ 20 ∧ (0 ≤ d.2.1 ∧ d.2.1 ≤ 20) ∧ (∀ c, c < d.1 → d.2.2.2 c = 1 ∨ d.2.2.2 c = -1) ∧ (∀ q, q < 4 * d.1 → 1 ≤ d.2.2.1 q ∧ d.2.2.1 q ≤ 9999) ∧ WF0 d.1 d.2.2.2 d.2.2.1
/-- but for the circles -/
def okC (d : Dg) : Prop := d.1 ≤ 20 ∧ (0 ≤ d.2.1 ∧ d.2.1 ≤ 100) ∧ (∀ c, c < d.1 → d.2.2.2 c = 1 ∨ d.2.2.2 c = -1) ∧ (∀ q, q < 4 * d.1 → 1 ≤ d.2.2.1 q ∧ d.2.2.1 q ≤ 9999) ∧ WF0 d.1 d.2.2.2 d.2.2.1
theorem okD_C {d : Dg} (h : okD d) : okC d := ⟨h.1, by have := h.2.1; omega, h.2.2⟩
theorem okC_D {d : Dg} (h : okC d) (hc : d.2.1 ≤ 20) : okD d := ⟨h.1, by have := h.2.1; omega, h.2.2⟩
theorem like_refl (N : Nat) (A : Nat → Int) : like N A A := fun _ _ => rfl
theorem like_tr {N : Nat} {A B C : Nat → Int} (h : like N A B) (k : like N B C) : like N A C := fun q hq => by rw [h q hq, k q hq]
theorem like_sy {N : Nat} {A B : Nat → Int} (h : like N A B) : like N B A := fun q hq => (h q hq).symm
theorem outQ_like {n : Nat} {S sg : Nat → Int} (h : like n S sg) {q : Nat} (hq : q < 4 * n) : outQ S q = outQ sg q := by
  unfold outQ; rw [h (q / 4) (by omega)]
/-- edges speak of what counts alone -/
theorem Edg_like {n : Nat} {sg lb S A nm fr to at_ : Nat → Int} (hS : like n S sg) (hA : like (4 * n) A lb) (h : EdgA n sg lb nm fr to at_) : EdgA n S A nm fr to at_ := by
  refine ⟨fun e he => ?_, h.2.1, h.2.2⟩
  obtain ⟨p, q, a1, a2, a3, a4, a5, a6, a7, a8⟩ := h.1 e he
  exact ⟨p, q, a1, a2, a3, a4, by rw [outQ_like hS a1]; exact a5, by rw [outQ_like hS a2]; exact a6, by rw [hA p a1]; exact a7, by rw [hA q a2]; exact a8⟩
theorem okD_Edg {d : Dg} (h : okC d) : ∃ nm fr to at_, EdgA d.1 d.2.2.2 d.2.2.1 nm fr to at_ := Edg_WF h.1 (fun q hq => by have := h.2.2.2.1 q hq; omega) h.2.2.2.2
def liftD (c : Nat) (d : Dg) : Dg := (d.1 - 1, goC d.2.2.1 (4 * c) (4 * c + 2) (upI d.2.2.2 c) (upO d.2.2.2 c) d.2.1, goL d.2.2.1 c (4 * c) (4 * c + 2) (upI d.2.2.2 c) (upO d.2.2.2 c), goS d.2.2.2 c)
def smooD (c : Nat) (d : Dg) : Dg := (d.1 - 1, goC d.2.2.1 (4 * c) (upO d.2.2.2 c) (upI d.2.2.2 c) (4 * c + 2) d.2.1, goL d.2.2.1 c (4 * c) (upO d.2.2.2 c) (upI d.2.2.2 c) (4 * c + 2), goS d.2.2.2 c)
theorem go_like {n c : Nat} (hc : c < n) {A lb : Nat → Int} (h : like (4 * n) A lb) {x1 y1 x2 y2 : Nat} (a1 : x1 < 4 * n) (a2 : y1 < 4 * n) (a3 : x2 < 4 * n) (a4 : y2 < 4 * n) (ci : Int) : like (4 * (n - 1)) (goL A c x1 y1 x2 y2) (goL lb c x1 y1 x2 y2) ∧ goC A x1 y1 x2 y2 ci = goC lb x1 y1 x2 y2 ci := by
  have h1 := like_mg h a1 a2
  refine ⟨fun q hq => like_mg h1 a3 a4 _ (sk_lt hc hq).1, ?_⟩
  unfold goC jc
  rw [h1 x2 a3, h1 y2 a4, h x1 a1, h y1 a2]
theorem upI_like {n c : Nat} (hc : c < n) {S sg : Nat → Int} (h : like n S sg) : upI S c = upI sg c ∧ upO S c = upO sg c := by unfold upI upO; rw [h c hc]; exact ⟨rfl, rfl⟩
theorem goS_like {n c : Nat} (hc : c < n) {S sg : Nat → Int} (h : like n S sg) : like (n - 1) (goS S c) (goS sg c) := fun k hk => by
  unfold goS; exact h _ (by unfold sk1; split <;> omega)
theorem DA_lift {d : Dg} {c : Nat} (hc : c < d.1) {A S A' S' : Nat → Int} (hA : like (4 * d.1) A d.2.2.1) (hS : like d.1 S d.2.2.2) (h1 : like (4 * (d.1 - 1)) A' (goL A c (4 * c) (4 * c + 2) (upI S c) (upO S c))) (h2 : like (d.1 - 1) S' (goS S c)) : DA (liftD c d) ((d.1 - 1 : Nat) : Int) (goC A (4 * c) (4 * c + 2) (upI S c) (upO S c) d.2.1) A' S' := by
  obtain ⟨a, a1, a2, a3, a4⟩ := upI_lt d.2.2.2 c
  obtain ⟨u1, u2⟩ := upI_like hc hS
  rw [u1, u2] at h1 ⊢
  obtain ⟨g1, g2⟩ := go_like hc hA (show 4 * c < 4 * d.1 by omega) (show 4 * c + 2 < 4 * d.1 by omega) (show upI d.2.2.2 c < 4 * d.1 by omega) (show upO d.2.2.2 c < 4 * d.1 by omega) d.2.1
  exact ⟨rfl, g2, like_tr h1 g1, like_tr h2 (goS_like hc hS)⟩
theorem DA_smoo {d : Dg} {c : Nat} (hc : c < d.1) {A S A' S' : Nat → Int} (hA : like (4 * d.1) A d.2.2.1) (hS : like d.1 S d.2.2.2) (h1 : like (4 * (d.1 - 1)) A' (goL A c (4 * c) (upO S c) (upI S c) (4 * c + 2))) (h2 : like (d.1 - 1) S' (goS S c)) : DA (smooD c d) ((d.1 - 1 : Nat) : Int) (goC A (4 * c) (upO S c) (upI S c) (4 * c + 2) d.2.1) A' S' := by
  obtain ⟨a, a1, a2, a3, a4⟩ := upI_lt d.2.2.2 c
  obtain ⟨u1, u2⟩ := upI_like hc hS
  rw [u1, u2] at h1 ⊢
  obtain ⟨g1, g2⟩ := go_like hc hA (show 4 * c < 4 * d.1 by omega) (show upO d.2.2.2 c < 4 * d.1 by omega) (show upI d.2.2.2 c < 4 * d.1 by omega) (show 4 * c + 2 < 4 * d.1 by omega) d.2.1
  exact ⟨rfl, g2, like_tr h1 g1, like_tr h2 (goS_like hc hS)⟩
theorem goC_b (lb : Nat → Int) (x1 y1 x2 y2 : Nat) (ci : Int) : ci ≤ goC lb x1 y1 x2 y2 ci ∧ goC lb x1 y1 x2 y2 ci ≤ ci + 2 := by
  unfold goC jc; split <;> split <;> omega
theorem out_4 (sg : Nat → Int) (c : Nat) : outQ sg (4 * c) = false ∧ outQ sg (4 * c + 2) = true ∧ outQ sg (upI sg c) = false ∧ outQ sg (upO sg c) = true := by
  unfold upI upO outQ
  have e0 : (4 * c) % 4 = 0 := by omega
  have e2 : (4 * c + 2) % 4 = 2 := by omega
  by_cases s : sg c ≤ 0
  · rw [if_pos s, if_pos s]
    have e1 : (4 * c + 1) % 4 = 1 := by omega
    have e3 : (4 * c + 3) % 4 = 3 := by omega
    have f1 : (4 * c + 1) / 4 = c := by omega
    have f3 : (4 * c + 3) / 4 = c := by omega
    rw [e0, e2, e1, e3, f1, f3]; simp; omega
  · rw [if_neg s, if_neg s]
    have e1 : (4 * c + 1) % 4 = 1 := by omega
    have e3 : (4 * c + 3) % 4 = 3 := by omega
    have f1 : (4 * c + 1) / 4 = c := by omega
    have f3 : (4 * c + 3) / 4 = c := by omega
    rw [e0, e2, e1, e3, f1, f3]; simp; omega
theorem okC_lift {d : Dg} (h : okC d) (hci : d.2.1 ≤ 90) {c : Nat} (hc : c < d.1) : okC (liftD c d) := by
  obtain ⟨h1, h2, h3, h4, h5⟩ := h
  obtain ⟨a, a1, a2, a3, a4⟩ := upI_lt d.2.2.2 c
  obtain ⟨o1, o2, o3, o4⟩ := out_4 d.2.2.2 c
  have hb := goC_b d.2.2.1 (4 * c) (4 * c + 2) (upI d.2.2.2 c) (upO d.2.2.2 c) d.2.1
  refine ⟨by show d.1 - 1 ≤ 20; omega, ⟨by show 0 ≤ goC _ _ _ _ _ _; omega, by show goC _ _ _ _ _ _ ≤ 100; omega⟩, fun k hk => ?_, ?_, ?_⟩
  · have hk : k < d.1 - 1 := hk
    exact h3 _ (by unfold sk1; split <;> omega)
  · intro q hq
    have := lab_go hc (P := fun l => 1 ≤ l ∧ l ≤ 9999) h4 (a := 0) (b := 2) (d := a) (e := 4 - a) (by omega) (by omega) a1 (by omega) q hq
    rw [Nat.add_zero] at this
    show 1 ≤ goL _ _ _ _ _ _ _ ∧ goL _ _ _ _ _ _ _ ≤ 9999
    rw [a2, a3]; exact this
  · rw [a2] at o3; rw [a3] at o4
    have := WF_go hc h5 (a := 0) (b := 2) (d := a) (e := 4 - a) (by omega) (by omega) a1 (by omega) (by omega) o1 o2 o3 o4
    rw [Nat.add_zero] at this
    show WF0 (d.1 - 1) (goS d.2.2.2 c) (goL _ _ _ _ _ _)
    rw [a2, a3]; exact this
theorem okC_smoo {d : Dg} (h : okC d) (hci : d.2.1 ≤ 90) {c : Nat} (hc : c < d.1) : okC (smooD c d) := by
  obtain ⟨h1, h2, h3, h4, h5⟩ := h
  obtain ⟨a, a1, a2, a3, a4⟩ := upI_lt d.2.2.2 c
  obtain ⟨o1, o2, o3, o4⟩ := out_4 d.2.2.2 c
  have hb := goC_b d.2.2.1 (4 * c) (upO d.2.2.2 c) (upI d.2.2.2 c) (4 * c + 2) d.2.1
  refine ⟨by show d.1 - 1 ≤ 20; omega, ⟨by show 0 ≤ goC _ _ _ _ _ _; omega, by show goC _ _ _ _ _ _ ≤ 100; omega⟩, fun k hk => ?_, ?_, ?_⟩
  · have hk : k < d.1 - 1 := hk
    exact h3 _ (by unfold sk1; split <;> omega)
  · intro q hq
    have := lab_go hc (P := fun l => 1 ≤ l ∧ l ≤ 9999) h4 (a := 0) (b := 4 - a) (d := a) (e := 2) (by omega) (by omega) a1 (by omega) q hq
    rw [Nat.add_zero] at this
    show 1 ≤ goL _ _ _ _ _ _ _ ∧ goL _ _ _ _ _ _ _ ≤ 9999
    rw [a2, a3]; exact this
  · rw [a2] at o3; rw [a3] at o4
    have := WF_go hc h5 (a := 0) (b := 4 - a) (d := a) (e := 2) (by omega) (by omega) a1 (by omega) (by omega) o1 o4 o3 o2
    rw [Nat.add_zero] at this
    show WF0 (d.1 - 1) (goS d.2.2.2 c) (goL _ _ _ _ _ _)
    rw [a2, a3]; exact this
theorem C_liftD (fl : Nat) (hfl : 200 ≤ fl) {d : Dg} (h : okC d) (hci : d.2.1 ≤ 90) {c : Nat} (hc : c < d.1) {n ci : Int} {A S : Nat → Int} (hD : DA d n ci A S) (kn : Int) :
    ∃ n' ci' A' S', LM_Di_lift fl (c : Int) n ci kn A S = some (n', ci', 0, A', S') ∧ DA (liftD c d) n' ci' A' S' := by
  obtain ⟨e1, e2, hA, hS⟩ := hD
  subst e1; subst e2
  obtain ⟨B, T, g1, g2, g3⟩ := C_lift fl hfl h.1 hc d.2.1 (by have := h.2.1; omega) kn A S
  exact ⟨_, _, B, T, g1, DA_lift hc hA hS g2 g3⟩
theorem M_liftD (fl : Nat) (hfl : 200 ≤ fl) {d : Dg} (h : okC d) (hci : d.2.1 ≤ 90) {c : Nat} (hc : c < d.1) {n ci : Int} {A S : Nat → Int} (hD : DA d n ci A S) :
    ∃ n' ci' A' S', LM_Md_lift fl (c : Int) n ci A S = some (n', ci', A', S') ∧ DA (liftD c d) n' ci' A' S' := by
  obtain ⟨e1, e2, hA, hS⟩ := hD
  subst e1; subst e2
  obtain ⟨B, T, g1, g2, g3⟩ := M_lift fl hfl h.1 hc d.2.1 (by have := h.2.1; omega) A S (by rw [hS c hc]; exact h.2.2.1 c hc)
  exact ⟨_, _, B, T, g1, DA_lift hc hA hS g2 g3⟩
theorem C_copy (fl : Nat) {d : Dg} (h : d.1 ≤ 20) {n ci : Int} {A S : Nat → Int} (hD : DA d n ci A S) (n0 c0 k0 : Int) (A0 S0 : Nat → Int) :
    ∃ A' S', LM_Di_copy fl n ci A S n0 c0 k0 A0 S0 = some (n, ci, 0, A', S') ∧ DA d n ci A' S' := by
  obtain ⟨e1, e2, hA, hS⟩ := hD
  unfold LM_Di_copy LB_Di_copy_0
  subst e1; subst e2
  rw [if_pos (by omega), if_pos (by omega), if_pos (by omega)]
  refine ⟨_, _, rfl, rfl, rfl, fun q hq => ?_, fun k hk => ?_⟩
  · rw [← hA q hq]; unfold cpI; rw [if_pos (by omega)]; congr 1; omega
  · rw [← hS k hk]; unfold cpI; rw [if_pos (by omega)]; congr 1; omega
theorem be44 (fl : Nat) (n ci n0 c0 : Int) (A S : Nat → Int) (S0 : Nat → Int) :
    ∀ (d nn k : Nat) (B : Nat → Int), k + d = 96 → d < nn → (∀ q, q < k → B q = A q) → ∃ B', LB_Md_Di_become_44 fl n ci A S nn (k : Int) n0 c0 B S0 = some (n0, c0, B', S0) ∧ (∀ q, q < 96 → B' q = A q) := by
  intro d
  induction d with
  | zero =>
    intro nn k B hd hnn hB
    obtain ⟨nn, rfl⟩ : ∃ r, nn = r + 1 := ⟨nn - 1, by omega⟩
    rw [LB_Md_Di_become_44, if_pos (by omega)]
    exact ⟨B, rfl, fun q hq => hB q (by omega)⟩
  | succ d ih =>
    intro nn k B hd hnn hB
    obtain ⟨nn, rfl⟩ : ∃ r, nn = r + 1 := ⟨nn - 1, by omega⟩
    rw [LB_Md_Di_become_44, if_neg (by omega), if_pos (by omega), if_pos (by omega), Int.toNat_natCast, show ((k : Int) + 1) = ((k + 1 : Nat) : Int) by omega]
    refine ih nn (k + 1) _ (by omega) (by omega) (fun q hq => ?_)
    by_cases w : q = k
    · rw [w, up_eq]
    · rw [up_ne _ _ w]; exact hB q (by omega)
theorem be18 (fl : Nat) (hfl : 200 ≤ fl) (n ci n0 c0 : Int) (A S B : Nat → Int) :
    ∀ (d nn k : Nat) (T : Nat → Int), k + d = 24 → d < nn → (∀ q, q < k → T q = S q) → ∃ B' T', LB_Md_Di_become_18 fl n ci A S nn (k : Int) n0 c0 B T = some (n0, c0, B', T') ∧ (∀ q, q < 96 → B' q = A q) ∧ (∀ q, q < 24 → T' q = S q) := by
  intro d
  induction d with
  | zero =>
    intro nn k T hd hnn hT
    obtain ⟨nn, rfl⟩ : ∃ r, nn = r + 1 := ⟨nn - 1, by omega⟩
    rw [LB_Md_Di_become_18, if_pos (by omega)]
    obtain ⟨B', h1, h2⟩ := be44 fl n ci n0 c0 A S T 96 fl 0 B (by omega) (by omega) (fun q hq => by omega)
    exact ⟨B', T, h1, h2, fun q hq => hT q (by omega)⟩
  | succ d ih =>
    intro nn k T hd hnn hT
    obtain ⟨nn, rfl⟩ : ∃ r, nn = r + 1 := ⟨nn - 1, by omega⟩
    rw [LB_Md_Di_become_18, if_neg (by omega), if_pos (by omega), if_pos (by omega), Int.toNat_natCast, show ((k : Int) + 1) = ((k + 1 : Nat) : Int) by omega]
    refine ih nn (k + 1) _ (by omega) (by omega) (fun q hq => ?_)
    by_cases w : q = k
    · rw [w, up_eq]
    · rw [up_ne _ _ w]; exact hT q (by omega)
theorem M_become (fl : Nat) (hfl : 200 ≤ fl) {d : Dg} (h : d.1 ≤ 20) {n ci : Int} {A S : Nat → Int} (hD : DA d n ci A S) (n0 c0 : Int) (A0 S0 : Nat → Int) :
    ∃ A' S', LM_Md_Di_become fl n ci A S n0 c0 A0 S0 = some (n, ci, A', S') ∧ DA d n ci A' S' := by
  obtain ⟨e1, e2, hA, hS⟩ := hD
  unfold LM_Md_Di_become LB_Md_Di_become_0
  obtain ⟨B', T', h1, h2, h3⟩ := be18 fl hfl n ci n ci A S A0 24 fl 0 S0 (by omega) (by omega) (fun q hq => by omega)
  exact ⟨B', T', h1, e1, e2, fun q hq => by rw [h2 q (by omega), hA q hq], fun k hk => by rw [h3 k (by omega), hS k hk]⟩
