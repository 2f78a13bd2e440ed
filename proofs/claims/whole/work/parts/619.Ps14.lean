/-- the reference's numbers of a line, from b on -/
def NM (nu0 : Nat → Int) (b : Nat) (nu : Nat → Int) (pa : Int) (l : List Int) : Prop := pa = ((b + l.length : Nat) : Int) ∧ (∀ i, i < b → nu i = nu0 i) ∧ ∀ i, i < l.length → nu (b + i) = l.getD i 0
theorem M_put (fl : Nat) {nu0 nu : Nat → Int} {b : Nat} {pa : Int} {l : List Int} (h : NM nu0 b nu pa l) (hb : b + l.length < 9000) (x : Int) : ∃ pa' nu', LM_Md_put fl x pa nu = some (pa', nu') ∧ NM nu0 b nu' pa' (l ++ [x]) := by
  obtain ⟨h1, h2, h3⟩ := h
  unfold LM_Md_put LB_Md_put_0
  rw [h1, if_pos (by omega), if_pos (by omega), Int.toNat_natCast]
  refine ⟨_, _, rfl, ?_, fun i hi => ?_, fun i hi => ?_⟩
  · rw [List.length_append]
    show ((b + l.length : Nat) : Int) + 1 = ((b + (l.length + 1) : Nat) : Int)
    omega
  · rw [up_ne _ _ (by omega)]; exact h2 i hi
  · rw [List.length_append] at hi
    have hi2 : i < l.length + 1 := hi
    by_cases c : i = l.length
    · rw [c, up_eq, getD_app2]
    · rw [up_ne _ _ (by omega), getD_app1 _ _ (by omega)]
      exact h3 i (by omega)
theorem M_putF (fl : Nat) {nu : Nat → Int} {pa : Int} (h : 0 ≤ pa ∧ pa < 9000) (x : Int) : LM_Md_put fl x pa nu = some (pa + 1, up nu pa.toNat x) := by
  unfold LM_Md_put LB_Md_put_0
  rw [if_pos (by omega), if_pos (by omega)]
abbrev MT := Int × Int × Int × Int × Int × Int × (Nat → Int)
/-- a run of the reference with a fault found before -/
def FR (tx : Nat → Int) (sz : Nat) (fa pl : Int) (B : Nat) (X : Option MT) : Prop := ∃ at_ tm fr pa nu, X = some (at_, tm, fr, fa, pl, pa, nu) ∧ FaM tx sz at_ tm fr ∧ 0 ≤ pa ∧ pa ≤ (B : Int)
/-- what a reader of the reference answers -/
def RM (tx : Nat → Int) (sz : Nat) (nu0 : Nat → Int) (b : Nat) (l : List Int) (B : Nat) (r : Rs) (X : Option MT) : Prop := match r with
  | .inl a => ∃ at_ tm fr fa pl pa nu, X = some (at_, tm, fr, fa, pl, pa, nu) ∧ AtM tx sz a.1 at_ tm fr fa pl ∧ NM nu0 b nu pa (l ++ a.2)
  | .inr e => e.1 ≠ 0 ∧ FR tx sz e.1 (e.2 : Int) B X
theorem RM_sq {tx : Nat → Int} {sz : Nat} {nu0 : Nat → Int} {b : Nat} {l : List Int} {B B' : Nat} {r : Rs} {f : Nat → Rs} {X : Option MT} {G : MT → Option MT} (h : RM tx sz nu0 b l B r X)
    (hg : ∀ q1 l1 at_ tm fr fa pl pa nu, r = .inl (q1, l1) → AtM tx sz q1 at_ tm fr fa pl → NM nu0 b nu pa (l ++ l1) → RM tx sz nu0 b (l ++ l1) B' (f q1) (G (at_, tm, fr, fa, pl, pa, nu)))
    (hf : ∀ at_ tm fr fa pl pa nu, FaM tx sz at_ tm fr → fa ≠ 0 → 0 ≤ pa → pa ≤ (B : Int) → FR tx sz fa pl B' (G (at_, tm, fr, fa, pl, pa, nu))) :
    RM tx sz nu0 b l B' (sq r f) (X.bind G) := by
  cases r with
  | inr e =>
    obtain ⟨h0, at_, tm, fr, pa, nu, h1, h2, h3, h4⟩ := h
    rw [h1, Option.bind_some]
    exact ⟨h0, hf at_ tm fr e.1 (e.2 : Int) pa nu h2 h0 h3 h4⟩
  | inl a =>
    obtain ⟨at_, tm, fr, fa, pl, pa, nu, h1, h2, h3⟩ := h
    rw [h1, Option.bind_some]
    have := hg a.1 a.2 at_ tm fr fa pl pa nu rfl h2 h3
    show RM tx sz nu0 b l B' (match f a.1 with | .inl b => .inl (b.1, a.2 ++ b.2) | .inr e => .inr e) _
    cases e : f a.1 with
    | inr e2 => rw [e] at this; exact this
    | inl b2 =>
      rw [e] at this
      obtain ⟨at', tm', fr', fa', pl', pa', nu', k1, k2, k3⟩ := this
      rw [List.append_assoc] at k3
      exact ⟨at', tm', fr', fa', pl', pa', nu', k1, k2, k3⟩
theorem M_pm (fl : Nat) {tx ty : Nat → Int} {sz : Nat} (hs : sz ≤ 4000) (ht : TXT tx ty sz) {q : Nat} {at_ tm fr fa pl : Int} (h : AtM tx sz q at_ tm fr fa pl) : LM_Md_isPlusOrMinus fl tm fr ty = some (if sgP tx sz q then 1 else 0) := by
  unfold LM_Md_isPlusOrMinus LB_Md_isPlusOrMinus_0 LB_Md_isPlusOrMinus_18
  rw [M_mark fl hs ht h 43, Option.bind_some, M_mark fl hs ht h 45, Option.bind_some]
  by_cases c : mkP tx sz q 43
  · rw [if_pos c, if_pos (by omega), if_pos (Or.inl c)]
  · rw [if_neg c, if_neg (by omega)]
    by_cases c2 : mkP tx sz q 45
    · rw [if_pos c2, if_neg (by omega), if_pos (Or.inr c2)]
    · rw [if_neg c2, if_pos rfl, if_neg (fun g => g.elim c c2)]
theorem FaM_pm (fl : Nat) {tx ty : Nat → Int} {sz : Nat} (hs : sz ≤ 4000) {at_ tm fr : Int} (h : FaM tx sz at_ tm fr) : ∃ v, (v = 0 ∨ v = 1) ∧ LM_Md_isPlusOrMinus fl tm fr ty = some v := by
  obtain ⟨v1, hv1, e1⟩ := FaM_mark fl (ty := ty) hs h 43
  obtain ⟨v2, hv2, e2⟩ := FaM_mark fl (ty := ty) hs h 45
  unfold LM_Md_isPlusOrMinus LB_Md_isPlusOrMinus_0 LB_Md_isPlusOrMinus_18
  rw [e1, Option.bind_some, e2, Option.bind_some]
  by_cases c : v1 = 0
  · rw [if_neg (fun g => g c)]
    by_cases c2 : v2 = 0
    · rw [if_pos c2]; exact ⟨0, Or.inl rfl, rfl⟩
    · rw [if_neg c2]; exact ⟨1, Or.inr rfl, rfl⟩
  · rw [if_pos c]; exact ⟨1, Or.inr rfl, rfl⟩
theorem M_psign (fl : Nat) (hfl : 5000 ≤ fl) {tx ty : Nat → Int} {sz : Nat} (hs : sz ≤ 4000) (ht : TXT tx ty sz) {q : Nat} {at_ tm fr fa pl : Int} (h : AtM tx sz q at_ tm fr fa pl) {nu0 nu : Nat → Int} {b : Nat} {pa : Int} {l : List Int} (hn : NM nu0 b nu pa l) (hb : b + l.length < q) : RM tx sz nu0 b l 4001 (sSign tx sz q) (LM_Md_putSign fl (sz : Int) ty at_ tm fr fa pl pa nu) := by
  have hq := h.1
  unfold LM_Md_putSign LB_Md_putSign_0 LB_Md_putSign_29
  rw [M_pm fl hs ht h, Option.bind_some]
  by_cases c : sgP tx sz q
  · have hk : tkK tx sz q ≠ 1 := by rcases c with c | c <;> have := c.1 <;> omega
    have fin : ∀ x : Int, ∃ a1 t1 f1 g1 p1 pa1 nu1, ((LM_Md_put fl x pa nu).bind fun o0 => ((LM_Md_look fl (sz : Int) ty at_ tm fr fa pl).bind fun o1 => (some (o1.1, o1.2.1, o1.2.2.1, o1.2.2.2.1, o1.2.2.2.2, o0.1, o0.2)))) = some (a1, t1, f1, g1, p1, pa1, nu1) ∧ AtM tx sz (nxt tx sz q) a1 t1 f1 g1 p1 ∧ NM nu0 b nu1 pa1 (l ++ [x]) := by
      intro x
      obtain ⟨pa1, nu1, k1, k2⟩ := M_put fl hn (by omega) x
      obtain ⟨a1, t1, f1, g1, p1, n1, n2⟩ := M_next fl hfl hs ht h hk
      rw [k1, Option.bind_some, n1, Option.bind_some]
      exact ⟨a1, t1, f1, g1, p1, pa1, nu1, rfl, n2, k2⟩
    rw [if_pos c, if_pos (by omega), M_mark fl hs ht h 43, Option.bind_some]
    by_cases c2 : mkP tx sz q 43
    · have es : sSign tx sz q = .inl (nxt tx sz q, [1]) := if_pos c2
      rw [es, if_pos c2, if_neg (by omega)]
      exact fin 1
    · have c3 := c.resolve_left c2
      have es : sSign tx sz q = .inl (nxt tx sz q, [-1]) := by unfold sSign; rw [if_neg c2, if_pos c3]
      rw [es, if_neg c2, if_pos rfl]
      exact fin (-1)
  · have es : sSign tx sz q = .inr (refC tx sz q 4, q) := by unfold sSign; rw [if_neg (fun g => c (Or.inl g)), if_neg (fun g => c (Or.inr g))]
    have h1 := hn.1
    rw [es, if_neg c, if_neg (by omega), M_wrong fl hfl hs ht h, Option.bind_some]
    exact ⟨refC_ne tx sz q (by decide), _, _, _, _, _, rfl, FaM_of h, by omega, by omega⟩
theorem F_psign (fl : Nat) (hfl : 5000 ≤ fl) {tx ty : Nat → Int} {sz : Nat} (hs : sz ≤ 4000) (ht : TXT tx ty sz) {at_ tm fr fa pl pa : Int} (h : FaM tx sz at_ tm fr) (hf : fa ≠ 0) (nu : Nat → Int) {B : Nat} (hB : 0 ≤ pa ∧ pa ≤ (B : Int) ∧ B ≤ 8000) : FR tx sz fa pl (B + 1) (LM_Md_putSign fl (sz : Int) ty at_ tm fr fa pl pa nu) := by
  obtain ⟨v, hv, e⟩ := FaM_pm fl (ty := ty) hs h
  obtain ⟨v1, hv1, e1⟩ := FaM_mark fl (ty := ty) hs h 43
  unfold LM_Md_putSign LB_Md_putSign_0 LB_Md_putSign_29
  rw [e, Option.bind_some, e1, Option.bind_some, M_putF fl (by omega), M_putF fl (by omega), Option.bind_some, Option.bind_some, M_lookF fl ty _ _ _ _ _ hf, Option.bind_some, Option.bind_some, FaM_wrong fl hfl hs ht h hf, Option.bind_some]
  by_cases c : v = 0
  · rw [if_neg (fun g => g c)]
    exact ⟨_, _, _, _, _, rfl, h, by omega, by omega⟩
  · rw [if_pos c]
    by_cases c2 : v1 = 0
    · rw [if_pos c2]; exact ⟨_, _, _, _, _, rfl, Or.inl rfl, by omega, by omega⟩
    · rw [if_neg c2]; exact ⟨_, _, _, _, _, rfl, Or.inl rfl, by omega, by omega⟩
