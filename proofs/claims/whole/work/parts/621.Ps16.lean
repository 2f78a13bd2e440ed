theorem FR_mono {tx : Nat → Int} {sz : Nat} {fa pl : Int} {B B' : Nat} {X : Option MT} (h : FR tx sz fa pl B X) (hB : B ≤ B') : FR tx sz fa pl B' X := by
  obtain ⟨at_, tm, fr, pa, nu, h1, h2, h3, h4⟩ := h
  exact ⟨at_, tm, fr, pa, nu, h1, h2, h3, by omega⟩
theorem RM_mono {tx : Nat → Int} {sz : Nat} {nu0 : Nat → Int} {b : Nat} {l : List Int} {B B' : Nat} {r : Rs} {X : Option MT} (h : RM tx sz nu0 b l B r X) (hB : B ≤ B') : RM tx sz nu0 b l B' r X := by
  cases r with
  | inr e => exact ⟨h.1, FR_mono h.2 hB⟩
  | inl a => exact h
theorem sq_assoc (r : Rs) (g f : Nat → Rs) : sq (sq r g) f = sq r (fun q => sq (g q) f) := by
  cases r with
  | inr e => rfl
  | inl a =>
    show sq (match g a.1 with | .inl b => .inl (b.1, a.2 ++ b.2) | .inr e => .inr e) f = (match sq (g a.1) f with | .inl b => .inl (b.1, a.2 ++ b.2) | .inr e => .inr e)
    cases g a.1 with
    | inr e => rfl
    | inl b =>
      show (match f b.1 with | .inl c => (.inl (c.1, (a.2 ++ b.2) ++ c.2) : Rs) | .inr e => .inr e) = (match (match f b.1 with | .inl c => (.inl (c.1, b.2 ++ c.2) : Rs) | .inr e => .inr e) with | .inl b => .inl (b.1, a.2 ++ b.2) | .inr e => .inr e)
      cases f b.1 with
      | inr e => rfl
      | inl c => show (.inl (c.1, (a.2 ++ b.2) ++ c.2) : Rs) = .inl (c.1, a.2 ++ (b.2 ++ c.2)); rw [List.append_assoc]
theorem sq_nil (q : Nat) (f : Nat → Rs) : sq (.inl (q, [])) f = f q := by
  show (match f q with | .inl c => (.inl (c.1, [] ++ c.2) : Rs) | .inr e => .inr e) = f q
  cases f q with
  | inr e => rfl
  | inl c => rfl
/-- the labels of a crossing that come behind the first -/
def sLab (tx : Nat → Int) (sz : Nat) (f : Nat → Rs) : Nat → Nat → Rs
  | 0, q => sq (sMark tx sz 93 q) f
  | d + 1, q => sq (sMark tx sz 44 q) fun q => sq (sNum tx sz 1 q) (sLab tx sz f d)
theorem sCross_f (tx : Nat → Int) (sz : Nat) (f : Nat → Rs) (q : Nat) : sq (sCross tx sz q) f = sq (sSign tx sz q) fun q => sq (sMark tx sz 91 q) fun q => sq (sNum tx sz 1 q) (sLab tx sz f 3) := by
  unfold sCross
  simp only [sq_assoc, sq_nil]
  rfl
theorem RM_need (fl : Nat) (hfl : 5000 ≤ fl) {tx ty : Nat → Int} {sz : Nat} (hs : sz ≤ 4000) (ht : TXT tx ty sz) {nu0 nu : Nat → Int} {b : Nat} {pa : Int} {l : List Int} {B' : Nat} {q : Nat} {at_ tm fr fa pl : Int} (h : AtM tx sz q at_ tm fr fa pl) {m : Int} {f : Nat → Rs} {G : MT → Option MT} (hn : NM nu0 b nu pa l) (hb : b + l.length ≤ 4000)
    (hg : ∀ q1 at_ tm fr fa pl, q + 1 ≤ q1 → AtM tx sz q1 at_ tm fr fa pl → RM tx sz nu0 b l B' (f q1) (G (at_, tm, fr, fa, pl, pa, nu)))
    (hf : ∀ at_ tm fr fa pl, FaM tx sz at_ tm fr → fa ≠ 0 → 0 ≤ pa → pa ≤ ((4001 : Nat) : Int) → FR tx sz fa pl B' (G (at_, tm, fr, fa, pl, pa, nu))) :
    RM tx sz nu0 b l B' (sq (sMark tx sz m q) f) ((LM_Md_need fl (sz : Int) ty m at_ tm fr fa pl).bind fun o => G (o.1, o.2.1, o.2.2.1, o.2.2.2.1, o.2.2.2.2, pa, nu)) := by
  have k := M_need fl hfl hs ht h m
  have h1 := hn.1
  cases e : sMark tx sz m q with
  | inr e2 =>
    rw [e] at k
    obtain ⟨a1, t1, f1, k1, k2, k3⟩ := k
    rw [k1, Option.bind_some]
    exact ⟨k3, hf a1 t1 f1 e2.1 (e2.2 : Int) k2 k3 (by omega) (by omega)⟩
  | inl a =>
    rw [e] at k
    obtain ⟨a1, t1, f1, g1, p1, k1, k2, k3⟩ := k
    rw [k1, Option.bind_some]
    have g := hg a.1 a1 t1 f1 g1 p1 (sMark_p h.1 (show sMark tx sz m q = .inl (a.1, a.2) from e)).1 k2
    have ea : (.inl a : Rs) = .inl (a.1, []) := by rw [← k3]
    rw [ea, sq_nil]
    exact g
theorem FR_need (fl : Nat) (hfl : 5000 ≤ fl) {tx ty : Nat → Int} {sz : Nat} (hs : sz ≤ 4000) (ht : TXT tx ty sz) {at_ tm fr fa pl pa : Int} (h : FaM tx sz at_ tm fr) (hf : fa ≠ 0) {nu : Nat → Int} (m : Int) {B' : Nat} {G : MT → Option MT}
    (hg : ∀ at_ tm fr, FaM tx sz at_ tm fr → FR tx sz fa pl B' (G (at_, tm, fr, fa, pl, pa, nu))) : FR tx sz fa pl B' ((LM_Md_need fl (sz : Int) ty m at_ tm fr fa pl).bind fun o => G (o.1, o.2.1, o.2.2.1, o.2.2.2.1, o.2.2.2.2, pa, nu)) := by
  obtain ⟨a1, t1, f1, k1, k2⟩ := FaM_need fl hfl hs ht h hf m (pl := pl)
  rw [k1, Option.bind_some]
  exact hg a1 t1 f1 k2
abbrev KB := Int → Int → Int → Int → Int → Int → Int → (Nat → Int) → Option MT
theorem F44 (fl : Nat) (hfl : 5000 ≤ fl) {tx ty : Nat → Int} {sz : Nat} (hs : sz ≤ 4000) (ht : TXT tx ty sz) {fa pl : Int} (hf : fa ≠ 0) (kb : KB) {x1 : Int} (hx : 0 ≤ x1 ∧ x1 ≤ 100) {B' : Nat} :
    ∀ (d nn : Nat) (at_ tm fr pa : Int) (nu : Nat → Int) (B : Nat), d ≤ 4 → d < nn → FaM tx sz at_ tm fr → 0 ≤ pa → pa ≤ (B : Int) → B + d ≤ 8000 → (∀ at_ tm fr pa nu, FaM tx sz at_ tm fr → 0 ≤ pa → pa ≤ ((B + d : Nat) : Int) → FR tx sz fa pl B' (kb (x1 + 1) at_ tm fr fa pl pa nu)) →
    FR tx sz fa pl B' (LB_Md_readCode_44 fl (sz : Int) ty kb nn x1 (4 - (d : Int)) at_ tm fr fa pl pa nu) := by
  intro d
  induction d with
  | zero =>
    intro nn at_ tm fr pa nu B hd hnn h h0 hB hB2 hk
    obtain ⟨nn, rfl⟩ : ∃ r, nn = r + 1 := ⟨nn - 1, by omega⟩
    rw [LB_Md_readCode_44, if_pos (by omega)]
    refine FR_need fl hfl hs ht h hf 93 (G := fun o => if (-2147483648 ≤ (x1 + (1 : Int)) ∧ (x1 + (1 : Int)) < 2147483648) then kb (x1 + 1) o.1 o.2.1 o.2.2.1 o.2.2.2.1 o.2.2.2.2.1 o.2.2.2.2.2.1 o.2.2.2.2.2.2 else none) (fun a1 t1 f1 k => ?_)
    show FR tx sz fa pl B' (if (-2147483648 ≤ (x1 + (1 : Int)) ∧ (x1 + (1 : Int)) < 2147483648) then kb (x1 + 1) a1 t1 f1 fa pl pa nu else none)
    rw [if_pos (by omega)]
    exact hk a1 t1 f1 pa nu k h0 (by omega)
  | succ d ih =>
    intro nn at_ tm fr pa nu B hd hnn h h0 hB hB2 hk
    obtain ⟨nn, rfl⟩ : ∃ r, nn = r + 1 := ⟨nn - 1, by omega⟩
    have go : ∀ at_ tm fr, FaM tx sz at_ tm fr → FR tx sz fa pl B' (LB_Md_readCode_59 fl (sz : Int) ty kb (LB_Md_readCode_44 fl (sz : Int) ty kb nn) x1 (4 - ((d + 1 : Nat) : Int)) at_ tm fr fa pl pa nu) := by
      intro at_ tm fr h
      unfold LB_Md_readCode_59
      obtain ⟨v, a1, t1, f1, k1, k2, k3⟩ := FaM_number fl hfl hs ht h hf 0 (pl := pl)
      refine FR_num fl ⟨v, a1, t1, f1, k1, k2⟩ ⟨h0, hB, by omega⟩ (G := fun o => if (-2147483648 ≤ ((4 - ((d + 1 : Nat) : Int)) + (1 : Int)) ∧ ((4 - ((d + 1 : Nat) : Int)) + (1 : Int)) < 2147483648) then LB_Md_readCode_44 fl (sz : Int) ty kb nn x1 ((4 - ((d + 1 : Nat) : Int)) + (1 : Int)) o.1 o.2.1 o.2.2.1 o.2.2.2.1 o.2.2.2.2.1 o.2.2.2.2.2.1 o.2.2.2.2.2.2 else none) (fun a2 t2 f2 pa2 nu2 k4 k5 k6 => ?_)
      show FR tx sz fa pl B' (if (-2147483648 ≤ ((4 - ((d + 1 : Nat) : Int)) + (1 : Int)) ∧ ((4 - ((d + 1 : Nat) : Int)) + (1 : Int)) < 2147483648) then LB_Md_readCode_44 fl (sz : Int) ty kb nn x1 ((4 - ((d + 1 : Nat) : Int)) + (1 : Int)) a2 t2 f2 fa pl pa2 nu2 else none)
      rw [if_pos (by omega), show (4 - ((d + 1 : Nat) : Int)) + (1 : Int) = 4 - (d : Int) by omega]
      exact ih nn a2 t2 f2 pa2 nu2 (B + 1) (by omega) (by omega) k4 k5 k6 (by omega) (fun a t f p n w1 w2 w3 => hk a t f p n w1 w2 (by omega))
    rw [LB_Md_readCode_44, if_neg (by omega)]
    by_cases c : d = 3
    · rw [if_pos (by omega)]
      exact go at_ tm fr h
    · rw [if_neg (by omega)]
      exact FR_need fl hfl hs ht h hf 44 (G := fun o => LB_Md_readCode_59 fl (sz : Int) ty kb (LB_Md_readCode_44 fl (sz : Int) ty kb nn) x1 (4 - ((d + 1 : Nat) : Int)) o.1 o.2.1 o.2.2.1 o.2.2.2.1 o.2.2.2.2.1 o.2.2.2.2.2.1 o.2.2.2.2.2.2) (fun a1 t1 f1 k => go a1 t1 f1 k)
theorem F59 (fl : Nat) (hfl : 5000 ≤ fl) {tx ty : Nat → Int} {sz : Nat} (hs : sz ≤ 4000) (ht : TXT tx ty sz) {fa pl : Int} (hf : fa ≠ 0) (kb : KB) {x1 : Int} (hx : 0 ≤ x1 ∧ x1 ≤ 100) {B' : Nat} {d nn : Nat} {at_ tm fr pa : Int} {nu : Nat → Int} (hd : d ≤ 3) (hnn : d < nn) (h : FaM tx sz at_ tm fr) (h0 : 0 ≤ pa) (hB : pa ≤ ((4001 : Nat) : Int)) (hk : ∀ at_ tm fr pa nu, FaM tx sz at_ tm fr → 0 ≤ pa → pa ≤ ((4010 : Nat) : Int) → FR tx sz fa pl B' (kb (x1 + 1) at_ tm fr fa pl pa nu)) :
    FR tx sz fa pl B' (LB_Md_readCode_59 fl (sz : Int) ty kb (LB_Md_readCode_44 fl (sz : Int) ty kb nn) x1 (4 - ((d + 1 : Nat) : Int)) at_ tm fr fa pl pa nu) := by
  unfold LB_Md_readCode_59
  obtain ⟨v, a1, t1, f1, k1, k2, k3⟩ := FaM_number fl hfl hs ht h hf 0 (pl := pl)
  refine FR_num fl ⟨v, a1, t1, f1, k1, k2⟩ ⟨h0, hB, by omega⟩ (G := fun o => if (-2147483648 ≤ ((4 - ((d + 1 : Nat) : Int)) + (1 : Int)) ∧ ((4 - ((d + 1 : Nat) : Int)) + (1 : Int)) < 2147483648) then LB_Md_readCode_44 fl (sz : Int) ty kb nn x1 ((4 - ((d + 1 : Nat) : Int)) + (1 : Int)) o.1 o.2.1 o.2.2.1 o.2.2.2.1 o.2.2.2.2.1 o.2.2.2.2.2.1 o.2.2.2.2.2.2 else none) (fun a2 t2 f2 pa2 nu2 k4 k5 k6 => ?_)
  show FR tx sz fa pl B' (if (-2147483648 ≤ ((4 - ((d + 1 : Nat) : Int)) + (1 : Int)) ∧ ((4 - ((d + 1 : Nat) : Int)) + (1 : Int)) < 2147483648) then LB_Md_readCode_44 fl (sz : Int) ty kb nn x1 ((4 - ((d + 1 : Nat) : Int)) + (1 : Int)) a2 t2 f2 fa pl pa2 nu2 else none)
  rw [if_pos (by omega), show (4 - ((d + 1 : Nat) : Int)) + (1 : Int) = 4 - (d : Int) by omega]
  exact F44 fl hfl hs ht hf kb hx d nn a2 t2 f2 pa2 nu2 4002 (by omega) (by omega) k4 k5 k6 (by omega) (fun a t f p n w1 w2 w3 => hk a t f p n w1 w2 (by omega))
theorem M44 (fl : Nat) (hfl : 5000 ≤ fl) {tx ty : Nat → Int} {sz : Nat} (hs : sz ≤ 4000) (ht : TXT tx ty sz) (kb : KB) {x1 : Int} (hx : 0 ≤ x1 ∧ x1 ≤ 100) {B' : Nat} {nu0 : Nat → Int} {b : Nat} {f : Nat → Rs}
    (hf : ∀ at_ tm fr fa pl pa nu, FaM tx sz at_ tm fr → fa ≠ 0 → 0 ≤ pa → pa ≤ ((4010 : Nat) : Int) → FR tx sz fa pl B' (kb (x1 + 1) at_ tm fr fa pl pa nu)) (hg : ∀ q1 l1 at_ tm fr fa pl pa nu, b + l1.length < q1 → AtM tx sz q1 at_ tm fr fa pl → NM nu0 b nu pa l1 → RM tx sz nu0 b l1 B' (f q1) (kb (x1 + 1) at_ tm fr fa pl pa nu)) :
    ∀ (d nn q : Nat) (at_ tm fr fa pl pa : Int) (nu : Nat → Int) (l : List Int), d ≤ 4 → d < nn → AtM tx sz q at_ tm fr fa pl → NM nu0 b nu pa l → b + l.length < q →
    RM tx sz nu0 b l B' (if d = 4 then sq (sNum tx sz 1 q) (sLab tx sz f 3) else sLab tx sz f d q) (LB_Md_readCode_44 fl (sz : Int) ty kb nn x1 (4 - (d : Int)) at_ tm fr fa pl pa nu) := by
  intro d
  induction d with
  | zero =>
    intro nn q at_ tm fr fa pl pa nu l hd hnn h hn hb
    obtain ⟨nn, rfl⟩ : ∃ r, nn = r + 1 := ⟨nn - 1, by omega⟩
    have hq := h.1
    rw [if_neg (show ¬ 0 = 4 by omega), LB_Md_readCode_44, if_pos (by omega)]
    refine RM_need fl hfl hs ht h (f := f) (G := fun o => if (-2147483648 ≤ (x1 + (1 : Int)) ∧ (x1 + (1 : Int)) < 2147483648) then kb (x1 + 1) o.1 o.2.1 o.2.2.1 o.2.2.2.1 o.2.2.2.2.1 o.2.2.2.2.2.1 o.2.2.2.2.2.2 else none) hn (by omega) (fun q1 a1 t1 f1 g1 p1 e k => ?_) (fun a1 t1 f1 g1 p1 k1 k2 k3 k4 => ?_)
    · show RM tx sz nu0 b l B' (f q1) (if (-2147483648 ≤ (x1 + (1 : Int)) ∧ (x1 + (1 : Int)) < 2147483648) then kb (x1 + 1) a1 t1 f1 g1 p1 pa nu else none)
      rw [if_pos (by omega)]
      exact hg q1 l a1 t1 f1 g1 p1 pa nu (by omega) k hn
    · show FR tx sz g1 p1 B' (if (-2147483648 ≤ (x1 + (1 : Int)) ∧ (x1 + (1 : Int)) < 2147483648) then kb (x1 + 1) a1 t1 f1 g1 p1 pa nu else none)
      rw [if_pos (by omega)]
      exact hf a1 t1 f1 g1 p1 pa nu k1 k2 k3 (by omega)
  | succ d ih =>
    intro nn q at_ tm fr fa pl pa nu l hd hnn h hn hb
    obtain ⟨nn, rfl⟩ : ∃ r, nn = r + 1 := ⟨nn - 1, by omega⟩
    have hq := h.1
    have hd4 : ¬ d = 4 := by omega
    have go : ∀ (q : Nat) (at_ tm fr fa pl : Int), AtM tx sz q at_ tm fr fa pl → b + l.length < q → RM tx sz nu0 b l B' (sq (sNum tx sz 1 q) (sLab tx sz f d)) (LB_Md_readCode_59 fl (sz : Int) ty kb (LB_Md_readCode_44 fl (sz : Int) ty kb nn) x1 (4 - ((d + 1 : Nat) : Int)) at_ tm fr fa pl pa nu) := by
      intro q at_ tm fr fa pl h hb
      have hq := h.1
      unfold LB_Md_readCode_59
      refine RM_num fl (M_number fl hfl hs ht h) hn (by omega) (G := fun o => if (-2147483648 ≤ ((4 - ((d + 1 : Nat) : Int)) + (1 : Int)) ∧ ((4 - ((d + 1 : Nat) : Int)) + (1 : Int)) < 2147483648) then LB_Md_readCode_44 fl (sz : Int) ty kb nn x1 ((4 - ((d + 1 : Nat) : Int)) + (1 : Int)) o.1 o.2.1 o.2.2.1 o.2.2.2.1 o.2.2.2.2.1 o.2.2.2.2.2.1 o.2.2.2.2.2.2 else none) (fun q1 l1 a1 t1 f1 g1 p1 pa1 nu1 e1 h1 n1 => ?_) (fun a1 t1 f1 g1 p1 pa1 nu1 k1 k2 k3 k4 => ?_)
      · have a1' := sNum_p h.1 e1
        show RM tx sz nu0 b (l ++ l1) B' (sLab tx sz f d q1) (if (-2147483648 ≤ ((4 - ((d + 1 : Nat) : Int)) + (1 : Int)) ∧ ((4 - ((d + 1 : Nat) : Int)) + (1 : Int)) < 2147483648) then LB_Md_readCode_44 fl (sz : Int) ty kb nn x1 ((4 - ((d + 1 : Nat) : Int)) + (1 : Int)) a1 t1 f1 g1 p1 pa1 nu1 else none)
        rw [if_pos (by omega), show (4 - ((d + 1 : Nat) : Int)) + (1 : Int) = 4 - (d : Int) by omega]
        have := ih nn q1 a1 t1 f1 g1 p1 pa1 nu1 (l ++ l1) (by omega) (by omega) h1 n1 (by rw [List.length_append]; omega)
        rw [if_neg hd4] at this
        exact this
      · show FR tx sz g1 p1 B' (if (-2147483648 ≤ ((4 - ((d + 1 : Nat) : Int)) + (1 : Int)) ∧ ((4 - ((d + 1 : Nat) : Int)) + (1 : Int)) < 2147483648) then LB_Md_readCode_44 fl (sz : Int) ty kb nn x1 ((4 - ((d + 1 : Nat) : Int)) + (1 : Int)) a1 t1 f1 g1 p1 pa1 nu1 else none)
        rw [if_pos (by omega), show (4 - ((d + 1 : Nat) : Int)) + (1 : Int) = 4 - (d : Int) by omega]
        exact F44 fl hfl hs ht k2 kb hx d nn a1 t1 f1 pa1 nu1 4001 (by omega) (by omega) k1 k3 k4 (by omega) (fun a t f p n w1 w2 w3 => hf a t f g1 p1 p n w1 k2 w2 (by omega))
    by_cases c : d = 3
    · rw [if_pos (show d + 1 = 4 by omega), LB_Md_readCode_44, if_neg (by omega), if_pos (by omega)]
      have := go q at_ tm fr fa pl h hb
      rw [c] at this ⊢
      exact this
    · rw [if_neg (show ¬ d + 1 = 4 by omega), LB_Md_readCode_44, if_neg (by omega), if_neg (by omega)]
      show RM tx sz nu0 b l B' (sq (sMark tx sz 44 q) fun q => sq (sNum tx sz 1 q) (sLab tx sz f d)) _
      refine RM_need fl hfl hs ht h (f := fun q => sq (sNum tx sz 1 q) (sLab tx sz f d)) (G := fun o => LB_Md_readCode_59 fl (sz : Int) ty kb (LB_Md_readCode_44 fl (sz : Int) ty kb nn) x1 (4 - ((d + 1 : Nat) : Int)) o.1 o.2.1 o.2.2.1 o.2.2.2.1 o.2.2.2.2.1 o.2.2.2.2.2.1 o.2.2.2.2.2.2) hn (by omega) (fun q1 a1 t1 f1 g1 p1 e k => go q1 a1 t1 f1 g1 p1 k (by omega)) (fun a1 t1 f1 g1 p1 k1 k2 k3 k4 => ?_)
      exact F59 fl hfl hs ht k2 kb hx (by omega) (by omega) k1 k3 k4 (fun a t f p n w1 w2 w3 => hf a t f g1 p1 p n w1 k2 w2 w3)
