section
variable {n : Nat} {sg lb nm fr to at_ nm' fr' to' at' : Nat → Int}
theorem upp_congr (h : EdgA n sg lb nm fr to at_) (h' : EdgA n sg lb nm' fr' to' at') {e : Nat} (he : e < 2 * n) : upp fr' to' e = upp fr to e := by
  have := (Edg_one h h').1 e he
  unfold upp
  rw [this.2.1, this.2.2]
theorem deed_congr (h : EdgA n sg lb nm fr to at_) (h' : EdgA n sg lb nm' fr' to' at') {s : Nat} (hs : s < 4 * n) (k : Nat) : deedS fr' to' at' s k = deedS fr to at_ s k := by
  have c1 := (tn_closed h).1 s hs
  have c2 := (tn_closed h).1 _ c1
  unfold deedS
  rw [tn_congr h h' hs, tn_congr h h' c1, arr_congr h h' hs, arr_congr h h' c1, arr_congr h h' c2, upp_congr h h' (show s / 2 < 2 * n by omega), upp_congr h h' (show tnz fr to at_ s / 2 < 2 * n by omega), upp_congr h h' (show tnz fr to at_ (tnz fr to at_ s) / 2 < 2 * n by omega)]
theorem sl1_congr (h : EdgA n sg lb nm fr to at_) (h' : EdgA n sg lb nm' fr' to' at') {e : Nat} (he : e < 2 * n) (o A : Nat → Int) : sl1z fr' to' nm' e o A = sl1z fr to nm e o A := by
  have := (Edg_one h h').1 e he
  unfold sl1z
  rw [this.1, this.2.1, this.2.2]
theorem wk_congr {N : Nat} {f g : Nat → Nat} (hf : ∀ x, x < N → f x = g x) (hg : ∀ x, x < N → g x < N) (hr : ∀ x, x < N → fr' x = fr x ∧ to' x = to x) : ∀ (k x : Nat) (l : Int) (A : Nat → Int), x < N → wkz fr' to' f k x l A = wkz fr to g k x l A := by
  intro k
  induction k with
  | zero => intro x l A _; rfl
  | succ k ih => intro x l A hx; rw [wk_s, wk_s, (hr x hx).1, (hr x hx).2, hf x hx, ih _ _ _ (hg x hx)]
theorem rnS_congr {N : Nat} {f g : Nat → Nat} (hf : ∀ x, x < N → f x = g x) (hg : ∀ x, x < N → g x < N) (hr : ∀ x, x < N → fr' x = fr x ∧ to' x = to x) (st len : Nat → Nat) (A : Nat → Int) : ∀ c, (∀ i, i < c → st i < N) → rnS fr' to' f st len A c = rnS fr to g st len A c := by
  intro c
  induction c with
  | zero => intro _; rfl
  | succ c ih => intro hs; rw [rnS_s, rnS_s, ih (fun i hi => hs i (by omega)), wk_congr hf hg hr _ _ _ _ (hs c (by omega))]
theorem aw_congr {N : Nat} {f g : Nat → Nat} {P Q : Nat → Bool} (hf : ∀ x, x < N → f x = g x) (hg : ∀ x, x < N → g x < N) (hp : ∀ x, x < N → P x = Q x) (v : Int) : ∀ (k x : Nat) (a : Nat → Int), x < N → aw f P v k x a = aw g Q v k x a := by
  intro k
  induction k with
  | zero => intro x a _; rfl
  | succ k ih => intro x a hx; rw [aw_s, aw_s, hp x hx, hf x hx, ih _ _ (hg x hx)]
theorem ar2_congr {N : Nat} {f g : Nat → Nat} {P Q P' Q' : Nat → Bool} (hf : ∀ x, x < N → f x = g x) (hg : ∀ x, x < N → g x < N) (hp : ∀ x, x < N → P x = P' x) (hq : ∀ x, x < N → Q x = Q' x) : ∀ k, k ≤ N → ar2 f P Q N k = ar2 g P' Q' N k := by
  have one : ∀ k, k ≤ N → ar1 f P Q N k = ar1 g P' Q' N k := by
    intro k
    induction k with
    | zero => intro _; rfl
    | succ k ih => intro hk; rw [ar1_s, ar1_s, ih (by omega), hq k (by omega), aw_congr hf hg hp _ _ _ _ (by omega)]
  intro k
  induction k with
  | zero => intro _; exact one N (Nat.le_refl _)
  | succ k ih => intro hk; rw [ar2_s, ar2_s, ih (by omega), aw_congr hf hg hp _ _ _ _ (by omega)]
theorem arc_congr (h : EdgA n sg lb nm fr to at_) (h' : EdgA n sg lb nm' fr' to' at') : ar2 (nx to' at') (upTz to') (loF fr') (2 * n) (2 * n) = ar2 (nx to at_) (upTz to) (loF fr) (2 * n) (2 * n) := by
  have e := (Edg_one h h').1
  exact ar2_congr (fun x hx => nx_congr h h' hx) (fun x hx => (nx_closed h).1 x hx) (fun x hx => by unfold upTz; rw [(e x hx).2.2]) (fun x hx => by unfold loF; rw [(e x hx).2.1]) _ (Nat.le_refl _)
theorem arcN_congr (h : EdgA n sg lb nm fr to at_) (h' : EdgA n sg lb nm' fr' to' at') : arcN n fr' to' at' = arcN n fr to at_ := by unfold arcN; rw [arc_congr h h']
theorem arcQ_congr (h : EdgA n sg lb nm fr to at_) (h' : EdgA n sg lb nm' fr' to' at') {q : Nat} (hq : q < 4 * n) : arcQ n fr' to' at' q = arcQ n fr to at_ q := by unfold arcQ arcA; rw [arc_congr h h', (Edg_one h h').2 q hq]
theorem alt_congr (h : EdgA n sg lb nm fr to at_) (h' : EdgA n sg lb nm' fr' to' at') : ∀ k, k ≤ 2 * n → altB fr' to' k = altB fr to k := by
  intro k
  induction k with
  | zero => intro _; rfl
  | succ k ih =>
    intro hk
    have e := (Edg_one h h').1 k (by omega)
    show (altB fr' to' k && decide ((fr' k).toNat % 2 ≠ (to' k).toNat % 2)) = (altB fr to k && decide ((fr k).toNat % 2 ≠ (to k).toNat % 2))
    rw [ih (by omega), e.2.1, e.2.2]
theorem sfn_congr (h : EdgA n sg lb nm fr to at_) (h' : EdgA n sg lb nm' fr' to' at') (S : Nat → Int) {e : Nat} (he : e < 2 * n) : sfn S to' at' e = sfn S to at_ e := by
  obtain ⟨_, _, _, t2, _⟩ := fr_ok h he
  unfold sfn
  rw [((Edg_one h h').1 e he).2.2]
  have hq : (if (to e).toNat % 2 = 1 then 4 * ((to e).toNat / 4) + 2 else upO S ((to e).toNat / 4)) < 4 * n := by
    unfold upO
    split
    · omega
    · split <;> omega
  rw [(Edg_one h h').2 _ hq]
theorem sfR_congr2 (h : EdgA n sg lb nm fr to at_) (h' : EdgA n sg lb nm' fr' to' at') (S : Nat → Int) : sfR (sfn S to' at') (2 * n) (2 * n) = sfR (sfn S to at_) (2 * n) (2 * n) :=
  sfR_congr (fun x hx => sfn_congr h h' S hx) (fun x hx => (sfn_ok h' S hx).2.2.2.2) (2 * n) (Nat.le_refl _)
end
section
variable {d : Dg} {nm fr to at_ nm' fr' to' at' : Nat → Int}
theorem undo_congr (h : EdgA d.1 d.2.2.2 d.2.2.1 nm fr to at_) (h' : EdgA d.1 d.2.2.2 d.2.2.1 nm' fr' to' at') {s : Nat} (hs : s < 4 * d.1) (k : Nat) : undoS d fr' to' at' s k = undoS d fr to at_ s k := by
  have c1 := (tn_closed h).1 s hs
  unfold undoS
  rw [deed_congr h h' hs, tn_congr h h' hs, arr_congr h h' hs, arr_congr h h' c1]
theorem cnt_congr2 (h : EdgA d.1 d.2.2.2 d.2.2.1 nm fr to at_) (h' : EdgA d.1 d.2.2.2 d.2.2.1 nm' fr' to' at') : cntS d fr' to' at' = cntS d fr to at_ := by
  unfold cntS cmR
  rw [rn_congr h h', pcs_congr h h', rt_congr h h', arcN_congr h h', sfR_congr2 h h', alt_congr h h' _ (Nat.le_refl _)]
theorem rv_congr (h : EdgA d.1 d.2.2.2 d.2.2.1 nm fr to at_) (h' : EdgA d.1 d.2.2.2 d.2.2.1 nm' fr' to' at') (k : Nat) : rvS to' at' k d = rvS to at_ k d := by
  have ec : coR d.1 to' at' = coR d.1 to at_ := by unfold coR; rw [rn_congr h h']
  have e2 : revD (lowK (coR d.1 to at_) at' k) (uppK (coR d.1 to at_) at' k) d = revD (lowK (coR d.1 to at_) at_ k) (uppK (coR d.1 to at_) at_ k) d := by
    have el : ∀ c, c < d.1 → lowK (coR d.1 to at_) at' k c = lowK (coR d.1 to at_) at_ k c := fun c hc => by unfold lowK; rw [(Edg_one h h').2 (4 * c) (by omega)]
    have eu : ∀ c, c < d.1 → uppK (coR d.1 to at_) at' k c = uppK (coR d.1 to at_) at_ k c := fun c hc => by unfold uppK; rw [(Edg_one h h').2 (4 * c + 1) (by omega)]
    unfold revD
    have a1 : revL (lowK (coR d.1 to at_) at' k) d.1 d.2.2.1 = revL (lowK (coR d.1 to at_) at_ k) d.1 d.2.2.1 := by
      funext q
      unfold revL
      by_cases c : q / 4 < d.1
      · rw [el _ c]
      · rw [if_neg (fun w => c w.1), if_neg (fun w => c w.1)]
    have a2 : revS (lowK (coR d.1 to at_) at' k) (uppK (coR d.1 to at_) at' k) d.1 d.2.2.2 = revS (lowK (coR d.1 to at_) at_ k) (uppK (coR d.1 to at_) at_ k) d.1 d.2.2.2 := by
      funext c
      unfold revS
      by_cases g : c < d.1
      · rw [el _ g, eu _ g]
      · rw [if_neg (fun w => g w.1), if_neg (fun w => g w.1)]
    rw [a1, a2]
  unfold rvS cmR
  rw [ec, rn_congr h h', e2]
theorem pu_congr (h : EdgA d.1 d.2.2.2 d.2.2.1 nm fr to at_) (h' : EdgA d.1 d.2.2.2 d.2.2.1 nm' fr' to' at') (x y ov u v w z : Int) {ex ey : Option Nat} (hx : ∀ e, ex = some e → e < 2 * d.1) (hy : ∀ e, ey = some e → e < 2 * d.1) : puS nm' fr' to' at' x y ov u v w z ex ey d = puS nm fr to at_ x y ov u v w z ex ey d := by
  cases ex with
  | none => rfl
  | some e =>
    cases ey with
    | none => rfl
    | some f =>
      have e1 := (Edg_one h h').1 e (hx e rfl)
      have e2 := (Edg_one h h').1 f (hy f rfl)
      have em : meetP d.1 fr' to' at' x y e f ↔ meetP d.1 fr to at_ x y e f := by
        unfold meetP
        rw [rt_congr h h', pc_congr h h', pc_congr h h', e1.2.1, e2.2.1]
      show (if e ≠ f ∧ d.1 + 2 ≤ 20 ∧ meetP d.1 fr' to' at' x y e f then _ else _) = (if e ≠ f ∧ d.1 + 2 ≤ 20 ∧ meetP d.1 fr to at_ x y e f then _ else _)
      by_cases g : e ≠ f ∧ d.1 + 2 ≤ 20 ∧ meetP d.1 fr to at_ x y e f
      · rw [if_pos g, if_pos ⟨g.1, g.2.1, em.2 g.2.2⟩, e1.1, e1.2.2, e2.1, e2.2.2]
      · rw [if_neg g, if_neg (fun w => g ⟨w.1, w.2.1, em.1 w.2.2⟩)]
theorem PM_congr (K : Nat) (lo hi lo' hi' : Nat → Nat → Int) (ρ : Nat → Nat) : ∀ m, (∀ i, i < m → lo' (ρ i) = lo (ρ i) ∧ hi' (ρ i) = hi (ρ i)) → PM K lo' hi' ρ m = PM K lo hi ρ m := by
  intro m
  induction m with
  | zero => intro _; rfl
  | succ m ih =>
    intro h
    show wgP K (lo' (ρ m)) (hi' (ρ m)) (PM K lo' hi' ρ m) = wgP K (lo (ρ m)) (hi (ρ m)) (PM K lo hi ρ m)
    rw [ih (fun i hi => h i (by omega)), (h m (by omega)).1, (h m (by omega)).2]
theorem bas_congr (h : EdgA d.1 d.2.2.2 d.2.2.1 nm fr to at_) (h' : EdgA d.1 d.2.2.2 d.2.2.1 nm' fr' to' at') : basP d fr' to' at' = basP d fr to at_ := by
  funext k
  unfold basP
  rw [arcN_congr h h']
  by_cases c0 : d.1 = 0
  · rw [if_pos c0, if_pos c0]
  · rw [if_neg c0, if_neg c0, PM_congr d.1 (mLo d.2.2.2 (arcQ d.1 fr to at_)) (mHi d.2.2.2 (arcQ d.1 fr to at_)) _ _ _ _ (fun i hi => ?_)]
    have es : skip (d.1 - 1) i = i := if_neg (by omega)
    rw [es]
    constructor
    · funext j
      unfold mLo
      rw [arcQ_congr h h' (show 4 * i < 4 * d.1 by omega), arcQ_congr h h' (show 4 * i + 1 < 4 * d.1 by omega), arcQ_congr h h' (show 4 * i + 2 < 4 * d.1 by omega)]
    · funext j
      unfold mHi
      rw [arcQ_congr h h' (show 4 * i < 4 * d.1 by omega), arcQ_congr h h' (show 4 * i + 1 < 4 * d.1 by omega), arcQ_congr h h' (show 4 * i + 2 < 4 * d.1 by omega)]
end
