/-- the values of the regions beside the four edges at a crossing, when w flows throughz -/
def Pc4 (s : Int) (w L : Int → Int) (i o p q : Int) : Prop := if s ≤ 0 then L i = L q ∧ L o = L q - w q ∧ L p = L i - w i else L p = L o ∧ L q = L o - w o ∧ L i = L p - w p
def KFz (d : Dg) (w : Int → Int) : Prop := ∀ c, c < d.1 → w (d.2.2.1 (4 * c)) + w (d.2.2.1 (upI d.2.2.2 c)) = w (d.2.2.1 (4 * c + 2)) + w (d.2.2.1 (upO d.2.2.2 c))
def PTz (d : Dg) (w L : Int → Int) : Prop := ∀ c, c < d.1 → Pc4 (d.2.2.2 c) w L (d.2.2.1 (4 * c)) (d.2.2.1 (4 * c + 2)) (d.2.2.1 (upI d.2.2.2 c)) (d.2.2.1 (upO d.2.2.2 c))
/-- each flow has its regions' values -/
def Jd (d : Dg) : Prop := ∀ w, KFz d w → ∃ L, PTz d w L
theorem Pc_neg {s : Int} (hs : s ≤ 0) (w L : Int → Int) (i o p q : Int) : Pc4 s w L i o p q = (L i = L q ∧ L o = L q - w q ∧ L p = L i - w i) := by unfold Pc4; rw [if_pos hs]
theorem Pc_pos {s : Int} (hs : ¬ s ≤ 0) (w L : Int → Int) (i o p q : Int) : Pc4 s w L i o p q = (L p = L o ∧ L q = L o - w o ∧ L i = L p - w p) := by unfold Pc4; rw [if_neg hs]
theorem upI_n {sg : Nat → Int} {c : Nat} (h : sg c ≤ 0) : upI sg c = 4 * c + 1 ∧ upO sg c = 4 * c + 3 := by unfold upI upO; rw [if_pos h, if_pos h]; exact ⟨rfl, rfl⟩
theorem upI_p {sg : Nat → Int} {c : Nat} (h : ¬ sg c ≤ 0) : upI sg c = 4 * c + 3 ∧ upO sg c = 4 * c + 1 := by unfold upI upO; rw [if_neg h, if_neg h]; exact ⟨rfl, rfl⟩
/-- at one crossing, for w and L -/
def kf (sg lb : Nat → Int) (w : Int → Int) (c : Nat) : Prop := w (lb (4 * c)) + w (lb (upI sg c)) = w (lb (4 * c + 2)) + w (lb (upO sg c))
def pt (sg lb : Nat → Int) (w L : Int → Int) (c : Nat) : Prop := Pc4 (sg c) w L (lb (4 * c)) (lb (4 * c + 2)) (lb (upI sg c)) (lb (upO sg c))
theorem kf_n {sg lb : Nat → Int} {w : Int → Int} {c : Nat} (h : sg c ≤ 0) : kf sg lb w c ↔ w (lb (4 * c)) + w (lb (4 * c + 1)) = w (lb (4 * c + 2)) + w (lb (4 * c + 3)) := by unfold kf; rw [(upI_n h).1, (upI_n h).2]
theorem kf_p {sg lb : Nat → Int} {w : Int → Int} {c : Nat} (h : ¬ sg c ≤ 0) : kf sg lb w c ↔ w (lb (4 * c)) + w (lb (4 * c + 3)) = w (lb (4 * c + 2)) + w (lb (4 * c + 1)) := by unfold kf; rw [(upI_p h).1, (upI_p h).2]
theorem pt_n {sg lb : Nat → Int} {w L : Int → Int} {c : Nat} (h : sg c ≤ 0) : pt sg lb w L c ↔ (L (lb (4 * c)) = L (lb (4 * c + 3)) ∧ L (lb (4 * c + 2)) = L (lb (4 * c + 3)) - w (lb (4 * c + 3)) ∧ L (lb (4 * c + 1)) = L (lb (4 * c)) - w (lb (4 * c))) := by unfold pt; rw [(upI_n h).1, (upI_n h).2, Pc_neg h]
theorem pt_p {sg lb : Nat → Int} {w L : Int → Int} {c : Nat} (h : ¬ sg c ≤ 0) : pt sg lb w L c ↔ (L (lb (4 * c + 3)) = L (lb (4 * c + 2)) ∧ L (lb (4 * c + 1)) = L (lb (4 * c + 2)) - w (lb (4 * c + 2)) ∧ L (lb (4 * c)) = L (lb (4 * c + 3)) - w (lb (4 * c + 3))) := by unfold pt; rw [(upI_p h).1, (upI_p h).2, Pc_pos h]
theorem kf_congr {sg lb sg' lb' : Nat → Int} {w : Int → Int} {c c' : Nat} (hs : sg' c' = sg c) (hl : ∀ k, k < 4 → lb' (4 * c' + k) = lb (4 * c + k)) : kf sg' lb' w c' ↔ kf sg lb w c := by
  have h0 : lb' (4 * c') = lb (4 * c) := hl 0 (by omega)
  by_cases h : sg c ≤ 0
  · rw [kf_n h, kf_n (by rw [hs]; exact h), h0, hl 1 (by omega), hl 2 (by omega), hl 3 (by omega)]
  · rw [kf_p h, kf_p (by rw [hs]; exact h), h0, hl 1 (by omega), hl 2 (by omega), hl 3 (by omega)]
theorem pt_congr {sg lb sg' lb' : Nat → Int} {w L : Int → Int} {c c' : Nat} (hs : sg' c' = sg c) (hl : ∀ k, k < 4 → lb' (4 * c' + k) = lb (4 * c + k)) : pt sg' lb' w L c' ↔ pt sg lb w L c := by
  have h0 : lb' (4 * c') = lb (4 * c) := hl 0 (by omega)
  by_cases h : sg c ≤ 0
  · rw [pt_n h, pt_n (by rw [hs]; exact h), h0, hl 1 (by omega), hl 2 (by omega), hl 3 (by omega)]
  · rw [pt_p h, pt_p (by rw [hs]; exact h), h0, hl 1 (by omega), hl 2 (by omega), hl 3 (by omega)]
/-- other names -/
theorem kf_map {sg lb sg' lb' : Nat → Int} {w w' : Int → Int} {c c' : Nat} (hs : sg' c' = sg c) (hl : ∀ k, k < 4 → w' (lb' (4 * c' + k)) = w (lb (4 * c + k))) : kf sg' lb' w' c' ↔ kf sg lb w c := by
  have h0 : w' (lb' (4 * c')) = w (lb (4 * c)) := hl 0 (by omega)
  by_cases h : sg c ≤ 0
  · rw [kf_n h, kf_n (by rw [hs]; exact h), h0, hl 1 (by omega), hl 2 (by omega), hl 3 (by omega)]
  · rw [kf_p h, kf_p (by rw [hs]; exact h), h0, hl 1 (by omega), hl 2 (by omega), hl 3 (by omega)]
theorem pt_map {sg lb sg' lb' : Nat → Int} {w w' L L' : Int → Int} {c c' : Nat} (hs : sg' c' = sg c) (hl : ∀ k, k < 4 → w' (lb' (4 * c' + k)) = w (lb (4 * c + k)) ∧ L' (lb' (4 * c' + k)) = L (lb (4 * c + k))) : pt sg' lb' w' L' c' ↔ pt sg lb w L c := by
  have h0 : w' (lb' (4 * c')) = w (lb (4 * c)) := (hl 0 (by omega)).1
  have g0 : L' (lb' (4 * c')) = L (lb (4 * c)) := (hl 0 (by omega)).2
  by_cases h : sg c ≤ 0
  · rw [pt_n h, pt_n (by rw [hs]; exact h), h0, g0, (hl 1 (by omega)).2, (hl 2 (by omega)).2, (hl 3 (by omega)).2, (hl 3 (by omega)).1]
  · rw [pt_p h, pt_p (by rw [hs]; exact h), g0, (hl 1 (by omega)).2, (hl 2 (by omega)).2, (hl 3 (by omega)).2, (hl 3 (by omega)).1, (hl 2 (by omega)).1]
theorem J_like {d e : Dg} (hn : e.1 = d.1) (hl : like (4 * d.1) e.2.2.1 d.2.2.1) (hs : like d.1 e.2.2.2 d.2.2.2) (h : Jd d) : Jd e := by
  intro w hw
  obtain ⟨L, hL⟩ := h w (fun c hc => (kf_congr (sg := d.2.2.2) (lb := d.2.2.1) (hs c hc) (fun k hk => hl _ (by omega))).1 (hw c (by omega)))
  exact ⟨L, fun c hc => (pt_congr (sg := d.2.2.2) (lb := d.2.2.1) (hs c (by omega)) (fun k hk => hl _ (by omega))).2 (hL c (by omega))⟩
theorem rot_at (c : Nat) (lb : Nat → Int) (f : Nat) : rotL c f lb (4 * c) = lb (4 * c + f % 4) ∧ rotL c f lb (4 * c + 1) = lb (4 * c + (1 + f) % 4) ∧ rotL c f lb (4 * c + 2) = lb (4 * c + (2 + f) % 4) ∧ rotL c f lb (4 * c + 3) = lb (4 * c + (3 + f) % 4) ∧ ∀ e k, e ≠ c → k < 4 → rotL c f lb (4 * e + k) = lb (4 * e + k) := by
  have r4 : ∀ k, k < 4 → rotL c f lb (4 * c + k) = lb (4 * c + (k + f) % 4) := fun k hk => by
    unfold rotL; rw [if_pos (by omega), show (4 * c + k + f) % 4 = (k + f) % 4 by omega]
  refine ⟨?_, r4 1 (by omega), r4 2 (by omega), r4 3 (by omega), fun e k he hk => by unfold rotL; rw [if_neg (by omega)]⟩
  have := r4 0 (by omega)
  rw [Nat.zero_add] at this
  exact this
theorem J_ch {d : Dg} (hs : ∀ c, c < d.1 → d.2.2.2 c = 1 ∨ d.2.2.2 c = -1) (h : Jd d) {c : Nat} : Jd (chD c d) := by
  have us : (chD c d).2.2.2 c = -(d.2.2.2 c) := up_eq _ _ _
  have uo : ∀ e, e ≠ c → (chD c d).2.2.2 e = d.2.2.2 e := fun e he => up_ne _ _ he
  obtain ⟨a0, a1, a2, a3, ao⟩ := rot_at c d.2.2.1 1
  obtain ⟨b0, b1, b2, b3, bo⟩ := rot_at c d.2.2.1 3
  have lo : ∀ e k, e ≠ c → k < 4 → (chD c d).2.2.1 (4 * e + k) = d.2.2.1 (4 * e + k) := fun e k he hk => by
    show rotL c (if d.2.2.2 c ≤ 0 then 1 else 3) d.2.2.1 (4 * e + k) = _
    split
    · exact ao e k he hk
    · exact bo e k he hk
  have ln : d.2.2.2 c ≤ 0 → (chD c d).2.2.1 = rotL c 1 d.2.2.1 := fun q => by show rotL c (if d.2.2.2 c ≤ 0 then 1 else 3) d.2.2.1 = _; rw [if_pos q]
  have lp : ¬ d.2.2.2 c ≤ 0 → (chD c d).2.2.1 = rotL c 3 d.2.2.1 := fun q => by show rotL c (if d.2.2.2 c ≤ 0 then 1 else 3) d.2.2.1 = _; rw [if_neg q]
  intro w hw
  obtain ⟨L, hL⟩ := h w (fun e he => by
    have hk : kf (chD c d).2.2.2 (chD c d).2.2.1 w e := hw e he
    show kf d.2.2.2 d.2.2.1 w e
    by_cases hec : e = c
    · subst hec
      have s1 := hs e he
      by_cases q : d.2.2.2 e ≤ 0
      · rw [kf_p (by rw [us]; omega), ln q, a0, a1, a2, a3] at hk
        rw [kf_n q]
        simp at hk
        omega
      · rw [kf_n (by rw [us]; omega), lp q, b0, b1, b2, b3] at hk
        rw [kf_p q]
        simp at hk
        omega
    · exact (kf_congr (uo e hec) (fun k hk => lo e k hec hk)).1 hk)
  refine ⟨L, fun e he => ?_⟩
  have hp : pt d.2.2.2 d.2.2.1 w L e := hL e he
  show pt (chD c d).2.2.2 (chD c d).2.2.1 w L e
  by_cases hec : e = c
  · subst hec
    have s1 := hs e he
    by_cases q : d.2.2.2 e ≤ 0
    · rw [pt_n q] at hp
      rw [pt_p (by rw [us]; omega), ln q, a0, a1, a2, a3]
      simp
      omega
    · rw [pt_p q] at hp
      rw [pt_n (by rw [us]; omega), lp q, b0, b1, b2, b3]
      simp
      omega
  · exact (pt_congr (uo e hec) (fun k hk => lo e k hec hk)).2 hp
theorem J_mir {d : Dg} (ho : okD d) (h : Jd d) : ∀ k, k ≤ d.1 → Jd (mirD k d) := by
  intro k
  induction k with
  | zero => intro _; exact h
  | succ k ih =>
    intro hk
    obtain ⟨a, b, c⟩ := mir_ok ho k (by omega)
    exact J_ch a.2.2.1 (ih (by omega))
/-- two strands are joined, a crossing goes: the regions' values stand if they do at what is joined -/
theorem mg_val {L : Int → Int} {a b : Int} (h : L a = L b) (l : Int) : L (mgL a b l) = L l := by
  unfold mgL
  split
  · rename_i q
    have : min a b = a ∨ min a b = b := by omega
    rcases this with e | e <;> rw [e] <;> rcases q with q | q <;> rw [q] <;> first | exact h | exact h.symm | rfl
  · rfl
def gm (lb : Nat → Int) (x1 y1 x2 y2 : Nat) (l : Int) : Int := mgL (jl x1 y1 lb x2) (jl x1 y1 lb y2) (mgL (lb x1) (lb y1) l)
theorem goL_gm (lb : Nat → Int) (c x1 y1 x2 y2 q : Nat) : goL lb c x1 y1 x2 y2 q = gm lb x1 y1 x2 y2 (lb (sk c q)) := rfl
theorem gm_val {lb : Nat → Int} {x1 y1 x2 y2 : Nat} {L : Int → Int} (h1 : L (lb x1) = L (lb y1)) (h2 : L (lb x2) = L (lb y2)) (l : Int) : L (gm lb x1 y1 x2 y2 l) = L l := by
  unfold gm
  have e : L (jl x1 y1 lb x2) = L (jl x1 y1 lb y2) := by
    show L (mgL (lb x1) (lb y1) (lb x2)) = L (mgL (lb x1) (lb y1) (lb y2))
    rw [mg_val h1, mg_val h1, h2]
  rw [mg_val e, mg_val h1]
theorem gm_1 (lb : Nat → Int) (x1 y1 x2 y2 : Nat) : gm lb x1 y1 x2 y2 (lb x1) = gm lb x1 y1 x2 y2 (lb y1) := by
  unfold gm; rw [mgL_a, mgL_b]
theorem gm_2 (lb : Nat → Int) (x1 y1 x2 y2 : Nat) : gm lb x1 y1 x2 y2 (lb x2) = gm lb x1 y1 x2 y2 (lb y2) := by
  unfold gm
  show mgL (jl x1 y1 lb x2) (jl x1 y1 lb y2) (jl x1 y1 lb x2) = mgL (jl x1 y1 lb x2) (jl x1 y1 lb y2) (jl x1 y1 lb y2)
  rw [mgL_a, mgL_b]
theorem sk_at (c e k : Nat) (hk : k < 4) : sk c (4 * e + k) = 4 * sk1 c e + k := by
  unfold sk sk1
  by_cases h : e < c
  · rw [if_pos h, if_pos (by omega)]
  · rw [if_neg h, if_neg (by omega)]; omega
theorem sk1_lt {n c e : Nat} (hc : c < n) (he : e < n - 1) : sk1 c e < n ∧ sk1 c e ≠ c := by unfold sk1; split <;> omega
/-- one crossing goes, its strands joined -/
def goD (c x1 y1 x2 y2 : Nat) (d : Dg) : Dg := (d.1 - 1, goC d.2.2.1 x1 y1 x2 y2 d.2.1, goL d.2.2.1 c x1 y1 x2 y2, goS d.2.2.2 c)
theorem go_kf {d : Dg} {c x1 y1 x2 y2 : Nat} (hc : c < d.1) {w : Int → Int} (hw : KFz (goD c x1 y1 x2 y2 d) w) : ∀ e, e < d.1 → e ≠ c → kf d.2.2.2 d.2.2.1 (fun l => w (gm d.2.2.1 x1 y1 x2 y2 l)) e := by
  intro e he hec
  obtain ⟨f, hf, hfe⟩ : ∃ f, f < d.1 - 1 ∧ sk1 c f = e := by
    by_cases q : e < c
    · exact ⟨e, by omega, by unfold sk1; rw [if_pos q]⟩
    · exact ⟨e - 1, by omega, by unfold sk1; rw [if_neg (by omega)]; omega⟩
  have := hw f hf
  refine (kf_map (sg' := (goD c x1 y1 x2 y2 d).2.2.2) (lb' := (goD c x1 y1 x2 y2 d).2.2.1) (w' := w) (c' := f) ?_ (fun k hk => ?_)).1 this
  · show d.2.2.2 (sk1 c f) = _; rw [hfe]
  · show w (goL d.2.2.1 c x1 y1 x2 y2 (4 * f + k)) = _
    rw [goL_gm, sk_at c f k hk, hfe]
theorem go_pt {d : Dg} {c x1 y1 x2 y2 : Nat} (hc : c < d.1) {w L M : Int → Int} (hL : ∀ e, e < d.1 → e ≠ c → pt d.2.2.2 d.2.2.1 (fun l => w (gm d.2.2.1 x1 y1 x2 y2 l)) L e) (hM : ∀ e k, e < d.1 → e ≠ c → k < 4 → M (gm d.2.2.1 x1 y1 x2 y2 (d.2.2.1 (4 * e + k))) = L (d.2.2.1 (4 * e + k))) : PTz (goD c x1 y1 x2 y2 d) w M := by
  intro f hf
  have hf' : f < d.1 - 1 := hf
  obtain ⟨s1, s2⟩ := sk1_lt hc hf'
  show pt (goD c x1 y1 x2 y2 d).2.2.2 (goD c x1 y1 x2 y2 d).2.2.1 w M f
  have hr : (goD c x1 y1 x2 y2 d).2.2.2 f = d.2.2.2 (sk1 c f) := rfl
  refine (pt_map (w := fun l => w (gm d.2.2.1 x1 y1 x2 y2 l)) (L := L) hr (fun k hk => ?_)).2 (hL _ s1 s2)
  have e : (goD c x1 y1 x2 y2 d).2.2.1 (4 * f + k) = gm d.2.2.1 x1 y1 x2 y2 (d.2.2.1 (4 * sk1 c f + k)) := by
    show goL d.2.2.1 c x1 y1 x2 y2 (4 * f + k) = _
    rw [goL_gm, sk_at c f k hk]
  rw [e]
  exact ⟨rfl, hM _ k s1 s2 hk⟩
theorem J_smoo {d : Dg} (h : Jd d) {c : Nat} (hc : c < d.1) : Jd (smooD c d) := by
  intro w hw
  have hw' : KFz (goD c (4 * c) (upO d.2.2.2 c) (upI d.2.2.2 c) (4 * c + 2) d) w := hw
  have g1 := gm_1 d.2.2.1 (4 * c) (upO d.2.2.2 c) (upI d.2.2.2 c) (4 * c + 2)
  have g2 := gm_2 d.2.2.1 (4 * c) (upO d.2.2.2 c) (upI d.2.2.2 c) (4 * c + 2)
  obtain ⟨L, hL⟩ := h (fun l => w (gm d.2.2.1 (4 * c) (upO d.2.2.2 c) (upI d.2.2.2 c) (4 * c + 2) l)) (fun e he => by
    by_cases hec : e = c
    · subst hec
      show w (gm _ _ _ _ _ _) + w (gm _ _ _ _ _ _) = w (gm _ _ _ _ _ _) + w (gm _ _ _ _ _ _)
      rw [g1, g2]
      exact Int.add_comm _ _
    · exact go_kf hc hw' e he hec)
  have hp : pt d.2.2.2 d.2.2.1 (fun l => w (gm d.2.2.1 (4 * c) (upO d.2.2.2 c) (upI d.2.2.2 c) (4 * c + 2) l)) L c := hL c hc
  refine ⟨L, go_pt hc (fun e he hec => hL e he) (fun e k he hec hk => ?_)⟩
  have g1' : w (gm d.2.2.1 (4 * c) (upO d.2.2.2 c) (upI d.2.2.2 c) (4 * c + 2) (d.2.2.1 (4 * c))) = w (gm d.2.2.1 (4 * c) (upO d.2.2.2 c) (upI d.2.2.2 c) (4 * c + 2) (d.2.2.1 (upO d.2.2.2 c))) := by rw [g1]
  have g2' : w (gm d.2.2.1 (4 * c) (upO d.2.2.2 c) (upI d.2.2.2 c) (4 * c + 2) (d.2.2.1 (upI d.2.2.2 c))) = w (gm d.2.2.1 (4 * c) (upO d.2.2.2 c) (upI d.2.2.2 c) (4 * c + 2) (d.2.2.1 (4 * c + 2))) := by rw [g2]
  unfold pt at hp
  by_cases q : d.2.2.2 c ≤ 0
  · rw [Pc_neg q] at hp
    exact gm_val (by omega) (by omega) _
  · rw [Pc_pos q] at hp
    exact gm_val (by omega) (by omega) _
