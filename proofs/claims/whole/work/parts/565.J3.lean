theorem cr_KF {d : Dg} {s : Int} (hs : s = 1 ∨ s = -1) {li lo ui uo : Int} {w : Int → Int} : KFz (crD s li lo ui uo d) w ↔ KFz d w ∧ w li + w ui = w lo + w uo := by
  obtain ⟨a, b, c, e, f⟩ := crL4_v d.1 s li lo ui uo d.2.2.1
  have old : ∀ k, k < d.1 → (kf (crD s li lo ui uo d).2.2.2 (crD s li lo ui uo d).2.2.1 w k ↔ kf d.2.2.2 d.2.2.1 w k) := fun k hk => kf_congr (show up d.2.2.2 d.1 s k = _ from up_ne _ _ (by omega)) (fun j hj => f _ (by omega))
  have new : kf (crD s li lo ui uo d).2.2.2 (crD s li lo ui uo d).2.2.1 w d.1 ↔ w li + w ui = w lo + w uo := by
    have us : (crD s li lo ui uo d).2.2.2 d.1 = s := up_eq _ _ _
    unfold kf upI upO
    rw [us]
    show w (crL4 d.1 s li lo ui uo d.2.2.1 (4 * d.1)) + w (crL4 d.1 s li lo ui uo d.2.2.1 _) = w (crL4 d.1 s li lo ui uo d.2.2.1 _) + w (crL4 d.1 s li lo ui uo d.2.2.1 _) ↔ _
    rw [a, b, c, e]
  constructor
  · intro h
    exact ⟨fun k hk => (old k hk).1 (h k (show k < d.1 + 1 by omega)), new.1 (h d.1 (show d.1 < d.1 + 1 by omega))⟩
  · intro h k hk
    have hk' : k < d.1 + 1 := hk
    by_cases q : k = d.1
    · subst q; exact new.2 h.2
    · exact (old k (by omega)).2 (h.1 k (by omega))
theorem cr_PT {d : Dg} {s : Int} (hs : s = 1 ∨ s = -1) {li lo ui uo : Int} {w L : Int → Int} : PTz (crD s li lo ui uo d) w L ↔ PTz d w L ∧ Pc4 s w L li lo ui uo := by
  obtain ⟨a, b, c, e, f⟩ := crL4_v d.1 s li lo ui uo d.2.2.1
  have old : ∀ k, k < d.1 → (pt (crD s li lo ui uo d).2.2.2 (crD s li lo ui uo d).2.2.1 w L k ↔ pt d.2.2.2 d.2.2.1 w L k) := fun k hk => pt_congr (show up d.2.2.2 d.1 s k = _ from up_ne _ _ (by omega)) (fun j hj => f _ (by omega))
  have new : pt (crD s li lo ui uo d).2.2.2 (crD s li lo ui uo d).2.2.1 w L d.1 ↔ Pc4 s w L li lo ui uo := by
    have us : (crD s li lo ui uo d).2.2.2 d.1 = s := up_eq _ _ _
    unfold pt upI upO
    rw [us]
    show Pc4 s w L (crL4 d.1 s li lo ui uo d.2.2.1 (4 * d.1)) (crL4 d.1 s li lo ui uo d.2.2.1 _) (crL4 d.1 s li lo ui uo d.2.2.1 _) (crL4 d.1 s li lo ui uo d.2.2.1 _) ↔ _
    rw [a, b, c, e]
  constructor
  · intro h
    exact ⟨fun k hk => (old k hk).1 (h k (show k < d.1 + 1 by omega)), new.1 (h d.1 (show d.1 < d.1 + 1 by omega))⟩
  · intro h k hk
    have hk' : k < d.1 + 1 := hk
    by_cases q : k = d.1
    · subst q; exact new.2 h.2
    · exact (old k (by omega)).2 (h.1 k (by omega))
/-- an edge's head gets another name of the same weight and value -/
theorem st_KF {d : Dg} {t : Nat} {v : Int} {w : Int → Int} (h : w v = w (d.2.2.1 t)) : KFz (stDz t v d) w ↔ KFz d w := by
  have e : ∀ q, w ((stDz t v d).2.2.1 q) = w (d.2.2.1 q) := fun q => by
    show w (up d.2.2.1 t v q) = _
    by_cases c : q = t
    · rw [c, up_eq, h]
    · rw [up_ne _ _ c]
  constructor
  · exact fun hk c hc => (kf_map (sg' := d.2.2.2) (sg := (stDz t v d).2.2.2) (lb := (stDz t v d).2.2.1) rfl (fun k hk => (e _).symm)).2 (hk c hc)
  · exact fun hk c hc => (kf_map (sg' := (stDz t v d).2.2.2) (sg := d.2.2.2) (lb' := (stDz t v d).2.2.1) rfl (fun k hk => e _)).2 (hk c hc)
theorem st_PT {d : Dg} {t : Nat} {v : Int} {w L M : Int → Int} (h : w v = w (d.2.2.1 t)) (hv : M v = L (d.2.2.1 t)) (hM : ∀ q, q < 4 * d.1 → q ≠ t → M (d.2.2.1 q) = L (d.2.2.1 q)) (hp : PTz d w L) : PTz (stDz t v d) w M := by
  intro c hc
  have hc' : c < d.1 := hc
  refine (pt_map (sg' := (stDz t v d).2.2.2) (sg := d.2.2.2) (lb' := (stDz t v d).2.2.1) rfl (fun k hk => ?_)).2 (hp c hc)
  show w (up d.2.2.1 t v _) = _ ∧ M (up d.2.2.1 t v _) = _
  by_cases q : 4 * c + k = t
  · rw [q, up_eq]; exact ⟨h, hv⟩
  · rw [up_ne _ _ q]; exact ⟨rfl, hM _ (by omega) q⟩
def vL (u v a b : Int) (L : Int → Int) : Int → Int := fun x => if x = u then a else if x = v then b else L x
theorem vL_u (u v a b : Int) (L : Int → Int) : vL u v a b L u = a := if_pos rfl
theorem vL_v {u v : Int} (h : u ≠ v) (a b : Int) (L : Int → Int) : vL u v a b L v = b := by unfold vL; rw [if_neg (fun e => h e.symm), if_pos rfl]
theorem vL_o {u v x : Int} (h : x ≠ u) (h2 : x ≠ v) (a b : Int) (L : Int → Int) : vL u v a b L x = L x := by unfold vL; rw [if_neg h, if_neg h2]
theorem J_tw {d : Dg} (h : Jd d) {s ov u v : Int} (hs : s = 1 ∨ s = -1) {t : Nat} (ht : t < 4 * d.1) (hu : ¬ usedL d.1 d.2.2.1 u) (hv : ¬ usedL d.1 d.2.2.1 v) (huv : u ≠ v) : Jd (twX s ov (d.2.2.1 t) u v (stDz t v d)) := by
  intro w hw
  have nu : ∀ q, q < 4 * d.1 → d.2.2.1 q ≠ u ∧ d.2.2.1 q ≠ v := fun q hq => ⟨fun e => hu ⟨q, hq, e⟩, fun e => hv ⟨q, hq, e⟩⟩
  obtain ⟨n1, n2⟩ := nu t ht
  have main : KFz (stDz t v d) w → w v = w (d.2.2.1 t) → ∃ L, ∀ a, PTz (stDz t v d) w (vL u v a (L (d.2.2.1 t)) L) := fun hk hvt => by
    obtain ⟨L, hL⟩ := h w ((st_KF hvt).1 hk)
    exact ⟨L, fun a => st_PT hvt (vL_v huv _ _ _) (fun q hq _ => vL_o (nu q hq).1 (nu q hq).2 _ _ _) hL⟩
  unfold twX at hw ⊢
  by_cases c : ov = 0
  · rw [if_pos c] at hw ⊢
    obtain ⟨k1, k2⟩ := (cr_KF hs).1 hw
    obtain ⟨L, hL⟩ := main k1 (by omega)
    rcases hs with hs | hs
    · refine ⟨_, (cr_PT (Or.inl hs)).2 ⟨hL (L (d.2.2.1 t) + w u), ?_⟩⟩
      rw [Pc_pos (by omega), vL_u, vL_v huv, vL_o n1 n2]
      omega
    · refine ⟨_, (cr_PT (Or.inr hs)).2 ⟨hL (L (d.2.2.1 t) - w v), ?_⟩⟩
      rw [Pc_neg (by omega), vL_u, vL_v huv, vL_o n1 n2]
      omega
  · rw [if_neg c] at hw ⊢
    obtain ⟨k1, k2⟩ := (cr_KF hs).1 hw
    obtain ⟨L, hL⟩ := main k1 (by omega)
    rcases hs with hs | hs
    · refine ⟨_, (cr_PT (Or.inl hs)).2 ⟨hL (L (d.2.2.1 t) - w v), ?_⟩⟩
      rw [Pc_pos (by omega), vL_u, vL_v huv, vL_o n1 n2]
      omega
    · refine ⟨_, (cr_PT (Or.inr hs)).2 ⟨hL (L (d.2.2.1 t) + w u), ?_⟩⟩
      rw [Pc_neg (by omega), vL_u, vL_v huv, vL_o n1 n2]
      omega
theorem J_tw0 {d : Dg} (h : Jd d) {s ov u v c : Int} (hs : s = 1 ∨ s = -1) (hu : ¬ usedL d.1 d.2.2.1 u) (hv : ¬ usedL d.1 d.2.2.1 v) (huv : u ≠ v) : Jd (twX s ov v u v (ciD c d)) := by
  intro w hw
  have nu : ∀ q, q < 4 * d.1 → d.2.2.1 q ≠ u ∧ d.2.2.1 q ≠ v := fun q hq => ⟨fun e => hu ⟨q, hq, e⟩, fun e => hv ⟨q, hq, e⟩⟩
  have main : KFz (ciD c d) w → ∃ L, ∀ a, PTz (ciD c d) w (vL u v a 0 L) := fun hk => by
    obtain ⟨L, hL⟩ := h w hk
    refine ⟨L, fun a k hk => ?_⟩
    have hk' : k < d.1 := hk
    exact (pt_map (sg' := (ciD c d).2.2.2) (sg := d.2.2.2) (lb' := (ciD c d).2.2.1) (lb := d.2.2.1) rfl (fun j hj => ⟨rfl, vL_o (nu _ (by omega)).1 (nu _ (by omega)).2 _ _ _⟩)).2 (hL k hk)
  unfold twX at hw ⊢
  by_cases c : ov = 0
  · rw [if_pos c] at hw ⊢
    obtain ⟨k1, k2⟩ := (cr_KF hs).1 hw
    obtain ⟨L, hL⟩ := main k1
    rcases hs with hs | hs
    · refine ⟨_, (cr_PT (Or.inl hs)).2 ⟨hL (w u), ?_⟩⟩
      rw [Pc_pos (by omega), vL_u, vL_v huv]
      omega
    · refine ⟨_, (cr_PT (Or.inr hs)).2 ⟨hL (- w v), ?_⟩⟩
      rw [Pc_neg (by omega), vL_u, vL_v huv]
      omega
  · rw [if_neg c] at hw ⊢
    obtain ⟨k1, k2⟩ := (cr_KF hs).1 hw
    obtain ⟨L, hL⟩ := main k1
    rcases hs with hs | hs
    · refine ⟨_, (cr_PT (Or.inl hs)).2 ⟨hL (- w v), ?_⟩⟩
      rw [Pc_pos (by omega), vL_u, vL_v huv]
      omega
    · refine ⟨_, (cr_PT (Or.inr hs)).2 ⟨hL (w u), ?_⟩⟩
      rw [Pc_neg (by omega), vL_u, vL_v huv]
      omega
theorem J_twS {d : Dg} (h : Jd d) {l s ov u v : Int} (hs : s = 1 ∨ s = -1) {t : Option Nat} (ht : atL d l t) (hu : IsFree d.1 d.2.2.1 0 u) (hv : IsFree d.1 d.2.2.1 u v) : Jd (twS l s ov u v t d).2 := by
  have b2 := hv.1
  unfold twS
  by_cases c : d.1 = 20
  · rw [if_pos c]; exact h
  · rw [if_neg c]
    by_cases c2 : l = 0
    · rw [if_pos c2]
      by_cases c3 : d.2.1 = 0
      · rw [if_pos c3]; exact h
      · rw [if_neg c3]; exact J_tw0 h hs hu.2.1 hv.2.1 (by omega)
    · rw [if_neg c2]
      cases t with
      | none => exact h
      | some t =>
        show Jd (twX s ov l u v (stDz t v d))
        rw [← ht.2.2]
        exact J_tw h hs ht.1 hu.2.1 hv.2.1 (by omega)
