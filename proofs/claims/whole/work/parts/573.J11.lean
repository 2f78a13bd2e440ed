theorem J_relab {d e : Dg} (hn : e.1 = d.1) (hs : ∀ c, c < d.1 → e.2.2.2 c = d.2.2.2 c) (hl : ∀ p q, p < 4 * d.1 → q < 4 * d.1 → (e.2.2.1 p = e.2.2.1 q ↔ d.2.2.1 p = d.2.2.1 q)) (h : Jd d) : Jd e := by
  intro w hw
  obtain ⟨w', hw'⟩ := labfun (n := d.1) (lb := d.2.2.1) (fun q => w (e.2.2.1 q)) (fun p q hp hq x => by
    show w _ = w _
    rw [(hl p q hp hq).2 x])
  obtain ⟨L', hL'⟩ := h w' (fun c hc => (kf_map (sg := e.2.2.2) (lb := e.2.2.1) (w := w) (hs c hc).symm (fun k hk => hw' _ (by omega))).2 (hw c (by omega)))
  obtain ⟨L, hL⟩ := labfun (n := d.1) (lb := e.2.2.1) (fun q => L' (d.2.2.1 q)) (fun p q hp hq x => by
    show L' _ = L' _
    rw [(hl p q hp hq).1 x])
  refine ⟨L, fun c hc => ?_⟩
  rw [hn] at hc
  exact (pt_map (w := w') (L := L') (hs c hc) (fun k hk => ⟨(hw' _ (by omega)).symm, hL _ (by omega)⟩)).2 (hL' c hc)
theorem J_rn {d : Dg} (hJ : Jd d) {nm fr to at_ : Nat → Int} (hE : EdgA d.1 d.2.2.2 d.2.2.1 nm fr to at_) : Jd (rnD fr to at_ d) := by
  obtain ⟨N, n1, n2⟩ := Num_all hE
  have lab : ∀ q, q < 4 * d.1 → ∃ e, e < 2 * d.1 ∧ at_ q = (e : Int) ∧ (rnD fr to at_ d).2.2.1 q = N e := fun q hq => by
    obtain ⟨e, e1, e2, e3⟩ := hE.2.2 q hq
    obtain ⟨_, b2, b3, _⟩ := n1 e e1
    refine ⟨e, e1, e2, ?_⟩
    rcases e3 with e3 | e3
    · rw [e3, Int.toNat_natCast] at b2; exact b2
    · rw [e3, Int.toNat_natCast] at b3; exact b3
  refine J_relab (d := d) rfl (fun c hc => rfl) (fun p q hp hq => ?_) hJ
  obtain ⟨e, e1, e2, e3⟩ := lab p hp
  obtain ⟨f, f1, f2, f3⟩ := lab q hq
  obtain ⟨e', e1', e2', e3', _⟩ := Edg_at hE hp
  obtain ⟨f', f1', f2', f3', _⟩ := Edg_at hE hq
  have ee : e' = e := by omega
  have ff : f' = f := by omega
  subst ee ff
  rw [e3, f3, e3', f3']
  constructor
  · intro w; rw [n2 e' f' e1 f1 w]
  · intro w; rw [nm_inj hE e1 f1 w]
theorem sm_two {F G : Nat → Int} {i : Nat} (h : ∀ p, p ≠ i → p ≠ i + 1 → G p = F p) (hs : G i + G (i + 1) = F i + F (i + 1)) : (∀ p, p ≤ i → smz G p = smz F p) ∧ (∀ j, smz G (i + 2 + j) = smz F (i + 2 + j)) := by
  have a : ∀ p, p ≤ i → smz G p = smz F p := fun p hp => sm_congr (fun x hx => h x (by omega) (by omega))
  refine ⟨a, fun j => ?_⟩
  induction j with
  | zero =>
    show smz G (i + 1 + 1) = smz F (i + 1 + 1)
    rw [sm_s, sm_s, sm_s, sm_s, a i (Nat.le_refl _)]
    omega
  | succ j ih =>
    rw [show i + 2 + (j + 1) = (i + 2 + j) + 1 by omega, sm_s, sm_s, ih, h _ (by omega) (by omega)]
/-- the open braid: values by the strands to the left -/
theorem J_clT {N m : Nat} {X : Nat → Int} (h : Wrd N m X) (w : Int → Int) : ∀ k, k ≤ m → KFz (clT N X k).2 w →
    ∃ L : Int → Int, PTz (clT N X k).2 w L ∧ (∀ p, p < N → L ((p + 1 : Nat) : Int) = smz (fun r => w ((r + 1 : Nat) : Int)) (p + 1)) ∧ (∀ p, p < N → L ((clT N X k).1 p) = smz (fun r => w ((clT N X k).1 r)) (p + 1)) := by
  intro k
  induction k with
  | zero =>
    intro _ _
    obtain ⟨L, hL⟩ : ∃ L : Int → Int, ∀ p : Nat, L ((p + 1 : Nat) : Int) = smz (fun r => w ((r + 1 : Nat) : Int)) (p + 1) := ⟨fun l => smz (fun r => w ((r + 1 : Nat) : Int)) l.toNat, fun p => by
      show smz _ (Int.toNat _) = _
      rw [Int.toNat_natCast]⟩
    exact ⟨L, fun c hc => absurd hc (Nat.not_lt_zero c), fun p _ => hL p, fun p _ => hL p⟩
  | succ k ih =>
    intro hk hw
    obtain ⟨o1, o2, o3, o4, _⟩ := Opn_clT h k (by omega)
    have hx := h.2.2.2 k (by omega)
    have hi : clI X k + 1 < N := by unfold clI; omega
    rw [clT_s] at hw ⊢
    obtain ⟨T, hT⟩ : ∃ T, T = (clT N X k).1 := ⟨_, rfl⟩
    obtain ⟨D, hD⟩ : ∃ D, D = (clT N X k).2 := ⟨_, rfl⟩
    obtain ⟨i, hi'⟩ : ∃ i, i = clI X k := ⟨_, rfl⟩
    obtain ⟨a, ha⟩ : ∃ a : Int, a = ((N + 2 * k + 1 : Nat) : Int) := ⟨_, rfl⟩
    obtain ⟨b, hb⟩ : ∃ b : Int, b = ((N + 2 * k + 2 : Nat) : Int) := ⟨_, rfl⟩
    rw [← hT, ← hD] at ih
    rw [← hT] at o2
    rw [← hD] at o1 o3 o4
    rw [← hi'] at hi
    simp only [← hT, ← hD, ← hi', ← ha, ← hb] at hw ⊢
    have tb : ∀ p, p < N → T p ≠ a ∧ T p ≠ b := fun p hp => by
      rcases o2.1 p hp with e | ⟨_, e⟩
      · rw [e]; omega
      · omega
    have lb : ∀ q, q < 4 * D.1 → D.2.2.1 q ≠ a ∧ D.2.2.1 q ≠ b := fun q hq => by
      have := (o4 q (by omega)).2; omega
    have hkf : KFz D w ∧ w (T i) + w (T (i + 1)) = w a + w b := by
      by_cases c : X k ≤ 0
      · simp only [if_pos c] at hw
        have := (cr_KF (Or.inr rfl)).1 hw
        exact ⟨this.1, by omega⟩
      · simp only [if_neg c] at hw
        have := (cr_KF (Or.inl rfl)).1 hw
        exact ⟨this.1, by omega⟩
    obtain ⟨L, l1, l2, l3⟩ := ih (by omega) hkf.1
    obtain ⟨s, hs⟩ : ∃ s, s = smz (fun r => w (T r)) i := ⟨_, rfl⟩
    have hab : a ≠ b := by omega
    have v1 := vL_u a b (s + w a) (s + w a + w b) L
    have v2 := vL_v hab (s + w a) (s + w a + w b) L
    have v3 : ∀ x, x ≠ a → x ≠ b → vL a b (s + w a) (s + w a + w b) L x = L x := fun x h1 h2 => vL_o h1 h2 _ _ _
    have x1 : L (T i) = s + w (T i) := by rw [l3 i (by omega), sm_s, hs]
    have x2 : L (T (i + 1)) = s + w (T i) + w (T (i + 1)) := by rw [l3 (i + 1) (by omega), sm_s, sm_s, hs]
    have hpt : PTz D w (vL a b (s + w a) (s + w a + w b) L) := fun c hc => (pt_map (w := w) (L := L) rfl (fun j hj => ⟨rfl, v3 _ (lb _ (by omega)).1 (lb _ (by omega)).2⟩)).2 (l1 c hc)
    have t1 : ∀ p, p ≠ i → p ≠ i + 1 → up (up T i a) (i + 1) b p = T p := fun p h1 h2 => by rw [up_ne _ _ h2, up_ne _ _ h1]
    have t2 : up (up T i a) (i + 1) b i = a := by rw [up_ne _ _ (by omega), up_eq]
    have t3 : up (up T i a) (i + 1) b (i + 1) = b := up_eq _ _ _
    refine ⟨vL a b (s + w a) (s + w a + w b) L, ?_, fun p hp => ?_, fun p hp => ?_⟩
    · by_cases c : X k ≤ 0
      · simp only [if_pos c]
        refine (cr_PT (Or.inr rfl)).2 ⟨hpt, ?_⟩
        rw [Pc_neg (by decide), v1, v2, v3 _ (tb _ (by omega)).1 (tb _ (by omega)).2, v3 _ (tb _ (by omega)).1 (tb _ (by omega)).2, x1, x2]
        omega
      · simp only [if_neg c]
        refine (cr_PT (Or.inl rfl)).2 ⟨hpt, ?_⟩
        rw [Pc_pos (by decide), v1, v2, v3 _ (tb _ (by omega)).1 (tb _ (by omega)).2, v3 _ (tb _ (by omega)).1 (tb _ (by omega)).2, x1, x2]
        omega
    · rw [v3 _ (by omega) (by omega)]; exact l2 p hp
    · obtain ⟨s1, s2⟩ := sm_two (F := fun r => w (T r)) (G := fun r => w (up (up T i a) (i + 1) b r)) (i := i) (fun p h1 h2 => by show w _ = w _; rw [t1 p h1 h2]) (by show w _ + w _ = w _ + w _; rw [t2, t3]; omega)
      by_cases p1 : p < i
      · rw [t1 p (by omega) (by omega), v3 _ (tb p hp).1 (tb p hp).2, s1 (p + 1) (by omega)]; exact l3 p hp
      · by_cases p2 : p = i
        · rw [p2, t2, v1, sm_s, s1 i (Nat.le_refl _), ← hs]
          show _ = s + w _
          rw [t2]
        · by_cases p3 : p = i + 1
          · rw [p3, t3, v2, sm_s, sm_s, s1 i (Nat.le_refl _), ← hs]
            show _ = s + w _ + w _
            rw [t2, t3]
          · rw [t1 p p2 p3, v3 _ (tb p hp).1 (tb p hp).2, show p + 1 = i + 2 + (p - i - 1) by omega, s2, show i + 2 + (p - i - 1) = p + 1 by omega]; exact l3 p hp
theorem J_cl {N m : Nat} {X : Nat → Int} (h : Wrd N m X) : Jd (clD N m X) := by
  intro w hw
  obtain ⟨o1, o2, o3, o4, _⟩ := Opn_clT h m (Nat.le_refl _)
  have hm := (clT_d N X m).1
  have lo : ∀ p : Nat, p < N → sr (clT N X m).1 N ((p + 1 : Nat) : Int) = ((p + 1 : Nat) : Int) := fun p hp => sr_low o2 (by omega) N (Nat.le_refl _)
  have hi : ∀ p : Nat, p < N → sr (clT N X m).1 N ((clT N X m).1 p) = ((p + 1 : Nat) : Int) := fun p hp => sr_top o2 hp N (by omega) (Nat.le_refl _)
  obtain ⟨L, l1, l2, l3⟩ := J_clT h (fun l => w (sr (clT N X m).1 N l)) m (Nat.le_refl _) (fun c hc => hw c (by rw [hm] at hc; exact hc))
  refine ⟨L, fun c hc => ?_⟩
  have hc' : c < (clT N X m).2.1 := by rw [hm]; exact hc
  refine (pt_map (sg := (clT N X m).2.2.2.2) (lb := (clT N X m).2.2.2.1) (w := fun l => w (sr (clT N X m).1 N l)) (L := L) rfl (fun k hk => ⟨rfl, ?_⟩)).2 (l1 c hc')
  show L (sr _ N _) = L _
  obtain ⟨l, hl⟩ : ∃ l, l = (clT N X m).2.2.2.1 (4 * c + k) := ⟨_, rfl⟩
  rw [← hl]
  by_cases c1 : ∃ p, p < N ∧ (clT N X m).1 p = l
  · obtain ⟨p, hp, e⟩ := c1
    rw [← e, hi p hp, l2 p hp, l3 p hp]
    apply sm_congr
    intro r hr
    show w (sr _ N _) = w (sr _ N _)
    rw [lo r (by omega), hi r (by omega)]
  · rw [sr_no N (fun r hr e => c1 ⟨r, hr, e⟩)]
