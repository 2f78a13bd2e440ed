/-- the edge at a place is the one with its label -/
theorem Edg_at {n : Nat} {sg lb nm fr to at_ : Nat → Int} (h : EdgA n sg lb nm fr to at_) {q : Nat} (hq : q < 4 * n) : ∃ e : Nat, e < 2 * n ∧ at_ q = (e : Int) ∧ lb q = nm e ∧ (outQ sg q = true → fr e = (q : Int)) ∧ (outQ sg q = false → to e = (q : Int)) := by
  obtain ⟨e, he, h1, h2⟩ := h.2.2 q hq
  obtain ⟨p, r, a1, a2, a3, a4, a5, a6, a7, a8⟩ := h.1 e he
  refine ⟨e, he, h1, ?_, fun o => ?_, fun o => ?_⟩
  · rcases h2 with w | w
    · have : p = q := by omega
      rw [← this, a7]
    · have : r = q := by omega
      rw [← this, a8]
  · rcases h2 with w | w
    · exact w
    · have : r = q := by omega
      rw [this] at a6; rw [a6] at o; cases o
  · rcases h2 with w | w
    · have : p = q := by omega
      rw [this] at a5; rw [a5] at o; cases o
    · exact w
theorem Edg_nm {n : Nat} {sg lb nm fr to at_ : Nat → Int} (h : EdgA n sg lb nm fr to at_) {e f : Nat} (he : e < 2 * n) (hf : f < 2 * n) (hnm : nm e = nm f) : e = f := by
  rcases Nat.lt_trichotomy e f with w | w | w
  · have := h.2.1 e f w hf; omega
  · exact w
  · have := h.2.1 f e w he; omega
/-- there is just one -/
theorem Edg_one {n : Nat} {sg lb nm fr to at_ nm' fr' to' at' : Nat → Int} (h : EdgA n sg lb nm fr to at_) (h' : EdgA n sg lb nm' fr' to' at') : (∀ e, e < 2 * n → nm' e = nm e ∧ fr' e = fr e ∧ to' e = to e) ∧ (∀ q, q < 4 * n → at' q = at_ q) := by
  -- where the e-th name is among the others
  have g : ∀ e, e < 2 * n → ∃ f, f < 2 * n ∧ nm' f = nm e := fun e he => by
    obtain ⟨p, r, a1, a2, a3, a4, a5, a6, a7, a8⟩ := h.1 e he
    obtain ⟨f, hf, _, b2, _⟩ := Edg_at h' a1
    exact ⟨f, hf, by rw [← b2, a7]⟩
  have hnm : ∀ e, e < 2 * n → nm' e = nm e := by
    let F : Nat → Nat := fun e => if he : e < 2 * n then Classical.choose (g e he) else e
    have F1 : ∀ e, e < 2 * n → F e < 2 * n ∧ nm' (F e) = nm e := fun e he => by
      have : F e = Classical.choose (g e he) := dif_pos he
      rw [this]; exact Classical.choose_spec (g e he)
    have id := mono_id (f := F) (n := 2 * n) (fun e he => (F1 e he).1) (fun e he => by
      have a := F1 e (by omega)
      have b := F1 (e + 1) he
      have := h.2.1 e (e + 1) (by omega) he
      rcases Nat.lt_or_ge (F e) (F (e + 1)) with w | w
      · exact w
      · exfalso
        rcases Nat.lt_or_ge (F (e + 1)) (F e) with w2 | w2
        · have := h'.2.1 _ _ w2 a.1; omega
        · have : F e = F (e + 1) := by omega
          rw [this] at a; omega)
    intro e he
    have := (F1 e he).2
    rwa [id e he] at this
  have hat : ∀ q, q < 4 * n → at' q = at_ q := fun q hq => by
    obtain ⟨e, he, a1, a2, _⟩ := Edg_at h hq
    obtain ⟨f, hf, b1, b2, _⟩ := Edg_at h' hq
    have : nm e = nm f := by rw [← hnm f hf, ← b2, a2]
    rw [a1, b1, Edg_nm h he hf this]
  refine ⟨fun e he => ⟨hnm e he, ?_, ?_⟩, hat⟩
  · obtain ⟨p, r, a1, a2, a3, a4, a5, a6, a7, a8⟩ := h.1 e he
    obtain ⟨f, hf, b1, b2, b3, _⟩ := Edg_at h' a1
    have : nm f = nm e := by rw [← hnm f hf, ← b2, a7]
    have := Edg_nm h hf he this
    subst this
    rw [b3 a5, a3]
  · obtain ⟨p, r, a1, a2, a3, a4, a5, a6, a7, a8⟩ := h.1 e he
    obtain ⟨f, hf, b1, b2, _, b4⟩ := Edg_at h' a2
    have : nm f = nm e := by rw [← hnm f hf, ← b2, a8]
    have := Edg_nm h hf he this
    subst this
    rw [b4 a6, a4]
/-- two places with one label, bothz out or bothz in, are one -/
theorem Edg_inj {n : Nat} {sg lb nm fr to at_ : Nat → Int} (h : EdgA n sg lb nm fr to at_) {p q : Nat} (hp : p < 4 * n) (hq : q < 4 * n) (hl : lb p = lb q) (ho : outQ sg p = outQ sg q) : p = q := by
  obtain ⟨e, he, _, a2, a3, a4⟩ := Edg_at h hp
  obtain ⟨f, hf, _, b2, b3, b4⟩ := Edg_at h hq
  have := Edg_nm h he hf (by rw [← a2, ← b2, hl])
  subst this
  cases o : outQ sg p
  · have x := a4 o; have y := b4 (by rw [← ho, o]); omega
  · have x := a3 o; have y := b3 (by rw [← ho, o]); omega
/-- outs among the first places -/
def outs (sg : Nat → Int) (m : Nat) : Nat := cntP (fun q => outQ sg q) m
theorem outs4 (sg : Nat → Int) : ∀ c, outs sg (4 * c) = 2 * c := by
  intro c
  induction c with
  | zero => rfl
  | succ c ih =>
    unfold outs at *
    rw [show 4 * (c + 1) = 4 * c + 1 + 1 + 1 + 1 by omega, cnt_s, cnt_s, cnt_s, cnt_s, ih]
    have o0 : outQ sg (4 * c) = false := by unfold outQ; simp <;> omega
    have o2 : outQ sg (4 * c + 1 + 1) = true := by unfold outQ; simp <;> omega
    rw [o0, o2]
    have e1 : (4 * c + 1) / 4 = c := by omega
    have e3 : (4 * c + 1 + 1 + 1) / 4 = c := by omega
    by_cases s : 0 < sg c
    · have o1 : outQ sg (4 * c + 1) = true := by unfold outQ; rw [e1]; simp <;> omega
      have o3 : outQ sg (4 * c + 1 + 1 + 1) = false := by unfold outQ; rw [e3]; simp <;> omega
      rw [o1, o3]; simp; omega
    · have o1 : outQ sg (4 * c + 1) = false := by unfold outQ; rw [e1]; simp <;> omega
      have o3 : outQ sg (4 * c + 1 + 1 + 1) = true := by unfold outQ; rw [e3]; simp <;> omega
      rw [o1, o3]; simp; omega
theorem cnt_mono {p : Nat → Bool} {a b : Nat} (h : a ≤ b) : cntP p a ≤ cntP p b := by
  induction b with
  | zero => rw [show a = 0 by omega]; exact Nat.le_refl _
  | succ b ih =>
    by_cases c : a = b + 1
    · rw [c]; exact Nat.le_refl _
    · have := ih (by omega)
      rw [cnt_s]; omega
/-- begins and labels of the out places so far, sorted -/
def Sr2 (sg lb : Nat → Int) (m E : Nat) (be la : Nat → Int) : Prop :=
  (∀ i j, i < j → j < E → la i < la j) ∧ (∀ i, i < E → ∃ q : Nat, q < m ∧ outQ sg q = true ∧ be i = (q : Int) ∧ la i = lb q) ∧ (∀ q, q < m → outQ sg q = true → ∃ i, i < E ∧ be i = (q : Int))
theorem fe36 (fl : Nat) {n : Nat} (hn : n ≤ 20) (sg lb : Nat → Int) (kb : Int → Int → (Nat → Int) → (Nat → Int) → (Nat → Int) → (Nat → Int) → (Nat → Int) → Option (Int × (Nat → Int) × (Nat → Int) × (Nat → Int) × (Nat → Int) × (Nat → Int))) {m E : Nat} (hm : m < 4 * n) (hE : E < 48) (ho : outQ sg m = true) (fi fo pl : Nat → Int) {be0 la0 : Nat → Int} (hB : Sr2 sg lb m E be0 la0) (hne : ∀ q, q < m → outQ sg q = true → lb q ≠ lb m) :
    ∀ (i nn : Nat) (be la : Nat → Int), i ≤ E → i < nn → (∀ j, j < i → be j = be0 j ∧ la j = la0 j) → (∀ j, i ≤ j → j < E → be (j + 1) = be0 j ∧ la (j + 1) = la0 j) → (∀ j, i ≤ j → j < E → lb m < la0 j) →
    ∃ be' la', LB_Md_findEdges_36 fl (n : Int) lb sg kb nn (m : Int) (i : Int) (E : Int) be fi fo la pl = kb ((m + 1 : Nat) : Int) ((E + 1 : Nat) : Int) be' fi fo la' pl ∧ Sr2 sg lb (m + 1) (E + 1) be' la' := by
  have fin : ∀ (i : Nat) (be la : Nat → Int), i ≤ E → (∀ j, j < i → be j = be0 j ∧ la j = la0 j) → (∀ j, i ≤ j → j < E → be (j + 1) = be0 j ∧ la (j + 1) = la0 j) → (∀ j, i ≤ j → j < E → lb m < la0 j) → (∀ j, j < i → la0 j < lb m) → ∃ be' la', LB_Md_findEdges_94 fl (n : Int) lb sg kb (m : Int) (i : Int) (E : Int) be fi fo la pl = kb ((m + 1 : Nat) : Int) ((E + 1 : Nat) : Int) be' fi fo la' pl ∧ Sr2 sg lb (m + 1) (E + 1) be' la' := by
    intro i be la hi h1 h2 h3 h4
    unfold LB_Md_findEdges_94 LB_Md_findEdges_126
    rw [if_pos (by omega), if_pos (by omega), if_pos (by omega), if_pos (by omega), Int.toNat_natCast, Int.toNat_natCast, show ((m : Int) + 1) = ((m + 1 : Nat) : Int) by omega, show ((E : Int) + 1) = ((E + 1 : Nat) : Int) by omega]
    have val : ∀ j, j < E + 1 → up la i (lb m) j = (if j < i then la0 j else if j = i then lb m else la0 (j - 1)) ∧ up be i (m : Int) j = (if j < i then be0 j else if j = i then (m : Int) else be0 (j - 1)) := by
      intro j hj
      by_cases c1 : j < i
      · rw [if_pos c1, if_pos c1, up_ne _ _ (by omega), up_ne _ _ (by omega)]; exact ⟨(h1 j c1).2, (h1 j c1).1⟩
      · rw [if_neg c1, if_neg c1]
        by_cases c2 : j = i
        · rw [if_pos c2, if_pos c2, c2, up_eq, up_eq]; exact ⟨rfl, rfl⟩
        · rw [if_neg c2, if_neg c2, up_ne _ _ c2, up_ne _ _ c2]
          have := h2 (j - 1) (by omega) (by omega)
          rw [show j - 1 + 1 = j by omega] at this
          exact ⟨this.2, this.1⟩
    refine ⟨_, _, rfl, ?_, ?_, ?_⟩
    · intro a b hab hb
      rw [(val a (by omega)).1, (val b hb).1]
      by_cases a1 : a < i
      · rw [if_pos a1]
        by_cases b1 : b < i
        · rw [if_pos b1]; exact hB.1 a b hab (by omega)
        · rw [if_neg b1]
          by_cases b2 : b = i
          · rw [if_pos b2]; exact h4 a a1
          · rw [if_neg b2]; have := h4 a a1; have := h3 (b - 1) (by omega) (by omega); omega
      · rw [if_neg a1, if_neg (by omega : ¬ b < i), if_neg (by omega : ¬ b = i)]
        by_cases a2 : a = i
        · rw [if_pos a2]; exact h3 (b - 1) (by omega) (by omega)
        · rw [if_neg a2]; exact hB.1 (a - 1) (b - 1) (by omega) (by omega)
    · intro j hj
      obtain ⟨v1, v2⟩ := val j hj
      rw [v1, v2]
      by_cases c1 : j < i
      · obtain ⟨q, q1, q2, q3, q4⟩ := hB.2.1 j (by omega)
        rw [if_pos c1, if_pos c1]
        exact ⟨q, by omega, q2, q3, q4⟩
      · rw [if_neg c1, if_neg c1]
        by_cases c2 : j = i
        · rw [if_pos c2, if_pos c2]
          exact ⟨m, by omega, ho, rfl, rfl⟩
        · rw [if_neg c2, if_neg c2]
          obtain ⟨q, q1, q2, q3, q4⟩ := hB.2.1 (j - 1) (by omega)
          exact ⟨q, by omega, q2, q3, q4⟩
    · intro q hq oq
      by_cases c2 : q = m
      · refine ⟨i, by omega, ?_⟩
        rw [(val i (by omega)).2, if_neg (by omega), if_pos rfl, c2]
      · obtain ⟨j, hj, e⟩ := hB.2.2 q (by omega) oq
        by_cases c1 : j < i
        · exact ⟨j, by omega, by rw [(val j (by omega)).2, if_pos c1, e]⟩
        · exact ⟨j + 1, by omega, by rw [(val (j + 1) (by omega)).2, if_neg (by omega), if_neg (by omega), show j + 1 - 1 = j by omega, e]⟩
  intro i
  induction i with
  | zero =>
    intro nn be la hi hnn h1 h2 h3
    obtain ⟨nn, rfl⟩ : ∃ r, nn = r + 1 := ⟨nn - 1, by omega⟩
    rw [LB_Md_findEdges_36, if_pos (by omega)]
    exact fin 0 be la hi h1 h2 h3 (fun j hj => by omega)
  | succ i ih =>
    intro nn be la hi hnn h1 h2 h3
    obtain ⟨nn, rfl⟩ : ∃ r, nn = r + 1 := ⟨nn - 1, by omega⟩
    have e : Int.toNat (((i + 1 : Nat) : Int) - 1) = i := by omega
    rw [LB_Md_findEdges_36, if_neg (by omega), if_pos (by omega), if_pos (by omega), e, Int.toNat_natCast, (h1 i (by omega)).2]
    by_cases cc : la0 i ≤ lb m
    · rw [if_pos cc]
      have hlt : la0 i < lb m := by
        obtain ⟨q, q1, q2, q3, q4⟩ := hB.2.1 i (by omega)
        have := hne q q1 q2
        omega
      refine fin (i + 1) be la hi h1 h2 h3 (fun j hj => ?_)
      by_cases w : j = i
      · rw [w]; exact hlt
      · have := hB.1 j i (by omega) (by omega); omega
    · rw [if_neg cc, if_pos (by omega), if_pos (by omega), Int.toNat_natCast, (h1 i (by omega)).1, show (((i + 1 : Nat) : Int) + -1) = (i : Int) by omega]
      refine ih nn _ _ (by omega) (by omega) ?_ ?_ ?_
      · intro j hj; rw [up_ne _ _ (by omega), up_ne _ _ (by omega)]; exact h1 j (by omega)
      · intro j j1 j2
        by_cases w : j = i
        · rw [w, up_eq, up_eq]; exact ⟨rfl, rfl⟩
        · rw [up_ne _ _ (by omega), up_ne _ _ (by omega)]; exact h2 j (by omega) j2
      · intro j j1 j2
        by_cases w : j = i
        · rw [w]; omega
        · exact h3 j (by omega) j2
theorem fe7 (fl : Nat) (hfl : 100 ≤ fl) {n : Nat} (hn : n ≤ 20) {sg lb nm fr to at_ : Nat → Int} (hs : ∀ c, c < n → sg c = 1 ∨ sg c = -1) (hE : EdgA n sg lb nm fr to at_) (fi fo pl : Nat → Int) :
    ∀ (d nn m : Nat) (be la : Nat → Int), m + d = 4 * n → d < nn → Sr2 sg lb m (outs sg m) be la →
    ∃ be' la', LB_Md_findEdges_7 fl (n : Int) lb sg nn (m : Int) ((outs sg m : Nat) : Int) be fi fo la pl = LB_Md_findEdges_134 fl (n : Int) lb sg fl 0 ((2 * n : Nat) : Int) be' fi fo la' pl ∧ Sr2 sg lb (4 * n) (2 * n) be' la' := by
  intro d
  induction d with
  | zero =>
    intro nn m be la hd hnn h
    obtain ⟨nn, rfl⟩ : ∃ r, nn = r + 1 := ⟨nn - 1, by omega⟩
    have e : outs sg m = 2 * n := by rw [show m = 4 * n by omega]; exact outs4 sg n
    rw [LB_Md_findEdges_7, if_pos (by omega), if_pos (by omega), e]
    rw [e, show m = 4 * n by omega] at h
    exact ⟨be, la, rfl, h⟩
  | succ d ih =>
    intro nn m be la hd hnn h
    obtain ⟨nn, rfl⟩ : ∃ r, nn = r + 1 := ⟨nn - 1, by omega⟩
    have hle : outs sg m ≤ 2 * n := by rw [← outs4 sg n]; exact cnt_mono (by omega)
    rw [LB_Md_findEdges_7, if_pos (by omega), if_neg (by omega), M_isIn fl hn sg hs (show m < 4 * n by omega), Option.bind_some]
    have es : outs sg (m + 1) = outs sg m + (if outQ sg m then 1 else 0) := rfl
    cases o : outQ sg m
    · rw [if_neg (by decide)]
      unfold LB_Md_findEdges_126
      rw [o] at es
      rw [if_pos (by omega), show ((m : Int) + 1) = ((m + 1 : Nat) : Int) by omega]
      have := ih nn (m + 1) be la (by omega) (by omega) (by
        rw [es]
        refine ⟨h.1, fun i hi => ?_, fun q hq oq => ?_⟩
        · obtain ⟨q, q1, q2⟩ := h.2.1 i hi
          exact ⟨q, by omega, q2⟩
        · by_cases w : q = m
          · rw [w, o] at oq; cases oq
          · exact h.2.2 q (by omega) oq)
      rw [es] at this
      exact this
    · rw [if_pos rfl, if_pos rfl]
      rw [o] at es
      obtain ⟨be1, la1, h1, h2⟩ := fe36 fl hn sg lb (LB_Md_findEdges_7 fl (n : Int) lb sg nn) (show m < 4 * n by omega) (show outs sg m < 48 by omega) o fi fo pl h (fun q hq oq w => by
        have := Edg_inj hE (show q < 4 * n by omega) (show m < 4 * n by omega) w (by rw [oq, o]); omega) (outs sg m) fl be la (Nat.le_refl _) (by omega) (fun j _ => ⟨rfl, rfl⟩) (fun j j1 j2 => by omega) (fun j j1 j2 => by omega)
      rw [h1]
      have := ih nn (m + 1) be1 la1 (by omega) (by omega) (by rw [es]; exact h2)
      rw [es] at this
      exact this
theorem fd4 (fl : Nat) {N : Nat} (hN : N ≤ 48) (la : Nat → Int) (l : Int) {e : Nat} (he : e < N) (hle : la e = l) (hu : ∀ f, f < N → la f = l → f = e) :
    ∀ (d nn f : Nat) (x2 : Int), f + d = N → d < nn → (x2 = if e < f then (e : Int) else -1) → LB_Md_find_4 fl (N : Int) la nn l x2 (f : Int) = some (e : Int) := by
  intro d
  induction d with
  | zero =>
    intro nn f x2 hd hnn hx
    obtain ⟨nn, rfl⟩ : ∃ r, nn = r + 1 := ⟨nn - 1, by omega⟩
    rw [LB_Md_find_4, if_pos (by omega), hx, if_pos (by omega)]
  | succ d ih =>
    intro nn f x2 hd hnn hx
    obtain ⟨nn, rfl⟩ : ∃ r, nn = r + 1 := ⟨nn - 1, by omega⟩
    rw [LB_Md_find_4, if_neg (by omega), if_pos (by omega), Int.toNat_natCast]
    unfold LB_Md_find_27
    by_cases c : la f = l
    · have := hu f (by omega) c
      rw [if_neg (fun w => w c), if_pos (by omega), show ((f : Int) + 1) = ((f + 1 : Nat) : Int) by omega]
      exact ih nn (f + 1) _ (by omega) (by omega) (by rw [if_pos (by omega), this])
    · have : f ≠ e := fun w => c (by rw [w]; exact hle)
      rw [if_pos c, if_pos (by omega), show ((f : Int) + 1) = ((f + 1 : Nat) : Int) by omega]
      exact ih nn (f + 1) _ (by omega) (by omega) (by rw [hx]; split <;> split <;> omega)
theorem fd_none (fl : Nat) {N : Nat} (hN : N ≤ 48) (la : Nat → Int) (l : Int) (hu : ∀ f, f < N → la f ≠ l) :
    ∀ (d nn f : Nat), f + d = N → d < nn → LB_Md_find_4 fl (N : Int) la nn l (-1) (f : Int) = some (-1) := by
  intro d
  induction d with
  | zero =>
    intro nn f hd hnn
    obtain ⟨nn, rfl⟩ : ∃ r, nn = r + 1 := ⟨nn - 1, by omega⟩
    rw [LB_Md_find_4, if_pos (by omega)]
  | succ d ih =>
    intro nn f hd hnn
    obtain ⟨nn, rfl⟩ : ∃ r, nn = r + 1 := ⟨nn - 1, by omega⟩
    rw [LB_Md_find_4, if_neg (by omega), if_pos (by omega), Int.toNat_natCast]
    unfold LB_Md_find_27
    rw [if_pos (hu f (by omega)), if_pos (by omega), show ((f : Int) + 1) = ((f + 1 : Nat) : Int) by omega]
    exact ih nn (f + 1) (by omega) (by omega)
theorem M_find (fl : Nat) (hfl : 100 ≤ fl) {N : Nat} (hN : N ≤ 48) (la : Nat → Int) (l : Int) {e : Nat} (he : e < N) (hle : la e = l) (hu : ∀ f, f < N → la f = l → f = e) : LM_Md_find fl (N : Int) la l = some (e : Int) := by
  unfold LM_Md_find LB_Md_find_0
  exact fd4 fl hN la l he hle hu N fl 0 (-1) (by omega) (by omega) (by rw [if_neg (by omega)])
theorem M_find0 (fl : Nat) (hfl : 100 ≤ fl) {N : Nat} (hN : N ≤ 48) (la : Nat → Int) (l : Int) (hu : ∀ f, f < N → la f ≠ l) : LM_Md_find fl (N : Int) la l = some (-1) := by
  unfold LM_Md_find LB_Md_find_0
  exact fd_none fl hN la l hu N fl 0 (by omega) (by omega)
