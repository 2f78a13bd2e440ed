theorem mk_congr {f g : Nat → Nat} {N : Nat} {v : Int} (h : ∀ x, x < N → f x = g x) (hf : ∀ x, x < N → f x < N) : ∀ k x a, x < N → mkz f v k x a = mkz g v k x a := by
  intro k
  induction k with
  | zero => intro x a _; rfl
  | succ k ih => intro x a hx; rw [mk_s, mk_s, ← h x hx, ih (f x) (up a x v) (hf x hx)]
theorem rnd_congr {f g : Nat → Nat} {N : Nat} (h : ∀ x, x < N → f x = g x) (hf : ∀ x, x < N → f x < N) : ∀ k, k ≤ N → rndz f N k = rndz g N k := by
  intro k
  induction k with
  | zero => intro _; rfl
  | succ k ih => intro hk; rw [rnd_s, rnd_s, ← ih (by omega), mk_congr h hf (N + 1) k _ (by omega)]
theorem pcF_congr {fr to fr' to' : Nat → Int} {m : Nat} (h : ∀ e, e < m → fr' e = fr e ∧ to' e = to e) : ∀ k, k ≤ m → ∀ c, pcF fr' to' k c = pcF fr to k c := by
  intro k
  induction k with
  | zero => intro _ c; rfl
  | succ k ih =>
    intro hk c
    obtain ⟨h1, h2⟩ := h k (by omega)
    rw [pcF_s, pcF_s, h1, h2, ih (by omega), ih (by omega), ih (by omega)]
section
variable {n : Nat} {sg lb nm fr to at_ nm' fr' to' at' : Nat → Int}
theorem arr_congr (h : EdgA n sg lb nm fr to at_) (h' : EdgA n sg lb nm' fr' to' at') {d : Nat} (hd : d < 4 * n) : arrz fr' to' d = arrz fr to d := by
  obtain ⟨a, b⟩ := (Edg_one h h').1 (d / 2) (by omega)
  unfold arrz
  rw [b.1, b.2]
theorem tn_congr (h : EdgA n sg lb nm fr to at_) (h' : EdgA n sg lb nm' fr' to' at') {d : Nat} (hd : d < 4 * n) : tnz fr' to' at' d = tnz fr to at_ d := by
  have one := Edg_one h h'
  have ha := (arr_ok h hd).1
  have hl := lv_ltz ha
  unfold tnz
  rw [arr_congr h h' hd]
  unfold lvd
  rw [one.2 _ hl]
  obtain ⟨e, he, a1, _⟩ := Edg_at h hl
  rw [a1, Int.toNat_natCast, (one.1 e he).2.1]
theorem nx_congr (h : EdgA n sg lb nm fr to at_) (h' : EdgA n sg lb nm' fr' to' at') {e : Nat} (he : e < 2 * n) : nx to' at' e = nx to at_ e := by
  have one := Edg_one h h'
  unfold nx
  rw [(one.1 e he).2.2]
  obtain ⟨p, q, b1, b2, b3, b4, _⟩ := Edg_fr h he
  rw [b4, Int.toNat_natCast, one.2 _ (opp_lt b2)]
theorem rt_congr (h : EdgA n sg lb nm fr to at_) (h' : EdgA n sg lb nm' fr' to' at') : rndz (tnz fr' to' at') (4 * n) (4 * n) = rndz (tnz fr to at_) (4 * n) (4 * n) :=
  rnd_congr (fun x hx => tn_congr h h' hx) (tn_closed h').1 (4 * n) (Nat.le_refl _)
theorem rn_congr (h : EdgA n sg lb nm fr to at_) (h' : EdgA n sg lb nm' fr' to' at') : rndz (nx to' at') (2 * n) (2 * n) = rndz (nx to at_) (2 * n) (2 * n) :=
  rnd_congr (fun x hx => nx_congr h h' hx) (nx_closed h').1 (2 * n) (Nat.le_refl _)
theorem pc_congr (h : EdgA n sg lb nm fr to at_) (h' : EdgA n sg lb nm' fr' to' at') (c : Nat) : pcF fr' to' (2 * n) c = pcF fr to (2 * n) c :=
  pcF_congr (fun e he => (((Edg_one h h').1 e he).2)) (2 * n) (Nat.le_refl _) c
theorem pcs_congr (h : EdgA n sg lb nm fr to at_) (h' : EdgA n sg lb nm' fr' to' at') : pcs fr' to' n (2 * n) = pcs fr to n (2 * n) :=
  cnt_congr (fun c _ => by rw [pc_congr h h'])
/-- in a diagram every label stands at two places, at one of them in -/
theorem Edg_cnt (h : EdgA n sg lb nm fr to at_) {q : Nat} (hq : q < 4 * n) : cntL n lb (lb q) = 2 ∧ insL n sg lb (lb q) = 1 := by
  obtain ⟨e, he, _, a2, _, _⟩ := Edg_at h hq
  obtain ⟨p, r, b1, b2, b3, b4, b5, b6, b7, b8, b9, b10⟩ := Edg_fr h he
  have only : ∀ x, x < 4 * n → lb x = lb q → x = p ∨ x = r := fun x hx hl => by
    cases o : outQ sg x
    · right; exact Edg_inj h hx b2 (by rw [hl, a2, b10]) (by rw [o, b6])
    · left; exact Edg_inj h hx b1 (by rw [hl, a2, b9]) (by rw [o, b5])
  have ne : p ≠ r := fun w => by rw [w, b6] at b5; cases b5
  refine ⟨cnt_two b1 b2 ne (by simp [b9, a2]) (by simp [b10, a2]) (fun x hx hl => only x hx (by simpa using hl)), cnt_one b2 (by simp [b10, a2, b6]) (fun x hx hl => ?_)⟩
  simp at hl
  rcases only x hx hl.1 with w | w
  · rw [w, b5] at hl; exact absurd hl.2 (by decide)
  · exact w
end
/-- what the class has of a diagram's shape -/
def ShC (n : Nat) (sg lb : Nat → Int) (ed cm pc fa : Int) (coA atA foA szA stA frA nmA pcA toA : Nat → Int) : Prop :=
  ed = ((2 * n : Nat) : Int) ∧ EdgA n sg lb nmA frA toA atA ∧ cm = (((rndz (nx toA atA) (2 * n) (2 * n)).2.1 : Nat) : Int) ∧ pc = ((pcs frA toA n (2 * n) : Nat) : Int) ∧ fa = (((rndz (tnz frA toA atA) (4 * n) (4 * n)).2.1 : Nat) : Int) ∧ like (2 * n) coA (rndz (nx toA atA) (2 * n) (2 * n)).1 ∧ like (4 * n) foA (rndz (tnz frA toA atA) (4 * n) (4 * n)).1 ∧ rLen (rndz (tnz frA toA atA) (4 * n) (4 * n)) szA ∧ rArr (rndz (tnz frA toA atA) (4 * n) (4 * n)) stA ∧ (∀ y, y < n → pcA y = ((pcF frA toA (2 * n) y : Nat) : Int))
theorem C_shape0 (fl : Nat) (hfl : 200 ≤ fl) {n : Nat} (hn : n ≤ 20) (sg lb : Nat → Int) (hl : ∀ q, q < 4 * n → 0 ≤ lb q ∧ lb q ≤ 9999) (ed cm pc fa br cu : Int) (coA atA foA szA stA frA ky nmA pcA sc toA : Nat → Int) :
    (∃ l ed' cm' pc' fa' a1 a2 a3 a4 a5 a6 a7 a8 a9 a10 a11, LM_Di_shape fl (n : Int) lb sg 0 ed cm pc fa br cu coA atA foA szA stA frA ky nmA pcA sc toA = some (1, ed', cm', pc', fa', 1, l, a1, a2, a3, a4, a5, a6, a7, a8, a9, a10, a11) ∧ Bad1 n lb l) ∨
    (∃ l ed' cm' pc' fa' a1 a2 a3 a4 a5 a6 a7 a8 a9 a10 a11, LM_Di_shape fl (n : Int) lb sg 0 ed cm pc fa br cu coA atA foA szA stA frA ky nmA pcA sc toA = some (1, ed', cm', pc', fa', 2, l, a1, a2, a3, a4, a5, a6, a7, a8, a9, a10, a11) ∧ Bad2 n sg lb l ∧ ∀ q, q < 4 * n → cntL n lb (lb q) = 2) ∨
    (∃ (c : Nat) (ed' cm' pc' fa' : Int) (a1 a2 a3 a4 a5 a6 a7 a8 a9 a10 a11 : Nat → Int), LM_Di_shape fl (n : Int) lb sg 0 ed cm pc fa br cu coA atA foA szA stA frA ky nmA pcA sc toA = some (1, ed', cm', pc', fa', 3, (c : Int), a1, a2, a3, a4, a5, a6, a7, a8, a9, a10, a11) ∧ ShC n sg lb ed' cm' pc' fa' a1 a2 a3 a4 a5 a6 a8 a9 a11 ∧ Bad3 a6 a11 n (rndz (tnz a6 a11 a2) (4 * n) (4 * n)) c) ∨
    (∃ (ed' cm' pc' fa' : Int) (a1 a2 a3 a4 a5 a6 a7 a8 a9 a10 a11 : Nat → Int), LM_Di_shape fl (n : Int) lb sg 0 ed cm pc fa br cu coA atA foA szA stA frA ky nmA pcA sc toA = some (1, ed', cm', pc', fa', 0, 0, a1, a2, a3, a4, a5, a6, a7, a8, a9, a10, a11) ∧ ShC n sg lb ed' cm' pc' fa' a1 a2 a3 a4 a5 a6 a8 a9 a11 ∧ All3 a6 a11 n (rndz (tnz a6 a11 a2) (4 * n) (4 * n))) := by
  unfold LM_Di_shape LB_Di_shape_0
  rw [if_neg (by decide)]
  have cl : LM_Sh_clear fl ed cm pc fa br cu = some (0, 0, 0, 0, 0, 0) := rfl
  obtain ⟨A, s1, s2⟩ := sortP fl (by omega) hn lb hl ky
  rw [cl, Option.bind_some, s1, Option.bind_some, if_pos (by omega), show (4 * (n : Int)) = ((4 * n : Nat) : Int) by omega]
  dsimp only
  rcases paired fl (by omega) hn hl s2 0 0 with ⟨p1, p2⟩ | ⟨l, p1, p2⟩
  · rw [p1, Option.bind_some]
    dsimp only
    rw [if_neg (by decide)]
    rcases dirs (sg := sg) fl (by omega) hn hl s2 p2 0 0 0 atA frA nmA toA with ⟨at', fr', nm', to', d1, d2⟩ | ⟨l, at', fr', nm', to', d1, d2⟩
    · rw [d1, Option.bind_some]
      dsimp only
      rw [if_neg (by decide)]
      obtain ⟨pA, g1, g2⟩ := C_findPieces fl hfl hn d2 0 pcA
      obtain ⟨fA, sz', st', f1, f2, f3, f4⟩ := C_findFaces fl hfl hn d2 foA szA stA
      obtain ⟨cA, c1, c2⟩ := C_findComponents fl hfl hn d2 coA
      rw [g1, Option.bind_some, f1, Option.bind_some, c1, Option.bind_some]
      dsimp only
      rcases C_checkSpheres fl hfl hn d2 pA st' sc g2 f3 0 with ⟨S, k1, k2⟩ | ⟨c, S, k1, k2⟩
      · rw [k1, Option.bind_some]
        exact Or.inr (Or.inr (Or.inr ⟨_, _, _, _, _, _, _, _, _, _, _, _, _, _, _, rfl, ⟨rfl, d2, rfl, rfl, rfl, c2, f2, f4, f3, g2⟩, k2⟩))
      · rw [k1, Option.bind_some]
        exact Or.inr (Or.inr (Or.inl ⟨c, _, _, _, _, _, _, _, _, _, _, _, _, _, _, _, rfl, ⟨rfl, d2, rfl, rfl, rfl, c2, f2, f4, f3, g2⟩, k2⟩))
    · rw [d1, Option.bind_some]
      dsimp only
      rw [if_pos rfl]
      refine Or.inr (Or.inl ⟨l, _, _, _, _, _, _, _, _, _, _, _, _, _, _, _, rfl, d2, fun q hq => ?_⟩)
      obtain ⟨i, hi, e1, e2⟩ := Srt_find hn s2 hq
      have e3 : A i / 128 = A (2 * (i / 2)) / 128 := by
        have q1 := (p2 (i / 2) (by omega)).1
        have : i = 2 * (i / 2) ∨ i = 2 * (i / 2) + 1 := by omega
        rcases this with w | w
        · rw [← w]
        · rw [q1, ← w]
      have := pairs_two hn s2 (a := 2 * n) (b := i / 2) (by omega) p2 (by omega)
      rw [← e3, e2] at this
      exact this
  · rw [p1, Option.bind_some]
    dsimp only
    rw [if_pos rfl]
    exact Or.inl ⟨l, _, _, _, _, _, _, _, _, _, _, _, _, _, _, _, rfl, p2⟩
/-- the reference's survey, in the words of any edges of the diagram -/
theorem M_survey (fl : Nat) (hfl : 200 ≤ fl) {n : Nat} (hn : n ≤ 20) {sg lb nm fr to at_ : Nat → Int} (hs : ∀ c, c < n → sg c = 1 ∨ sg c = -1) (h : EdgA n sg lb nm fr to at_) (ed cm fa pc : Int) (be co fo fi fd fw la pA pl : Nat → Int) :
    ∃ be' co' fo' fi' fd' fw' la' pA' pl', LM_Md_survey fl (n : Int) lb sg ed cm fa pc be co fo fi fd fw la pA pl = some (((2 * n : Nat) : Int), (((rndz (nx to at_) (2 * n) (2 * n)).2.1 : Nat) : Int), (((rndz (tnz fr to at_) (4 * n) (4 * n)).2.1 : Nat) : Int), ((pcs fr to n (2 * n) : Nat) : Int), be', co', fo', fi', fd', fw', la', pA', pl') ∧ EdgA n sg lb la' be' fi' pl' ∧ (∀ e, e < 2 * n → fw' e = ((nx to at_ e : Nat) : Int)) ∧ like (2 * n) co' (rndz (nx to at_) (2 * n) (2 * n)).1 ∧ like (4 * n) fo' (rndz (tnz fr to at_) (4 * n) (4 * n)).1 ∧ rArr (rndz (tnz fr to at_) (4 * n) (4 * n)) fd' ∧ (∀ y, y < n → pA' y = ((pcF fr to (2 * n) y : Nat) : Int)) := by
  unfold LM_Md_survey LB_Md_survey_0
  obtain ⟨be', fi', fw', la', pl', e1, e2, e3⟩ := M_findEdges fl (by omega) hn hs h ed be fi fw la pl
  have hfw : ∀ e, e < 2 * n → fw' e = ((nx fi' pl' e : Nat) : Int) := fun e he => by
    rw [e3 e he]; exact (nx_ok e2 he).2.1
  rw [e1, Option.bind_some]
  dsimp only
  obtain ⟨cA, fA, st, r1, r2, r3, r4⟩ := M_findRounds fl hfl hn e2 hfw cm fa co fo fd
  rw [r1, Option.bind_some]
  obtain ⟨pA', p1, p2⟩ := M_findPieces fl hfl hn e2 pc pA
  rw [p1, Option.bind_some]
  rw [rn_congr h e2] at r2
  rw [rt_congr h e2] at r3 r4
  refine ⟨be', cA, fA, fi', st, fw', la', pA', pl', ?_, e2, fun e he => ?_, r2, r3, r4, fun y hy => ?_⟩
  · dsimp only
    rw [rn_congr h e2, rt_congr h e2, pcs_congr h e2]
  · rw [hfw e he, nx_congr h e2 he]
  · rw [p2 y hy, pc_congr h e2]
