section
variable {n : Nat} {sg lb nm fr to at_ : Nat → Int}
/-- the face of a dart -/
def fcN (n : Nat) (fr to at_ : Nat → Int) (g : Nat) : Nat := ((rndz (tnz fr to at_) (4 * n) (4 * n)).1 g).toNat
theorem fc_tn (h : EdgA n sg lb nm fr to at_) {g : Nat} (hg : g < 4 * n) : fcN n fr to at_ (tnz fr to at_ g) = fcN n fr to at_ g := by
  unfold fcN; rw [(rnd_ok (tn_closed h) (4 * n) (Nat.le_refl _)).1 g hg]
theorem fc_lt (h : EdgA n sg lb nm fr to at_) {g : Nat} (hg : g < 4 * n) : fcN n fr to at_ g < (rndz (tnz fr to at_) (4 * n) (4 * n)).2.1 := by
  have a := (rnd_ok (tn_closed h) (4 * n) (Nat.le_refl _)).2.1 g hg
  have b := (rnd_ok (tn_closed h) (4 * n) (Nat.le_refl _)).2.2.1 g hg
  unfold fcN; omega
theorem fc_st (h : EdgA n sg lb nm fr to at_) {f : Nat} (hf : f < (rndz (tnz fr to at_) (4 * n) (4 * n)).2.1) : fcN n fr to at_ ((rndz (tnz fr to at_) (4 * n) (4 * n)).2.2.1 f) = f := by
  have a := ((rnd_ok (tn_closed h) (4 * n) (Nat.le_refl _)).2.2.2.2.1 f hf).2.1
  unfold fcN; rw [a, Int.toNat_natCast]
/-- faces at the two sides of a place -/
theorem fc_pl (h : EdgA n sg lb nm fr to at_) {q : Nat} (hq : q < 4 * n) : ∃ e, e < 2 * n ∧ at_ q = (e : Int) ∧
    ((outQ sg q = true ∧ fcN n fr to at_ (lvd fr at_ q) = fcN n fr to at_ (2 * e) ∧ fcN n fr to at_ (lvd fr at_ (lv q)) = fcN n fr to at_ (2 * e + 1)) ∨
     (outQ sg q = false ∧ fcN n fr to at_ (lvd fr at_ q) = fcN n fr to at_ (2 * e + 1) ∧ fcN n fr to at_ (lvd fr at_ (lv q)) = fcN n fr to at_ (2 * e))) := by
  obtain ⟨e, e1, e2, e3, e4, e5⟩ := Edg_at h hq
  obtain ⟨p, r, b1, b2, b3, b4, b5, b6, b7, b8, b9, b10⟩ := Edg_fr h e1
  refine ⟨e, e1, e2, ?_⟩
  cases o : outQ sg q
  · right
    have := e5 o
    have t := fc_tn h (g := 2 * e) (by omega)
    unfold tnz at t
    have ar : arrz fr to (2 * e) = q := by unfold arrz; rw [if_pos (by omega), show 2 * e / 2 = e by omega, this, Int.toNat_natCast]
    rw [ar] at t
    refine ⟨rfl, ?_, t⟩
    have : lvd fr at_ q = 2 * e + 1 := by
      unfold lvd; rw [e2, Int.toNat_natCast, if_neg]
      intro w
      have : p = q := by omega
      rw [this] at b5; rw [b5] at o; cases o
    rw [this]
  · left
    have := e4 o
    have t := fc_tn h (g := 2 * e + 1) (by omega)
    unfold tnz at t
    have ar : arrz fr to (2 * e + 1) = q := by unfold arrz; rw [if_neg (by omega), show (2 * e + 1) / 2 = e by omega, this, Int.toNat_natCast]
    rw [ar] at t
    refine ⟨rfl, ?_, t⟩
    have : lvd fr at_ q = 2 * e := by
      unfold lvd; rw [e2, Int.toNat_natCast, if_pos this]
    rw [this]
/-- values of faces make a flow -/
theorem fc_VR (h : EdgA n sg lb nm fr to at_) (I : Nat → Int) : VR n sg (fun q => I (fcN n fr to at_ (2 * (at_ q).toNat)) - I (fcN n fr to at_ (2 * (at_ q).toNat + 1))) (fun q => I (fcN n fr to at_ (lvd fr at_ q))) := fun r hr => by
  obtain ⟨e, e1, e2, e3⟩ := fc_pl h hr
  rcases e3 with ⟨o, x, y⟩ | ⟨o, x, y⟩
  · rw [fo_out o]
    show I _ - I _ = I _ - I _
    rw [x, y, e2, Int.toNat_natCast]
  · rw [fo_in o]
    show I _ - I _ = -(I _ - I _)
    rw [x, y, e2, Int.toNat_natCast]; omega
theorem VR_KP {om P : Nat → Int} (h : VR n sg om P) : KP n sg om := fun c hc => by
  obtain ⟨l0, l1, l2, l3⟩ := lv_4 c
  have a := h (4 * c) (by omega)
  have b := h (4 * c + 1) (by omega)
  have e := h (4 * c + 2) (by omega)
  have f := h (4 * c + 3) (by omega)
  rw [l0] at a; rw [l1] at b; rw [l2] at e; rw [l3] at f
  omega
theorem fo_cg {sg om om' : Nat → Int} {q : Nat} (h : om q = om' q) : fo_ sg om q = fo_ sg om' q := by unfold fo_; rw [h]
theorem KP_sub {om om' : Nat → Int} (h : KP n sg om) (h' : KP n sg om') : KP n sg (fun q => om q - om' q) := fun c hc => by
  have a := h c hc
  have b := h' c hc
  have e : ∀ q, fo_ sg (fun q => om q - om' q) q = fo_ sg om q - fo_ sg om' q := fun q => by
    cases o : outQ sg q
    · rw [fo_in o, fo_in o, fo_in o]; show -(om q - om' q) = -(om q) - -(om' q); omega
    · rw [fo_out o, fo_out o, fo_out o]
  rw [e, e, e, e]; omega
/-- pieces on spheres: every flow comes from values of the faces -/
theorem euler (h : EdgA n sg lb nm fr to at_) (h3 : All3 fr to n (rndz (tnz fr to at_) (4 * n) (4 * n))) : Jp n sg fr to at_ := by
  intro om hk hm
  obtain ⟨F, hF⟩ : ∃ F, F = (rndz (tnz fr to at_) (4 * n) (4 * n)).2.1 := ⟨_, rfl⟩
  obtain ⟨fc, hfc⟩ : ∃ fc, fc = fcN n fr to at_ := ⟨_, rfl⟩
  obtain ⟨st, hst⟩ : ∃ st, st = (rndz (tnz fr to at_) (4 * n) (4 * n)).2.2.1 := ⟨_, rfl⟩
  have pl := @fc_pl n sg lb nm fr to at_ h
  have ft := @fc_tn n sg lb nm fr to at_ h
  have flt := @fc_lt n sg lb nm fr to at_ h
  have fst := @fc_st n sg lb nm fr to at_ h
  have slt := @st_lt n sg lb nm fr to at_ h
  have vr := @fc_VR n sg lb nm fr to at_ h
  rw [← hfc] at pl ft flt fst vr
  rw [← hst] at fst slt
  rw [← hF] at flt fst slt
  obtain ⟨a, ha⟩ : ∃ a : Nat → Nat, a = fun e => fc (2 * e) := ⟨_, rfl⟩
  obtain ⟨b, hb⟩ : ∃ b : Nat → Nat, b = fun e => fc (2 * e + 1) := ⟨_, rfl⟩
  have ha' : ∀ e, a e = fc (2 * e) := fun e => by rw [ha]
  have hb' : ∀ e, b e = fc (2 * e + 1) := fun e => by rw [hb]
  obtain ⟨u, hu⟩ : ∃ u : Nat → Nat, u = ufS a b (cotr fr to) (2 * n) := ⟨_, rfl⟩
  -- crossing any edge stays in one class
  have s1 : ∀ e, e < 2 * n → u (a e) = u (b e) := fun e he => by
    have vk := VR_KP (vr (fun f => if u f = u (a e) then 1 else 0))
    have z := treeflow h (x := fun e' => (if u (fc (2 * e')) = u (a e) then 1 else 0) - (if u (fc (2 * e' + 1)) = u (a e) then 1 else 0)) vk (fun e' he' ct => by
      have : u (a e') = u (b e') := by rw [hu]; exact uf_adj (2 * n) e' he' ct
      show (if u (fc (2 * e')) = u (a e) then (1 : Int) else 0) - (if u (fc (2 * e' + 1)) = u (a e) then 1 else 0) = 0
      rw [← ha', ← hb', this]; omega) e he
    have z : (if u (fc (2 * e)) = u (a e) then (1 : Int) else 0) - (if u (fc (2 * e + 1)) = u (a e) then 1 else 0) = 0 := z
    rw [← ha', ← hb', if_pos rfl] at z
    by_cases c : u (b e) = u (a e)
    · exact c.symm
    · rw [if_neg c] at z; omega
  have s2 : ∀ q, q < 4 * n → u (fc (lvd fr at_ q)) = u (fc (lvd fr at_ (lv q))) := fun q hq => by
    obtain ⟨e, e1, e2, e3⟩ := pl hq
    have := s1 e e1
    rw [ha', hb'] at this
    rcases e3 with ⟨_, x, y⟩ | ⟨_, x, y⟩ <;> rw [x, y, this]
  have s3 : ∀ q, q < 4 * n → u (fc (lvd fr at_ q)) = u (fc (lvd fr at_ (4 * (q / 4)))) := fun q hq => by
    obtain ⟨l0, l1, l2, l3⟩ := lv_4 (q / 4)
    have x1 := s2 (4 * (q / 4) + 1) (by omega)
    have x2 := s2 (4 * (q / 4) + 2) (by omega)
    have x3 := s2 (4 * (q / 4) + 3) (by omega)
    rw [l1] at x1; rw [l2] at x2; rw [l3] at x3
    have : q = 4 * (q / 4) ∨ q = 4 * (q / 4) + 1 ∨ q = 4 * (q / 4) + 2 ∨ q = 4 * (q / 4) + 3 := by omega
    rcases this with e | e | e | e
    · exact congrArg (fun z => u (fc (lvd fr at_ z))) e
    · exact (congrArg (fun z => u (fc (lvd fr at_ z))) e).trans x1
    · exact (congrArg (fun z => u (fc (lvd fr at_ z))) e).trans (x2.trans x1)
    · exact (congrArg (fun z => u (fc (lvd fr at_ z))) e).trans (x3.trans (x2.trans x1))
  have s4 : ∀ g, g < 4 * n → u (fc g) = u (fc (lvd fr at_ (4 * (dep fr to g / 4)))) := fun g hg => by
    have := s3 _ (dep_ok h hg).1
    rw [lvd_dep h hg] at this; exact this
  have s5 : ∀ e, e < 2 * n → u (fc (lvd fr at_ (4 * ((fr e).toNat / 4)))) = u (fc (lvd fr at_ (4 * ((to e).toNat / 4)))) := fun e he => by
    have x := s4 (2 * e) (by omega)
    have y := s4 (2 * e + 1) (by omega)
    have d1 : dep fr to (2 * e) = (fr e).toNat := by unfold dep; rw [if_pos (by omega), show 2 * e / 2 = e by omega]
    have d2 : dep fr to (2 * e + 1) = (to e).toNat := by unfold dep; rw [if_neg (by omega), show (2 * e + 1) / 2 = e by omega]
    rw [d1] at x; rw [d2] at y
    have := s1 e he
    rw [ha', hb'] at this
    rw [← x, ← y, this]
  have s6 := pc_const (fr := fr) (to := to) (fun c => u (fc (lvd fr at_ (4 * c)))) (2 * n) s5
  have s7 : ∀ f, f < F → u f = u (fc (lvd fr at_ (4 * (pcF fr to (2 * n) ((fr (st f / 2)).toNat / 4))))) := fun f hf => by
    have hl := slt hf
    have x := s4 (st f) hl
    rw [fst hf] at x
    rw [x]
    have y := s6 ((fr (st f / 2)).toNat / 4)
    have y : u (fc (lvd fr at_ (4 * (pcF fr to (2 * n) ((fr (st f / 2)).toNat / 4))))) = u (fc (lvd fr at_ (4 * ((fr (st f / 2)).toNat / 4)))) := y
    rw [y]
    rcases arr_dep (fr := fr) (to := to) (st f) with ⟨_, e⟩ | ⟨_, e⟩
    · rw [e]
    · rw [e]; exact (s5 (st f / 2) (by omega)).symm
  -- the count
  have pv : ∀ f, f < F → (fr (st f / 2)).toNat / 4 < n := fun f hf => by
    have hl := slt hf
    have := (fr_ok h (show st f / 2 < 2 * n by omega)).2.1
    omega
  have pr : ∀ c, c < n → pcF fr to (2 * n) c < n := fun c hc => by have := pcF_le fr to (2 * n) c; omega
  have c1 : cntP (fun c => ufS a b (cotr fr to) (2 * n) c == c) F ≤ pcs fr to n (2 * n) := by
    unfold pcs
    refine cnt_inj (g := fun f => pcF fr to (2 * n) ((fr (st f / 2)).toNat / 4)) F _ (fun f hf hp => ⟨pr _ (pv f hf), by simp [pcF_idem]⟩) (fun f f' hf hf' hp hp' e => ?_)
    have p1 : u f = f := by rw [hu]; simpa using hp
    have p2 : u f' = f' := by rw [hu]; simpa using hp'
    have e : pcF fr to (2 * n) ((fr (st f / 2)).toNat / 4) = pcF fr to (2 * n) ((fr (st f' / 2)).toNat / 4) := e
    rw [← p1, ← p2, s7 f hf, s7 f' hf', e]
  have c2 : (F : Int) = n + 2 * (pcs fr to n (2 * n) : Nat) := by
    have x := cnt_fib (n := n) (fun f => pcF fr to (2 * n) ((fr (st f / 2)).toNat / 4)) F (fun f hf => pr _ (pv f hf))
    have y := cnt_fib (n := n) (fun c => pcF fr to (2 * n) c) n (fun f hf => pr _ hf)
    have z := cnt_fib (n := n) (fun _ => 0) 0 (fun f hf => by omega)
    have w : ∀ m, m ≤ n → smz (fun r => ((cntP (fun f => pcF fr to (2 * n) ((fr (st f / 2)).toNat / 4) == r) F : Nat) : Int)) m = smz (fun r => ((cntP (fun c => pcF fr to (2 * n) c == r) n : Nat) : Int)) m + 2 * ((cntP (fun c => pcF fr to (2 * n) c == c) m : Nat) : Int) := by
      intro m
      induction m with
      | zero => intro _; rfl
      | succ m ih =>
        intro hm
        rw [sm_s, sm_s, ih (by omega), cnt_s]
        by_cases c : pcF fr to (2 * n) m = m
        · have q := h3 m (by omega)
          rw [c] at q
          unfold facP croP at q
          rw [← hst, ← hF] at q
          simp only [c, beq_self_eq_true, if_true]
          rw [q]; omega
        · have q1 : cntP (fun f => pcF fr to (2 * n) ((fr (st f / 2)).toNat / 4) == m) F = 0 := cnt_zero (fun f hf => by
            simp only [beq_eq_false_iff_ne, ne_eq]
            intro e
            exact c (by rw [← e, pcF_idem]))
          have q2 : cntP (fun c => pcF fr to (2 * n) c == m) n = 0 := cnt_zero (fun f hf => by
            simp only [beq_eq_false_iff_ne, ne_eq]
            intro e
            exact c (by rw [← e, pcF_idem]))
          have q3 : (pcF fr to (2 * n) m == m) = false := by simp [c]
          rw [q1, q2, q3]; simp
    have ww := w n (Nat.le_refl _)
    rw [x, y] at ww
    unfold pcs
    omega
  have c3 := cot_cnt h (2 * n) (Nat.le_refl _)
  have hall := uf_all (a := a) (b := b) (sel := cotr fr to) c1 (show cntP (cotr fr to) (2 * n) + pcs fr to n (2 * n) ≤ F by omega)
  obtain ⟨P, hP⟩ := uf_pot (fun e => om (fr e).toNat) (2 * n) hall
  have at2 : ∀ q, q < 4 * n → om q = om (fr (at_ q).toNat).toNat := fun q hq => by
    obtain ⟨e, e1, e2, e3, e4, e5⟩ := Edg_at h hq
    rw [e2, Int.toNat_natCast]
    cases o : outQ sg q
    · rw [hm e e1, e5 o, Int.toNat_natCast]
    · rw [e4 o, Int.toNat_natCast]
  have vk := VR_KP (vr P)
  have hk' : KP n sg (fun q => om (fr (at_ q).toNat).toNat) := fun c hc => by
    have := hk c hc
    have e : ∀ q, q < 4 * n → fo_ sg (fun q => om (fr (at_ q).toNat).toNat) q = fo_ sg om q := fun q hq => fo_cg (at2 q hq).symm
    rw [e _ (by omega), e _ (by omega), e _ (by omega), e _ (by omega)]; exact this
  have z := treeflow h (x := fun e => om (fr e).toNat - (P (fc (2 * e)) - P (fc (2 * e + 1)))) (KP_sub hk' vk) (fun e he ct => by
    have := hP e he ct
    rw [ha', hb'] at this
    show om (fr e).toNat - (P (fc (2 * e)) - P (fc (2 * e + 1))) = 0
    omega)
  refine ⟨fun q => P (fc (lvd fr at_ q)), fun r hr => ?_, fun g hg => ?_⟩
  · have v := vr P r hr
    rw [v]
    obtain ⟨e, e1, e2, _⟩ := Edg_at h hr
    have := z e e1
    have : om (fr e).toNat - (P (fc (2 * e)) - P (fc (2 * e + 1))) = 0 := this
    have e' : P (fc (2 * (at_ r).toNat)) - P (fc (2 * (at_ r).toNat + 1)) = om r := by
      rw [at2 r hr, e2, Int.toNat_natCast]; omega
    exact fo_cg e'
  · show P (fc _) = P (fc _)
    rw [lvd_dep h hg, lvd_dep h ((tn_closed h).1 g hg), ft hg]
end
theorem J_code {d : Dg} {nm fr to at_ : Nat → Int} (hE : EdgA d.1 d.2.2.2 d.2.2.1 nm fr to at_) (h3 : All3 fr to d.1 (rndz (tnz fr to at_) (4 * d.1) (4 * d.1))) : Jd d := Jp_d hE (euler hE h3)
