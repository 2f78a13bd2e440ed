/-- the text of FACES -/
def dnB (nm : Nat → Int) (x : Nat) : Int := if x % 2 = 0 then nm (x / 2) else -(nm (x / 2))
def drL (nm : Nat → Int) (f : Nat → Nat) : Nat → Nat → List Int
  | 0, _ => []
  | k + 1, x => dnB nm x :: drL nm f k (f x)
def fcL (nm fr to at_ : Nat → Int) (st len : Nat → Nat) : Nat → Nat → List Int
  | 0, _ => []
  | r + 1, f => hsL ((f : Int) :: deedS fr to at_ (st f) (len f) :: drL nm (tnz fr to at_) (len f) (st f)) ++ fcL nm fr to at_ st len r (f + 1)
def facS (n : Nat) (nm fr to at_ : Nat → Int) : List Int := hsL [((rndz (tnz fr to at_) (4 * n) (4 * n)).2.1 : Int)] ++ fcL nm fr to at_ (rndz (tnz fr to at_) (4 * n) (4 * n)).2.2.1 (rndz (tnz fr to at_) (4 * n) (4 * n)).2.2.2 (rndz (tnz fr to at_) (4 * n) (4 * n)).2.1 0
def smF (len : Nat → Nat) : Nat → Nat
  | 0 => 0
  | F + 1 => smF len F + len F
def smL (len : Nat → Nat) : Nat → Nat → Nat
  | 0, _ => 0
  | r + 1, f => len f + smL len r (f + 1)
theorem smL_F (len : Nat → Nat) : ∀ r f, smL len r f + smF len f = smF len (f + r) := by
  intro r
  induction r with
  | zero => intro f; show 0 + smF len f = _; rw [Nat.zero_add, Nat.add_zero]
  | succ r ih =>
    intro f
    have := ih (f + 1)
    have e : smF len (f + 1) = smF len f + len f := rfl
    show len f + smL len r (f + 1) + smF len f = _
    rw [show f + (r + 1) = f + 1 + r by omega]
    omega
theorem smF_congr {a b : Nat → Nat} : ∀ F, (∀ i, i < F → a i = b i) → smF a F = smF b F := by
  intro F
  induction F with
  | zero => intro _; rfl
  | succ F ih => intro h; show smF a F + a F = smF b F + b F; rw [ih (fun i hi => h i (by omega)), h F (by omega)]
theorem mk_U {f : Nat → Nat} {N : Nat} (hf : closedz f N) {v : Int} (hv : 0 ≤ v) : ∀ k x a, x < N → Uz N (mkz f v k x a).1 + (mkz f v k x a).2 = Uz N a := by
  intro k
  induction k with
  | zero => intro x a _; rfl
  | succ k ih =>
    intro x a hx
    rw [mk_s]
    by_cases c : 0 ≤ a x
    · rw [if_pos c]; rfl
    · rw [if_neg c]
      have := ih (f x) (up a x v) (hf.1 x hx)
      have u := U_up hx (show a x < 0 by omega) hv
      show Uz N (mkz f v k (f x) (up a x v)).1 + ((mkz f v k (f x) (up a x v)).2 + 1) = _
      omega
theorem rnd_sum {f : Nat → Nat} {N : Nat} (hf : closedz f N) : ∀ k, k ≤ N → smF (rndz f N k).2.2.2 (rndz f N k).2.1 + Uz N (rndz f N k).1 = N := by
  intro k
  induction k with
  | zero =>
    intro _
    show 0 + Uz N (fun _ => -1) = N
    unfold Uz
    have : ∀ m, cntP (fun _ => decide ((-1 : Int) < 0)) m = m := by
      intro m
      induction m with
      | zero => rfl
      | succ m ih => rw [cnt_s, ih]; rfl
    rw [this, Nat.zero_add]
  | succ k ih =>
    intro hk
    have h0 := ih (by omega)
    rw [rnd_s]
    by_cases c : 0 ≤ (rndz f N k).1 k
    · rw [if_pos c]; exact h0
    · rw [if_neg c]
      have u := mk_U hf (v := ((rndz f N k).2.1 : Int)) (by omega) (N + 1) k (rndz f N k).1 (by omega)
      show smF (fun c => if c = (rndz f N k).2.1 then (mkz f ((rndz f N k).2.1 : Int) (N + 1) k (rndz f N k).1).2 else (rndz f N k).2.2.2 c) (rndz f N k).2.1 + (if (rndz f N k).2.1 = (rndz f N k).2.1 then (mkz f ((rndz f N k).2.1 : Int) (N + 1) k (rndz f N k).1).2 else (rndz f N k).2.2.2 (rndz f N k).2.1) + Uz N (mkz f ((rndz f N k).2.1 : Int) (N + 1) k (rndz f N k).1).1 = N
      rw [if_pos rfl, smF_congr (a := fun c => if c = (rndz f N k).2.1 then (mkz f ((rndz f N k).2.1 : Int) (N + 1) k (rndz f N k).1).2 else (rndz f N k).2.2.2 c) (b := (rndz f N k).2.2.2) _ (fun i hi => if_neg (by omega))]
      omega
section
variable {n : Nat} {sg lb nm fr to at_ nm' fr' to' at' : Nat → Int}
theorem nm_b (h : EdgA n sg lb nm fr to at_) (hl : ∀ q, q < 4 * n → 1 ≤ lb q ∧ lb q ≤ 9999) {e : Nat} (he : e < 2 * n) : 1 ≤ nm e ∧ nm e ≤ 9999 := by
  obtain ⟨_, f1, _, _, _, _, _, f2⟩ := fr_ok h he
  rw [← f2]; exact hl _ f1
theorem dn_b (h : EdgA n sg lb nm fr to at_) (hl : ∀ q, q < 4 * n → 1 ≤ lb q ∧ lb q ≤ 9999) {x : Nat} (hx : x < 4 * n) : -1000000 ≤ dnB nm x ∧ dnB nm x ≤ 1000000 := by
  have := nm_b h hl (show x / 2 < 2 * n by omega)
  unfold dnB
  split <;> omega
theorem drL_congr (h : EdgA n sg lb nm fr to at_) (h' : EdgA n sg lb nm' fr' to' at') : ∀ k x, x < 4 * n → drL nm' (tnz fr' to' at') k x = drL nm (tnz fr to at_) k x := by
  intro k
  induction k with
  | zero => intro x _; rfl
  | succ k ih =>
    intro x hx
    show dnB nm' x :: drL nm' (tnz fr' to' at') k (tnz fr' to' at' x) = dnB nm x :: drL nm (tnz fr to at_) k (tnz fr to at_ x)
    rw [tn_congr h h' hx, ih _ ((tn_closed h).1 x hx)]
    have : dnB nm' x = dnB nm x := by unfold dnB; rw [((Edg_one h h').1 (x / 2) (by omega)).1]
    rw [this]
theorem fcL_congr (h : EdgA n sg lb nm fr to at_) (h' : EdgA n sg lb nm' fr' to' at') (st len : Nat → Nat) : ∀ r f, (∀ i, f ≤ i → i < f + r → st i < 4 * n) → fcL nm' fr' to' at' st len r f = fcL nm fr to at_ st len r f := by
  intro r
  induction r with
  | zero => intro f _; rfl
  | succ r ih =>
    intro f hs
    show hsL ((f : Int) :: deedS fr' to' at' (st f) (len f) :: drL nm' (tnz fr' to' at') (len f) (st f)) ++ fcL nm' fr' to' at' st len r (f + 1) = hsL ((f : Int) :: deedS fr to at_ (st f) (len f) :: drL nm (tnz fr to at_) (len f) (st f)) ++ fcL nm fr to at_ st len r (f + 1)
    rw [ih (f + 1) (fun i a b => hs i (by omega) (by omega)), deed_congr h h' (hs f (by omega) (by omega)), drL_congr h h' _ _ (hs f (by omega) (by omega))]
/-- a face's first dart and size -/
theorem face_ok (h : EdgA n sg lb nm fr to at_) {f : Nat} (hf : f < (rndz (tnz fr to at_) (4 * n) (4 * n)).2.1) : (rndz (tnz fr to at_) (4 * n) (4 * n)).2.2.1 f < 4 * n ∧ 1 ≤ (rndz (tnz fr to at_) (4 * n) (4 * n)).2.2.2 f ∧ (rndz (tnz fr to at_) (4 * n) (4 * n)).2.2.2 f ≤ 4 * n ∧ it (tnz fr to at_) ((rndz (tnz fr to at_) (4 * n) (4 * n)).2.2.2 f) ((rndz (tnz fr to at_) (4 * n) (4 * n)).2.2.1 f) = (rndz (tnz fr to at_) (4 * n) (4 * n)).2.2.1 f ∧ ∀ j, 0 < j → j < (rndz (tnz fr to at_) (4 * n) (4 * n)).2.2.2 f → it (tnz fr to at_) j ((rndz (tnz fr to at_) (4 * n) (4 * n)).2.2.1 f) ≠ (rndz (tnz fr to at_) (4 * n) (4 * n)).2.2.1 f := by
  obtain ⟨a1, a2, a3⟩ := rnd_len (tn_closed h) hf
  obtain ⟨b1, b2, b3, b4, b5, _⟩ := (rnd_ok (tn_closed h) (4 * n) (Nat.le_refl _)).2.2.2.2.1 f hf
  exact ⟨a2, b3, a1, b4, b5⟩
theorem facS_congr (h : EdgA n sg lb nm fr to at_) (h' : EdgA n sg lb nm' fr' to' at') : facS n nm' fr' to' at' = facS n nm fr to at_ := by
  unfold facS
  rw [rt_congr h h', fcL_congr h h' _ _ _ _ (fun i _ hi => (face_ok h (by omega)).1)]
theorem deed_b (fr to at_ : Nat → Int) (s k : Nat) : 0 ≤ deedS fr to at_ s k ∧ deedS fr to at_ s k ≤ 3 := by
  unfold deedS
  split
  · omega
  · split
    · omega
    · split
      · split <;> omega
      · split <;> omega
theorem pf89 (fl : Nat) (hfl : 2000 ≤ fl) (hn : n ≤ 20) {kn ed cm pc fa br cu : Int} {cO aT fO sZ sT fR kY nM pO sC tO : Nat → Int} (h : EdgA n sg lb nM fR tO aT) (hl : ∀ q, q < 4 * n → 1 ≤ lb q ∧ lb q ≤ 9999) (x0 : Int) (l0 s0 : Nat → Int) (kb : Int → Int → Int → Int → Int → Int → Int → Int → (Nat → Int) → (Nat → Int) → (Nat → Int) → (Nat → Int) → (Nat → Int) → (Nat → Int) → (Nat → Int) → (Nat → Int) → (Nat → Int) → (Nat → Int) → (Nat → Int) → Int → Int → (Nat → Int) → (Nat → Int) → Option (Int × Int × Int × Int × Int × Int × Int × (Nat → Int) × (Nat → Int) × (Nat → Int) × (Nat → Int) × (Nat → Int) × (Nat → Int) × (Nat → Int) × (Nat → Int) × (Nat → Int) × (Nat → Int) × (Nat → Int) × Int × Int × (Nat → Int) × (Nat → Int))) {f k : Nat} (hf : f < 80) (hk : k ≤ 80) (hz : sZ f = (k : Int)) :
    ∀ (r nn j x : Nat) (s : Pap) (di : Nat → Int), j + r = k → r < nn → x < 4 * n → pok s → ∃ di', LB_En_printFaces_89 fl x0 l0 s0 kb nn (f : Int) (x : Int) (j : Int) kn ed cm pc fa br cu cO aT fO sZ sT fR kY nM pO sC tO s.1 s.2.1 s.2.2 di = kb ((f + 1 : Nat) : Int) kn ed cm pc fa br cu cO aT fO sZ sT fR kY nM pO sC tO (pp (bhL (drL nM (tnz fR tO aT) r x) ++ [10]) s).1 (pp (bhL (drL nM (tnz fR tO aT) r x) ++ [10]) s).2.1 (pp (bhL (drL nM (tnz fR tO aT) r x) ++ [10]) s).2.2 di' := by
  intro r
  induction r with
  | zero =>
    intro nn j x s di hj hnn hx hs
    obtain ⟨nn, rfl⟩ : ∃ r, nn = r + 1 := ⟨nn - 1, by omega⟩
    refine ⟨di, ?_⟩
    rw [LB_En_printFaces_89, if_pos (by omega), Int.toNat_natCast, hz, if_pos (by omega), P_end fl s hs, Option.bind_some, if_pos (by omega), show ((f : Int) + 1) = ((f + 1 : Nat) : Int) by omega]
    rfl
  | succ r ih =>
    intro nn j x s di hj hnn hx hs
    obtain ⟨nn, rfl⟩ : ∃ r, nn = r + 1 := ⟨nn - 1, by omega⟩
    have nb := nm_b h hl (show x / 2 < 2 * n by omega)
    have db := dn_b h hl hx
    have e1 : LM_Sh_dartNumber fl nM (x : Int) = some (dnB nM x) := by
      unfold LM_Sh_dartNumber LB_Sh_dartNumber_0 dnB
      rw [if_pos (by omega), show ((x : Int) / 2).toNat = x / 2 by omega]
      by_cases c : x % 2 = 0
      · rw [if_neg (by omega), if_pos c]
      · rw [if_pos (by omega), if_pos (by omega), if_neg c]
    obtain ⟨d1, p1⟩ := P_spaced fl (by omega) (dnB nM x) (na_lt db) s hs di
    obtain ⟨d2, p2⟩ := ih nn (j + 1) (tnz fR tO aT x) (pp (32 :: num (dnB nM x)) s) d1 (by omega) (by omega) ((tn_closed h).1 x hx) (pok_pp _ _ hs)
    refine ⟨d2, ?_⟩
    rw [LB_En_printFaces_89, if_pos (by omega), Int.toNat_natCast, hz, if_neg (by omega), e1, Option.bind_some, p1, Option.bind_some, C_nextDart fl hn h hx, Option.bind_some, if_pos (by omega), show ((j : Int) + 1) = ((j + 1 : Nat) : Int) by omega]
    dsimp only
    rw [p2]
    have e2 : bhL (drL nM (tnz fR tO aT) (r + 1) x) ++ [10] = (32 :: num (dnB nM x)) ++ (bhL (drL nM (tnz fR tO aT) r (tnz fR tO aT x)) ++ [10]) := by
      show ((32 :: num (dnB nM x)) ++ bhL (drL nM (tnz fR tO aT) r (tnz fR tO aT x))) ++ [10] = _
      rw [List.append_assoc]
    rw [e2, pp_app (32 :: num (dnB nM x))]
theorem pf39 (fl : Nat) (hfl : 2000 ≤ fl) (hn : n ≤ 20) {kn ed cm pc fa br cu : Int} {cO aT fO sZ sT fR kY nM pO sC tO : Nat → Int} (h : EdgA n sg lb nM fR tO aT) (hl : ∀ q, q < 4 * n → 1 ≤ lb q ∧ lb q ≤ 9999) (x0 : Int) (l0 s0 : Nat → Int) (hF : fa = (((rndz (tnz fR tO aT) (4 * n) (4 * n)).2.1 : Nat) : Int)) (hZ : rLen (rndz (tnz fR tO aT) (4 * n) (4 * n)) sZ) (hT : rArr (rndz (tnz fR tO aT) (4 * n) (4 * n)) sT) :
    ∀ (r nn f : Nat) (s : Pap) (di : Nat → Int), f + r = (rndz (tnz fR tO aT) (4 * n) (4 * n)).2.1 → r < nn → pok s → ∃ di', LB_En_printFaces_39 fl x0 l0 s0 nn (f : Int) kn ed cm pc fa br cu cO aT fO sZ sT fR kY nM pO sC tO s.1 s.2.1 s.2.2 di = some (kn, ed, cm, pc, fa, br, cu, cO, aT, fO, sZ, sT, fR, kY, nM, pO, sC, tO, (pp (fcL nM fR tO aT (rndz (tnz fR tO aT) (4 * n) (4 * n)).2.2.1 (rndz (tnz fR tO aT) (4 * n) (4 * n)).2.2.2 r f) s).1, (pp (fcL nM fR tO aT (rndz (tnz fR tO aT) (4 * n) (4 * n)).2.2.1 (rndz (tnz fR tO aT) (4 * n) (4 * n)).2.2.2 r f) s).2.1, (pp (fcL nM fR tO aT (rndz (tnz fR tO aT) (4 * n) (4 * n)).2.2.1 (rndz (tnz fR tO aT) (4 * n) (4 * n)).2.2.2 r f) s).2.2, di') := by
  have F4 := cnt_F h
  intro r
  induction r with
  | zero =>
    intro nn f s di hf hnn hs
    obtain ⟨nn, rfl⟩ : ∃ r, nn = r + 1 := ⟨nn - 1, by omega⟩
    refine ⟨di, ?_⟩
    rw [LB_En_printFaces_39, if_pos (by omega)]
    rfl
  | succ r ih =>
    intro nn f s di hf hnn hs
    obtain ⟨nn, rfl⟩ : ∃ r, nn = r + 1 := ⟨nn - 1, by omega⟩
    have hf' : f < (rndz (tnz fR tO aT) (4 * n) (4 * n)).2.1 := by omega
    obtain ⟨k1, k2, k3, _, _⟩ := face_ok h hf'
    have t34 : lit 34 = [35] := by decide
    obtain ⟨d1, p1⟩ := P_spaced fl (by omega) (f : Int) (na_lt (by omega)) (pp [35] s) (pok_pp _ _ hs) di
    have db := deed_b fR tO aT ((rndz (tnz fR tO aT) (4 * n) (4 * n)).2.2.1 f) ((rndz (tnz fR tO aT) (4 * n) (4 * n)).2.2.2 f)
    have e1 := C_deed fl (by omega) hn h sZ sT (f := f) (by omega) (hT f hf') (hZ f hf') k1 k2
    obtain ⟨d2, p2⟩ := P_spaced fl (by omega) _ (na_lt (v := deedS fR tO aT ((rndz (tnz fR tO aT) (4 * n) (4 * n)).2.2.1 f) ((rndz (tnz fR tO aT) (4 * n) (4 * n)).2.2.2 f)) (by omega)) _ (pok_pp (32 :: num (f : Int)) _ (pok_pp [35] _ hs)) d1
    obtain ⟨d3, p3⟩ := pf89 fl hfl hn h hl x0 l0 s0 (LB_En_printFaces_39 fl x0 l0 s0 nn) (kn := kn) (ed := ed) (cm := cm) (pc := pc) (fa := fa) (br := br) (cu := cu) (cO := cO) (aT := aT) (fO := fO) (sZ := sZ) (sT := sT) (fR := fR) (kY := kY) (nM := nM) (pO := pO) (sC := sC) (tO := tO) (f := f) (by omega) (show (rndz (tnz fR tO aT) (4 * n) (4 * n)).2.2.2 f ≤ 80 by omega) (hZ f hf') ((rndz (tnz fR tO aT) (4 * n) (4 * n)).2.2.2 f) fl 0 ((rndz (tnz fR tO aT) (4 * n) (4 * n)).2.2.1 f) _ d2 (by omega) (by omega) k1 (pok_pp (32 :: num (deedS fR tO aT ((rndz (tnz fR tO aT) (4 * n) (4 * n)).2.2.1 f) ((rndz (tnz fR tO aT) (4 * n) (4 * n)).2.2.2 f))) _ (pok_pp (32 :: num (f : Int)) _ (pok_pp [35] _ hs)))
    obtain ⟨d4, p4⟩ := ih nn (f + 1) _ d3 (by omega) (by omega) (pok_pp (bhL (drL nM (tnz fR tO aT) ((rndz (tnz fR tO aT) (4 * n) (4 * n)).2.2.2 f) ((rndz (tnz fR tO aT) (4 * n) (4 * n)).2.2.1 f)) ++ [10]) _ (pok_pp (32 :: num (deedS fR tO aT ((rndz (tnz fR tO aT) (4 * n) (4 * n)).2.2.1 f) ((rndz (tnz fR tO aT) (4 * n) (4 * n)).2.2.2 f))) _ (pok_pp (32 :: num (f : Int)) _ (pok_pp [35] _ hs))))
    refine ⟨d4, ?_⟩
    rw [show ((0 : Nat) : Int) = 0 from rfl] at p3
    rw [LB_En_printFaces_39, if_neg (by omega), P_text fl hfl (by decide) s hs, Option.bind_some, t34, p1, Option.bind_some, e1, Option.bind_some]
    dsimp only
    rw [p2, Option.bind_some, if_pos (by omega), Int.toNat_natCast, hT f hf']
    dsimp only
    rw [p3, p4]
    have e2 : fcL nM fR tO aT (rndz (tnz fR tO aT) (4 * n) (4 * n)).2.2.1 (rndz (tnz fR tO aT) (4 * n) (4 * n)).2.2.2 (r + 1) f = [35] ++ ((32 :: num (f : Int)) ++ ((32 :: num (deedS fR tO aT ((rndz (tnz fR tO aT) (4 * n) (4 * n)).2.2.1 f) ((rndz (tnz fR tO aT) (4 * n) (4 * n)).2.2.2 f))) ++ ((bhL (drL nM (tnz fR tO aT) ((rndz (tnz fR tO aT) (4 * n) (4 * n)).2.2.2 f) ((rndz (tnz fR tO aT) (4 * n) (4 * n)).2.2.1 f)) ++ [10]) ++ fcL nM fR tO aT (rndz (tnz fR tO aT) (4 * n) (4 * n)).2.2.1 (rndz (tnz fR tO aT) (4 * n) (4 * n)).2.2.2 r (f + 1)))) := by
      show (35 :: (((32 :: num (f : Int)) ++ ((32 :: num _) ++ bhL _)) ++ [10])) ++ _ = _
      simp only [List.append_assoc, List.cons_append, List.nil_append]
    rw [e2, pp_app [35], pp_app (32 :: num (f : Int)), pp_app (32 :: num (deedS fR tO aT _ _)), pp_app (_ ++ [10])]
end
