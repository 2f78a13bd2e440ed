section
variable {n : Nat} {sg lb nm fr to at_ : Nat → Int}
theorem lf60 (fl : Nat) (hfl : 2000 ≤ fl) (hn : n ≤ 20) (h : EdgA n sg lb nm fr to at_) (hl : ∀ q, q < 4 * n → 1 ≤ lb q ∧ lb q ≤ 9999) (F : Int) {fd : Nat → Int} (kb : Int → Int → (Nat → Int) → Option (Int × (Nat → Int))) {f k s0 : Nat} (hf : f < 96) (hs0 : s0 < 4 * n) (hd : fd f = (s0 : Int)) (hit : it (tnz fr to at_) k s0 = s0) (hne : ∀ j, 0 < j → j < k → it (tnz fr to at_) j s0 ≠ s0) :
    ∀ (r nn j : Nat) (s : Int × (Nat → Int)), j + r + 1 = k → r < nn → 0 ≤ s.1 → s.1 + 20 * (r + 1 : Nat) ≤ 7900 → LB_Md_listFaces_60 fl F fr to fd nm at_ kb nn (f : Int) ((it (tnz fr to at_) j s0 : Nat) : Int) s.1 s.2 = kb ((f + 1 : Nat) : Int) (mm (bhL (drL nm (tnz fr to at_) (r + 1) (it (tnz fr to at_) j s0)) ++ [10]) s).1 (mm (bhL (drL nm (tnz fr to at_) (r + 1) (it (tnz fr to at_) j s0)) ++ [10]) s).2 := by
  intro r
  induction r with
  | zero =>
    intro nn j s hj hnn hs1 hs2
    obtain ⟨nn, rfl⟩ : ∃ r, nn = r + 1 := ⟨nn - 1, by omega⟩
    have hx := it_lt (tn_closed h) hs0 j
    have nb := nm_b h hl (show it (tnz fr to at_) j s0 / 2 < 2 * n by omega)
    have db := dn_b h hl hx
    have sz := mm_size (32 :: num (dnB nm (it (tnz fr to at_) j s0))) s
    rw [List.length_cons] at sz
    have nl := num_len (dnB nm (it (tnz fr to at_) j s0))
    have key : ∀ v, v = dnB nm (it (tnz fr to at_) j s0) → LB_Md_listFaces_89 fl F fr to fd nm at_ kb (LB_Md_listFaces_60 fl F fr to fd nm at_ kb nn) v (f : Int) ((it (tnz fr to at_) j s0 : Nat) : Int) s.1 s.2 = kb ((f + 1 : Nat) : Int) (mm (bhL (drL nm (tnz fr to at_) (0 + 1) (it (tnz fr to at_) j s0)) ++ [10]) s).1 (mm (bhL (drL nm (tnz fr to at_) (0 + 1) (it (tnz fr to at_) j s0)) ++ [10]) s).2 := fun v hv => by
      unfold LB_Md_listFaces_89
      rw [hv, M_behind fl (by omega) _ (na_lt db) s (by omega), Option.bind_some, M_turn fl hn h hx, Option.bind_some, if_pos (by omega), Int.toNat_natCast, hd]
      have e : tnz fr to at_ (it (tnz fr to at_) j s0) = s0 := by
        have w : tnz fr to at_ (it (tnz fr to at_) j s0) = it (tnz fr to at_) (j + 1) s0 := (it_s _ _ _).symm
        rw [w, show j + 1 = k by omega]; exact hit
      rw [e, if_neg (fun g => g rfl), M_say fl 10 _ (by omega) (by decide), Option.bind_some, if_pos (by omega), show ((f : Int) + 1) = ((f + 1 : Nat) : Int) by omega]
      have e2 : bhL (drL nm (tnz fr to at_) (0 + 1) (it (tnz fr to at_) j s0)) ++ [10] = (32 :: num (dnB nm (it (tnz fr to at_) j s0))) ++ [10] := by
        show ((32 :: num (dnB nm (it (tnz fr to at_) j s0))) ++ []) ++ [10] = _
        rw [List.append_nil]
      rw [e2, mm_app (32 :: num _)]
    rw [LB_Md_listFaces_60]
    by_cases c : it (tnz fr to at_) j s0 % 2 = 0
    · rw [if_neg (by omega), if_pos (by omega), show (((it (tnz fr to at_) j s0 : Nat) : Int) / 2).toNat = it (tnz fr to at_) j s0 / 2 by omega]
      exact key _ (by unfold dnB; rw [if_pos c])
    · rw [if_pos (by omega), if_pos (by omega), show (((it (tnz fr to at_) j s0 : Nat) : Int) / 2).toNat = it (tnz fr to at_) j s0 / 2 by omega, if_pos (by omega)]
      exact key _ (by unfold dnB; rw [if_neg c])
  | succ r ih =>
    intro nn j s hj hnn hs1 hs2
    obtain ⟨nn, rfl⟩ : ∃ r, nn = r + 1 := ⟨nn - 1, by omega⟩
    have hx := it_lt (tn_closed h) hs0 j
    have nb := nm_b h hl (show it (tnz fr to at_) j s0 / 2 < 2 * n by omega)
    have db := dn_b h hl hx
    have sz := mm_size (32 :: num (dnB nm (it (tnz fr to at_) j s0))) s
    rw [List.length_cons] at sz
    have nl := num_len (dnB nm (it (tnz fr to at_) j s0))
    have key : ∀ v, v = dnB nm (it (tnz fr to at_) j s0) → LB_Md_listFaces_89 fl F fr to fd nm at_ kb (LB_Md_listFaces_60 fl F fr to fd nm at_ kb nn) v (f : Int) ((it (tnz fr to at_) j s0 : Nat) : Int) s.1 s.2 = kb ((f + 1 : Nat) : Int) (mm (bhL (drL nm (tnz fr to at_) (r + 1 + 1) (it (tnz fr to at_) j s0)) ++ [10]) s).1 (mm (bhL (drL nm (tnz fr to at_) (r + 1 + 1) (it (tnz fr to at_) j s0)) ++ [10]) s).2 := fun v hv => by
      unfold LB_Md_listFaces_89
      rw [hv, M_behind fl (by omega) _ (na_lt db) s (by omega), Option.bind_some, M_turn fl hn h hx, Option.bind_some, if_pos (by omega), Int.toNat_natCast, hd]
      have ne : it (tnz fr to at_) (j + 1) s0 ≠ s0 := hne (j + 1) (by omega) (by omega)
      have e : tnz fr to at_ (it (tnz fr to at_) j s0) = it (tnz fr to at_) (j + 1) s0 := (it_s _ _ _).symm
      have i2 := ih nn (j + 1) (mm (32 :: num (dnB nm (it (tnz fr to at_) j s0))) s) (by omega) (by omega) (by omega) (by omega)
      rw [e, if_pos (by omega), i2]
      have e2 : bhL (drL nm (tnz fr to at_) (r + 1 + 1) (it (tnz fr to at_) j s0)) ++ [10] = (32 :: num (dnB nm (it (tnz fr to at_) j s0))) ++ (bhL (drL nm (tnz fr to at_) (r + 1) (it (tnz fr to at_) (j + 1) s0)) ++ [10]) := by
        rw [← e]
        show ((32 :: num (dnB nm (it (tnz fr to at_) j s0))) ++ bhL (drL nm (tnz fr to at_) (r + 1) (tnz fr to at_ (it (tnz fr to at_) j s0)))) ++ [10] = _
        rw [List.append_assoc]
      rw [e2, mm_app (32 :: num _)]
    rw [LB_Md_listFaces_60]
    by_cases c : it (tnz fr to at_) j s0 % 2 = 0
    · rw [if_neg (by omega), if_pos (by omega), show (((it (tnz fr to at_) j s0 : Nat) : Int) / 2).toNat = it (tnz fr to at_) j s0 / 2 by omega]
      exact key _ (by unfold dnB; rw [if_pos c])
    · rw [if_pos (by omega), if_pos (by omega), show (((it (tnz fr to at_) j s0 : Nat) : Int) / 2).toNat = it (tnz fr to at_) j s0 / 2 by omega, if_pos (by omega)]
      exact key _ (by unfold dnB; rw [if_neg c])
theorem drL_len (nm : Nat → Int) (f : Nat → Nat) : ∀ k x, (drL nm f k x).length = k := by
  intro k
  induction k with
  | zero => intro x; rfl
  | succ k ih => intro x; show (drL nm f k (f x)).length + 1 = k + 1; rw [ih]
theorem hs_len (l : List Int) : (hsL l).length ≤ 20 * l.length + 2 := by
  have := bh_len l
  show (35 :: (bhL l ++ [10])).length ≤ _
  rw [List.length_cons, List.length_append]
  show (bhL l).length + 1 + 1 ≤ _
  omega
theorem lf23 (fl : Nat) (hfl : 2000 ≤ fl) (hn : n ≤ 20) (h : EdgA n sg lb nm fr to at_) (hl : ∀ q, q < 4 * n → 1 ≤ lb q ∧ lb q ≤ 9999) {fd : Nat → Int} (hT : rArr (rndz (tnz fr to at_) (4 * n) (4 * n)) fd) :
    ∀ (r nn f : Nat) (s : Int × (Nat → Int)), f + r = (rndz (tnz fr to at_) (4 * n) (4 * n)).2.1 → r < nn → 0 ≤ s.1 → s.1 + 20 * (smL (rndz (tnz fr to at_) (4 * n) (4 * n)).2.2.2 r f : Nat) + 60 * (r : Nat) ≤ 7900 → LB_Md_listFaces_23 fl (((rndz (tnz fr to at_) (4 * n) (4 * n)).2.1 : Nat) : Int) fr to fd nm at_ nn (f : Int) s.1 s.2 = some (mm (fcL nm fr to at_ (rndz (tnz fr to at_) (4 * n) (4 * n)).2.2.1 (rndz (tnz fr to at_) (4 * n) (4 * n)).2.2.2 r f) s) := by
  have F4 := cnt_F h
  intro r
  induction r with
  | zero =>
    intro nn f s hf hnn hs1 hs2
    obtain ⟨nn, rfl⟩ : ∃ r, nn = r + 1 := ⟨nn - 1, by omega⟩
    rw [LB_Md_listFaces_23, if_pos (by omega)]
    rfl
  | succ r ih =>
    intro nn f s hf hnn hs1 hs2
    obtain ⟨nn, rfl⟩ : ∃ r, nn = r + 1 := ⟨nn - 1, by omega⟩
    have hf' : f < (rndz (tnz fr to at_) (4 * n) (4 * n)).2.1 := by omega
    obtain ⟨k1, k2, k3, k4, k5⟩ := face_ok h hf'
    have es : smL (rndz (tnz fr to at_) (4 * n) (4 * n)).2.2.2 (r + 1) f = (rndz (tnz fr to at_) (4 * n) (4 * n)).2.2.2 f + smL (rndz (tnz fr to at_) (4 * n) (4 * n)).2.2.2 r (f + 1) := rfl
    have db := deed_b fr to at_ ((rndz (tnz fr to at_) (4 * n) (4 * n)).2.2.1 f) ((rndz (tnz fr to at_) (4 * n) (4 * n)).2.2.2 f)
    have e1 := M_what fl (by omega) hn h fd (f := f) (by omega) (hT f hf') k1 (by omega) k2 k4 k5
    have z0 : (mm [35] s).1 = s.1 + 1 := mm_size [35] s
    have z1 := mm_size (32 :: num (f : Int)) (mm [35] s)
    have n1 := num_len (f : Int)
    have z2 := mm_size (32 :: num (deedS fr to at_ ((rndz (tnz fr to at_) (4 * n) (4 * n)).2.2.1 f) ((rndz (tnz fr to at_) (4 * n) (4 * n)).2.2.2 f))) (mm (32 :: num (f : Int)) (mm [35] s))
    have n2 := num_len (deedS fr to at_ ((rndz (tnz fr to at_) (4 * n) (4 * n)).2.2.1 f) ((rndz (tnz fr to at_) (4 * n) (4 * n)).2.2.2 f))
    rw [List.length_cons] at z1 z2
    generalize hS2 : mm (32 :: num (deedS fr to at_ ((rndz (tnz fr to at_) (4 * n) (4 * n)).2.2.1 f) ((rndz (tnz fr to at_) (4 * n) (4 * n)).2.2.2 f))) (mm (32 :: num (f : Int)) (mm [35] s)) = s2 at z2
    have p3 := lf60 fl hfl hn h hl (((rndz (tnz fr to at_) (4 * n) (4 * n)).2.1 : Nat) : Int) (fd := fd) (LB_Md_listFaces_23 fl (((rndz (tnz fr to at_) (4 * n) (4 * n)).2.1 : Nat) : Int) fr to fd nm at_ nn) (f := f) (by omega) k1 (hT f hf') k4 k5 ((rndz (tnz fr to at_) (4 * n) (4 * n)).2.2.2 f - 1) fl 0 s2 (by omega) (by omega) (by omega) (by omega)
    have ek : (rndz (tnz fr to at_) (4 * n) (4 * n)).2.2.2 f - 1 + 1 = (rndz (tnz fr to at_) (4 * n) (4 * n)).2.2.2 f := by omega
    rw [ek] at p3
    have i0 : it (tnz fr to at_) 0 ((rndz (tnz fr to at_) (4 * n) (4 * n)).2.2.1 f) = (rndz (tnz fr to at_) (4 * n) (4 * n)).2.2.1 f := rfl
    rw [i0] at p3
    have z3 := mm_size (bhL (drL nm (tnz fr to at_) ((rndz (tnz fr to at_) (4 * n) (4 * n)).2.2.2 f) ((rndz (tnz fr to at_) (4 * n) (4 * n)).2.2.1 f)) ++ [10]) s2
    have n3 := bh_len (drL nm (tnz fr to at_) ((rndz (tnz fr to at_) (4 * n) (4 * n)).2.2.2 f) ((rndz (tnz fr to at_) (4 * n) (4 * n)).2.2.1 f))
    rw [drL_len] at n3
    rw [List.length_append] at z3
    have z4 : ([10] : List Int).length = 1 := rfl
    have p4 := ih nn (f + 1) (mm (bhL (drL nm (tnz fr to at_) ((rndz (tnz fr to at_) (4 * n) (4 * n)).2.2.2 f) ((rndz (tnz fr to at_) (4 * n) (4 * n)).2.2.1 f)) ++ [10]) s2) (by omega) (by omega) (by omega) (by omega)
    rw [LB_Md_listFaces_23, if_neg (by omega), M_say fl 35 s (by omega) (by decide), Option.bind_some, M_behind fl (by omega) (f : Int) (na_lt (by omega)) (mm [35] s) (by omega), Option.bind_some, e1, Option.bind_some, M_behind fl (by omega) _ (na_lt (by omega)) _ (by omega), Option.bind_some, if_pos (by omega), Int.toNat_natCast, hT f hf', hS2, p3, p4, ← hS2]
    have e2 : fcL nm fr to at_ (rndz (tnz fr to at_) (4 * n) (4 * n)).2.2.1 (rndz (tnz fr to at_) (4 * n) (4 * n)).2.2.2 (r + 1) f = [35] ++ ((32 :: num (f : Int)) ++ ((32 :: num (deedS fr to at_ ((rndz (tnz fr to at_) (4 * n) (4 * n)).2.2.1 f) ((rndz (tnz fr to at_) (4 * n) (4 * n)).2.2.2 f))) ++ ((bhL (drL nm (tnz fr to at_) ((rndz (tnz fr to at_) (4 * n) (4 * n)).2.2.2 f) ((rndz (tnz fr to at_) (4 * n) (4 * n)).2.2.1 f)) ++ [10]) ++ fcL nm fr to at_ (rndz (tnz fr to at_) (4 * n) (4 * n)).2.2.1 (rndz (tnz fr to at_) (4 * n) (4 * n)).2.2.2 r (f + 1)))) := by
      show (35 :: (((32 :: num (f : Int)) ++ ((32 :: num _) ++ bhL _)) ++ [10])) ++ _ = _
      simp only [List.append_assoc, List.cons_append, List.nil_append]
    rw [e2, mm_app [35], mm_app (32 :: num (f : Int)), mm_app (32 :: num (deedS fr to at_ _ _)), mm_app (_ ++ [10])]
theorem M_faces (fl : Nat) (hfl : 2000 ≤ fl) (hn : n ≤ 20) (h : EdgA n sg lb nm fr to at_) (hl : ∀ q, q < 4 * n → 1 ≤ lb q ∧ lb q ≤ 9999) {fd : Nat → Int} (hT : rArr (rndz (tnz fr to at_) (4 * n) (4 * n)) fd) (s : Int × (Nat → Int)) (hs : 0 ≤ s.1 ∧ s.1 ≤ 100) :
    LM_Md_listFaces fl (((rndz (tnz fr to at_) (4 * n) (4 * n)).2.1 : Nat) : Int) fr to fd nm at_ s.1 s.2 = some (mm (facS n nm fr to at_) s) := by
  have F4 := cnt_F h
  have su := rnd_sum (tn_closed h) (4 * n) (Nat.le_refl _)
  have sL := smL_F (rndz (tnz fr to at_) (4 * n) (4 * n)).2.2.2 (rndz (tnz fr to at_) (4 * n) (4 * n)).2.1 0
  have s0 : smF (rndz (tnz fr to at_) (4 * n) (4 * n)).2.2.2 0 = 0 := rfl
  rw [Nat.zero_add] at sL
  have z0 : (mm [35] s).1 = s.1 + 1 := mm_size [35] s
  have z1 := mm_size (32 :: num (((rndz (tnz fr to at_) (4 * n) (4 * n)).2.1 : Nat) : Int)) (mm [35] s)
  have n1 := num_len (((rndz (tnz fr to at_) (4 * n) (4 * n)).2.1 : Nat) : Int)
  rw [List.length_cons] at z1
  have z2 := mm_size [10] (mm (32 :: num (((rndz (tnz fr to at_) (4 * n) (4 * n)).2.1 : Nat) : Int)) (mm [35] s))
  have z3 : ([10] : List Int).length = 1 := rfl
  have p := lf23 fl hfl hn h hl hT (rndz (tnz fr to at_) (4 * n) (4 * n)).2.1 fl 0 (mm [10] (mm (32 :: num (((rndz (tnz fr to at_) (4 * n) (4 * n)).2.1 : Nat) : Int)) (mm [35] s))) (by omega) (by omega) (by omega) (by omega)
  rw [show ((0 : Nat) : Int) = 0 from rfl] at p
  unfold LM_Md_listFaces LB_Md_listFaces_0
  rw [M_say fl 35 s (by omega) (by decide), Option.bind_some, M_behind fl (by omega) _ (na_lt (by omega)) (mm [35] s) (by omega), Option.bind_some, M_say fl 10 _ (by omega) (by decide), Option.bind_some, p]
  unfold facS
  rw [mm_app, mm_hs]
  simp only [mm_bh, mm_bh0]
end
theorem C_faces (fl : Nat) (hfl : 2000 ≤ fl) {d : Dg} (h : okD d) {n ci : Int} {A S : Nat → Int} (kn ed cm pc fa br cu : Int) (cO aT fO sZ sT fR kY nM pO sC tO : Nat → Int) (hD : DA d n ci A S) (hK : ShK d (kn, ed, cm, pc, fa, br, cu, cO, aT, fO, sZ, sT, fR, kY, nM, pO, sC, tO)) (s : Pap) (hp : pok s) (di : Nat → Int) :
    ∃ o pa di', LM_En_printFaces fl n A S kn ed cm pc fa br cu cO aT fO sZ sT fR kY nM pO sC tO s.1 s.2.1 s.2.2 di = some (o.1, o.2.1, o.2.2.1, o.2.2.2.1, o.2.2.2.2.1, o.2.2.2.2.2.1, o.2.2.2.2.2.2.1, o.2.2.2.2.2.2.2.1, o.2.2.2.2.2.2.2.2.1, o.2.2.2.2.2.2.2.2.2.1, o.2.2.2.2.2.2.2.2.2.2.1, o.2.2.2.2.2.2.2.2.2.2.2.1, o.2.2.2.2.2.2.2.2.2.2.2.2.1, o.2.2.2.2.2.2.2.2.2.2.2.2.2.1, o.2.2.2.2.2.2.2.2.2.2.2.2.2.2.1, o.2.2.2.2.2.2.2.2.2.2.2.2.2.2.2.1, o.2.2.2.2.2.2.2.2.2.2.2.2.2.2.2.2.1, o.2.2.2.2.2.2.2.2.2.2.2.2.2.2.2.2.2, pa.1, pa.2.1, pa.2.2, di') ∧ pa = pp (facS d.1 o.2.2.2.2.2.2.2.2.2.2.2.2.2.2.1 o.2.2.2.2.2.2.2.2.2.2.2.2.1 o.2.2.2.2.2.2.2.2.2.2.2.2.2.2.2.2.2 o.2.2.2.2.2.2.2.2.1) s ∧ ShO d o := by
  obtain ⟨o, s1, s2⟩ := C_shape fl (by omega) h n A S kn ed cm pc fa br cu cO aT fO sZ sT fR kY nM pO sC tO hD hK
  obtain ⟨k1, k2, k3, k4, k5, k6, k7, k8, k9, k10, k11⟩ := s2
  have F4 := cnt_F k3
  have hn := h.1
  have t34 : lit 34 = [35] := by decide
  obtain ⟨d1, p1⟩ := P_spaced fl (by omega) o.2.2.2.2.1 (na_lt (by omega)) (pp [35] s) (pok_pp _ _ hp) di
  obtain ⟨d2, p2⟩ := pf39 fl hfl hn k3 h.2.2.2.1 n A S (kn := o.1) (ed := o.2.1) (cm := o.2.2.1) (pc := o.2.2.2.1) (br := o.2.2.2.2.2.1) (cu := o.2.2.2.2.2.2.1) (cO := o.2.2.2.2.2.2.2.1) (fO := o.2.2.2.2.2.2.2.2.2.1) (kY := o.2.2.2.2.2.2.2.2.2.2.2.2.2.1) (pO := o.2.2.2.2.2.2.2.2.2.2.2.2.2.2.2.1) (sC := o.2.2.2.2.2.2.2.2.2.2.2.2.2.2.2.2.1) k6 k9 k10 _ fl 0 (pp [10] (pp (32 :: num o.2.2.2.2.1) (pp [35] s))) d1 (Nat.zero_add _) (by omega) (pok_pp _ _ (pok_pp _ _ (pok_pp _ _ hp)))
  rw [show ((0 : Nat) : Int) = 0 from rfl] at p2
  unfold LM_En_printFaces LB_En_printFaces_0
  rw [s1, Option.bind_some, P_text fl hfl (by decide) s hp, Option.bind_some, t34, p1, Option.bind_some]
  dsimp only
  rw [P_end fl _ (pok_pp _ _ (pok_pp _ _ hp)), Option.bind_some]
  rw [p2]
  refine ⟨o, _, d2, rfl, ?_, ⟨k1, k2, k3, k4, k5, k6, k7, k8, k9, k10, k11⟩⟩
  unfold facS
  rw [pp_app, pp_hs, ← k6]
  simp only [pp_bh, pp_bh0]
