/-- the polynomial asked -/
def PolOf (k : Nat) (d : Dg) (fr to at_ : Nat → Int) (c : Int → Int) : Prop :=
  (k = 16 ∧ c = brP d.1 (mu0 d.2.2.2 fr to at_) d.2.1.toNat) ∨ (k = 17 ∧ c = jnP (brP d.1 (mu0 d.2.2.2 fr to at_) d.2.1.toNat) (sgs d.2.2.2 d.1)) ∨ (k = 18 ∧ NormOf (basP d fr to at_) c)
def yesL : List Int := ansL 78
/-- what BRACKET, JONES, ALEXANDER say -/
def MeR (k m : Nat) (nuv : Nat → Int) (d : Dg) (L : List Int) : Prop :=
  ((9 < d.2.1 ∨ 10 < d.1) ∧ L = ansL 74) ∨ ((d.2.1 ≤ 9 ∧ d.1 ≤ 10) ∧ ∃ nm fr to at_ c, EdgA d.1 d.2.2.2 d.2.2.1 nm fr to at_ ∧ PolOf k d fr to at_ c ∧ (m = 0 ∧ L = poW k c ∨ m ≠ 0 ∧ ∃ p, m = 2 * p ∧ (smOK c p nuv ∧ L = yesL ∨ ¬ smOK c p nuv ∧ L = noL)))
section
variable {d : Dg} {nm fr to at_ : Nat → Int}
theorem br_out (hE : EdgA d.1 d.2.2.2 d.2.2.1 nm fr to at_) (hn : d.1 ≤ 10) {ci : Nat} (hc : ci ≤ 9) {e : Int} (he : e < -80 ∨ 80 < e) : brP d.1 (mu0 d.2.2.2 fr to at_) ci e = 0 := by
  obtain ⟨_, _, _, te, _, hp⟩ := C_bracket 2000 (Nat.le_refl _) hn hE hc 0 (fun _ => 0) (fun _ => 0) 0 0 (fun _ => 0)
  rw [hp.2.2.2 e, if_neg (by omega)]
end
abbrev MeT := Int × (Nat → Int) × (Nat → Int) × Int × Int × Int × Int × Int × Int × Int × (Nat → Int) × (Nat → Int) × (Nat → Int) × (Nat → Int) × (Nat → Int) × (Nat → Int) × (Nat → Int) × (Nat → Int) × (Nat → Int) × (Nat → Int) × (Nat → Int) × (Nat → Int) × Int × Int × (Nat → Int) × (Nat → Int) × Int × Int × (Nat → Int) × Int × (Nat → Int) × (Nat → Int)
theorem C_measure (fl : Nat) (hfl : 2000 ≤ fl) {d : Dg} (h : okD d) {k m : Nat} {nuv : Nat → Int} (hk : k = 16 ∨ k = 17 ∨ k = 18) (ha : Arg k m nuv) {cnt dn : Int} {st vl : Nat → Int} (hL : LnC cnt dn st vl m nuv) {n ci : Int} {A S : Nat → Int} (kn ed cm pc fa br cu : Int) (cO aT fO sZ sT fR kY nM pO sC tO : Nat → Int) (aO : Nat → Int) (hD : DA d n ci A S) (hK : ShK d (kn, ed, cm, pc, fa, br, cu, cO, aT, fO, sZ, sT, fR, kY, nM, pO, sC, tO)) (s : Pap) (hs : pok s) (di : Nat → Int) (od : Int) (rc su : Nat → Int) (ra si : Int) (te : Nat → Int) (cr : Int) (mt sm_ : Nat → Int) :
    ∃ (o : MeT) (L : List Int), LM_En_measure fl n ci A S cnt dn st vl (k : Int) od rc su kn ed cm pc fa br cu aO cO aT fO sZ sT fR kY nM pO sC tO s.1 s.2.1 s.2.2 di ra si te cr mt sm_ = some o ∧ MeR k m nuv d L ∧ (o.2.2.2.2.2.2.2.2.2.2.2.2.2.2.2.2.2.2.2.2.2.2.1, o.2.2.2.2.2.2.2.2.2.2.2.2.2.2.2.2.2.2.2.2.2.2.2.1, o.2.2.2.2.2.2.2.2.2.2.2.2.2.2.2.2.2.2.2.2.2.2.2.2.1) = pp L s ∧ ShK d (o.2.2.2.1, o.2.2.2.2.1, o.2.2.2.2.2.1, o.2.2.2.2.2.2.1, o.2.2.2.2.2.2.2.1, o.2.2.2.2.2.2.2.2.1, o.2.2.2.2.2.2.2.2.2.1, o.2.2.2.2.2.2.2.2.2.2.2.1, o.2.2.2.2.2.2.2.2.2.2.2.2.1, o.2.2.2.2.2.2.2.2.2.2.2.2.2.1, o.2.2.2.2.2.2.2.2.2.2.2.2.2.2.1, o.2.2.2.2.2.2.2.2.2.2.2.2.2.2.2.1, o.2.2.2.2.2.2.2.2.2.2.2.2.2.2.2.2.1, o.2.2.2.2.2.2.2.2.2.2.2.2.2.2.2.2.2.1, o.2.2.2.2.2.2.2.2.2.2.2.2.2.2.2.2.2.2.1, o.2.2.2.2.2.2.2.2.2.2.2.2.2.2.2.2.2.2.2.1, o.2.2.2.2.2.2.2.2.2.2.2.2.2.2.2.2.2.2.2.2.1, o.2.2.2.2.2.2.2.2.2.2.2.2.2.2.2.2.2.2.2.2.2.1) := by
  obtain ⟨p, pm, pb⟩ := ha.2.2.2.2.2.1 hk
  have p64 := pb.1
  have hD0 := hD
  obtain ⟨e1, e2, hA, hS⟩ := hD
  have hci := h.2.1
  have many : ∀ (g : Prop), (9 < d.2.1 ∨ 10 < d.1) → ∃ (o : MeT) (L : List Int), LB_En_measure_24 fl n ci A S cnt dn st vl (k : Int) od rc su kn ed cm pc fa br cu aO cO aT fO sZ sT fR kY nM pO sC tO s.1 s.2.1 s.2.2 di ra si te cr mt sm_ = some o ∧ MeR k m nuv d L ∧ (o.2.2.2.2.2.2.2.2.2.2.2.2.2.2.2.2.2.2.2.2.2.2.1, o.2.2.2.2.2.2.2.2.2.2.2.2.2.2.2.2.2.2.2.2.2.2.2.1, o.2.2.2.2.2.2.2.2.2.2.2.2.2.2.2.2.2.2.2.2.2.2.2.2.1) = pp L s ∧ ShK d (o.2.2.2.1, o.2.2.2.2.1, o.2.2.2.2.2.1, o.2.2.2.2.2.2.1, o.2.2.2.2.2.2.2.1, o.2.2.2.2.2.2.2.2.1, o.2.2.2.2.2.2.2.2.2.1, o.2.2.2.2.2.2.2.2.2.2.2.1, o.2.2.2.2.2.2.2.2.2.2.2.2.1, o.2.2.2.2.2.2.2.2.2.2.2.2.2.1, o.2.2.2.2.2.2.2.2.2.2.2.2.2.2.1, o.2.2.2.2.2.2.2.2.2.2.2.2.2.2.2.1, o.2.2.2.2.2.2.2.2.2.2.2.2.2.2.2.2.1, o.2.2.2.2.2.2.2.2.2.2.2.2.2.2.2.2.2.1, o.2.2.2.2.2.2.2.2.2.2.2.2.2.2.2.2.2.2.1, o.2.2.2.2.2.2.2.2.2.2.2.2.2.2.2.2.2.2.2.1, o.2.2.2.2.2.2.2.2.2.2.2.2.2.2.2.2.2.2.2.2.1, o.2.2.2.2.2.2.2.2.2.2.2.2.2.2.2.2.2.2.2.2.2.1) := fun _ w => by
    have e35 : ansL 35 = ansL 74 := by decide
    unfold LB_En_measure_24
    rw [P_answer fl hfl (by decide) s hs, Option.bind_some, e35]
    exact ⟨_, ansL 74, rfl, Or.inl ⟨w, rfl⟩, rfl, hK⟩
  unfold LM_En_measure LB_En_measure_0
  by_cases c1 : 9 < ci
  · rw [if_pos c1]; exact many True (Or.inl (by omega))
  · rw [if_neg c1]
    by_cases c2 : n ≤ 10
    · rw [if_pos c2]
      obtain ⟨⟨kn', ed', cm', pc', fa', br', cu', cO', aT', fO', sZ', sT', fR', kY', nM', pO', sC', tO'⟩, s1, s2⟩ := C_shape fl (by omega) h n A S kn ed cm pc fa br cu cO aT fO sZ sT fR kY nM pO sC tO hD0 hK
      have s3 := s2
      obtain ⟨k1, k2, k3, k4, k5, k6, k7, k8, k9, k10, k11⟩ := s2
      dsimp only at k1 k2 k3 k4 k5 k6 k7 k8 k9 k10 k11
      rw [s1, Option.bind_some]
      dsimp only
      have h10 : d.1 ≤ 10 := by omega
      have h9 : d.2.1.toNat ≤ 9 := by omega
      have ecc : ci = ((d.2.1.toNat : Nat) : Int) := by omega
      have m105 : ∀ (od : Int) (rc su aO : Nat → Int) (ra si : Int) (te : Nat → Int) (cr : Int) (mt sm_ : Nat → Int) (c : Int → Int), PolC ra si te c → PolOf k d fR' tO' aT' c → ∃ (o : MeT) (L : List Int), LB_En_measure_105 fl n ci A S cnt dn st vl (k : Int) od rc su kn' ed' cm' pc' fa' br' cu' aO cO' aT' fO' sZ' sT' fR' kY' nM' pO' sC' tO' s.1 s.2.1 s.2.2 di ra si te cr mt sm_ = some o ∧ MeR k m nuv d L ∧ (o.2.2.2.2.2.2.2.2.2.2.2.2.2.2.2.2.2.2.2.2.2.2.1, o.2.2.2.2.2.2.2.2.2.2.2.2.2.2.2.2.2.2.2.2.2.2.2.1, o.2.2.2.2.2.2.2.2.2.2.2.2.2.2.2.2.2.2.2.2.2.2.2.2.1) = pp L s ∧ ShK d (o.2.2.2.1, o.2.2.2.2.1, o.2.2.2.2.2.1, o.2.2.2.2.2.2.1, o.2.2.2.2.2.2.2.1, o.2.2.2.2.2.2.2.2.1, o.2.2.2.2.2.2.2.2.2.1, o.2.2.2.2.2.2.2.2.2.2.2.1, o.2.2.2.2.2.2.2.2.2.2.2.2.1, o.2.2.2.2.2.2.2.2.2.2.2.2.2.1, o.2.2.2.2.2.2.2.2.2.2.2.2.2.2.1, o.2.2.2.2.2.2.2.2.2.2.2.2.2.2.2.1, o.2.2.2.2.2.2.2.2.2.2.2.2.2.2.2.2.1, o.2.2.2.2.2.2.2.2.2.2.2.2.2.2.2.2.2.1, o.2.2.2.2.2.2.2.2.2.2.2.2.2.2.2.2.2.2.1, o.2.2.2.2.2.2.2.2.2.2.2.2.2.2.2.2.2.2.2.1, o.2.2.2.2.2.2.2.2.2.2.2.2.2.2.2.2.2.2.2.2.1, o.2.2.2.2.2.2.2.2.2.2.2.2.2.2.2.2.2.2.2.2.2.1) := fun od rc su aO ra si te cr mt sm_ c hc hpo => by
        have me : ∀ L, (m = 0 ∧ L = poW k c ∨ m ≠ 0 ∧ ∃ p, m = 2 * p ∧ (smOK c p nuv ∧ L = yesL ∨ ¬ smOK c p nuv ∧ L = noL)) → MeR k m nuv d L := fun L w => Or.inr ⟨⟨by omega, h10⟩, nM', fR', tO', aT', c, k3, hpo, w⟩
        unfold LB_En_measure_105 LB_En_measure_156
        rw [C_nums fl hL, Option.bind_some]
        by_cases c3 : m = 0
        · rw [if_neg (by omega)]
          obtain ⟨d1, p1⟩ := P_poly fl hfl hc (k := k) (by omega) s hs di
          rw [p1, Option.bind_some]
          exact ⟨_, _, rfl, me _ (Or.inl ⟨c3, rfl⟩), rfl, Or.inr s3⟩
        · rw [if_pos (by omega)]
          have hL2 := hL
          rw [pm] at hL2
          rcases C_isSum fl hfl hL2 pb hc with ⟨g1, g2⟩ | ⟨g1, g2⟩
          · have e41 : ansL 41 = yesL := by decide
            rw [g2, Option.bind_some, if_neg (by decide), P_answer fl hfl (by decide) s hs, Option.bind_some, e41]
            exact ⟨_, _, rfl, me _ (Or.inr ⟨c3, p, pm, Or.inl ⟨g1, rfl⟩⟩), rfl, Or.inr s3⟩
          · have e28 : ansL 28 = noL := by decide
            rw [g2, Option.bind_some, if_pos rfl, P_answer fl hfl (by decide) s hs, Option.bind_some, e28]
            exact ⟨_, _, rfl, me _ (Or.inr ⟨c3, p, pm, Or.inr ⟨g1, rfl⟩⟩), rfl, Or.inr s3⟩
      rcases hk with w | w | w
      · obtain ⟨cr', mt', st', te', b1, b2⟩ := C_bracket fl hfl h10 k3 h9 cr mt sm_ ra si te
        rw [← e1, ← ecc] at b1
        rw [if_pos (by omega), b1, Option.bind_some, if_pos (by omega)]
        exact m105 od rc su aO 0 1 te' cr' mt' st' _ b2 (Or.inl ⟨w, rfl⟩)
      · obtain ⟨cr', mt', st', te', b1, b2⟩ := C_bracket fl hfl h10 k3 h9 cr mt sm_ ra si te
        rw [← e1, ← ecc] at b1
        have sg1 := (CM_signs fl (by omega) h.1 (S := S) (fun c hc => by rw [hS c hc]; exact h.2.2.1 c hc)).1
        rw [← e1, sgs_like d.1 hS] at sg1
        have gB := sgs_b d.1 h.2.2.1
        obtain ⟨ra', si', f1, f2⟩ := C_frame fl b2 (w := sgs d.2.2.2 d.1) (by omega)
        rw [if_pos (by omega), b1, Option.bind_some, if_neg (by omega), sg1, Option.bind_some, if_pos (by omega), f1, Option.bind_some]
        exact m105 od rc su aO ra' si' te' cr' mt' st' _ f2 (Or.inr (Or.inl ⟨w, rfl⟩))
      · obtain ⟨od', rc', su', ar', ra', si', te', c, a1, a2, a3⟩ := C_alex fl hfl h k3 h10 (by omega) hS od rc su aO ra si te
        rw [← e1, ← e2, ← k2] at a1
        rw [if_neg (by omega), a1, Option.bind_some]
        exact m105 od' rc' su' ar' ra' si' te' cr mt sm_ c a2 (Or.inr (Or.inr ⟨w, a3⟩))
    · rw [if_neg c2]; exact many True (Or.inr (by omega))
theorem M_measure (fl : Nat) (hfl : 20000000 ≤ fl) {d : Dg} (h : okD d) (hJ : Jd d) {k m : Nat} {nuv : Nat → Int} (hk : k = 16 ∨ k = 17 ∨ k = 18) (ha : Arg k m nuv) {nx_ : Int} {bg nu : Nat → Int} (hL : LnM nx_ bg nu m nuv) {n ci : Int} {A S : Nat → Int} (hD : DA d n ci A S) {sv : SvT} (hv : SvM d sv) {L : List Int} (hm : MeR k m nuv d L) {s : Int × (Nat → Int)} (hs : s.1 = 0) (arcs : Int) (ar g hi lo mi on ot po rt wy : Nat → Int) :
    ∃ o : Int × Int × (Nat → Int) × (Nat → Int) × (Nat → Int) × (Nat → Int) × (Nat → Int) × (Nat → Int) × (Nat → Int) × (Nat → Int) × (Nat → Int) × (Nat → Int) × (Nat → Int), LM_Md_measure fl nx_ sv.1 sv.2.2.2.2.1 bg n ci S sv.2.2.2.2.2.2.2.1 sv.2.2.2.2.2.2.2.2.2.1 nu sv.2.2.2.2.2.2.2.2.2.2.2.2 (k : Int) s.1 arcs ar g hi lo s.2 mi on ot po rt wy = some o ∧ (o.1, o.2.2.2.2.2.2.1) = mm L s := by
  obtain ⟨p, pm, pb⟩ := ha.2.2.2.2.2.1 hk
  have p64 := pb.1
  obtain ⟨e1, e2, hA, hS⟩ := hD
  have hci := h.2.1
  obtain ⟨v1, v2, v3, v4, v5, v6, v7, v8, v9, v10⟩ := hv
  unfold LM_Md_measure LB_Md_measure_0
  rcases hm with ⟨c, e⟩ | ⟨⟨c1, c2⟩, nm, fr, to, at_, c, hE, hpo, w⟩
  · have key : ∃ o : Int × Int × (Nat → Int) × (Nat → Int) × (Nat → Int) × (Nat → Int) × (Nat → Int) × (Nat → Int) × (Nat → Int) × (Nat → Int) × (Nat → Int) × (Nat → Int) × (Nat → Int), LB_Md_measure_24 fl nx_ sv.1 sv.2.2.2.2.1 bg n ci S sv.2.2.2.2.2.2.2.1 sv.2.2.2.2.2.2.2.2.2.1 nu sv.2.2.2.2.2.2.2.2.2.2.2.2 (k : Int) s.1 arcs ar g hi lo s.2 mi on ot po rt wy = some o ∧ (o.1, o.2.2.2.2.2.2.1) = mm L s := by
      unfold LB_Md_measure_24
      rw [M_answer fl (by omega) (by decide) s (by omega), Option.bind_some, e]
      exact ⟨_, rfl, rfl⟩
    by_cases c3 : 9 < ci
    · rw [if_pos c3]; exact key
    · rw [if_neg c3, if_neg (by omega)]; exact key
  · have key : ∀ (arcs : Int) (ar g hi lo mi on ot po rt wy : Nat → Int), PolM po c → ∃ o : Int × Int × (Nat → Int) × (Nat → Int) × (Nat → Int) × (Nat → Int) × (Nat → Int) × (Nat → Int) × (Nat → Int) × (Nat → Int) × (Nat → Int) × (Nat → Int) × (Nat → Int), LB_Md_measure_62 fl nx_ sv.1 sv.2.2.2.2.1 bg n ci S sv.2.2.2.2.2.2.2.1 sv.2.2.2.2.2.2.2.2.2.1 nu sv.2.2.2.2.2.2.2.2.2.2.2.2 (k : Int) s.1 arcs ar g hi lo s.2 mi on ot po rt wy = some o ∧ (o.1, o.2.2.2.2.2.2.1) = mm L s := fun arcs ar g hi lo mi on ot po rt wy hc => by
      unfold LB_Md_measure_62 LB_Md_measure_94
      rw [M_many fl hL, Option.bind_some]
      rcases w with ⟨m0, e⟩ | ⟨m0, p', pm', w⟩
      · rw [if_neg (by omega), M_poly fl (by omega) hc (k := k) (by omega) s (by omega), Option.bind_some, e]
        exact ⟨_, rfl, rfl⟩
      · have ep : p' = p := by omega
        rw [ep] at w
        have hL2 := hL
        rw [pm] at hL2
        rw [if_pos (by omega)]
        rcases M_isPoly fl (by omega) hL2 pb hc with ⟨g1, g2⟩ | ⟨g1, g2⟩
        · rw [g2, Option.bind_some, if_neg (by decide), M_answer fl (by omega) (by decide) s (by omega), Option.bind_some]
          rcases w with ⟨_, e⟩ | ⟨w, _⟩
          · rw [e]; exact ⟨_, rfl, rfl⟩
          · exact absurd g1 w
        · rw [g2, Option.bind_some, if_pos rfl, M_answer fl (by omega) (by decide) s (by omega), Option.bind_some]
          rcases w with ⟨w, _⟩ | ⟨_, e⟩
          · exact absurd w g1
          · rw [e]; exact ⟨_, rfl, rfl⟩
    have hpl : ∀ q, q < 4 * d.1 → sv.2.2.2.2.2.2.2.2.2.2.2.2 q = (((at_ q).toNat : Nat) : Int) ∧ (at_ q).toNat < 2 * d.1 := fun q hq => by
      obtain ⟨e, e1, e2, _⟩ := Edg_at hE hq
      rw [(Edg_one hE v2).2 q hq, e2, Int.toNat_natCast]
      exact ⟨rfl, e1⟩
    have ecc : ci = ((d.2.1.toNat : Nat) : Int) := by omega
    rw [if_neg (by omega), if_pos (by omega)]
    rcases hpo with ⟨ek, ec⟩ | ⟨ek, ec⟩ | ⟨ek, ec⟩
    · obtain ⟨po', rt', wy', b1, b2, b3⟩ := M_bracket fl (by omega) c2 (pl := sv.2.2.2.2.2.2.2.2.2.2.2.2) (ed := fun q => (at_ q).toNat) hpl (mu0_Mat hE) (mu0_Cls hE) (ci := d.2.1.toNat) (by omega) po rt wy
      rw [← e1, ← ecc, ← v1] at b1
      rw [if_neg (by omega), b1, Option.bind_some]
      refine key _ _ _ _ _ _ _ _ po' rt' wy' ⟨b3, fun e => ?_⟩
      rw [ec]
      by_cases q : -100 ≤ e ∧ e ≤ 100
      · rw [if_pos q, b2 _ (by omega), show (((e + 100).toNat : Nat) : Int) - 100 = e by omega]
      · rw [if_neg q, br_out hE c2 (by omega) (by omega)]
    · obtain ⟨ot', po', rt', wy', b1, b2⟩ := M_jones fl (by omega) c2 (pl := sv.2.2.2.2.2.2.2.2.2.2.2.2) (ed := fun q => (at_ q).toNat) hpl (mu0_Mat hE) (mu0_Cls hE) (ci := d.2.1.toNat) (by omega) (sgA := S) (fun c hc => by rw [hS c hc]; exact h.2.2.1 c hc) ot po rt wy
      rw [← e1, ← ecc, ← v1] at b1
      rw [sgs_like d.1 hS, ← ec] at b2
      rw [if_pos (by omega), if_neg (by omega), b1, Option.bind_some]
      exact key _ _ _ _ _ _ _ ot' po' rt' wy' b2
    · obtain ⟨arcs', ar', g', hi', lo', mi', on', po', c', b1, b2, b3⟩ := M_alex fl hfl h v2 hJ c2 c1 (sgA := S) (pl := sv.2.2.2.2.2.2.2.2.2.2.2.2) (fo := sv.2.2.2.2.2.2.2.2.2.1) hS (fun q _ => rfl) v6 arcs ar g hi lo mi on po
      rw [← e1, ← e2, ← v1] at b1
      rw [bas_congr hE v2] at b3
      have eq : c' = c := funext (Norm_one b3 ec)
      rw [eq] at b2
      rw [if_pos (by omega), if_pos (by omega), b1, Option.bind_some]
      exact key arcs' ar' g' hi' lo' mi' on' ot po' rt wy b2
