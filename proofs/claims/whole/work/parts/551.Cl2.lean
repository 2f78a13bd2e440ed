theorem Opn_step {N k : Nat} {T : Nat → Int} {d : Dg} (h : Opn N k T d) {i : Nat} (hi : i + 1 < N) (x : Int) :
    Opn N (k + 1) (up (up T i ((N + 2 * k + 1 : Nat) : Int)) (i + 1) ((N + 2 * k + 2 : Nat) : Int))
      (if x ≤ 0 then crD (-1) (T (i + 1)) ((N + 2 * k + 1 : Nat) : Int) (T i) ((N + 2 * k + 2 : Nat) : Int) d else crD 1 (T i) ((N + 2 * k + 2 : Nat) : Int) (T (i + 1)) ((N + 2 * k + 1 : Nat) : Int) d) := by
  obtain ⟨o1, o2, o3, o4, o5, o6, o7, o8⟩ := h
  have key : ∀ (s : Int) (Li Ri oa ob : Nat) (lb' : Nat → Int), (s = 1 ∨ s = -1) → (∀ q, q < 4 * k → lb' q = d.2.2.1 q) → outQ (up d.2.2.2 k s) Li = false → outQ (up d.2.2.2 k s) Ri = false → outQ (up d.2.2.2 k s) oa = true → outQ (up d.2.2.2 k s) ob = true → 4 * k ≤ Li → 4 * k ≤ Ri → 4 * k ≤ oa → 4 * k ≤ ob → Li ≠ Ri → oa ≠ ob → (∀ q, q < 4 * (k + 1) ↔ (q < 4 * k ∨ q = Li ∨ q = oa) ∨ q = Ri ∨ q = ob) →
      lb' Li = T i → lb' oa = ((N + 2 * k + 1 : Nat) : Int) → lb' Ri = T (i + 1) → lb' ob = ((N + 2 * k + 2 : Nat) : Int) → Opn N (k + 1) (up (up T i ((N + 2 * k + 1 : Nat) : Int)) (i + 1) ((N + 2 * k + 2 : Nat) : Int)) (k + 1, d.2.1, lb', up d.2.2.2 k s) := by
    intro s Li Ri oa ob lb' hs l0 oLi oRi ooa oob gLi gRi goa gob dLR dab all v1 v2 v3 v4
    have nio : ∀ {i o : Nat}, outQ (up d.2.2.2 k s) i = false → outQ (up d.2.2.2 k s) o = true → i ≠ o := fun a b w => by rw [w, b] at a; cases a
    have ou : ∀ q, q < 4 * k → outQ (up d.2.2.2 k s) q = outQ d.2.2.2 q := fun q hq => out_up hq _ _
    have A := Opn_st (N := N) (S := fun q => q < 4 * k) (sg := up d.2.2.2 k s) (lb := d.2.2.1) (T := T) (top := ((N + 2 * k : Nat) : Int)) (top' := ((N + 2 * k + 1 : Nat) : Int)) o2 (by omega) (by omega) (fun q hq => (o4 q hq).2) (fun q p hq hp hne hl => by rw [ou q hq]; exact o5 q p hq hp hne hl) o7 (WFS_eq o8 (fun q => Iff.rfl) (fun _ _ => rfl) ou) (fun q p hq hp hl => by rw [ou q hq]; exact o6 q p hq hp hl) (i := i) (x := Li) (y := oa) (by omega) (by show ¬ Li < 4 * k; omega) (by show ¬ oa < 4 * k; omega) (nio oLi ooa) oLi ooa (lb' := lb') v1 v2 l0
    obtain ⟨a1, a2, a3, a4, a5⟩ := A
    have ti : up T i ((N + 2 * k + 1 : Nat) : Int) (i + 1) = T (i + 1) := up_ne _ _ (by omega)
    have lab : ∀ q, (q < 4 * k ∨ q = Li ∨ q = oa) → 1 ≤ lb' q ∧ lb' q ≤ ((N + 2 * k + 1 : Nat) : Int) := fun q hq => by
      rcases hq with hq | hq | hq
      · rw [l0 q hq]; have := o4 q hq; omega
      · rw [hq, v1]; rcases o2.1 i (by omega) with w | w <;> omega
      · rw [hq, v2]; omega
    have B := Opn_st (N := N) (S := fun q => q < 4 * k ∨ q = Li ∨ q = oa) (sg := up d.2.2.2 k s) (lb := lb') (T := up T i ((N + 2 * k + 1 : Nat) : Int)) (top := ((N + 2 * k + 1 : Nat) : Int)) (top' := ((N + 2 * k + 2 : Nat) : Int)) a1 (by omega) (by omega) (fun q hq => (lab q hq).2) a2 a4 a5 a3 (i := i + 1) (x := Ri) (y := ob) hi (fun w => by
        rcases w with w | w | w
        · omega
        · exact dLR w.symm
        · exact nio oRi ooa w) (fun w => by
        rcases w with w | w | w
        · omega
        · exact nio oLi oob w.symm
        · exact dab w.symm) (nio oRi oob) oRi oob (lb' := lb') (by rw [ti]; exact v3) v4 (fun _ _ => rfl)
    obtain ⟨b1, b2, b3, b4, b5⟩ := B
    refine ⟨rfl, b1, sgn_cr o3 hs, fun q hq => ?_, fun q p hq => b2 q p ((all q).1 hq), fun q p hq => b3 q p ((all q).1 hq), fun p hp hne => ?_, WFS_eq b5 all (fun _ _ => rfl) (fun _ _ => rfl)⟩
    · show 1 ≤ lb' q ∧ lb' q ≤ _
      rcases (all q).1 hq with w | w | w
      · have := lab q w; omega
      · rw [w, v3]; rcases o2.1 (i + 1) hi with z | z <;> omega
      · rw [w, v4]; omega
    · obtain ⟨q, q1, q2⟩ := b4 p hp hne
      exact ⟨q, (all q).2 q1, q2⟩
  by_cases c : x ≤ 0
  · rw [if_pos c]
    unfold crD
    rw [o1]
    obtain ⟨n0, n2, nI, nO⟩ := out_new k d.2.2.2 (s := -1) (Or.inr rfl)
    obtain ⟨c1, c2, c3, c4, c5⟩ := crL4_v k (-1) (T (i + 1)) ((N + 2 * k + 1 : Nat) : Int) (T i) ((N + 2 * k + 2 : Nat) : Int) d.2.2.1
    rw [if_pos (by decide)] at nI nO c3 c4
    exact key (-1) (4 * k + 1) (4 * k) (4 * k + 2) (4 * k + 3) _ (Or.inr rfl) c5 nI n0 n2 nO (by omega) (by omega) (by omega) (by omega) (by omega) (by omega) (fun q => by omega) c3 c2 c1 c4
  · rw [if_neg c]
    unfold crD
    rw [o1]
    obtain ⟨n0, n2, nI, nO⟩ := out_new k d.2.2.2 (s := 1) (Or.inl rfl)
    obtain ⟨c1, c2, c3, c4, c5⟩ := crL4_v k 1 (T i) ((N + 2 * k + 2 : Nat) : Int) (T (i + 1)) ((N + 2 * k + 1 : Nat) : Int) d.2.2.1
    rw [if_neg (by decide)] at nI nO c3 c4
    exact key 1 (4 * k) (4 * k + 3) (4 * k + 1) (4 * k + 2) _ (Or.inl rfl) c5 n0 nI nO n2 (by omega) (by omega) (by omega) (by omega) (by omega) (by omega) (fun q => by omega) c1 c4 c3 c2
theorem Opn_clT {N m : Nat} {X : Nat → Int} (h : Wrd N m X) : ∀ k, k ≤ m → Opn N k (clT N X k).1 (clT N X k).2 := by
  intro k
  induction k with
  | zero =>
    intro _
    refine ⟨rfl, ⟨fun p _ => Or.inl rfl, fun p r _ _ w => ?_⟩, fun c hc => by omega, fun q hq => by omega, fun q p hq => by omega, fun q p hq => by omega, fun p _ hne => absurd rfl hne, fun q hq => ?_⟩
    · have w : ((p + 1 : Nat) : Int) = ((r + 1 : Nat) : Int) := w
      omega
    · have hq : q < 4 * 0 := hq
      omega
  | succ k ih =>
    intro hk
    have hX := h.2.2.2 k (by omega)
    rw [clT_s]
    exact Opn_step (ih (by omega)) (by unfold clI; omega) (X k)
theorem okD_cl {N m : Nat} {X : Nat → Int} (h : Wrd N m X) : okD (clD N m X) := by
  obtain ⟨o1, o2, o3, o4, o5, o6, o7, o8⟩ := Opn_clT h m (Nat.le_refl _)
  have u := unt_b (clT N X m).1 N
  have := h.2.1
  refine ⟨h.2.2.1, by show 0 ≤ unt (clT N X m).1 N ∧ unt (clT N X m).1 N ≤ 20; omega, o3, fun q hq => ?_, o8⟩
  have hq : q < 4 * m := hq
  have l := o4 q hq
  have m20 := h.2.2.1
  show 1 ≤ sr (clT N X m).1 N ((clT N X m).2.2.2.1 q) ∧ sr (clT N X m).1 N ((clT N X m).2.2.2.1 q) ≤ 9999
  by_cases z : (clT N X m).2.2.2.1 q ≤ (N : Int)
  · rw [sr_low o2 z N (Nat.le_refl _)]; omega
  · by_cases z2 : ∃ p, p < N ∧ (clT N X m).1 p = (clT N X m).2.2.2.1 q
    · obtain ⟨p, p1, p2⟩ := z2
      rw [← p2, sr_top o2 p1 N p1 (Nat.le_refl _)]; omega
    · rw [sr_no N (fun r hr z3 => z2 ⟨r, hr, z3⟩)]; omega
/-- the class's closure -/
theorem cc146 (fl : Nat) (hfl : 200 ≤ fl) {N : Nat} (hN : N ≤ 8) (le : Int) (X : Nat → Int) {m : Nat} (hm : m ≤ 20) (T lb S : Nat → Int) (en : Nat → Int) (hen : ∀ p, p < N → en p = T p) :
    ∀ (r nn p : Nat) (ci kn : Int) (A : Nat → Int), p + r = N → r < nn → ci = unt T p → like (4 * m) A (fun q => sr T p (lb q)) →
    ∃ kn' A', LB_Br_close_146 fl (N : Int) le X nn (p : Int) en (m : Int) ci kn A S = some (en, (m : Int), unt T N, kn', A', S) ∧ like (4 * m) A' (fun q => sr T N (lb q)) ∧ (kn' = kn ∨ kn' = 0) := by
  intro r
  induction r with
  | zero =>
    intro nn p ci kn A hr hnn hc hA
    obtain ⟨nn, rfl⟩ : ∃ r, nn = r + 1 := ⟨nn - 1, by omega⟩
    have : p = N := by omega
    subst this
    rw [LB_Br_close_146, if_pos (by omega), hc]
    exact ⟨kn, A, rfl, hA, Or.inl rfl⟩
  | succ r ih =>
    intro nn p ci kn A hr hnn hc hA
    obtain ⟨nn, rfl⟩ : ∃ r, nn = r + 1 := ⟨nn - 1, by omega⟩
    have u := unt_b T p
    rw [LB_Br_close_146, if_neg (by omega), if_pos (by omega), if_pos (by omega), Int.toNat_natCast, hen p (by omega)]
    by_cases w : T p = (p : Int) + 1
    · rw [if_neg (fun z => z w), if_pos (by omega)]
      unfold LB_Br_close_192
      rw [if_pos (by omega), show ((p : Int) + 1) = ((p + 1 : Nat) : Int) by omega]
      refine ih nn (p + 1) (ci + 1) kn A (by omega) (by omega) (by rw [unt_s, if_pos (by omega), hc]) (fun q hq => ?_)
      rw [hA q hq]
      show sr T p (lb q) = sr T (p + 1) (lb q)
      rw [sr_s]
      split <;> omega
    · rw [if_pos w]
      obtain ⟨A1, g1, g2⟩ := C_rename fl hfl hm (T p) ((p : Int) + 1) kn A
      rw [g1, Option.bind_some]
      unfold LB_Br_close_192
      dsimp only
      rw [if_pos (by omega), show ((p : Int) + 1) = ((p + 1 : Nat) : Int) by omega]
      obtain ⟨kn', A', f1, f2, f3⟩ := ih nn (p + 1) ci 0 A1 (by omega) (by omega) (by rw [unt_s, if_neg (by omega), hc]; omega) (fun q hq => by
        rw [g2 q hq]
        show (if A q = T p then _ else A q) = sr T (p + 1) (lb q)
        rw [hA q hq, sr_s]
        dsimp only
        split <;> first | rfl | omega)
      exact ⟨kn', A', f1, f2, by rcases f3 with z | z <;> exact Or.inr z⟩
