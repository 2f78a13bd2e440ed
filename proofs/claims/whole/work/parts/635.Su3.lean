section
variable {next : Int} {begins numbers nuv : Nat → Int} {p : Nat}
theorem ag28 (fl : Nat) (h : LnM next begins numbers (2 * p) nuv) (hb : trB p nuv) {po : Nat → Int} {c : Int → Int} (hc : PolM po c) (x1 e : Int) (he : -9999 ≤ e ∧ e ≤ 9999) :
    ∀ (d nn i : Nat) (u r : Int), i + d = p → d < nn → (-((i : Int) * 300000000) ≤ u ∧ u ≤ (i : Int) * 300000000) → (0 ≤ r ∧ r ≤ (i : Int) * 4294967296) →
    LB_Md_agrees_28 fl next begins numbers po nn x1 u r e ((2 * i : Nat) : Int) = some (if c e = 4294967296 * u + r + smE nuv e d i then 1 else 0) := by
  have hp := hb.1
  have hcb := M_bnd hc e
  have hmany := M_many fl h
  obtain ⟨K, b, e1, h1, s1, s2, h3, hv⟩ := h
  intro d
  induction d with
  | zero =>
    intro nn i u r hi hnn hu hr
    obtain ⟨nn, rfl⟩ : ∃ r, nn = r + 1 := ⟨nn - 1, by omega⟩
    have j1 : jshr r 32 = r / 4294967296 := jshr32 (by omega)
    have j2 : jand r 4294967295 = r % 4294967296 := jandL (by omega)
    rw [LB_Md_agrees_28, hmany, Option.bind_some, if_pos (by omega), jand32, j1, j2]
    have gd : -9223372036854775808 ≤ u + r / 4294967296 ∧ u + r / 4294967296 < 9223372036854775808 := by omega
    show _ = some (if c e = 4294967296 * u + r + 0 then 1 else 0)
    have fin : ∀ v, v = c e → LB_Md_agrees_158 fl next begins numbers po v x1 (u + r / 4294967296) (r % 4294967296) e ((2 * i : Nat) : Int) = some (if c e = 4294967296 * u + r + 0 then 1 else 0) := fun v hv => by
      unfold LB_Md_agrees_158
      rw [jand32, hv, jshr32 (v := c e) (by omega), jandL (v := c e) (by omega)]
      by_cases c1 : u + r / 4294967296 = c e / 4294967296
      · rw [if_neg (fun g => g c1)]
        by_cases c2 : r % 4294967296 = c e % 4294967296
        · rw [if_neg (fun g => g c2), if_pos (by omega)]
        · rw [if_pos c2, if_neg (by omega)]
      · rw [if_pos c1, if_neg (by omega)]
    unfold LB_Md_agrees_143
    have ec := hc.2 e
    by_cases c1 : e < -100
    · rw [if_neg (by omega)] at ec
      rw [if_pos c1, if_pos gd]; exact fin 0 ec.symm
    · rw [if_neg c1]
      by_cases c2 : e ≤ 100
      · rw [if_pos (by omega)] at ec
        rw [if_pos c2, if_pos (by omega), if_pos (by omega), if_pos gd]
        refine fin _ ?_
        rw [ec, show (100 + e).toNat = (e + 100).toNat by omega]
      · rw [if_neg (by omega)] at ec
        rw [if_neg c2, if_pos gd]; exact fin 0 ec.symm
  | succ d ih =>
    intro nn i u r hi hnn hu hr
    obtain ⟨nn, rfl⟩ : ∃ r, nn = r + 1 := ⟨nn - 1, by omega⟩
    have hbi := hb.2 i (by omega)
    have v0 := hv (2 * i) (by omega)
    have v1 := hv (2 * i + 1) (by omega)
    have j1 : jshr (nuv (2 * i)) 32 = nuv (2 * i) / 4294967296 := jshr32 (by omega)
    have j2 : jand (nuv (2 * i)) 4294967295 = nuv (2 * i) % 4294967296 := jandL (by omega)
    unfold LB_Md_agrees_28
    rw [hmany, Option.bind_some, if_neg (by omega)]
    rw [e1, Int.toNat_natCast, s1, if_pos (by omega), if_pos (by omega), if_pos (by omega), show (((b : Int) + ((2 * i : Nat) : Int)) + 1).toNat = b + (2 * i + 1) by omega, show ((b : Int) + ((2 * i : Nat) : Int)).toNat = b + 2 * i by omega, v0, v1, jand32, j1, j2]
    unfold LB_Md_agrees_103
    rw [show ((2 * i : Nat) : Int) + 2 = ((2 * (i + 1) : Nat) : Int) by omega]
    show _ = some (if c e = 4294967296 * u + r + ((if nuv (2 * i + 1) = e then nuv (2 * i) else 0) + smE nuv e d (i + 1)) then 1 else 0)
    have ih2 := fun u r hu hr => ih nn (i + 1) u r (by omega) (by omega) hu hr
    rw [e1] at ih2
    by_cases c1 : nuv (2 * i + 1) = e
    · rw [if_pos c1, if_pos (by omega), if_pos (by omega), if_pos (by omega), ih2 _ _ (by omega) (by omega), if_pos c1]
      rw [show 4294967296 * (u + nuv (2 * i) / 4294967296) + (r + nuv (2 * i) % 4294967296) + smE nuv e d (i + 1) = 4294967296 * u + r + (nuv (2 * i) + smE nuv e d (i + 1)) by omega]
    · rw [if_neg c1, if_pos (by omega), ih2 _ _ (by omega) (by omega), if_neg c1, Int.zero_add]
theorem M_agrees (fl : Nat) (hfl : 2000 ≤ fl) (h : LnM next begins numbers (2 * p) nuv) (hb : trB p nuv) {po : Nat → Int} {c : Int → Int} (hc : PolM po c) {i : Nat} (hi : i < p) : LM_Md_agrees fl next begins numbers po ((2 * i : Nat) : Int) = some (if c (nuv (2 * i + 1)) = smE nuv (nuv (2 * i + 1)) p 0 then 1 else 0) := by
  have hp := hb.1
  have hbi := hb.2 i hi
  have := ag28 fl h hb hc ((2 * i : Nat) : Int) (nuv (2 * i + 1)) hbi.2 p fl 0 0 0 (by omega) (by omega) (by omega) (by omega)
  unfold LM_Md_agrees LB_Md_agrees_0
  obtain ⟨K, b, e1, h1, s1, s2, h3, hv⟩ := h
  have v1 := hv (2 * i + 1) (by omega)
  rw [e1, Int.toNat_natCast, s1, if_pos (by omega), if_pos (by omega), if_pos (by omega), show (((b : Int) + ((2 * i : Nat) : Int)) + 1).toNat = b + (2 * i + 1) by omega, v1, ← e1]
  rw [show ((2 * 0 : Nat) : Int) = 0 from rfl] at this
  rw [this, show 4294967296 * (0 : Int) + 0 + smE nuv (nuv (2 * i + 1)) p 0 = smE nuv (nuv (2 * i + 1)) p 0 by omega]
theorem ip72 (fl : Nat) (h : LnM next begins numbers (2 * p) nuv) (hb : trB p nuv) (po : Nat → Int) (kb : Int → Int → Option Int) (x1 e : Int) (he : -100 ≤ e ∧ e ≤ 100) :
    ∀ (d nn i : Nat) (x3 : Int), i + d = p → d < nn → (x3 = 0 ∨ x3 = 1) → ∃ R : Int, (R = 0 ∨ R = 1) ∧ (R = 1 ↔ x3 = 1 ∨ ∃ t, i ≤ t ∧ t < p ∧ nuv (2 * t + 1) = e) ∧ LB_Md_isPoly_72 fl next begins numbers po kb nn x1 e x3 ((2 * i : Nat) : Int) = kb R (e + 1) := by
  have hp := hb.1
  have hmany := M_many fl h
  obtain ⟨K, b, e1, h1, s1, s2, h3, hv⟩ := h
  intro d
  induction d with
  | zero =>
    intro nn i x3 hi hnn hx
    obtain ⟨nn, rfl⟩ : ∃ r, nn = r + 1 := ⟨nn - 1, by omega⟩
    rw [LB_Md_isPoly_72, hmany, Option.bind_some, if_pos (by omega), if_pos (by omega)]
    exact ⟨x3, hx, ⟨fun w => Or.inl w, fun w => by
      rcases w with w | ⟨t, t1, t2, _⟩
      · exact w
      · omega⟩, rfl⟩
  | succ d ih =>
    intro nn i x3 hi hnn hx
    obtain ⟨nn, rfl⟩ : ∃ r, nn = r + 1 := ⟨nn - 1, by omega⟩
    have v1 := hv (2 * i + 1) (by omega)
    unfold LB_Md_isPoly_72
    rw [hmany, Option.bind_some, if_neg (by omega), e1, Int.toNat_natCast, s1]
    have gd : -2147483648 ≤ ((2 * (i + 1) : Nat) : Int) ∧ ((2 * (i + 1) : Nat) : Int) < 2147483648 := by omega
    unfold LB_Md_isPoly_110 LB_Md_isPoly_115
    rw [show ((2 * i : Nat) : Int) + 2 = ((2 * (i + 1) : Nat) : Int) by omega, show (((b : Int) + ((2 * i : Nat) : Int)) + 1).toNat = b + (2 * i + 1) by omega, v1, if_pos (show -2147483648 ≤ ((2 * (i + 1) : Nat) : Int) ∧ ((2 * (i + 1) : Nat) : Int) < 2147483648 by omega)]
    rw [e1] at ih
    by_cases c1 : x3 = 0
    · rw [if_neg (fun g => g c1), if_pos (by omega), if_pos (by omega), if_pos (by omega)]
      by_cases c2 : nuv (2 * i + 1) = e
      · rw [if_neg (fun g => g c2)]
        obtain ⟨R, r1, r2, r3⟩ := ih nn (i + 1) 1 (by omega) (by omega) (Or.inr rfl)
        exact ⟨R, r1, ⟨fun _ => Or.inr ⟨i, by omega, by omega, c2⟩, fun _ => r2.2 (Or.inl rfl)⟩, r3⟩
      · rw [if_pos c2]
        obtain ⟨R, r1, r2, r3⟩ := ih nn (i + 1) 0 (by omega) (by omega) (Or.inl rfl)
        have key : R = 1 ↔ x3 = 1 ∨ ∃ t, i ≤ t ∧ t < p ∧ nuv (2 * t + 1) = e := by
          constructor
          · intro w
            rcases r2.1 w with w | ⟨t, t1, t2, t3⟩
            · exact absurd w (by decide)
            · exact Or.inr ⟨t, Nat.le_of_succ_le t1, t2, t3⟩
          · intro w
            rcases w with w | ⟨t, t1, t2, t3⟩
            · rw [c1] at w; exact absurd w (by decide)
            · refine r2.2 (Or.inr ⟨t, ?_, t2, t3⟩)
              by_cases w : t = i
              · rw [w] at t3; exact absurd t3 c2
              · exact Nat.lt_of_le_of_ne t1 (fun g => w g.symm)
        refine ⟨R, r1, key, ?_⟩
        rw [if_pos gd, r3]
    · rw [if_pos c1]
      obtain ⟨R, r1, r2, r3⟩ := ih nn (i + 1) 1 (by omega) (by omega) (Or.inr rfl)
      exact ⟨R, r1, ⟨fun _ => Or.inl (hx.resolve_left c1), fun _ => r2.2 (Or.inl rfl)⟩, r3⟩
theorem ip39 (fl : Nat) (hfl : 2000 ≤ fl) (h : LnM next begins numbers (2 * p) nuv) (hb : trB p nuv) {po : Nat → Int} {c : Int → Int} (hc : PolM po c) :
    ∀ (d nn : Nat) (e x1 : Int), e + d = 101 → -100 ≤ e → d < nn → (x1 = 0 ∨ x1 = 1) → ∃ R : Int, (R = 0 ∨ R = 1) ∧ (R = 1 ↔ x1 = 1 ∧ ∀ x, e ≤ x → x ≤ 100 → c x ≠ 0 → ∃ t, t < p ∧ nuv (2 * t + 1) = x) ∧ LB_Md_isPoly_39 fl next begins numbers po nn x1 e = some R := by
  have hp := hb.1
  intro d
  induction d with
  | zero =>
    intro nn e x1 hi he hnn hx
    obtain ⟨nn, rfl⟩ : ∃ r, nn = r + 1 := ⟨nn - 1, by omega⟩
    rw [LB_Md_isPoly_39, if_pos (by omega), if_pos hx]
    exact ⟨x1, hx, ⟨fun w => ⟨w, fun x a b => by omega⟩, fun w => w.1⟩, rfl⟩
  | succ d ih =>
    intro nn e x1 hi he hnn hx
    obtain ⟨nn, rfl⟩ : ∃ r, nn = r + 1 := ⟨nn - 1, by omega⟩
    rw [LB_Md_isPoly_39, if_neg (by omega)]
    by_cases c1 : x1 = 0
    · rw [if_pos c1, if_pos hx]
      exact ⟨x1, hx, ⟨fun w => absurd (c1.symm.trans w) (by decide), fun w => w.1⟩, rfl⟩
    · have ec := hc.2 e
      rw [if_pos (by omega)] at ec
      rw [if_neg c1, if_pos (by omega), show (100 + e).toNat = (e + 100).toNat by omega, ← ec]
      unfold LB_Md_isPoly_68
      have key : ∀ x3 : Int, (x3 = 0 ∨ x3 = 1) → (x3 = 1 ↔ c e = 0) → ∃ R : Int, (R = 0 ∨ R = 1) ∧ (R = 1 ↔ x1 = 1 ∧ ∀ x, e ≤ x → x ≤ 100 → c x ≠ 0 → ∃ t, t < p ∧ nuv (2 * t + 1) = x) ∧ LB_Md_isPoly_72 fl next begins numbers po (LB_Md_isPoly_39 fl next begins numbers po nn) fl x1 e x3 0 = some R := fun x3 h3 h3' => by
        obtain ⟨R, r1, r2, r3⟩ := ip72 fl h hb po (LB_Md_isPoly_39 fl next begins numbers po nn) x1 e (by omega) p fl 0 x3 (by omega) (by omega) h3
        rw [show ((2 * 0 : Nat) : Int) = 0 from rfl] at r3
        obtain ⟨Q, q1, q2, q3⟩ := ih nn (e + 1) R (by omega) (by omega) (by omega) r1
        rw [r3, q3]
        refine ⟨Q, q1, ⟨fun w => ?_, fun w => ?_⟩, rfl⟩
        · obtain ⟨a1, a2⟩ := q2.1 w
          refine ⟨hx.resolve_left c1, fun x hx1 hx2 hx3 => ?_⟩
          by_cases w : x = e
          · rcases r2.1 a1 with g | ⟨t, _, t2, t3⟩
            · rw [w] at hx3; exact absurd (h3'.1 g) hx3
            · exact ⟨t, t2, by rw [w]; exact t3⟩
          · exact a2 x (by omega) hx2 hx3
        · refine q2.2 ⟨r2.2 ?_, fun x hx1 hx2 hx3 => w.2 x (by omega) hx2 hx3⟩
          by_cases g : c e = 0
          · exact Or.inl (h3'.2 g)
          · obtain ⟨t, t2, t3⟩ := w.2 e (Int.le_refl _) (by omega) g
            exact Or.inr ⟨t, by omega, t2, t3⟩
      by_cases c2 : c e = 0
      · rw [if_neg (fun g => g c2)]
        exact key 1 (Or.inr rfl) ⟨fun _ => c2, fun _ => rfl⟩
      · rw [if_pos c2]
        exact key 0 (Or.inl rfl) ⟨fun g => by omega, fun g => absurd g c2⟩
theorem ip4 (fl : Nat) (hfl : 2000 ≤ fl) (h : LnM next begins numbers (2 * p) nuv) (hb : trB p nuv) {po : Nat → Int} {c : Int → Int} (hc : PolM po c) :
    ∀ (d nn i : Nat) (x1 : Int), i + d = p → d < nn → (x1 = 0 ∨ x1 = 1) → ∃ R : Int, (R = 0 ∨ R = 1) ∧ (R = 1 ↔ x1 = 1 ∧ (∀ j, i ≤ j → j < p → c (nuv (2 * j + 1)) = smE nuv (nuv (2 * j + 1)) p 0) ∧ ∀ x, -100 ≤ x → x ≤ 100 → c x ≠ 0 → ∃ t, t < p ∧ nuv (2 * t + 1) = x) ∧ LB_Md_isPoly_4 fl next begins numbers po nn x1 ((2 * i : Nat) : Int) = some R := by
  have hp := hb.1
  have hmany := M_many fl h
  intro d
  induction d with
  | zero =>
    intro nn i x1 hi hnn hx
    obtain ⟨nn, rfl⟩ : ∃ r, nn = r + 1 := ⟨nn - 1, by omega⟩
    obtain ⟨R, r1, r2, r3⟩ := ip39 fl hfl h hb hc 201 fl (-100) x1 (by omega) (by omega) (by omega) hx
    rw [LB_Md_isPoly_4, hmany, Option.bind_some, if_pos (by omega), r3]
    exact ⟨R, r1, ⟨fun w => ⟨(r2.1 w).1, fun j a b => by omega, (r2.1 w).2⟩, fun w => r2.2 ⟨w.1, w.2.2⟩⟩, rfl⟩
  | succ d ih =>
    intro nn i x1 hi hnn hx
    obtain ⟨nn, rfl⟩ : ∃ r, nn = r + 1 := ⟨nn - 1, by omega⟩
    rw [LB_Md_isPoly_4, hmany, Option.bind_some, if_neg (by omega), M_agrees fl hfl h hb hc (i := i) (by omega), Option.bind_some]
    have gd : -2147483648 ≤ ((2 * (i + 1) : Nat) : Int) ∧ ((2 * (i + 1) : Nat) : Int) < 2147483648 := by omega
    unfold LB_Md_isPoly_28 LB_Md_isPoly_29
    rw [show ((2 * i : Nat) : Int) + 2 = ((2 * (i + 1) : Nat) : Int) by omega, if_pos (show -2147483648 ≤ ((2 * (i + 1) : Nat) : Int) ∧ ((2 * (i + 1) : Nat) : Int) < 2147483648 by omega)]
    obtain ⟨Z, z1, z2, z3⟩ := ih nn (i + 1) 0 (by omega) (by omega) (Or.inl rfl)
    by_cases c1 : x1 = 0
    · rw [if_pos c1, z3]
      exact ⟨Z, z1, ⟨fun w => absurd (z2.1 w).1 (by decide), fun w => absurd (c1.symm.trans w.1) (by decide)⟩, rfl⟩
    · rw [if_neg c1]
      by_cases c2 : c (nuv (2 * i + 1)) = smE nuv (nuv (2 * i + 1)) p 0
      · rw [if_pos c2, if_neg (by decide)]
        obtain ⟨R, r1, r2, r3⟩ := ih nn (i + 1) 1 (by omega) (by omega) (Or.inr rfl)
        have key : R = 1 ↔ x1 = 1 ∧ (∀ j, i ≤ j → j < p → c (nuv (2 * j + 1)) = smE nuv (nuv (2 * j + 1)) p 0) ∧ ∀ x, -100 ≤ x → x ≤ 100 → c x ≠ 0 → ∃ t, t < p ∧ nuv (2 * t + 1) = x := by
          constructor
          · intro w
            refine ⟨hx.resolve_left c1, fun j a b => ?_, (r2.1 w).2.2⟩
            by_cases g : j = i
            · rw [g]; exact c2
            · exact (r2.1 w).2.1 j (Nat.lt_of_le_of_ne a (fun q => g q.symm)) b
          · intro w
            exact r2.2 ⟨rfl, fun j a b => w.2.1 j (Nat.le_of_succ_le a) b, w.2.2⟩
        refine ⟨R, r1, key, ?_⟩
        rw [if_pos gd, r3]
      · rw [if_neg c2, if_pos rfl, z3]
        exact ⟨Z, z1, ⟨fun w => absurd (z2.1 w).1 (by decide), fun w => absurd (w.2.1 i (Nat.le_refl _) (by omega)) c2⟩, rfl⟩
theorem M_isPoly (fl : Nat) (hfl : 2000 ≤ fl) (h : LnM next begins numbers (2 * p) nuv) (hb : trB p nuv) {po : Nat → Int} {c : Int → Int} (hc : PolM po c) :
    (smOK c p nuv ∧ LM_Md_isPoly fl next begins numbers po = some 1) ∨ (¬ smOK c p nuv ∧ LM_Md_isPoly fl next begins numbers po = some 0) := by
  have hp := hb.1
  obtain ⟨R, r1, r2, r3⟩ := ip4 fl hfl h hb hc p fl 0 1 (by omega) (by omega) (Or.inr rfl)
  rw [show ((2 * 0 : Nat) : Int) = 0 from rfl] at r3
  unfold LM_Md_isPoly LB_Md_isPoly_0
  rw [r3]
  rcases r1 with w | w
  · refine Or.inr ⟨fun g => ?_, by rw [w]⟩
    have := r2.2 ⟨rfl, fun j _ b => g.1 j b, fun x _ _ hx => g.2 x hx⟩
    rw [w] at this; exact absurd this (by decide)
  · obtain ⟨_, g2, g3⟩ := r2.1 w
    refine Or.inl ⟨⟨fun j b => g2 j (Nat.zero_le _) b, fun x hx => ?_⟩, by rw [w]⟩
    have ec := hc.2 x
    by_cases q : -100 ≤ x ∧ x ≤ 100
    · exact g3 x q.1 q.2 hx
    · rw [if_neg q] at ec; exact absurd ec hx
end
