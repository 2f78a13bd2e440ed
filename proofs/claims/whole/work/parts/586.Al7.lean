theorem bc_0 (fl : Nat) (x : Int) : LM_Int_bitCount fl x = LM_Int_bitCount 0 x := rfl
theorem b_crd : ∀ m : Nat, m < 10 → ∀ s : Nat, s < 512 → s < 2 ^ m - 1 → crd s < m := by decide +kernel
theorem b_full : ∀ m : Nat, m < 10 → ∀ j : Nat, j < 10 → (2 ^ m - 1).testBit j = decide (j < m) := by decide +kernel
theorem b_fcrd : ∀ m : Nat, m < 10 → crd (2 ^ m - 1) = m := by decide +kernel
def idN (r : Nat) : Nat := r
def prt (K : Nat) (lo hi : Nat → Nat → Int) (X s e : Nat) : Int := (if X = 0 ∧ e = 0 then 1 else 0) + smz (fun j => if X.testBit j = true ∧ X ^^^ 2 ^ j < s then ctr K lo hi idN X e j else 0) K
theorem prt_self {K : Nat} {lo hi : Nat → Nat → Int} (hK : K ≤ 10) {s : Nat} (hs : s < 512) (e : Nat) : prt K lo hi s s e = PV K lo hi idN s e := by
  unfold prt
  by_cases c : s = 0
  · subst c
    rw [PV_0, sm_zero (fun j hj => if_neg (fun w => by rw [Nat.zero_testBit] at w; cases w.1))]
    by_cases e0 : e = 0
    · rw [if_pos ⟨rfl, e0⟩, if_pos e0]; rfl
    · rw [if_neg (fun w => e0 w.2), if_neg e0]; rfl
  · rw [if_neg (fun w => c w.1), PV_s c (by omega) (by omega)]
    have : smz (fun j => if s.testBit j = true ∧ s ^^^ 2 ^ j < s then ctr K lo hi idN s e j else 0) K = smz (fun j => if s.testBit j = true then ctr K lo hi idN s e j else 0) K := sm_congr (fun j hj => by
      by_cases t : s.testBit j = true
      · rw [if_pos t, if_pos ⟨t, b_less s (by omega) j (by omega) t⟩]
      · rw [if_neg t, if_neg (fun w => t w.1)])
    rw [this]; omega
theorem prt_step (K : Nat) (lo hi : Nat → Nat → Int) (X s e : Nat) : prt K lo hi X (s + 1) e = prt K lo hi X s e + smz (fun j => if X.testBit j = true ∧ X ^^^ 2 ^ j = s then ctr K lo hi idN X e j else 0) K := by
  unfold prt
  rw [Int.add_assoc, ← sm_add]
  congr 1
  apply sm_congr
  intro j hj
  by_cases t : X.testBit j = true
  · by_cases l : X ^^^ 2 ^ j < s
    · rw [if_pos ⟨t, by omega⟩, if_pos ⟨t, l⟩, if_neg (fun w => by omega)]; omega
    · by_cases q : X ^^^ 2 ^ j = s
      · rw [if_pos ⟨t, by omega⟩, if_neg (fun w => l w.2), if_pos ⟨t, q⟩]; omega
      · rw [if_neg (fun w => by omega), if_neg (fun w => l w.2), if_neg (fun w => q w.2)]; rfl
  · rw [if_neg (fun w => t w.1), if_neg (fun w => t w.1), if_neg (fun w => t w.1)]; rfl
theorem pow4 {a b : Nat} (h : a ≤ b) : (4 : Int) ^ a ≤ 4 ^ b := by
  obtain ⟨d, rfl⟩ : ∃ d, b = a + d := ⟨b - a, by omega⟩
  induction d with
  | zero => exact Int.le_refl _
  | succ d ih =>
    rw [show a + (d + 1) = (a + d) + 1 from rfl, Int.pow_succ]
    have := ih (by omega)
    have p : (0 : Int) ≤ 4 ^ (a + d) := Int.pow_nonneg (by decide)
    omega
theorem abs_b {x : Int} {a : Nat} (h : ((x.natAbs : Nat) : Int) ≤ 4 ^ a) (ha : a ≤ 9) : -1000000 ≤ x ∧ x ≤ 1000000 := by
  have b : (4 : Int) ^ a ≤ 4 ^ 9 := pow4 ha
  have B : (4 : Int) ^ 9 = 262144 := by decide
  rw [B] at b
  have c := Int.le_trans h b
  clear h b B
  omega
theorem prt_abs {K : Nat} {lo hi : Nat → Nat → Int} (hK : K ≤ 10) (h4 : ∀ r, smz (fun j => ((lo r j).natAbs : Int) + ((hi r j).natAbs : Int)) K ≤ 4) {X : Nat} (hX : crd X ≤ 9) (s e : Nat) : ((prt K lo hi X s e).natAbs : Int) ≤ 2000000 := by
  have B : (4 : Int) ^ 9 = 262144 := by decide
  have hb : (0 : Int) ≤ 4 ^ 9 := by decide
  have := sm_abs (F := fun j => if X.testBit j = true ∧ X ^^^ 2 ^ j < s then ctr K lo hi idN X e j else 0) (c := fun j => ((lo (idN (crd X - 1)) j).natAbs : Int) + ((hi (idN (crd X - 1)) j).natAbs : Int)) (B := 4 ^ 9) K (fun j hj => by
    show (((if _ then _ else 0 : Int)).natAbs : Int) ≤ _
    split
    · next w =>
      have h1 := crd_xor (show j < 12 by omega) w.1
      have v1 : ((PV K lo hi idN (X ^^^ 2 ^ j) e).natAbs : Int) ≤ 4 ^ 9 := Int.le_trans (PV_abs h4 _ _) (pow4 (by omega))
      have v2 : ((sh (PV K lo hi idN (X ^^^ 2 ^ j)) e).natAbs : Int) ≤ 4 ^ 9 := by
        unfold sh; split
        · exact hb
        · exact Int.le_trans (PV_abs h4 _ _) (pow4 (by omega))
      unfold ctr
      rw [eps_abs]
      have t := Int.natAbs_add_le (lo (idN (crd X - 1)) j * PV K lo hi idN (X ^^^ 2 ^ j) e) (hi (idN (crd X - 1)) j * sh (PV K lo hi idN (X ^^^ 2 ^ j)) e)
      rw [Int.natAbs_mul, Int.natAbs_mul] at t
      have m1 : ((lo (idN (crd X - 1)) j).natAbs : Int) * ((PV K lo hi idN (X ^^^ 2 ^ j) e).natAbs : Int) ≤ ((lo (idN (crd X - 1)) j).natAbs : Int) * 4 ^ 9 := Int.mul_le_mul_of_nonneg_left v1 (by omega)
      have m2 : ((hi (idN (crd X - 1)) j).natAbs : Int) * ((sh (PV K lo hi idN (X ^^^ 2 ^ j)) e).natAbs : Int) ≤ ((hi (idN (crd X - 1)) j).natAbs : Int) * 4 ^ 9 := Int.mul_le_mul_of_nonneg_left v2 (by omega)
      have t' := Int.ofNat_le.2 t
      rw [Int.natCast_add, Int.natCast_mul, Int.natCast_mul] at t'
      rw [Int.add_mul]
      exact Int.le_trans t' (Int.add_le_add m1 m2)
    · rw [B]; have : (0 : Int) ≤ ((((lo (idN (crd X - 1)) j).natAbs : Int) + ((hi (idN (crd X - 1)) j).natAbs : Int))) := by omega
      show (((0 : Int).natAbs : Nat) : Int) ≤ _
      omega)
  have h5 : smz (fun j => ((lo (idN (crd X - 1)) j).natAbs : Int) + ((hi (idN (crd X - 1)) j).natAbs : Int)) K * 4 ^ 9 ≤ 4 * 4 ^ 9 := Int.mul_le_mul_of_nonneg_right (h4 _) hb
  rw [B] at this h5
  unfold prt
  by_cases z : X = 0 ∧ e = 0
  · rw [if_pos z]; omega
  · rw [if_neg z]; omega
theorem sm_ind {K x : Nat} (hx : x < K) (H : Nat → Int) : smz (fun j => ind j x * H j) K = H x := by
  rw [sm_one (F := fun j => ind j x * H j) hx (fun y _ hy => by show ind y x * H y = 0; unfold ind; rw [if_neg hy]; omega)]
  show ind x x * H x = H x
  unfold ind; rw [if_pos rfl]; omega
/-- the three columns of a row -/
theorem three {n m : Nat} (hn : n ≤ 10) (hmn : m ≤ n) {sg : Nat → Int} {A : Nat → Nat} {s X : Nat} (hs : s < 2 ^ m) (hX : X < 2 ^ m) (hA : ∀ k, k < 4 → A (4 * crd s + k) < n) (e : Nat) :
    smz (fun j => if X.testBit j = true ∧ X ^^^ 2 ^ j = s then ctr n (mLo sg A) (mHi sg A) idN X e j else 0) n =
    (if (if sg (crd s) ≤ 0 then A (4 * crd s + 2) else A (4 * crd s)) < m ∧ s.testBit (if sg (crd s) ≤ 0 then A (4 * crd s + 2) else A (4 * crd s)) = false ∧ X = s ||| 2 ^ (if sg (crd s) ≤ 0 then A (4 * crd s + 2) else A (4 * crd s)) then sgC s (if sg (crd s) ≤ 0 then A (4 * crd s + 2) else A (4 * crd s)) * (0 * PV n (mLo sg A) (mHi sg A) idN s e + 1 * sh (PV n (mLo sg A) (mHi sg A) idN s) e) else 0)
    + (if (if sg (crd s) ≤ 0 then A (4 * crd s) else A (4 * crd s + 2)) < m ∧ s.testBit (if sg (crd s) ≤ 0 then A (4 * crd s) else A (4 * crd s + 2)) = false ∧ X = s ||| 2 ^ (if sg (crd s) ≤ 0 then A (4 * crd s) else A (4 * crd s + 2)) then sgC s (if sg (crd s) ≤ 0 then A (4 * crd s) else A (4 * crd s + 2)) * (-1 * PV n (mLo sg A) (mHi sg A) idN s e + 0 * sh (PV n (mLo sg A) (mHi sg A) idN s) e) else 0)
    + (if A (4 * crd s + 1) < m ∧ s.testBit (A (4 * crd s + 1)) = false ∧ X = s ||| 2 ^ (A (4 * crd s + 1)) then sgC s (A (4 * crd s + 1)) * (1 * PV n (mLo sg A) (mHi sg A) idN s e + -1 * sh (PV n (mLo sg A) (mHi sg A) idN s) e) else 0) := by
  obtain ⟨p, hp⟩ : ∃ p, p = PV n (mLo sg A) (mHi sg A) idN s e := ⟨_, rfl⟩
  obtain ⟨q, hq⟩ : ∃ q, q = sh (PV n (mLo sg A) (mHi sg A) idN s) e := ⟨_, rfl⟩
  obtain ⟨x, hx⟩ : ∃ x, x = (if sg (crd s) ≤ 0 then A (4 * crd s + 2) else A (4 * crd s)) := ⟨_, rfl⟩
  obtain ⟨y, hy⟩ : ∃ y, y = (if sg (crd s) ≤ 0 then A (4 * crd s) else A (4 * crd s + 2)) := ⟨_, rfl⟩
  obtain ⟨z, hz⟩ : ∃ z, z = A (4 * crd s + 1) := ⟨_, rfl⟩
  obtain ⟨G, hG⟩ : ∃ G : Nat → Int, G = fun j => if j < m ∧ s.testBit j = false ∧ X = s ||| 2 ^ j then sgC s j else 0 := ⟨_, rfl⟩
  have hG' : ∀ j, G j = if j < m ∧ s.testBit j = false ∧ X = s ||| 2 ^ j then sgC s j else 0 := fun j => by rw [hG]
  have xn : x < n := by rw [hx]; split; exact hA 2 (by omega); exact hA 0 (by omega)
  have yn : y < n := by rw [hy]; split; exact hA 0 (by omega); exact hA 2 (by omega)
  have zn : z < n := by rw [hz]; exact hA 1 (by omega)
  have m12 : 2 ^ m ≤ 2 ^ 12 := Nat.pow_le_pow_right (by omega) (by omega)
  have e1 : smz (fun j => if X.testBit j = true ∧ X ^^^ 2 ^ j = s then ctr n (mLo sg A) (mHi sg A) idN X e j else 0) n = smz (fun j => (ind j x * (G j * q) + ind j y * (G j * (-p))) + ind j z * (G j * (p - q))) n := sm_congr (fun j hj => by
    by_cases c : X.testBit j = true ∧ X ^^^ 2 ^ j = s
    · have sj : s.testBit j = false := by rw [← c.2, Nat.testBit_xor, c.1, Nat.testBit_two_pow]; simp
      have Xe : X = s ||| 2 ^ j := by rw [← c.2, xor_or c.1]
      have jm : j < m := by
        rcases Nat.lt_or_ge j m with w | w
        · exact w
        · have := bS_hi hX w; rw [this] at c; cases c.1
      have cr : crd X = crd s + 1 := by rw [Xe]; exact crd_or (by omega) sj
      have gg : gK n (bS X) j = cntP (fun i => s.testBit i && decide (j < i)) 10 := by
        rw [Xe, bS_or, gA_ge (Nat.le_refl _)]
        unfold gK
        have w0 : ∀ i, m ≤ i → (bS s i && decide (j < i)) = false := fun i hi => by unfold bS; rw [bS_hi hs hi]; rfl
        have w1 := cnt_wide w0 (n - m)
        have w2 := cnt_wide w0 (10 - m)
        rw [show m + (n - m) = n by omega] at w1
        rw [show m + (10 - m) = 10 by omega] at w2
        rw [w1, ← w2]; rfl
      rw [if_pos c, hG', if_pos ⟨jm, sj, Xe⟩]
      unfold ctr sgC
      rw [gg, c.2, ← hp, ← hq, cr, show crd s + 1 - 1 = crd s from rfl]
      unfold mLo mHi idN
      rw [← hx, ← hy, ← hz]
      grind
    · have : ¬ (j < m ∧ s.testBit j = false ∧ X = s ||| 2 ^ j) := fun w => c ⟨by rw [w.2.2, Nat.testBit_or, Nat.testBit_two_pow]; simp, by rw [w.2.2, or_xor w.2.1]⟩
      rw [if_neg c, hG', if_neg this]; omega)
  rw [e1, sm_add, sm_add, sm_ind xn (fun j => G j * q), sm_ind yn (fun j => G j * (-p)), sm_ind zn (fun j => G j * (p - q)), ← hx, ← hy, ← hz, ← hp, ← hq, hG', hG', hG']
  congr 1
  · congr 1
    · split
      · grind
      · omega
    · split
      · grind
      · omega
  · split
    · grind
    · omega
theorem RS_cg {m : Nat} {rc S : Nat → Int} {V W : Nat → Nat → Int} (h : RS m rc S V) (hv : ∀ X e, X < 2 ^ m → e < 10 → W X e = V X e) : RS m rc S W := fun X hX => ⟨(h X hX).1, fun q e he => by rw [hv X e hX he]; exact (h X hX).2.1 q e he, fun q e he => by rw [hv X e hX he]; exact (h X hX).2.2 q e he⟩
theorem adV_abs {m s col : Nat} {f l : Int} (hf : (f = 0 ∧ l = 1) ∨ (f = -1 ∧ l = 0) ∨ (f = 1 ∧ l = -1)) {p : Nat → Int} {V : Nat → Nat → Int} {B : Int} (bp : ∀ e, -1000000 ≤ p e ∧ p e ≤ 1000000) (bV : ∀ X e, X < 2 ^ m → e < 10 → -B ≤ V X e ∧ V X e ≤ B) : ∀ X e, X < 2 ^ m → e < 10 → -(B + 2000000) ≤ adV m s col f l p V X e ∧ adV m s col f l p V X e ≤ B + 2000000 := fun X e hX he => by
  unfold adV
  have b := bV X e hX he
  have b1 := bp e
  have b2 : -1000000 ≤ sh p e ∧ sh p e ≤ 1000000 := by unfold sh; split; omega; exact bp _
  have sv : sgC s col = 1 ∨ sgC s col = -1 := by unfold sgC eps; split <;> simp
  split
  · rcases hf with ⟨a, c⟩ | ⟨a, c⟩ | ⟨a, c⟩ <;> rcases sv with v | v <;> rw [a, c, v] <;> omega
  · omega
theorem wide {x B C : Int} (h : -B ≤ x ∧ x ≤ B) (hB : B ≤ C) : -C ≤ x ∧ x ≤ C := by omega
theorem add3 (fl : Nat) (hfl : 100 ≤ fl) {m s row : Nat} (hm : m ≤ 9) (hs2 : s < 2 ^ m) (hrow : row ≤ 8) {rc S : Nat → Int} {V0 : Nat → Nat → Int} {p : Nat → Int} (hR0 : RS m rc S V0) (r1 : rc s = 1) (self : ∀ e, V0 s e = p e) (deg : ∀ e, row < e → p e = 0) (bp : ∀ e, -1000000 ≤ p e ∧ p e ≤ 1000000) (bV0 : ∀ X e, X < 2 ^ m → e < 10 → -(2000000 : Int) ≤ V0 X e ∧ V0 X e ≤ 2000000) (x y z : Nat) :
    ∃ rc1 S1 rc2 S2 rc3 S3, LM_Mi_addColumn fl (m : Int) (s : Int) (row : Int) (x : Int) 0 1 rc S = some (rc1, S1) ∧ LM_Mi_addColumn fl (m : Int) (s : Int) (row : Int) (y : Int) (-1) 0 rc1 S1 = some (rc2, S2) ∧ LM_Mi_addColumn fl (m : Int) (s : Int) (row : Int) (z : Int) 1 (-1) rc2 S2 = some (rc3, S3) ∧ RS m rc3 S3 (adV m s z 1 (-1) p (adV m s y (-1) 0 p (adV m s x 0 1 p V0))) := by
  have f1 : ((0 : Int) = 0 ∧ (1 : Int) = 1) ∨ ((0 : Int) = -1 ∧ (1 : Int) = 0) ∨ ((0 : Int) = 1 ∧ (1 : Int) = -1) := Or.inl ⟨rfl, rfl⟩
  have f2 : ((-1 : Int) = 0 ∧ (0 : Int) = 1) ∨ ((-1 : Int) = -1 ∧ (0 : Int) = 0) ∨ ((-1 : Int) = 1 ∧ (0 : Int) = -1) := Or.inr (Or.inl ⟨rfl, rfl⟩)
  have f3 : ((1 : Int) = 0 ∧ (-1 : Int) = 1) ∨ ((1 : Int) = -1 ∧ (-1 : Int) = 0) ∨ ((1 : Int) = 1 ∧ (-1 : Int) = -1) := Or.inr (Or.inr ⟨rfl, rfl⟩)
  have B1 := adV_abs (m := m) (s := s) (col := x) f1 bp bV0
  have B2 := adV_abs (m := m) (s := s) (col := y) f2 bp B1
  obtain ⟨rc1, S1, g1, g2, g3, g4⟩ := C_addCol fl hfl (col := x) (row := row) hm hs2 hrow f1 hR0 r1 (fun e _ => self e) deg (fun e _ => bp e) (fun X e hX he => wide (bV0 X e hX he) (by omega))
  obtain ⟨rc2, S2, k1, k2, k3, k4⟩ := C_addCol fl hfl (col := y) (row := row) hm hs2 hrow f2 g2 g3 g4 deg (fun e _ => bp e) (fun X e hX he => wide (B1 X e hX he) (by omega))
  obtain ⟨rc3, S3, l1, l2, l3, l4⟩ := C_addCol fl hfl (col := z) (row := row) hm hs2 hrow f3 k2 k3 k4 deg (fun e _ => bp e) (fun X e hX he => wide (B2 X e hX he) (by omega))
  exact ⟨rc1, S1, rc2, S2, rc3, S3, g1, k1, l1, l2⟩
theorem exg (fl : Nat) {od : Int} {sgA ar at_ : Nat → Int} {kb : Int → Int → (Nat → Int) → (Nat → Int) → Option ((Nat → Int) × (Nat → Int))} {F : Int} {s : Nat} (hs : s < 512) {x1 x2 x3 x4 : Int} {rc S rc1 S1 rc2 S2 rc3 S3 : Nat → Int} (g1 : LM_Mi_addColumn fl od (s : Int) x1 x2 0 1 rc S = some (rc1, S1)) (k1 : LM_Mi_addColumn fl od (s : Int) x1 x3 (-1) 0 rc1 S1 = some (rc2, S2)) (l1 : LM_Mi_addColumn fl od (s : Int) x1 x4 1 (-1) rc2 S2 = some (rc3, S3)) :
    ((LM_Mi_addColumn fl od (s : Int) x1 x2 0 1 rc S).bind fun o0 => (LM_Mi_addColumn fl od (s : Int) x1 x3 (-1) 0 o0.1 o0.2).bind fun o1 => (LM_Mi_addColumn fl od (s : Int) x1 x4 1 (-1) o1.1 o1.2).bind fun o2 => LB_Mi_expand_181 fl od sgA ar at_ kb F (s : Int) o2.1 o2.2) = kb F ((s + 1 : Nat) : Int) rc3 S3 := by
  rw [g1, Option.bind_some, k1, Option.bind_some, l1, Option.bind_some]
  unfold LB_Mi_expand_181
  rw [if_pos (by omega), show ((s : Int) + 1) = ((s + 1 : Nat) : Int) by omega]
section
variable {nm fr to at_ : Nat → Int}
theorem ex32 (fl : Nat) (hfl : 2000 ≤ fl) {d : Dg} (hE : EdgA d.1 d.2.2.2 d.2.2.1 nm fr to at_) {m : Nat} (hm : m ≤ 9) (hn : d.1 = m + 1) (hK : arcN d.1 fr to at_ = d.1) {sgA ar : Nat → Int} (hs : like d.1 sgA d.2.2.2) (ha : like (2 * d.1) ar (arcA d.1 fr to at_)) :
    ∀ (r nn s : Nat) (rc S : Nat → Int), s + r = 2 ^ m - 1 → r < nn → RS m rc S (fun X e => prt d.1 (mLo d.2.2.2 (arcQ d.1 fr to at_)) (mHi d.2.2.2 (arcQ d.1 fr to at_)) X s e) →
    ∃ rc' S', LB_Mi_expand_32 fl (m : Int) sgA ar at_ nn ((2 ^ m - 1 : Nat) : Int) (s : Int) rc S = some (rc', S') ∧ RS m rc' S' (fun X e => prt d.1 (mLo d.2.2.2 (arcQ d.1 fr to at_)) (mHi d.2.2.2 (arcQ d.1 fr to at_)) X (2 ^ m - 1) e) := by
  have m512 : 2 ^ m ≤ 512 := by
    have : 2 ^ m ≤ 2 ^ 9 := Nat.pow_le_pow_right (by omega) hm
    omega
  have h4 := m_abs d.2.2.2 (arcQ d.1 fr to at_) d.1
  have hAn : ∀ q, q < 4 * d.1 → arcQ d.1 fr to at_ q < d.1 := fun q hq => by have := (arcQ_ok hE hq).2; omega
  have hAr : ∀ q, q < 4 * d.1 → 0 ≤ at_ q ∧ at_ q < 40 ∧ ar (at_ q).toNat = (arcQ d.1 fr to at_ q : Int) := fun q hq => by
    obtain ⟨e, e1, e2, _⟩ := Edg_at hE hq
    have := (arcQ_ok hE hq).1
    rw [ha _ (by rw [e2, Int.toNat_natCast]; exact e1), this]
    exact ⟨by omega, by omega, rfl⟩
  obtain ⟨lo, hlo⟩ : ∃ lo, lo = mLo d.2.2.2 (arcQ d.1 fr to at_) := ⟨_, rfl⟩
  obtain ⟨hi, hhi⟩ : ∃ hi, hi = mHi d.2.2.2 (arcQ d.1 fr to at_) := ⟨_, rfl⟩
  have th := fun {s X : Nat} (hs : s < 2 ^ m) (hX : X < 2 ^ m) (hA : ∀ k, k < 4 → arcQ d.1 fr to at_ (4 * crd s + k) < d.1) (e : Nat) => three (n := d.1) (m := m) (by omega) (by omega) (sg := d.2.2.2) hs hX hA e
  rw [← hlo, ← hhi] at h4 ⊢
  simp only [← hlo, ← hhi] at th
  intro r
  induction r with
  | zero =>
    intro nn s rc S hr hnn hR
    obtain ⟨nn, rfl⟩ : ∃ r, nn = r + 1 := ⟨nn - 1, by omega⟩
    rw [LB_Mi_expand_32, if_pos (by omega)]
    have : s = 2 ^ m - 1 := by omega
    rw [this] at hR
    exact ⟨rc, S, rfl, hR⟩
  | succ r ih =>
    intro nn s rc S hr hnn hR
    obtain ⟨nn, rfl⟩ : ∃ r, nn = r + 1 := ⟨nn - 1, by omega⟩
    have hs2 : s < 2 ^ m := by omega
    have hc : crd s < m := b_crd m (by omega) s (by omega) (by omega)
    obtain ⟨r1, r2, r3⟩ := hR s hs2
    have self : ∀ e, prt d.1 lo hi s s e = PV d.1 lo hi idN s e := fun e => prt_self (by omega) (by omega) e
    have deg : ∀ e, crd s < e → PV d.1 lo hi idN s e = 0 := fun e he => PV_deg _ _ _ _ he
    rw [LB_Mi_expand_32, if_neg (by omega), if_pos (by omega), Int.toNat_natCast]
    rcases r1 with r1 | r1
    · rw [if_pos (by omega)]
      unfold LB_Mi_expand_181
      rw [if_pos (by omega), show ((s : Int) + 1) = ((s + 1 : Nat) : Int) by omega]
      refine ih nn (s + 1) rc S (by omega) (by omega) (RS_cg hR (fun X e hX he => ?_))
      show prt d.1 lo hi X (s + 1) e = prt d.1 lo hi X s e
      have z : ∀ e, PV d.1 lo hi idN s e = 0 := fun e => by
        by_cases c : e < 10
        · rw [← self e]; exact r3 r1 e c
        · exact deg e (by omega)
      have z2 : sh (PV d.1 lo hi idN s) e = 0 := by unfold sh; split; rfl; exact z _
      rw [prt_step, th hs2 hX (fun k hk => hAn _ (by omega)) e, z, z2]
      simp only [Int.mul_zero, Int.add_zero, ite_self]
    · rw [if_neg (by omega)]
      have c10 : cntP (fun j => s.testBit j) 10 = crd s := cnt_bS (x := s) hs2 (by omega) (by omega)
      rw [bc_0 fl, b_cnt s (by omega), c10]
      simp only [Option.bind_some]
      obtain ⟨w1, w2, w3⟩ := hAr (4 * crd s) (by omega)
      obtain ⟨w4, w5, w6⟩ := hAr (4 * crd s + 2) (by omega)
      obtain ⟨w7, w8, w9⟩ := hAr (4 * crd s + 1) (by omega)
      have t0 : Int.toNat (4 * (crd s : Int)) = 4 * crd s := by omega
      have t2 : Int.toNat (4 * (crd s : Int) + 2) = 4 * crd s + 2 := by omega
      have t1 : Int.toNat (4 * (crd s : Int) + 1) = 4 * crd s + 1 := by omega
      rw [t0, t2, t1, Int.toNat_natCast, if_pos (by omega), if_pos ⟨w1, w2⟩, if_pos (by omega), if_pos ⟨w4, w5⟩, if_pos (by omega), if_pos ⟨w7, w8⟩, if_pos (by omega), w3, w6, w9, hs _ (by omega)]
      have bp : ∀ e, -1000000 ≤ PV d.1 lo hi idN s e ∧ PV d.1 lo hi idN s e ≤ 1000000 := fun e => by
        exact abs_b (PV_abs (ρ := idN) h4 s e) (show crd s ≤ 9 by omega)
      have bV : ∀ X e, X < 2 ^ m → e < 10 → -(2000000 : Int) ≤ prt d.1 lo hi X s e ∧ prt d.1 lo hi X s e ≤ 2000000 := fun X e hX he => by
        have := prt_abs (by omega) h4 (X := X) (by have := crd_le hX (by omega); omega) s e
        omega
      obtain ⟨V0, hV0⟩ : ∃ V0 : Nat → Nat → Int, ∀ X e, V0 X e = prt d.1 lo hi X s e := ⟨fun X e => prt d.1 lo hi X s e, fun _ _ => rfl⟩
      have hR0 : RS m rc S V0 := RS_cg hR (fun X e _ _ => hV0 X e)
      have bV0 : ∀ X e, X < 2 ^ m → e < 10 → -(2000000 : Int) ≤ V0 X e ∧ V0 X e ≤ 2000000 := fun X e hX he => by rw [hV0]; exact bV X e hX he
      have go : ∀ x y z : Nat, (∀ X e, X < 2 ^ m → e < 10 → prt d.1 lo hi X (s + 1) e = adV m s z 1 (-1) (PV d.1 lo hi idN s) (adV m s y (-1) 0 (PV d.1 lo hi idN s) (adV m s x 0 1 (PV d.1 lo hi idN s) V0)) X e) →
          ∃ rc' S', ((LM_Mi_addColumn fl (m : Int) (s : Int) (crd s : Int) (x : Int) 0 1 rc S).bind fun o0 => (LM_Mi_addColumn fl (m : Int) (s : Int) (crd s : Int) (y : Int) (-1) 0 o0.1 o0.2).bind fun o1 => (LM_Mi_addColumn fl (m : Int) (s : Int) (crd s : Int) (z : Int) 1 (-1) o1.1 o1.2).bind fun o2 => LB_Mi_expand_181 fl (m : Int) sgA ar at_ (LB_Mi_expand_32 fl (m : Int) sgA ar at_ nn) ((2 ^ m - 1 : Nat) : Int) (s : Int) o2.1 o2.2) = some (rc', S') ∧ RS m rc' S' (fun X e => prt d.1 lo hi X (2 ^ m - 1) e) := fun x y z hxyz => by
        obtain ⟨rc1, S1, rc2, S2, rc3, S3, g1, k1, l1, l2⟩ := add3 fl (by omega) hm hs2 (show crd s ≤ 8 by omega) hR0 r1 (fun e => (hV0 s e).trans (self e)) deg bp bV0 x y z
        rw [exg fl (show s < 512 by omega) g1 k1 l1]
        exact ih nn (s + 1) rc3 S3 (by omega) (by omega) (RS_cg l2 hxyz)
      by_cases sp : d.2.2.2 (crd s) ≤ 0
      · rw [if_pos sp]
        unfold LB_Mi_expand_123 LB_Mi_expand_142 LB_Mi_expand_164
        simp only [if_true]
        refine go _ _ _ (fun X e hX he => ?_)
        rw [prt_step, th hs2 hX (fun k hk => hAn _ (by omega)) e]
        simp only [if_pos sp]
        unfold adV
        rw [hV0, ← Int.add_assoc, ← Int.add_assoc]
      · rw [if_neg sp]
        unfold LB_Mi_expand_123 LB_Mi_expand_142 LB_Mi_expand_164
        simp only [show ¬ ((1 : Int) = 0) by decide, if_false]
        refine go _ _ _ (fun X e hX he => ?_)
        rw [prt_step, th hs2 hX (fun k hk => hAn _ (by omega)) e]
        simp only [if_neg sp]
        unfold adV
        rw [hV0, ← Int.add_assoc, ← Int.add_assoc]
end
