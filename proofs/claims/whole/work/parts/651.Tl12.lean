theorem iush_m (x : Int) {s : Nat} (hs : s = 24 ∨ s = 16 ∨ s = 8 ∨ s = 0) : iush x (s : Int) % 256 = (((x % 4294967296).toNat / 2 ^ s : Nat) : Int) % 256 := by
  have key : iush x (s : Int) = Int.bmod (((x % 4294967296).toNat / 2 ^ s : Nat) : Int) 4294967296 := by
    have e : iush x (s : Int) = BitVec.toInt ((BitVec.ofInt 32 x) >>> ((BitVec.ofInt 32 (s : Int)) % 32#32)) := rfl
    have e2 : (BitVec.ofInt 32 (s : Int) % 32#32).toNat = s := by
      rcases hs with w | w | w | w <;> rw [w] <;> decide
    rw [e, BitVec.toInt_eq_toNat_bmod]
    have e3 : ((BitVec.ofInt 32 x) >>> ((BitVec.ofInt 32 (s : Int)) % 32#32)).toNat = (x % 4294967296).toNat / 2 ^ s := by
      show ((BitVec.ofInt 32 x) >>> (BitVec.ofInt 32 (s : Int) % 32#32).toNat).toNat = _
      rw [e2, BitVec.toNat_ushiftRight, Nat.shiftRight_eq_div_pow, BitVec.toNat_ofInt]
      rfl
    rw [e3]
  rw [key, Int.bmod_def]
  split <;> omega
theorem ishr_m {x : Int} (h : -2147483648 ≤ x ∧ x < 2147483648) {s : Nat} (hs : s = 24 ∨ s = 16 ∨ s = 8 ∨ s = 0) : ishr x (s : Int) = x / ((2 ^ s : Nat) : Int) := by
  unfold ishr
  have e2 : ((Int32.ofInt (s : Int)).toBitVec.smod 32#32).toNat = s := by
    rcases hs with w | w | w | w <;> rw [w] <;> decide
  rw [← Int32.toInt_toBitVec, Int32.toBitVec_shiftRight, BitVec.toInt_sshiftRight', Int32.toInt_toBitVec, Int32.toInt_ofInt_of_le (by omega) (by omega), Int.shiftRight_eq_div_pow]
  show x / ((2 ^ ((Int32.ofInt (s : Int)).toBitVec.smod 32#32).toNat : Nat) : Int) = _
  rw [e2]
/-- a byte on bothz tapes -/
def TB (b t : Int) : Prop := ((t = b ∧ 0 ≤ b ∧ b < 128) ∨ (128 ≤ b ∧ t < 0)) ∧ -128 ≤ t ∧ t < 128
theorem TB_v (v : Int) : TB (v % 256) (ibyte v) := by
  have e : ibyte v = Int.bmod v 256 := by
    unfold ibyte
    rw [Int8.toInt_ofInt]
  rw [e, Int.bmod_def]
  unfold TB
  split <;> omega
theorem TB_x {x : Int} (h : -2147483648 ≤ x ∧ x < 2147483648) {s : Nat} (hs : s = 24 ∨ s = 16 ∨ s = 8 ∨ s = 0) : TB (iush x (iand (s : Int) 31) % 256) (ibyte (ishr x ((s : Int) % 32))) := by
  have e1 : iand (s : Int) 31 = (s : Int) := by
    rcases hs with w | w | w | w <;> rw [w] <;> decide
  have e2 : (s : Int) % 32 = (s : Int) := by omega
  rw [e1, e2, iush_m x hs, ishr_m h hs]
  have e3 : (((x % 4294967296).toNat / 2 ^ s : Nat) : Int) % 256 = (x / ((2 ^ s : Nat) : Int)) % 256 := by
    rcases hs with w | w | w | w <;> rw [w]
    · show (((x % 4294967296).toNat / 16777216 : Nat) : Int) % 256 = (x / 16777216) % 256
      omega
    · show (((x % 4294967296).toNat / 65536 : Nat) : Int) % 256 = (x / 65536) % 256
      omega
    · show (((x % 4294967296).toNat / 256 : Nat) : Int) % 256 = (x / 256) % 256
      omega
    · show (((x % 4294967296).toNat / 1 : Nat) : Int) % 256 = (x / 1) % 256
      omega
  rw [e3]
  exact TB_v _
def TP (text tape : Nat → Int) (T : Nat) : Prop := ∀ i, i < T → TB (text i) (tape i)
theorem TP_add {text tape : Nat → Int} {T : Nat} (h : TP text tape T) {b t : Int} (hb : TB b t) : TP (up text T b) (up tape T t) (T + 1) := fun i hi => by
  by_cases c : i = T
  · rw [c, up_eq, up_eq]; exact hb
  · rw [up_ne _ _ c, up_ne _ _ c]; exact h i (by omega)
theorem put4 (fl : Nat) (hfl : 10 ≤ fl) {x : Int} (hx : -2147483648 ≤ x ∧ x < 2147483648) {T : Nat} (hT : T + 4 ≤ 4000) {text tape : Nat → Int} (h : TP text tape T) :
    ∃ text' tape', LM_En_putOnTape fl x (T : Int) text = some (((T + 4 : Nat) : Int), text') ∧ LM_Md_feedOne fl x (T : Int) tape = some (((T + 4 : Nat) : Int), tape') ∧ TP text' tape' (T + 4) := by
  obtain ⟨fl, rfl⟩ : ∃ r, fl = r + 5 := ⟨fl - 5, by omega⟩
  unfold LM_En_putOnTape LB_En_putOnTape_0 LM_Md_feedOne LB_Md_feedOne_0
  have one : ∀ (F n : Nat) (s T : Nat) (text : Nat → Int), T < 4000 → s ≤ 24 → LB_En_putOnTape_3 F (n + 1) x (s : Int) (T : Int) text = LB_En_putOnTape_3 F n x ((s : Int) + -8) ((T + 1 : Nat) : Int) (up text T (iush x (iand (s : Int) 31) % 256)) := fun F n s T text hT hs => by
    rw [LB_En_putOnTape_3, if_neg (by omega), if_neg (by omega), if_pos (by omega), if_pos (by omega), Int.toNat_natCast, show ((T : Int) + 1) = ((T + 1 : Nat) : Int) by omega]
  have two : ∀ (F n : Nat) (s T : Nat) (tape : Nat → Int), T < 4000 → s ≤ 24 → LB_Md_feedOne_3 F (n + 1) x (s : Int) (T : Int) tape = LB_Md_feedOne_3 F n x ((s : Int) + -8) ((T + 1 : Nat) : Int) (up tape T (ibyte (ishr x ((s : Int) % 32)))) := fun F n s T tape hT hs => by
    rw [LB_Md_feedOne_3, if_neg (by omega), if_pos (by omega), if_pos (by omega), Int.toNat_natCast, show ((T : Int) + 1) = ((T + 1 : Nat) : Int) by omega]
  have t1 := TP_add h (TB_x hx (s := 24) (by omega))
  have t2 := TP_add t1 (TB_x hx (s := 16) (by omega))
  have t3 := TP_add t2 (TB_x hx (s := 8) (by omega))
  have t4 := TP_add t3 (TB_x hx (s := 0) (by omega))
  refine ⟨_, _, ?_, ?_, t4⟩
  · have a1 := one (fl + 5) (fl + 4) 24 T text (by omega) (by omega)
    have a2 := one (fl + 5) (fl + 3) 16 (T + 1) (up text T (iush x (iand ((24 : Nat) : Int) 31) % 256)) (by omega) (by omega)
    have a3 := one (fl + 5) (fl + 2) 8 (T + 1 + 1) (up (up text T (iush x (iand ((24 : Nat) : Int) 31) % 256)) (T + 1) (iush x (iand ((16 : Nat) : Int) 31) % 256)) (by omega) (by omega)
    have a4 := one (fl + 5) (fl + 1) 0 (T + 1 + 1 + 1) (up (up (up text T (iush x (iand ((24 : Nat) : Int) 31) % 256)) (T + 1) (iush x (iand ((16 : Nat) : Int) 31) % 256)) (T + 1 + 1) (iush x (iand ((8 : Nat) : Int) 31) % 256)) (by omega) (by omega)
    rw [show ((24 : Nat) : Int) + -8 = ((16 : Nat) : Int) from rfl] at a1
    rw [show ((16 : Nat) : Int) + -8 = ((8 : Nat) : Int) from rfl] at a2
    rw [show ((8 : Nat) : Int) + -8 = ((0 : Nat) : Int) from rfl] at a3
    rw [show (24 : Int) = ((24 : Nat) : Int) from rfl, a1, a2, a3, a4, LB_En_putOnTape_3, if_pos (by decide)]
  · have a1 := two (fl + 5) (fl + 4) 24 T tape (by omega) (by omega)
    have a2 := two (fl + 5) (fl + 3) 16 (T + 1) (up tape T (ibyte (ishr x (((24 : Nat) : Int) % 32)))) (by omega) (by omega)
    have a3 := two (fl + 5) (fl + 2) 8 (T + 1 + 1) (up (up tape T (ibyte (ishr x (((24 : Nat) : Int) % 32)))) (T + 1) (ibyte (ishr x (((16 : Nat) : Int) % 32)))) (by omega) (by omega)
    have a4 := two (fl + 5) (fl + 1) 0 (T + 1 + 1 + 1) (up (up (up tape T (ibyte (ishr x (((24 : Nat) : Int) % 32)))) (T + 1) (ibyte (ishr x (((16 : Nat) : Int) % 32)))) (T + 1 + 1) (ibyte (ishr x (((8 : Nat) : Int) % 32)))) (by omega) (by omega)
    rw [show ((24 : Nat) : Int) + -8 = ((16 : Nat) : Int) from rfl] at a1
    rw [show ((16 : Nat) : Int) + -8 = ((8 : Nat) : Int) from rfl] at a2
    rw [show ((8 : Nat) : Int) + -8 = ((0 : Nat) : Int) from rfl] at a3
    rw [show (24 : Int) = ((24 : Nat) : Int) from rfl, a1, a2, a3, a4, LB_Md_feedOne_3, if_pos (by decide)]
theorem j_feed (fl : Nat) (hfl : 10 ≤ fl) {x1 x2 x3 x4 x5 : Int} (h1 : -2147483648 ≤ x1 ∧ x1 < 2147483648) (h2 : -2147483648 ≤ x2 ∧ x2 < 2147483648) (h3 : -2147483648 ≤ x3 ∧ x3 < 2147483648) (h4 : -2147483648 ≤ x4 ∧ x4 < 2147483648) (h5 : -2147483648 ≤ x5 ∧ x5 < 2147483648) {T : Nat} (hT : T ≤ 4000) {text tape : Nat → Int} (h : TP text tape T) :
    ∃ (v : Int) (T' : Nat) (text' tape' : Nat → Int), LM_En_feed fl x1 x2 x3 x4 x5 (T : Int) text = some (v, (T' : Int), text') ∧ LM_Md_feed fl x1 x2 x3 x4 x5 (T : Int) tape = some (v, (T' : Int), tape') ∧ T' ≤ 4000 ∧ TP text' tape' T' := by
  unfold LM_En_feed LB_En_feed_0 LM_Md_feed LB_Md_feed_0
  have gd : -2147483648 ≤ (T : Int) + 20 ∧ (T : Int) + 20 < 2147483648 := by omega
  rw [if_pos gd, if_pos gd]
  by_cases c : (T : Int) + 20 ≤ 4000
  · obtain ⟨a1, b1, p1, q1, r1⟩ := put4 fl hfl h1 (by omega) h
    obtain ⟨a2, b2, p2, q2, r2⟩ := put4 fl hfl h2 (by omega) r1
    obtain ⟨a3, b3, p3, q3, r3⟩ := put4 fl hfl h3 (by omega) r2
    obtain ⟨a4, b4, p4, q4, r4⟩ := put4 fl hfl h4 (by omega) r3
    obtain ⟨a5, b5, p5, q5, r5⟩ := put4 fl hfl h5 (by omega) r4
    rw [if_pos c, if_pos c, p1, q1, Option.bind_some, Option.bind_some]
    dsimp only
    rw [p2, q2, Option.bind_some, Option.bind_some]
    dsimp only
    rw [p3, q3, Option.bind_some, Option.bind_some]
    dsimp only
    rw [p4, q4, Option.bind_some, Option.bind_some]
    dsimp only
    rw [p5, q5, Option.bind_some, Option.bind_some]
    exact ⟨_, T + 4 + 4 + 4 + 4 + 4, a5, b5, rfl, rfl, by omega, r5⟩
  · rw [if_neg c, if_neg c]
    exact ⟨-1, T, text, tape, rfl, rfl, hT, h⟩
theorem wi18 (fl : Nat) {P : Nat} (hP : P ≤ 4000) {out : Nat → Int} (ho : ∀ i, i < P → 0 ≤ out i ∧ out i < 128) (x1 ta oS : Int) : ∀ (r nn i : Nat) (tape : Nat → Int), i + r = P → r < nn → (∀ j, j < i → tape j = out j) → ∃ tape', LB_Md_wipe_18 fl out nn x1 (P : Int) (i : Int) ta oS tape = some ((P : Int), (P : Int), oS, tape') ∧ ∀ j, j < P → tape' j = out j := by
  intro r
  induction r with
  | zero =>
    intro nn i tape hi hnn h
    obtain ⟨nn, rfl⟩ : ∃ r, nn = r + 1 := ⟨nn - 1, by omega⟩
    rw [LB_Md_wipe_18, if_pos (by omega)]
    exact ⟨tape, rfl, fun j hj => h j (by omega)⟩
  | succ r ih =>
    intro nn i tape hi hnn h
    obtain ⟨nn, rfl⟩ : ∃ r, nn = r + 1 := ⟨nn - 1, by omega⟩
    rw [LB_Md_wipe_18, if_neg (by omega), if_pos (by omega), if_pos (by omega), Int.toNat_natCast, ibyte_id (ho i (by omega)), show ((i : Int) + 1) = ((i + 1 : Nat) : Int) by omega]
    refine ih nn (i + 1) _ (by omega) (by omega) (fun j hj => ?_)
    by_cases w : j = i
    · rw [w, up_eq]
    · rw [up_ne _ _ w]; exact h j (by omega)
theorem j_wipe (fl : Nat) (hfl : 5000 ≤ fl) {P : Nat} (hP : P ≤ 4000) {by_ out : Nat → Int} (hb : ∀ i, i < P → by_ i = out i ∧ 0 ≤ out i ∧ out i < 128) (x1 : Int) {T : Nat} (hT : T ≤ 4000) {text tape : Nat → Int} (h : TP text tape T) :
    ∃ (T' : Nat) (text' tape' : Nat → Int), LM_En_wipe fl by_ x1 (T : Int) (P : Int) text = some ((P : Int), (T' : Int), 0, text') ∧ LM_Md_wipe fl out x1 (T : Int) (P : Int) tape = some ((P : Int), (T' : Int), 0, tape') ∧ T' ≤ 4000 ∧ TP text' tape' T' := by
  unfold LM_En_wipe LB_En_wipe_0 LB_En_wipe_34 LM_Md_wipe LB_Md_wipe_0
  by_cases c : x1 = 0
  · rw [if_pos c, if_neg (fun g => g c)]
    exact ⟨T, text, tape, rfl, rfl, hT, h⟩
  · obtain ⟨tape', q1, q2⟩ := wi18 fl hP (fun i hi => (hb i hi).2) x1 (T : Int) 0 P fl 0 tape (Nat.zero_add _) (by omega) (fun j hj => by omega)
    rw [show ((0 : Nat) : Int) = 0 from rfl] at q1
    rw [if_neg c, if_pos c, q1, if_pos ⟨by decide, by decide, by omega, by show 0 + (P : Int).toNat ≤ 4000; omega, by show 0 + (P : Int).toNat ≤ 4000; omega⟩]
    refine ⟨P, _, tape', rfl, rfl, hP, fun i hi => ?_⟩
    have e : cpI by_ text (Int.toNat 0) (Int.toNat 0) (Int.toNat (P : Int)) i = by_ i := by
      show (if 0 ≤ i ∧ i < 0 + (P : Int).toNat then by_ (0 + (i - 0)) else text i) = by_ i
      rw [if_pos (by omega), Nat.zero_add, Nat.sub_zero]
    rw [e, q2 i hi, (hb i hi).1]
    have := (hb i hi).2
    exact ⟨Or.inl ⟨rfl, this⟩, by omega, by omega⟩
theorem j_fault (fl : Nat) (h f p x : Int) : ∃ v, LM_En_fault fl h f p x = some v ∧ LM_Md_fault fl h f p x = some v := by
  unfold LM_En_fault LB_En_fault_0 LM_Md_fault LB_Md_fault_0
  by_cases c : h = 0
  · rw [if_neg (fun g => g c), if_neg (fun g => g c)]; exact ⟨_, rfl, rfl⟩
  · rw [if_pos c, if_pos c]
    by_cases c0 : x = 0
    · rw [if_pos c0, if_neg (fun g => g c0)]; exact ⟨_, rfl, rfl⟩
    · rw [if_neg c0, if_pos c0]
      by_cases c1 : x = 1
      · rw [if_pos c1, if_neg (fun g => g c1)]; exact ⟨_, rfl, rfl⟩
      · rw [if_neg c1, if_pos c1]; exact ⟨_, rfl, rfl⟩
theorem j_crossing (fl : Nat) {d : Dg} (h : okD d) {n ci n2 c2 : Int} {A S A2 S2 : Nat → Int} (hD : DA d n ci A S) (hE : DA d n2 c2 A2 S2) (x1 x2 : Int) : ∃ v, LM_En_crossing fl n A S x1 x2 = some v ∧ LM_Md_crossing fl n2 A2 S2 x1 x2 = some v := by
  obtain ⟨e1, e2, hA, hS⟩ := hD
  obtain ⟨f1, f2, hA2, hS2⟩ := hE
  have hn := h.1
  unfold LM_En_crossing LB_En_crossing_0 LM_Md_crossing LB_Md_crossing_0
  rw [e1, f1]
  by_cases c1 : x1 < 0
  · rw [if_pos c1, if_pos c1]; exact ⟨_, rfl, rfl⟩
  rw [if_neg c1, if_neg c1]
  by_cases c2 : (d.1 : Int) ≤ x1
  · rw [if_pos c2, if_pos c2]; exact ⟨_, rfl, rfl⟩
  rw [if_neg c2, if_neg c2]
  by_cases c3 : x2 < 0
  · rw [if_pos c3, if_pos c3]; exact ⟨_, rfl, rfl⟩
  rw [if_neg c3, if_neg c3]
  by_cases c4 : x2 ≤ 4
  · rw [if_pos c4, if_pos c4]
    by_cases c5 : x2 = 4
    · have n5 : ¬ ¬ x2 = 4 := fun g => g c5
      rw [if_neg n5, if_neg n5, if_pos (show 0 ≤ x1 ∧ x1 < 20 by omega), if_pos (show 0 ≤ x1 ∧ x1 < 24 by omega), hS _ (by omega), hS2 _ (by omega)]
      exact ⟨_, rfl, rfl⟩
    · have g4 : -2147483648 ≤ 4 * x1 ∧ 4 * x1 < 2147483648 := by omega
      rw [if_pos c5, if_pos c5, if_pos g4, if_pos g4, if_pos (show 0 ≤ 4 * x1 + x2 ∧ 4 * x1 + x2 < 80 by omega), if_pos (show 0 ≤ 4 * x1 + x2 ∧ 4 * x1 + x2 < 96 by omega), hA _ (by omega), hA2 _ (by omega)]
      exact ⟨_, rfl, rfl⟩
  · rw [if_neg c4, if_neg c4]; exact ⟨_, rfl, rfl⟩
theorem j_printed (fl : Nat) {P : Nat} (hP : P ≤ 4000) {by_ out : Nat → Int} (hb : ∀ i, i < P → by_ i = out i ∧ 0 ≤ out i ∧ out i < 128) (x1 : Int) : ∃ v, LM_En_printed fl (P : Int) by_ x1 = some v ∧ LM_Md_printed fl (P : Int) out x1 = some v := by
  unfold LM_En_printed LB_En_printed_0 LM_Md_printed LB_Md_printed_0
  by_cases c1 : x1 < 0
  · rw [if_pos c1, if_pos c1]; exact ⟨_, rfl, rfl⟩
  rw [if_neg c1, if_neg c1]
  by_cases c2 : (P : Int) ≤ x1
  · rw [if_pos c2, if_pos c2]; exact ⟨_, rfl, rfl⟩
  have := hb x1.toNat (by omega)
  rw [if_neg c2, if_neg c2, if_pos (by omega), if_pos (by omega), this.1, show out x1.toNat % 256 = out x1.toNat by omega]
  exact ⟨_, rfl, rfl⟩
theorem M_readN (fl : Nat) {tp : Nat → Int} {n tp0 : Int} (h : n < 0 ∨ tp0 < n) (x4 x5 x6 x7 x8 x9 x10 x11 x12 x13 : Int) (bg ks nu tt : Nat → Int) : LM_Md_read fl tp n tp0 x4 x5 x6 x7 x8 x9 x10 x11 x12 x13 bg ks nu tt = some (-2, tp0, x4, x5, x6, x7, x8, x9, x10, x11, x12, x13, bg, ks, nu, tt) := by
  unfold LM_Md_read LB_Md_read_0
  by_cases c : n < 0
  · rw [if_pos c]
  · rw [if_neg c, if_neg (by omega)]
theorem j_state (fl : Nat) (hfl : 2000 ≤ fl) {d : Dg} (h : okD d) {n ci n2 c2 : Int} {A S A2 S2 : Nat → Int} (now_shapeIsKnown now_shape_edges now_shape_components now_shape_pieces now_shape_faces now_shape_brokenRule now_shape_culprit : Int) (now_shape_componentOf now_shape_edgeAt now_shape_faceOf now_shape_faceSize now_shape_faceStart now_shape_from now_shape_key now_shape_name now_shape_pieceOf now_shape_scratch now_shape_to : (Nat → Int)) (hD : DA d n ci A S) (hK : ShK d (now_shapeIsKnown, now_shape_edges, now_shape_components, now_shape_pieces, now_shape_faces, now_shape_brokenRule, now_shape_culprit, now_shape_componentOf, now_shape_edgeAt, now_shape_faceOf, now_shape_faceSize, now_shape_faceStart, now_shape_from, now_shape_key, now_shape_name, now_shape_pieceOf, now_shape_scratch, now_shape_to)) (hE : DA d n2 c2 A2 S2) {N K P T : Nat} (hN : N ≤ 64) (hKN : K ≤ N) {kd ks : Nat → Int} (hk : ∀ i, i < N → kd i = ks i) (x1 : Int) (ed cm fa pc : Int) (be co fo fi fd fw la pA pl : Nat → Int) :
    ∃ (v : Int) (o : ShT) (q : SvT), LM_En_state fl (T : Int) n ci A S (P : Int) (N : Int) (K : Int) kd x1 now_shapeIsKnown now_shape_edges now_shape_components now_shape_pieces now_shape_faces now_shape_brokenRule now_shape_culprit now_shape_componentOf now_shape_edgeAt now_shape_faceOf now_shape_faceSize now_shape_faceStart now_shape_from now_shape_key now_shape_name now_shape_pieceOf now_shape_scratch now_shape_to = some (v, o.1, o.2.1, o.2.2.1, o.2.2.2.1, o.2.2.2.2.1, o.2.2.2.2.2.1, o.2.2.2.2.2.2.1, o.2.2.2.2.2.2.2.1, o.2.2.2.2.2.2.2.2.1, o.2.2.2.2.2.2.2.2.2.1, o.2.2.2.2.2.2.2.2.2.2.1, o.2.2.2.2.2.2.2.2.2.2.2.1, o.2.2.2.2.2.2.2.2.2.2.2.2.1, o.2.2.2.2.2.2.2.2.2.2.2.2.2.1, o.2.2.2.2.2.2.2.2.2.2.2.2.2.2.1, o.2.2.2.2.2.2.2.2.2.2.2.2.2.2.2.1, o.2.2.2.2.2.2.2.2.2.2.2.2.2.2.2.2.1, o.2.2.2.2.2.2.2.2.2.2.2.2.2.2.2.2.2) ∧ LM_Md_state fl (T : Int) (P : Int) (N : Int) (K : Int) n2 c2 A2 S2 ks x1 ed cm fa pc be co fo fi fd fw la pA pl = some (v, q) ∧ ShK d o := by
  obtain ⟨q, s1, s2⟩ := M_surv fl (by omega) h hE ed cm fa pc be co fo fi fd fw la pA pl
  have hn := h.1
  have hci := h.2.1
  have hD0 := hD
  obtain ⟨e1, e2, hA, hS⟩ := hD
  obtain ⟨f1, f2, hA2, hS2⟩ := hE
  unfold LM_En_state LB_En_state_0 LM_Md_state LB_Md_state_0
  rw [s1, Option.bind_some]
  by_cases c0 : x1 = 0
  · unfold LM_Li_waiting LB_Li_waiting_0
    rw [if_pos c0, if_pos c0, if_pos (by omega), if_pos (by omega), Option.bind_some]
    exact ⟨_, (now_shapeIsKnown, now_shape_edges, now_shape_components, now_shape_pieces, now_shape_faces, now_shape_brokenRule, now_shape_culprit, now_shape_componentOf, now_shape_edgeAt, now_shape_faceOf, now_shape_faceSize, now_shape_faceStart, now_shape_from, now_shape_key, now_shape_name, now_shape_pieceOf, now_shape_scratch, now_shape_to), q, rfl, rfl, hK⟩
  rw [if_neg c0, if_neg c0]
  by_cases c1 : x1 = 1
  · unfold LM_Li_kindOfNext LB_Li_kindOfNext_0
    rw [if_pos c1, if_pos c1]
    by_cases cK : (N : Int) ≤ (K : Int)
    · rw [if_pos cK, if_pos cK, Option.bind_some]
      exact ⟨_, (now_shapeIsKnown, now_shape_edges, now_shape_components, now_shape_pieces, now_shape_faces, now_shape_brokenRule, now_shape_culprit, now_shape_componentOf, now_shape_edgeAt, now_shape_faceOf, now_shape_faceSize, now_shape_faceStart, now_shape_from, now_shape_key, now_shape_name, now_shape_pieceOf, now_shape_scratch, now_shape_to), q, rfl, rfl, hK⟩
    · rw [if_neg cK, if_neg cK, if_pos (by omega), if_pos (by omega), Option.bind_some, Int.toNat_natCast, hk K (by omega)]
      exact ⟨_, (now_shapeIsKnown, now_shape_edges, now_shape_components, now_shape_pieces, now_shape_faces, now_shape_brokenRule, now_shape_culprit, now_shape_componentOf, now_shape_edgeAt, now_shape_faceOf, now_shape_faceSize, now_shape_faceStart, now_shape_from, now_shape_key, now_shape_name, now_shape_pieceOf, now_shape_scratch, now_shape_to), q, rfl, rfl, hK⟩
  rw [if_neg c1, if_neg c1]
  by_cases c2 : x1 = 2
  · rw [if_pos c2, if_pos c2, e1, f1]
    exact ⟨_, (now_shapeIsKnown, now_shape_edges, now_shape_components, now_shape_pieces, now_shape_faces, now_shape_brokenRule, now_shape_culprit, now_shape_componentOf, now_shape_edgeAt, now_shape_faceOf, now_shape_faceSize, now_shape_faceStart, now_shape_from, now_shape_key, now_shape_name, now_shape_pieceOf, now_shape_scratch, now_shape_to), q, rfl, rfl, hK⟩
  rw [if_neg c2, if_neg c2]
  by_cases c3 : x1 = 3
  · rw [if_pos c3, if_pos c3, e2, f2]
    exact ⟨_, (now_shapeIsKnown, now_shape_edges, now_shape_components, now_shape_pieces, now_shape_faces, now_shape_brokenRule, now_shape_culprit, now_shape_componentOf, now_shape_edgeAt, now_shape_faceOf, now_shape_faceSize, now_shape_faceStart, now_shape_from, now_shape_key, now_shape_name, now_shape_pieceOf, now_shape_scratch, now_shape_to), q, rfl, rfl, hK⟩
  rw [if_neg c3, if_neg c3]
  by_cases c4 : x1 = 4
  · have sg1 := (CM_signs fl (by omega) hn (S := S) (fun c hc => by rw [hS c hc]; exact h.2.2.1 c hc)).1
    have sg2 := (CM_signs fl (by omega) hn (S := S2) (fun c hc => by rw [hS2 c hc]; exact h.2.2.1 c hc)).2
    rw [sgs_like d.1 hS] at sg1
    rw [sgs_like d.1 hS2] at sg2
    rw [if_pos c4, if_pos c4, e1, f1, sg1, sg2, Option.bind_some, Option.bind_some]
    exact ⟨_, (now_shapeIsKnown, now_shape_edges, now_shape_components, now_shape_pieces, now_shape_faces, now_shape_brokenRule, now_shape_culprit, now_shape_componentOf, now_shape_edgeAt, now_shape_faceOf, now_shape_faceSize, now_shape_faceStart, now_shape_from, now_shape_key, now_shape_name, now_shape_pieceOf, now_shape_scratch, now_shape_to), q, rfl, rfl, hK⟩
  rw [if_neg c4, if_neg c4]
  by_cases c5 : x1 = 5
  · obtain ⟨o, t1, t2⟩ := C_shape fl (by omega) h n A S now_shapeIsKnown now_shape_edges now_shape_components now_shape_pieces now_shape_faces now_shape_brokenRule now_shape_culprit now_shape_componentOf now_shape_edgeAt now_shape_faceOf now_shape_faceSize now_shape_faceStart now_shape_from now_shape_key now_shape_name now_shape_pieceOf now_shape_scratch now_shape_to hD0 hK
    have t3 := t2
    obtain ⟨k1, k2, k3, k4, k5, k6, k7, k8, k9, k10, k11⟩ := t2
    obtain ⟨v1, v2, v3, v4, v5, v6, v7, v8, v9, v10⟩ := s2
    have r4 : cmR d.1 o.2.2.2.2.2.2.2.2.2.2.2.2.2.2.2.2.2 o.2.2.2.2.2.2.2.2.1 ≤ 2 * d.1 := (rnd_ok (nx_closed k3) (2 * d.1) (Nat.le_refl _)).2.2.2.1
    have ec : cmR d.1 q.2.2.2.2.2.2.2.1 q.2.2.2.2.2.2.2.2.2.2.2.2 = cmR d.1 o.2.2.2.2.2.2.2.2.2.2.2.2.2.2.2.2.2 o.2.2.2.2.2.2.2.2.1 := by unfold cmR; rw [rn_congr k3 v2]
    have k4' : o.2.2.1 = ((cmR d.1 o.2.2.2.2.2.2.2.2.2.2.2.2.2.2.2.2.2 o.2.2.2.2.2.2.2.2.1 : Nat) : Int) := k4
    rw [if_pos c5, if_pos c5, t1, Option.bind_some, k4', v3, ec, e2, f2, if_pos (by omega), if_pos (by omega)]
    exact ⟨_, o, q, by rw [k4'], by rw [← ec, ← v3], Or.inr t3⟩
  rw [if_neg c5, if_neg c5]
  by_cases c6 : x1 = 6
  · rw [if_pos c6, if_pos c6]
    exact ⟨_, (now_shapeIsKnown, now_shape_edges, now_shape_components, now_shape_pieces, now_shape_faces, now_shape_brokenRule, now_shape_culprit, now_shape_componentOf, now_shape_edgeAt, now_shape_faceOf, now_shape_faceSize, now_shape_faceStart, now_shape_from, now_shape_key, now_shape_name, now_shape_pieceOf, now_shape_scratch, now_shape_to), q, rfl, rfl, hK⟩
  rw [if_neg c6, if_neg c6]
  by_cases c7 : x1 = 7
  · rw [if_pos c7, if_pos c7]
    exact ⟨_, (now_shapeIsKnown, now_shape_edges, now_shape_components, now_shape_pieces, now_shape_faces, now_shape_brokenRule, now_shape_culprit, now_shape_componentOf, now_shape_edgeAt, now_shape_faceOf, now_shape_faceSize, now_shape_faceStart, now_shape_from, now_shape_key, now_shape_name, now_shape_pieceOf, now_shape_scratch, now_shape_to), q, rfl, rfl, hK⟩
  rw [if_neg c7, if_neg c7]
  exact ⟨_, (now_shapeIsKnown, now_shape_edges, now_shape_components, now_shape_pieces, now_shape_faces, now_shape_brokenRule, now_shape_culprit, now_shape_componentOf, now_shape_edgeAt, now_shape_faceOf, now_shape_faceSize, now_shape_faceStart, now_shape_from, now_shape_key, now_shape_name, now_shape_pieceOf, now_shape_scratch, now_shape_to), q, rfl, rfl, hK⟩
