def ws_Pa_putNumber (cI cJ cB : ClassId) (q_p0 : Nat) (q_p0_bytes : Nat) (q_p0_digits : Nat) (i_p0_size : Int32) (i_p0_overflown : Int32) (f_p0_bytes : Nat → Int32) (f_p0_digits : Nat → Int32) : va_W := [(q_p0, .inr (3, [.ref q_p0_bytes, .ref q_p0_digits, .int i_p0_size, .int i_p0_overflown])), (q_p0_bytes, .inl (cI, 4000, .inl f_p0_bytes)), (q_p0_digits, .inl (cI, 20, .inl f_p0_digits))]
def rm_Pa_putNumber : Room := { frames := 1, cells := 0, slots := 0, locals := 21 }
def B_Pa_putNumber_61 (fl : Nat) : Nat → Int64 → Int64 → Int32 → Int32 → Int32 → Int32 → (Nat → Int32) → (Nat → Int32) → Option (Int32 × Int32 × (Nat → Int32) × (Nat → Int32))
  | 0, _, _, _, _, _, _, _, _ => none
  | nn + 1, x1, x3, x5, x6, i_p0_size, i_p0_overflown, f_p0_bytes, f_p0_digits => (if x6 < (0 : Int32) then (some (i_p0_size, i_p0_overflown, f_p0_bytes, f_p0_digits)) else (if ¬ (x6 < 0 ∨ 20 ≤ Int32.toNatClampNeg x6) then ((m_Pa_put fl ((48 : Int32) + (f_p0_digits (Int32.toNatClampNeg x6))) i_p0_size i_p0_overflown f_p0_bytes).bind fun o0 => B_Pa_putNumber_61 fl nn x1 x3 x5 (x6 + (-1)) o0.1 o0.2.1 o0.2.2 f_p0_digits) else none))
def B_Pa_putNumber_55 (fl : Nat) (x1 : Int64) (x3 : Int64) (x5 : Int32) (i_p0_size : Int32) (i_p0_overflown : Int32) (f_p0_bytes : Nat → Int32) (f_p0_digits : Nat → Int32) : Option (Int32 × Int32 × (Nat → Int32) × (Nat → Int32)) := B_Pa_putNumber_61 fl fl x1 x3 x5 (x5 - (1 : Int32)) i_p0_size i_p0_overflown f_p0_bytes f_p0_digits
def B_Pa_putNumber_17 (fl : Nat) : Nat → Int64 → Int64 → Int32 → Int32 → Int32 → (Nat → Int32) → (Nat → Int32) → Option (Int32 × Int32 × (Nat → Int32) × (Nat → Int32))
  | 0, _, _, _, _, _, _, _ => none
  | nn + 1, x1, x3, x5, i_p0_size, i_p0_overflown, f_p0_bytes, f_p0_digits => (if ¬ (10 : Int64) = 0 then (if ¬ (x5 < 0 ∨ 20 ≤ Int32.toNatClampNeg x5) then (if ¬ (10 : Int64) = 0 then (if (lg_cmp (x3 / (10 : Int64)) 0) = (0 : Int32) then B_Pa_putNumber_55 fl x1 (x3 / (10 : Int64)) (x5 + 1) i_p0_size i_p0_overflown f_p0_bytes (upd f_p0_digits (Int32.toNatClampNeg x5) (Int64.toInt32 (if 0 < (x3 - x3 / (10 : Int64) * (10 : Int64)) then (x3 - x3 / (10 : Int64) * (10 : Int64)) else -(x3 - x3 / (10 : Int64) * (10 : Int64))))) else (if (x5 + 1) < (20 : Int32) then B_Pa_putNumber_17 fl nn x1 (x3 / (10 : Int64)) (x5 + 1) i_p0_size i_p0_overflown f_p0_bytes (upd f_p0_digits (Int32.toNatClampNeg x5) (Int64.toInt32 (if 0 < (x3 - x3 / (10 : Int64) * (10 : Int64)) then (x3 - x3 / (10 : Int64) * (10 : Int64)) else -(x3 - x3 / (10 : Int64) * (10 : Int64))))) else B_Pa_putNumber_55 fl x1 (x3 / (10 : Int64)) (x5 + 1) i_p0_size i_p0_overflown f_p0_bytes (upd f_p0_digits (Int32.toNatClampNeg x5) (Int64.toInt32 (if 0 < (x3 - x3 / (10 : Int64) * (10 : Int64)) then (x3 - x3 / (10 : Int64) * (10 : Int64)) else -(x3 - x3 / (10 : Int64) * (10 : Int64))))))) else none) else none) else none)
def B_Pa_putNumber_12 (fl : Nat) (x1 : Int64) (i_p0_size : Int32) (i_p0_overflown : Int32) (f_p0_bytes : Nat → Int32) (f_p0_digits : Nat → Int32) : Option (Int32 × Int32 × (Nat → Int32) × (Nat → Int32)) := B_Pa_putNumber_17 fl fl x1 x1 0 i_p0_size i_p0_overflown f_p0_bytes f_p0_digits
def B_Pa_putNumber_0 (fl : Nat) (x1 : Int64) (i_p0_size : Int32) (i_p0_overflown : Int32) (f_p0_bytes : Nat → Int32) (f_p0_digits : Nat → Int32) : Option (Int32 × Int32 × (Nat → Int32) × (Nat → Int32)) := (if (0 : Int32) ≤ (lg_cmp x1 0) then B_Pa_putNumber_12 fl x1 i_p0_size i_p0_overflown f_p0_bytes f_p0_digits else ((m_Pa_put fl 45 i_p0_size i_p0_overflown f_p0_bytes).bind fun o0 => B_Pa_putNumber_12 fl x1 o0.1 o0.2.1 o0.2.2 f_p0_digits))
def m_Pa_putNumber (fl : Nat) (x1 : Int64) (i_p0_size : Int32) (i_p0_overflown : Int32) (f_p0_bytes : Nat → Int32) (f_p0_digits : Nat → Int32) : Option (Int32 × Int32 × (Nat → Int32) × (Nat → Int32)) := B_Pa_putNumber_0 fl  x1 i_p0_size i_p0_overflown f_p0_bytes f_p0_digits
set_option maxHeartbeats 4000000 in
set_option maxRecDepth 100000 in
theorem w_Pa_putNumber_61 {p : Program} {l : Launch} {e : Env} {s : State} {m : MethodId} {args : Array Value} {below : List Frame} {meth : Method} {c : Code} {D : va_G} {cI cJ cB : ClassId} {sa : Nat → Nat × Nat} {A : Nat → Prop} (fl : Nat) (q_p0 : Nat) (q_p0_bytes : Nat) (q_p0_digits : Nat)  (res : Int32 × Int32 × (Nat → Int32) × (Nat → Int32)) (C0 : vz_Cx p s m meth c b_Pa_putNumber 7 none "LinkEngine$Paper" "putNumber" D [(cI, .int), (cJ, .long), (cB, .byte)] sa A args) : ∀ (nn : Nat), ∀ (x1 : Int64) (x3 : Int64) (x5 : Int32) (x6 : Int32) (i_p0_size : Int32) (i_p0_overflown : Int32) (f_p0_bytes : Nat → Int32) (f_p0_digits : Nat → Int32) (H : Heap) (locs : List Loc) (ls : Array Slot), B_Pa_putNumber_61 fl nn x1 x3 x5 x6 i_p0_size i_p0_overflown f_p0_bytes f_p0_digits = some res → va_P D classes (ws_Pa_putNumber cI cJ cB q_p0 q_p0_bytes q_p0_digits i_p0_size i_p0_overflown f_p0_bytes f_p0_digits) H → va_D A (ws_Pa_putNumber cI cJ cB q_p0 q_p0_bytes q_p0_digits i_p0_size i_p0_overflown f_p0_bytes f_p0_digits) → va_S A s.heap H locs → lv_has ls 7 [(0, .ref q_p0), (1, .long x1), (3, .long x3), (5, .int x5), (6, .int x6)] → W p l e rm_Pa_putNumber s m args below meth c H locs 0 0 (MQ below (va_Qv (fun (w : va_W) => w = (ws_Pa_putNumber cI cJ cB q_p0 q_p0_bytes q_p0_digits res.1 res.2.1 res.2.2.1 res.2.2.2)) (vz_B D A) A) args s 0 0 A) (F0 m 61 ls []) := by
  obtain ⟨hx, hb, hr, hml, hown, ht, hlocks, hin, hN, hK, hA, hZ⟩ := id C0
  intro nn
  induction nn with
  | zero =>
    intro x1 x3 x5 x6 i_p0_size i_p0_overflown f_p0_bytes f_p0_digits H locs ls hm hP hD hS hl
    rw [B_Pa_putNumber_61] at hm
    cases hm
  | succ nn ih =>
    intro x1 x3 x5 x6 i_p0_size i_p0_overflown f_p0_bytes f_p0_digits H locs ls hm hP hD hS hl
    rw [B_Pa_putNumber_61] at hm
    refine lv_iload hx hb d_Pa_putNumber_61 (lv_at hl 4 rfl) ?_
    refine lv_if_lt (tgt := 86) hx hb d_Pa_putNumber_63 (by decide) (fun hc => ?_) (fun hc => ?_)
    · rw [if_pos hc] at hm
      obtain rfl := Option.some.inj hm
      exact vz_vret hx hb hr hlocks hP hD hS (Nat.le_refl _) (Nat.le_refl _) d_Pa_putNumber_86 rfl
    · rw [if_neg hc] at hm
      refine lv_aload_n hx hb d_Pa_putNumber_66 rfl (lv_at hl 0 rfl) ?_
      refine lv_bipush (v := 48) hx hb d_Pa_putNumber_67 (by decide +kernel) ?_
      refine lv_aload_n hx hb d_Pa_putNumber_69 rfl (lv_at hl 0 rfl) ?_
      refine va_get (D := D) (ci := 3) (v := .ref q_p0_digits) (C := R_Pa) (T := F_Pa) (N := 4) hx hb ht i_Pa hown hK hP 0 rfl rfl 1 (Nat.le_of_ble_eq_true rfl) (ht _ m_19) (fun _ h9 => h9) rfl d_Pa_putNumber_70 ?_
      refine lv_iload hx hb d_Pa_putNumber_73 (lv_at hl 4 rfl) ?_
      obtain ⟨hg, hm⟩ := vz_guard hm
      refine va_iald hx hb hK hP 2 0 rfl rfl hg d_Pa_putNumber_75 ?_
      refine lv_iadd hx hb d_Pa_putNumber_76 ?_
      obtain ⟨o0, ho0, hm⟩ := vz_bind hm
      try dsimp only at hm
      refine vz_callVv (n := 1) (As := [.int ((48 : Int32) + (f_p0_digits (Int32.toNatClampNeg x6)))]) (rest := []) (wc := (ws_Pa_put cI cJ cB q_p0 q_p0_bytes q_p0_digits i_p0_size i_p0_overflown f_p0_bytes)) (wr := [(q_p0_digits, .inl (cI, 20, .inl f_p0_digits))]) (k1 := 0) (n1 := 0) hx hb hml hown ht hN hZ hK hP hD hS hA (k_Pa_put l D cI cJ cB sa fl q_p0 q_p0_bytes q_p0_digits i_p0_size i_p0_overflown f_p0_bytes ((48 : Int32) + (f_p0_digits (Int32.toNatClampNeg x6))) o0 ho0) m_370 m_69 m_367 m_368 m_369 (hc := (rfl : classes[3]? = some (R_Pa, F_Pa, 4))) 0 rfl (by decide +kernel) ⟨Nat.le_of_ble_eq_true rfl, Nat.le_of_ble_eq_true rfl⟩ [0, 1] [2] rfl rfl (by decide) (by decide) (by decide) rfl hl.1 rfl (Nat.le_of_ble_eq_true rfl) rfl rfl ⟨Nat.zero_le _, Nat.zero_le _⟩ d_Pa_putNumber_77 (fun w1 H locs hw hP hD hS => ?_)
      subst hw
      have hP : va_P D classes (ws_Pa_putNumber cI cJ cB q_p0 q_p0_bytes q_p0_digits o0.1 o0.2.1 o0.2.2 f_p0_digits) H := hP.sub [1, 2, 0] rfl
      have hD : va_D A (ws_Pa_putNumber cI cJ cB q_p0 q_p0_bytes q_p0_digits o0.1 o0.2.1 o0.2.2 f_p0_digits) := hD.sub [1, 2, 0] (by decide) rfl
      refine lv_iinc (v := (x6 + (-1))) (lv' := [(6, .int (x6 + (-1))), (0, .ref q_p0), (1, .long x1), (3, .long x3), (5, .int x5)]) hx hb d_Pa_putNumber_80 hl (k := 4) rfl rfl (by decide) rfl (fun ls hl => ?_)
      refine lv_goto (tgt := 61) hx hb d_Pa_putNumber_83 (by decide) ?_
      exact ih x1 x3 x5 (x6 + (-1)) o0.1 o0.2.1 o0.2.2 f_p0_digits _ _ _ hm hP hD hS (lv_sub hl [1, 2, 3, 4, 0] rfl)
set_option maxHeartbeats 4000000 in
set_option maxRecDepth 100000 in
theorem w_Pa_putNumber_55 {p : Program} {l : Launch} {e : Env} {s : State} {m : MethodId} {args : Array Value} {below : List Frame} {meth : Method} {c : Code} {D : va_G} {cI cJ cB : ClassId} {sa : Nat → Nat × Nat} {A : Nat → Prop} (fl : Nat) (q_p0 : Nat) (q_p0_bytes : Nat) (q_p0_digits : Nat)  (res : Int32 × Int32 × (Nat → Int32) × (Nat → Int32)) (C0 : vz_Cx p s m meth c b_Pa_putNumber 7 none "LinkEngine$Paper" "putNumber" D [(cI, .int), (cJ, .long), (cB, .byte)] sa A args) : ∀ (x1 : Int64) (x3 : Int64) (x5 : Int32) (i_p0_size : Int32) (i_p0_overflown : Int32) (f_p0_bytes : Nat → Int32) (f_p0_digits : Nat → Int32) (H : Heap) (locs : List Loc) (ls : Array Slot), B_Pa_putNumber_55 fl x1 x3 x5 i_p0_size i_p0_overflown f_p0_bytes f_p0_digits = some res → va_P D classes (ws_Pa_putNumber cI cJ cB q_p0 q_p0_bytes q_p0_digits i_p0_size i_p0_overflown f_p0_bytes f_p0_digits) H → va_D A (ws_Pa_putNumber cI cJ cB q_p0 q_p0_bytes q_p0_digits i_p0_size i_p0_overflown f_p0_bytes f_p0_digits) → va_S A s.heap H locs → lv_has ls 7 [(0, .ref q_p0), (1, .long x1), (3, .long x3), (5, .int x5)] → W p l e rm_Pa_putNumber s m args below meth c H locs 0 0 (MQ below (va_Qv (fun (w : va_W) => w = (ws_Pa_putNumber cI cJ cB q_p0 q_p0_bytes q_p0_digits res.1 res.2.1 res.2.2.1 res.2.2.2)) (vz_B D A) A) args s 0 0 A) (F0 m 55 ls []) := by
  obtain ⟨hx, hb, hr, hml, hown, ht, hlocks, hin, hN, hK, hA, hZ⟩ := id C0
  intro x1 x3 x5 i_p0_size i_p0_overflown f_p0_bytes f_p0_digits H locs ls hm hP hD hS hl
  unfold B_Pa_putNumber_55 at hm
  refine lv_iload hx hb d_Pa_putNumber_55 (lv_at hl 3 rfl) ?_
  refine lv_iconst (v := 1) hx hb d_Pa_putNumber_57 (by decide) ?_
  refine lv_isub hx hb d_Pa_putNumber_58 ?_
  refine lv_istore (lv' := [(6, .int (x5 - (1 : Int32))), (0, .ref q_p0), (1, .long x1), (3, .long x3), (5, .int x5)]) hx hb d_Pa_putNumber_59 hl (by decide) rfl (fun ls hl => ?_)
  exact w_Pa_putNumber_61 fl q_p0 q_p0_bytes q_p0_digits  res C0 fl x1 x3 x5 (x5 - (1 : Int32)) i_p0_size i_p0_overflown f_p0_bytes f_p0_digits _ _ _ hm hP hD hS (lv_sub hl [1, 2, 3, 4, 0] rfl)
set_option maxHeartbeats 4000000 in
set_option maxRecDepth 100000 in
theorem w_Pa_putNumber_17 {p : Program} {l : Launch} {e : Env} {s : State} {m : MethodId} {args : Array Value} {below : List Frame} {meth : Method} {c : Code} {D : va_G} {cI cJ cB : ClassId} {sa : Nat → Nat × Nat} {A : Nat → Prop} (fl : Nat) (q_p0 : Nat) (q_p0_bytes : Nat) (q_p0_digits : Nat)  (res : Int32 × Int32 × (Nat → Int32) × (Nat → Int32)) (C0 : vz_Cx p s m meth c b_Pa_putNumber 7 none "LinkEngine$Paper" "putNumber" D [(cI, .int), (cJ, .long), (cB, .byte)] sa A args) : ∀ (nn : Nat), ∀ (x1 : Int64) (x3 : Int64) (x5 : Int32) (i_p0_size : Int32) (i_p0_overflown : Int32) (f_p0_bytes : Nat → Int32) (f_p0_digits : Nat → Int32) (H : Heap) (locs : List Loc) (ls : Array Slot), B_Pa_putNumber_17 fl nn x1 x3 x5 i_p0_size i_p0_overflown f_p0_bytes f_p0_digits = some res → va_P D classes (ws_Pa_putNumber cI cJ cB q_p0 q_p0_bytes q_p0_digits i_p0_size i_p0_overflown f_p0_bytes f_p0_digits) H → va_D A (ws_Pa_putNumber cI cJ cB q_p0 q_p0_bytes q_p0_digits i_p0_size i_p0_overflown f_p0_bytes f_p0_digits) → va_S A s.heap H locs → lv_has ls 7 [(0, .ref q_p0), (1, .long x1), (3, .long x3), (5, .int x5)] → W p l e rm_Pa_putNumber s m args below meth c H locs 0 0 (MQ below (va_Qv (fun (w : va_W) => w = (ws_Pa_putNumber cI cJ cB q_p0 q_p0_bytes q_p0_digits res.1 res.2.1 res.2.2.1 res.2.2.2)) (vz_B D A) A) args s 0 0 A) (F0 m 17 ls []) := by
  obtain ⟨hx, hb, hr, hml, hown, ht, hlocks, hin, hN, hK, hA, hZ⟩ := id C0
  intro nn
  induction nn with
  | zero =>
    intro x1 x3 x5 i_p0_size i_p0_overflown f_p0_bytes f_p0_digits H locs ls hm hP hD hS hl
    rw [B_Pa_putNumber_17] at hm
    cases hm
  | succ nn ih =>
    intro x1 x3 x5 i_p0_size i_p0_overflown f_p0_bytes f_p0_digits H locs ls hm hP hD hS hl
    rw [B_Pa_putNumber_17] at hm
    refine lv_aload_n hx hb d_Pa_putNumber_17 rfl (lv_at hl 0 rfl) ?_
    refine va_get (D := D) (ci := 3) (v := .ref q_p0_digits) (C := R_Pa) (T := F_Pa) (N := 4) hx hb ht i_Pa hown hK hP 0 rfl rfl 1 (Nat.le_of_ble_eq_true rfl) (ht _ m_19) (fun _ h9 => h9) rfl d_Pa_putNumber_18 ?_
    refine lv_iload hx hb d_Pa_putNumber_21 (lv_at hl 3 rfl) ?_
    refine lv_lload_n hx hb d_Pa_putNumber_23 rfl (lv_at hl 2 rfl) ?_
    refine lv_ldc2 hx hb hown (ht _ m_375) d_Pa_putNumber_24 ?_
    obtain ⟨hg, hm⟩ := vz_guard hm
    refine lv_lrem hx hb d_Pa_putNumber_27 hg ?_
    refine va_mabs_long hx hb (hml.trans hl.1.symm) hown (ht _ m_376) (ht _ m_377) (ht _ m_373) (ht _ m_378) (Nat.le_of_ble_eq_true rfl) (Nat.le_of_ble_eq_true rfl) (Nat.zero_le _) (Nat.zero_le _) d_Pa_putNumber_28 ?_
    refine lv_l2i hx hb d_Pa_putNumber_31 rfl ?_
    obtain ⟨hg, hm⟩ := vz_guard hm
    refine va_iast hx hb hK hP hD hS 2 0 rfl rfl hg d_Pa_putNumber_32 (fun H locs hP hD hS => ?_)
    have hP : va_P D classes (ws_Pa_putNumber cI cJ cB q_p0 q_p0_bytes q_p0_digits i_p0_size i_p0_overflown f_p0_bytes (upd f_p0_digits (Int32.toNatClampNeg x5) (Int64.toInt32 (if 0 < (x3 - x3 / (10 : Int64) * (10 : Int64)) then (x3 - x3 / (10 : Int64) * (10 : Int64)) else -(x3 - x3 / (10 : Int64) * (10 : Int64)))))) H := hP
    have hD : va_D A (ws_Pa_putNumber cI cJ cB q_p0 q_p0_bytes q_p0_digits i_p0_size i_p0_overflown f_p0_bytes (upd f_p0_digits (Int32.toNatClampNeg x5) (Int64.toInt32 (if 0 < (x3 - x3 / (10 : Int64) * (10 : Int64)) then (x3 - x3 / (10 : Int64) * (10 : Int64)) else -(x3 - x3 / (10 : Int64) * (10 : Int64)))))) := hD
    refine lv_lload_n hx hb d_Pa_putNumber_33 rfl (lv_at hl 2 rfl) ?_
    refine lv_ldc2 hx hb hown (ht _ m_375) d_Pa_putNumber_34 ?_
    obtain ⟨hg, hm⟩ := vz_guard hm
    refine lv_ldiv hx hb d_Pa_putNumber_37 hg ?_
    refine lv_lstore_n (lv' := [(3, .long (x3 / (10 : Int64))), (0, .ref q_p0), (1, .long x1), (5, .int x5)]) hx hb d_Pa_putNumber_38 rfl hl (by decide) rfl (fun ls hl => ?_)
    refine lv_iinc (v := (x5 + 1)) (lv' := [(5, .int (x5 + 1)), (3, .long (x3 / (10 : Int64))), (0, .ref q_p0), (1, .long x1)]) hx hb d_Pa_putNumber_39 hl (k := 3) rfl rfl (by decide) rfl (fun ls hl => ?_)
    refine lv_lload_n hx hb d_Pa_putNumber_42 rfl (lv_at hl 1 rfl) ?_
    refine lv_lconst (v := 0) hx hb d_Pa_putNumber_43 (by decide) ?_
    refine W.lcmp hx hb d_Pa_putNumber_44 ?_
    refine lv_if_eq (tgt := 55) hx hb d_Pa_putNumber_45 (by decide) (fun hc => ?_) (fun hc => ?_)
    · rw [if_pos hc] at hm
      exact w_Pa_putNumber_55 fl q_p0 q_p0_bytes q_p0_digits  res C0 x1 (x3 / (10 : Int64)) (x5 + 1) i_p0_size i_p0_overflown f_p0_bytes (upd f_p0_digits (Int32.toNatClampNeg x5) (Int64.toInt32 (if 0 < (x3 - x3 / (10 : Int64) * (10 : Int64)) then (x3 - x3 / (10 : Int64) * (10 : Int64)) else -(x3 - x3 / (10 : Int64) * (10 : Int64))))) _ _ _ hm hP hD hS (lv_sub hl [2, 3, 1, 0] rfl)
    · rw [if_neg hc] at hm
      refine lv_iload hx hb d_Pa_putNumber_48 (lv_at hl 0 rfl) ?_
      refine lv_bipush (v := 20) hx hb d_Pa_putNumber_50 (by decide +kernel) ?_
      refine lv_icmp_lt (tgt := 17) hx hb d_Pa_putNumber_52 (by decide) (fun hc => ?_) (fun hc => ?_)
      · rw [if_pos hc] at hm
        exact ih x1 (x3 / (10 : Int64)) (x5 + 1) i_p0_size i_p0_overflown f_p0_bytes (upd f_p0_digits (Int32.toNatClampNeg x5) (Int64.toInt32 (if 0 < (x3 - x3 / (10 : Int64) * (10 : Int64)) then (x3 - x3 / (10 : Int64) * (10 : Int64)) else -(x3 - x3 / (10 : Int64) * (10 : Int64))))) _ _ _ hm hP hD hS (lv_sub hl [2, 3, 1, 0] rfl)
      · rw [if_neg hc] at hm
        exact w_Pa_putNumber_55 fl q_p0 q_p0_bytes q_p0_digits  res C0 x1 (x3 / (10 : Int64)) (x5 + 1) i_p0_size i_p0_overflown f_p0_bytes (upd f_p0_digits (Int32.toNatClampNeg x5) (Int64.toInt32 (if 0 < (x3 - x3 / (10 : Int64) * (10 : Int64)) then (x3 - x3 / (10 : Int64) * (10 : Int64)) else -(x3 - x3 / (10 : Int64) * (10 : Int64))))) _ _ _ hm hP hD hS (lv_sub hl [2, 3, 1, 0] rfl)
set_option maxHeartbeats 4000000 in
set_option maxRecDepth 100000 in
theorem w_Pa_putNumber_12 {p : Program} {l : Launch} {e : Env} {s : State} {m : MethodId} {args : Array Value} {below : List Frame} {meth : Method} {c : Code} {D : va_G} {cI cJ cB : ClassId} {sa : Nat → Nat × Nat} {A : Nat → Prop} (fl : Nat) (q_p0 : Nat) (q_p0_bytes : Nat) (q_p0_digits : Nat)  (res : Int32 × Int32 × (Nat → Int32) × (Nat → Int32)) (C0 : vz_Cx p s m meth c b_Pa_putNumber 7 none "LinkEngine$Paper" "putNumber" D [(cI, .int), (cJ, .long), (cB, .byte)] sa A args) : ∀ (x1 : Int64) (i_p0_size : Int32) (i_p0_overflown : Int32) (f_p0_bytes : Nat → Int32) (f_p0_digits : Nat → Int32) (H : Heap) (locs : List Loc) (ls : Array Slot), B_Pa_putNumber_12 fl x1 i_p0_size i_p0_overflown f_p0_bytes f_p0_digits = some res → va_P D classes (ws_Pa_putNumber cI cJ cB q_p0 q_p0_bytes q_p0_digits i_p0_size i_p0_overflown f_p0_bytes f_p0_digits) H → va_D A (ws_Pa_putNumber cI cJ cB q_p0 q_p0_bytes q_p0_digits i_p0_size i_p0_overflown f_p0_bytes f_p0_digits) → va_S A s.heap H locs → lv_has ls 7 [(0, .ref q_p0), (1, .long x1)] → W p l e rm_Pa_putNumber s m args below meth c H locs 0 0 (MQ below (va_Qv (fun (w : va_W) => w = (ws_Pa_putNumber cI cJ cB q_p0 q_p0_bytes q_p0_digits res.1 res.2.1 res.2.2.1 res.2.2.2)) (vz_B D A) A) args s 0 0 A) (F0 m 12 ls []) := by
  obtain ⟨hx, hb, hr, hml, hown, ht, hlocks, hin, hN, hK, hA, hZ⟩ := id C0
  intro x1 i_p0_size i_p0_overflown f_p0_bytes f_p0_digits H locs ls hm hP hD hS hl
  unfold B_Pa_putNumber_12 at hm
  refine lv_lload_n hx hb d_Pa_putNumber_12 rfl (lv_at hl 1 rfl) ?_
  refine lv_lstore_n (lv' := [(3, .long x1), (0, .ref q_p0), (1, .long x1)]) hx hb d_Pa_putNumber_13 rfl hl (by decide) rfl (fun ls hl => ?_)
  refine lv_iconst (v := 0) hx hb d_Pa_putNumber_14 (by decide) ?_
  refine lv_istore (lv' := [(5, .int 0), (3, .long x1), (0, .ref q_p0), (1, .long x1)]) hx hb d_Pa_putNumber_15 hl (by decide) rfl (fun ls hl => ?_)
  exact w_Pa_putNumber_17 fl q_p0 q_p0_bytes q_p0_digits  res C0 fl x1 x1 0 i_p0_size i_p0_overflown f_p0_bytes f_p0_digits _ _ _ hm hP hD hS (lv_sub hl [2, 3, 1, 0] rfl)
set_option maxHeartbeats 4000000 in
set_option maxRecDepth 100000 in
theorem w_Pa_putNumber_0 {p : Program} {l : Launch} {e : Env} {s : State} {m : MethodId} {args : Array Value} {below : List Frame} {meth : Method} {c : Code} {D : va_G} {cI cJ cB : ClassId} {sa : Nat → Nat × Nat} {A : Nat → Prop} (fl : Nat) (q_p0 : Nat) (q_p0_bytes : Nat) (q_p0_digits : Nat)  (res : Int32 × Int32 × (Nat → Int32) × (Nat → Int32)) (C0 : vz_Cx p s m meth c b_Pa_putNumber 7 none "LinkEngine$Paper" "putNumber" D [(cI, .int), (cJ, .long), (cB, .byte)] sa A args) : ∀ (x1 : Int64) (i_p0_size : Int32) (i_p0_overflown : Int32) (f_p0_bytes : Nat → Int32) (f_p0_digits : Nat → Int32) (H : Heap) (locs : List Loc) (ls : Array Slot), B_Pa_putNumber_0 fl x1 i_p0_size i_p0_overflown f_p0_bytes f_p0_digits = some res → va_P D classes (ws_Pa_putNumber cI cJ cB q_p0 q_p0_bytes q_p0_digits i_p0_size i_p0_overflown f_p0_bytes f_p0_digits) H → va_D A (ws_Pa_putNumber cI cJ cB q_p0 q_p0_bytes q_p0_digits i_p0_size i_p0_overflown f_p0_bytes f_p0_digits) → va_S A s.heap H locs → lv_has ls 7 [(0, .ref q_p0), (1, .long x1)] → W p l e rm_Pa_putNumber s m args below meth c H locs 0 0 (MQ below (va_Qv (fun (w : va_W) => w = (ws_Pa_putNumber cI cJ cB q_p0 q_p0_bytes q_p0_digits res.1 res.2.1 res.2.2.1 res.2.2.2)) (vz_B D A) A) args s 0 0 A) (F0 m 0 ls []) := by
  obtain ⟨hx, hb, hr, hml, hown, ht, hlocks, hin, hN, hK, hA, hZ⟩ := id C0
  intro x1 i_p0_size i_p0_overflown f_p0_bytes f_p0_digits H locs ls hm hP hD hS hl
  unfold B_Pa_putNumber_0 at hm
  refine lv_lload_n hx hb d_Pa_putNumber_0 rfl (lv_at hl 1 rfl) ?_
  refine lv_lconst (v := 0) hx hb d_Pa_putNumber_1 (by decide) ?_
  refine W.lcmp hx hb d_Pa_putNumber_2 ?_
  refine lv_if_ge (tgt := 12) hx hb d_Pa_putNumber_3 (by decide) (fun hc => ?_) (fun hc => ?_)
  · rw [if_pos hc] at hm
    exact w_Pa_putNumber_12 fl q_p0 q_p0_bytes q_p0_digits  res C0 x1 i_p0_size i_p0_overflown f_p0_bytes f_p0_digits _ _ _ hm hP hD hS (lv_sub hl [0, 1] rfl)
  · rw [if_neg hc] at hm
    refine lv_aload_n hx hb d_Pa_putNumber_6 rfl (lv_at hl 0 rfl) ?_
    refine lv_bipush (v := 45) hx hb d_Pa_putNumber_7 (by decide +kernel) ?_
    obtain ⟨o0, ho0, hm⟩ := vz_bind hm
    try dsimp only at hm
    refine vz_callVv (n := 1) (As := [.int 45]) (rest := []) (wc := (ws_Pa_put cI cJ cB q_p0 q_p0_bytes q_p0_digits i_p0_size i_p0_overflown f_p0_bytes)) (wr := [(q_p0_digits, .inl (cI, 20, .inl f_p0_digits))]) (k1 := 0) (n1 := 0) hx hb hml hown ht hN hZ hK hP hD hS hA (k_Pa_put l D cI cJ cB sa fl q_p0 q_p0_bytes q_p0_digits i_p0_size i_p0_overflown f_p0_bytes 45 o0 ho0) m_370 m_69 m_367 m_368 m_369 (hc := (rfl : classes[3]? = some (R_Pa, F_Pa, 4))) 0 rfl (by decide +kernel) ⟨Nat.le_of_ble_eq_true rfl, Nat.le_of_ble_eq_true rfl⟩ [0, 1] [2] rfl rfl (by decide) (by decide) (by decide) rfl hl.1 rfl (Nat.le_of_ble_eq_true rfl) rfl rfl ⟨Nat.zero_le _, Nat.zero_le _⟩ d_Pa_putNumber_9 (fun w1 H locs hw hP hD hS => ?_)
    subst hw
    have hP : va_P D classes (ws_Pa_putNumber cI cJ cB q_p0 q_p0_bytes q_p0_digits o0.1 o0.2.1 o0.2.2 f_p0_digits) H := hP.sub [1, 2, 0] rfl
    have hD : va_D A (ws_Pa_putNumber cI cJ cB q_p0 q_p0_bytes q_p0_digits o0.1 o0.2.1 o0.2.2 f_p0_digits) := hD.sub [1, 2, 0] (by decide) rfl
    exact w_Pa_putNumber_12 fl q_p0 q_p0_bytes q_p0_digits  res C0 x1 o0.1 o0.2.1 o0.2.2 f_p0_digits _ _ _ hm hP hD hS (lv_sub hl [0, 1] rfl)
set_option maxHeartbeats 4000000 in
set_option maxRecDepth 100000 in
theorem k_Pa_putNumber (l : Launch) (D : va_G) (cI cJ cB : ClassId) (sa : Nat → Nat × Nat) (fl : Nat) (q_p0 : Nat) (q_p0_bytes : Nat) (q_p0_digits : Nat) (i_p0_size : Int32) (i_p0_overflown : Int32) (f_p0_bytes : Nat → Int32) (f_p0_digits : Nat → Int32) (x1 : Int64) (res : Int32 × Int32 × (Nat → Int32) × (Nat → Int32)) (hm : m_Pa_putNumber fl x1 i_p0_size i_p0_overflown f_p0_bytes f_p0_digits = some res) : MtV l y_Pa_putNumber (.code y_Pa_putNumber b_Pa_putNumber 7 none :: CW) rm_Pa_putNumber D [(cI, .int), (cJ, .long), (cB, .byte)] sa [.ref q_p0, .long x1] (ws_Pa_putNumber cI cJ cB q_p0 q_p0_bytes q_p0_digits i_p0_size i_p0_overflown f_p0_bytes f_p0_digits) (fun (w : va_W) => w = (ws_Pa_putNumber cI cJ cB q_p0 q_p0_bytes q_p0_digits res.1 res.2.1 res.2.2.1 res.2.2.2)) := by
  intro sz
  refine vz_start (Qc := fun A => va_Qv (fun (w : va_W) => w = (ws_Pa_putNumber cI cJ cB q_p0 q_p0_bytes q_p0_digits res.1 res.2.1 res.2.2.1 res.2.2.2)) (vz_B D A) A) (lv0 := [(0, .ref q_p0), (1, .long x1)]) (by decide +kernel) (Nat.le_of_ble_eq_true rfl) rfl ?_
  intro p e s m below meth c A ls C0 hl
  obtain ⟨hx, hb, hr, hml, hown, ht, hlocks, hin, hN, hK, hP, hD, hA, hS, hZ⟩ := C0
  exact w_Pa_putNumber_0 fl q_p0 q_p0_bytes q_p0_digits  res ⟨hx, hb, hr, hml, hown, ht, hlocks, hin, hN, hK, hA, hZ⟩ x1 i_p0_size i_p0_overflown f_p0_bytes f_p0_digits s.heap [] ls hm hP hD hS (lv_sub hl [0, 1] rfl)
def ws_Di_upperIn (cI cJ cB : ClassId) (q_p0 : Nat) (q_p0_sign : Nat) (q_p0_label : Nat) (q_p0_shape : Nat) (i_p0_count : Int32) (i_p0_circles : Int32) (i_p0_shapeIsKnown : Int32) (f_p0_sign : Nat → Int32) : va_W := [(q_p0, .inr (4, [.ref q_p0_sign, .ref q_p0_label, .ref q_p0_shape, .int i_p0_count, .int i_p0_circles, .int i_p0_shapeIsKnown])), (q_p0_sign, .inl (cI, 20, .inl f_p0_sign))]
def rm_Di_upperIn : Room := { frames := 0, cells := 0, slots := 0, locals := 0 }
def B_Di_upperIn_0 (fl : Nat) (f_p0_sign : Nat → Int32) (x1 : Int32) : Option (Int32) := (if ¬ (x1 < 0 ∨ 20 ≤ Int32.toNatClampNeg x1) then (if (f_p0_sign (Int32.toNatClampNeg x1)) ≤ (0 : Int32) then (some (((4 : Int32) * x1) + (1 : Int32))) else (some (((4 : Int32) * x1) + (3 : Int32)))) else none)
def m_Di_upperIn (fl : Nat) (f_p0_sign : Nat → Int32) (x1 : Int32) : Option (Int32) := B_Di_upperIn_0 fl f_p0_sign x1
set_option maxHeartbeats 4000000 in
set_option maxRecDepth 100000 in
theorem w_Di_upperIn_0 {p : Program} {l : Launch} {e : Env} {s : State} {m : MethodId} {args : Array Value} {below : List Frame} {meth : Method} {c : Code} {D : va_G} {cI cJ cB : ClassId} {sa : Nat → Nat × Nat} {A : Nat → Prop} (fl : Nat) (q_p0 : Nat) (q_p0_sign : Nat) (q_p0_label : Nat) (q_p0_shape : Nat) (f_p0_sign : Nat → Int32) (i_p0_count : Int32) (i_p0_circles : Int32) (i_p0_shapeIsKnown : Int32) (res : Int32) (C0 : vz_Cx p s m meth c b_Di_upperIn 2 (some .int) "LinkEngine$Diagram" "upperIn" D [(cI, .int), (cJ, .long), (cB, .byte)] sa A args) : ∀ (x1 : Int32) (H : Heap) (locs : List Loc) (ls : Array Slot), B_Di_upperIn_0 fl f_p0_sign x1 = some res → va_P D classes (ws_Di_upperIn cI cJ cB q_p0 q_p0_sign q_p0_label q_p0_shape i_p0_count i_p0_circles i_p0_shapeIsKnown f_p0_sign) H → va_D A (ws_Di_upperIn cI cJ cB q_p0 q_p0_sign q_p0_label q_p0_shape i_p0_count i_p0_circles i_p0_shapeIsKnown f_p0_sign) → va_S A s.heap H locs → lv_has ls 2 [(0, .ref q_p0), (1, .int x1)] → W p l e rm_Di_upperIn s m args below meth c H locs 0 0 (MQ below (va_Qi (fun (r : Int32) (w : va_W) => r = res ∧ w = (ws_Di_upperIn cI cJ cB q_p0 q_p0_sign q_p0_label q_p0_shape i_p0_count i_p0_circles i_p0_shapeIsKnown f_p0_sign)) (vz_B D A) A) args s 0 0 A) (F0 m 0 ls []) := by
  obtain ⟨hx, hb, hr, hml, hown, ht, hlocks, hin, hN, hK, hA, hZ⟩ := id C0
  intro x1 H locs ls hm hP hD hS hl
  unfold B_Di_upperIn_0 at hm
  refine lv_iconst (v := 4) hx hb d_Di_upperIn_0 (by decide) ?_
  refine lv_iload_n hx hb d_Di_upperIn_1 rfl (lv_at hl 1 rfl) ?_
  refine lv_imul hx hb d_Di_upperIn_2 ?_
  refine lv_aload_n hx hb d_Di_upperIn_3 rfl (lv_at hl 0 rfl) ?_
  refine va_get (D := D) (ci := 4) (v := .ref q_p0_sign) (C := R_Di) (T := F_Di) (N := 6) hx hb ht i_Di hown hK hP 0 rfl rfl 0 (Nat.le_of_ble_eq_true rfl) (ht _ m_50) (fun _ h9 => h9) rfl d_Di_upperIn_4 ?_
  refine lv_iload_n hx hb d_Di_upperIn_7 rfl (lv_at hl 1 rfl) ?_
  obtain ⟨hg, hm⟩ := vz_guard hm
  refine va_iald hx hb hK hP 1 0 rfl rfl hg d_Di_upperIn_8 ?_
  refine lv_if_le (tgt := 16) hx hb d_Di_upperIn_9 (by decide) (fun hc => ?_) (fun hc => ?_)
  · rw [if_pos hc] at hm
    refine lv_iconst (v := 1) hx hb d_Di_upperIn_16 (by decide) ?_
    refine lv_iadd hx hb d_Di_upperIn_17 ?_
    obtain rfl := Option.some.inj hm
    exact vz_iret hx hb hr rfl hlocks hP hD hS (Nat.le_refl _) (Nat.le_refl _) d_Di_upperIn_18 ⟨rfl, rfl⟩
  · rw [if_neg hc] at hm
    refine lv_iconst (v := 3) hx hb d_Di_upperIn_12 (by decide) ?_
    refine lv_goto (tgt := 17) hx hb d_Di_upperIn_13 (by decide) ?_
    refine lv_iadd hx hb d_Di_upperIn_17 ?_
    obtain rfl := Option.some.inj hm
    exact vz_iret hx hb hr rfl hlocks hP hD hS (Nat.le_refl _) (Nat.le_refl _) d_Di_upperIn_18 ⟨rfl, rfl⟩
set_option maxHeartbeats 4000000 in
set_option maxRecDepth 100000 in
theorem k_Di_upperIn (l : Launch) (D : va_G) (cI cJ cB : ClassId) (sa : Nat → Nat × Nat) (fl : Nat) (q_p0 : Nat) (q_p0_sign : Nat) (q_p0_label : Nat) (q_p0_shape : Nat) (f_p0_sign : Nat → Int32) (i_p0_count : Int32) (i_p0_circles : Int32) (i_p0_shapeIsKnown : Int32) (x1 : Int32) (res : Int32) (hm : m_Di_upperIn fl f_p0_sign x1 = some res) : MtI l y_Di_upperIn (.code y_Di_upperIn b_Di_upperIn 2 (some .int) :: CW) rm_Di_upperIn D [(cI, .int), (cJ, .long), (cB, .byte)] sa [.ref q_p0, .int x1] (ws_Di_upperIn cI cJ cB q_p0 q_p0_sign q_p0_label q_p0_shape i_p0_count i_p0_circles i_p0_shapeIsKnown f_p0_sign) (fun (r : Int32) (w : va_W) => r = res ∧ w = (ws_Di_upperIn cI cJ cB q_p0 q_p0_sign q_p0_label q_p0_shape i_p0_count i_p0_circles i_p0_shapeIsKnown f_p0_sign)) := by
  intro sz
  refine vz_start (Qc := fun A => va_Qi (fun (r : Int32) (w : va_W) => r = res ∧ w = (ws_Di_upperIn cI cJ cB q_p0 q_p0_sign q_p0_label q_p0_shape i_p0_count i_p0_circles i_p0_shapeIsKnown f_p0_sign)) (vz_B D A) A) (lv0 := [(0, .ref q_p0), (1, .int x1)]) (by decide +kernel) (Nat.le_of_ble_eq_true rfl) rfl ?_
  intro p e s m below meth c A ls C0 hl
  obtain ⟨hx, hb, hr, hml, hown, ht, hlocks, hin, hN, hK, hP, hD, hA, hS, hZ⟩ := C0
  exact w_Di_upperIn_0 fl q_p0 q_p0_sign q_p0_label q_p0_shape f_p0_sign i_p0_count i_p0_circles i_p0_shapeIsKnown res ⟨hx, hb, hr, hml, hown, ht, hlocks, hin, hN, hK, hA, hZ⟩ x1 s.heap [] ls hm hP hD hS (lv_sub hl [0, 1] rfl)
def ws_Di_rename (cI cJ cB : ClassId) (q_p0 : Nat) (q_p0_sign : Nat) (q_p0_label : Nat) (q_p0_shape : Nat) (i_p0_count : Int32) (i_p0_circles : Int32) (i_p0_shapeIsKnown : Int32) (f_p0_label : Nat → Int32) : va_W := [(q_p0, .inr (4, [.ref q_p0_sign, .ref q_p0_label, .ref q_p0_shape, .int i_p0_count, .int i_p0_circles, .int i_p0_shapeIsKnown])), (q_p0_label, .inl (cI, 80, .inl f_p0_label))]
def rm_Di_rename : Room := { frames := 0, cells := 0, slots := 0, locals := 0 }
def B_Di_rename_34 (fl : Nat) (i_p0_count : Int32) (kb_7 : Int32 → Int32 → Int32 → Int32 → (Nat → Int32) → Option (Int32 × (Nat → Int32))) (x1 : Int32) (x2 : Int32) (x3 : Int32) (i_p0_shapeIsKnown : Int32) (f_p0_label : Nat → Int32) : Option (Int32 × (Nat → Int32)) := kb_7 x1 x2 (x3 + 1) i_p0_shapeIsKnown f_p0_label
def B_Di_rename_7 (fl : Nat) (i_p0_count : Int32) : Nat → Int32 → Int32 → Int32 → Int32 → (Nat → Int32) → Option (Int32 × (Nat → Int32))
  | 0, _, _, _, _, _ => none
  | nn + 1, x1, x2, x3, i_p0_shapeIsKnown, f_p0_label => (if ((4 : Int32) * i_p0_count) ≤ x3 then (some (i_p0_shapeIsKnown, f_p0_label)) else (if ¬ (x3 < 0 ∨ 80 ≤ Int32.toNatClampNeg x3) then (if ¬ (f_p0_label (Int32.toNatClampNeg x3)) = x1 then B_Di_rename_34 fl i_p0_count (B_Di_rename_7 fl i_p0_count nn) x1 x2 x3 i_p0_shapeIsKnown f_p0_label else (if ¬ (x3 < 0 ∨ 80 ≤ Int32.toNatClampNeg x3) then B_Di_rename_34 fl i_p0_count (B_Di_rename_7 fl i_p0_count nn) x1 x2 x3 i_p0_shapeIsKnown (upd f_p0_label (Int32.toNatClampNeg x3) x2) else none)) else none))
def B_Di_rename_0 (fl : Nat) (i_p0_count : Int32) (x1 : Int32) (x2 : Int32) (i_p0_shapeIsKnown : Int32) (f_p0_label : Nat → Int32) : Option (Int32 × (Nat → Int32)) := B_Di_rename_7 fl i_p0_count fl x1 x2 0 0 f_p0_label
def m_Di_rename (fl : Nat) (i_p0_count : Int32) (x1 : Int32) (x2 : Int32) (i_p0_shapeIsKnown : Int32) (f_p0_label : Nat → Int32) : Option (Int32 × (Nat → Int32)) := B_Di_rename_0 fl i_p0_count x1 x2 i_p0_shapeIsKnown f_p0_label
set_option maxHeartbeats 4000000 in
set_option maxRecDepth 100000 in
theorem w_Di_rename_34 {p : Program} {l : Launch} {e : Env} {s : State} {m : MethodId} {args : Array Value} {below : List Frame} {meth : Method} {c : Code} {D : va_G} {cI cJ cB : ClassId} {sa : Nat → Nat × Nat} {A : Nat → Prop} (fl : Nat) (q_p0 : Nat) (q_p0_sign : Nat) (q_p0_label : Nat) (q_p0_shape : Nat) (i_p0_count : Int32) (i_p0_circles : Int32) (res : Int32 × (Nat → Int32)) (C0 : vz_Cx p s m meth c b_Di_rename 4 none "LinkEngine$Diagram" "rename" D [(cI, .int), (cJ, .long), (cB, .byte)] sa A args) (kb_7 : Int32 → Int32 → Int32 → Int32 → (Nat → Int32) → Option (Int32 × (Nat → Int32))) (hk_7 : ∀ (x1 : Int32) (x2 : Int32) (x3 : Int32) (i_p0_shapeIsKnown : Int32) (f_p0_label : Nat → Int32) (H : Heap) (locs : List Loc) (ls : Array Slot), kb_7 x1 x2 x3 i_p0_shapeIsKnown f_p0_label = some res → va_P D classes (ws_Di_rename cI cJ cB q_p0 q_p0_sign q_p0_label q_p0_shape i_p0_count i_p0_circles i_p0_shapeIsKnown f_p0_label) H → va_D A (ws_Di_rename cI cJ cB q_p0 q_p0_sign q_p0_label q_p0_shape i_p0_count i_p0_circles i_p0_shapeIsKnown f_p0_label) → va_S A s.heap H locs → lv_has ls 4 [(0, .ref q_p0), (1, .int x1), (2, .int x2), (3, .int x3)] → W p l e rm_Di_rename s m args below meth c H locs 0 0 (MQ below (va_Qv (fun (w : va_W) => w = (ws_Di_rename cI cJ cB q_p0 q_p0_sign q_p0_label q_p0_shape i_p0_count i_p0_circles res.1 res.2)) (vz_B D A) A) args s 0 0 A) (F0 m 7 ls [])) : ∀ (x1 : Int32) (x2 : Int32) (x3 : Int32) (i_p0_shapeIsKnown : Int32) (f_p0_label : Nat → Int32) (H : Heap) (locs : List Loc) (ls : Array Slot), B_Di_rename_34 fl i_p0_count kb_7 x1 x2 x3 i_p0_shapeIsKnown f_p0_label = some res → va_P D classes (ws_Di_rename cI cJ cB q_p0 q_p0_sign q_p0_label q_p0_shape i_p0_count i_p0_circles i_p0_shapeIsKnown f_p0_label) H → va_D A (ws_Di_rename cI cJ cB q_p0 q_p0_sign q_p0_label q_p0_shape i_p0_count i_p0_circles i_p0_shapeIsKnown f_p0_label) → va_S A s.heap H locs → lv_has ls 4 [(0, .ref q_p0), (1, .int x1), (2, .int x2), (3, .int x3)] → W p l e rm_Di_rename s m args below meth c H locs 0 0 (MQ below (va_Qv (fun (w : va_W) => w = (ws_Di_rename cI cJ cB q_p0 q_p0_sign q_p0_label q_p0_shape i_p0_count i_p0_circles res.1 res.2)) (vz_B D A) A) args s 0 0 A) (F0 m 34 ls []) := by
  obtain ⟨hx, hb, hr, hml, hown, ht, hlocks, hin, hN, hK, hA, hZ⟩ := id C0
  intro x1 x2 x3 i_p0_shapeIsKnown f_p0_label H locs ls hm hP hD hS hl
  unfold B_Di_rename_34 at hm
  refine lv_iinc (v := (x3 + 1)) (lv' := [(3, .int (x3 + 1)), (0, .ref q_p0), (1, .int x1), (2, .int x2)]) hx hb d_Di_rename_34 hl (k := 3) rfl rfl (by decide) rfl (fun ls hl => ?_)
  refine lv_goto (tgt := 7) hx hb d_Di_rename_37 (by decide) ?_
  exact hk_7 x1 x2 (x3 + 1) i_p0_shapeIsKnown f_p0_label _ _ _ hm hP hD hS (lv_sub hl [1, 2, 3, 0] rfl)
set_option maxHeartbeats 4000000 in
set_option maxRecDepth 100000 in
theorem w_Di_rename_7 {p : Program} {l : Launch} {e : Env} {s : State} {m : MethodId} {args : Array Value} {below : List Frame} {meth : Method} {c : Code} {D : va_G} {cI cJ cB : ClassId} {sa : Nat → Nat × Nat} {A : Nat → Prop} (fl : Nat) (q_p0 : Nat) (q_p0_sign : Nat) (q_p0_label : Nat) (q_p0_shape : Nat) (i_p0_count : Int32) (i_p0_circles : Int32) (res : Int32 × (Nat → Int32)) (C0 : vz_Cx p s m meth c b_Di_rename 4 none "LinkEngine$Diagram" "rename" D [(cI, .int), (cJ, .long), (cB, .byte)] sa A args) : ∀ (nn : Nat), ∀ (x1 : Int32) (x2 : Int32) (x3 : Int32) (i_p0_shapeIsKnown : Int32) (f_p0_label : Nat → Int32) (H : Heap) (locs : List Loc) (ls : Array Slot), B_Di_rename_7 fl i_p0_count nn x1 x2 x3 i_p0_shapeIsKnown f_p0_label = some res → va_P D classes (ws_Di_rename cI cJ cB q_p0 q_p0_sign q_p0_label q_p0_shape i_p0_count i_p0_circles i_p0_shapeIsKnown f_p0_label) H → va_D A (ws_Di_rename cI cJ cB q_p0 q_p0_sign q_p0_label q_p0_shape i_p0_count i_p0_circles i_p0_shapeIsKnown f_p0_label) → va_S A s.heap H locs → lv_has ls 4 [(0, .ref q_p0), (1, .int x1), (2, .int x2), (3, .int x3)] → W p l e rm_Di_rename s m args below meth c H locs 0 0 (MQ below (va_Qv (fun (w : va_W) => w = (ws_Di_rename cI cJ cB q_p0 q_p0_sign q_p0_label q_p0_shape i_p0_count i_p0_circles res.1 res.2)) (vz_B D A) A) args s 0 0 A) (F0 m 7 ls []) := by
  obtain ⟨hx, hb, hr, hml, hown, ht, hlocks, hin, hN, hK, hA, hZ⟩ := id C0
  intro nn
  induction nn with
  | zero =>
    intro x1 x2 x3 i_p0_shapeIsKnown f_p0_label H locs ls hm hP hD hS hl
    rw [B_Di_rename_7] at hm
    cases hm
  | succ nn ih =>
    intro x1 x2 x3 i_p0_shapeIsKnown f_p0_label H locs ls hm hP hD hS hl
    rw [B_Di_rename_7] at hm
    refine lv_iload_n hx hb d_Di_rename_7 rfl (lv_at hl 3 rfl) ?_
    refine lv_iconst (v := 4) hx hb d_Di_rename_8 (by decide) ?_
    refine lv_aload_n hx hb d_Di_rename_9 rfl (lv_at hl 0 rfl) ?_
    refine va_get (D := D) (ci := 4) (v := .int i_p0_count) (C := R_Di) (T := F_Di) (N := 6) hx hb ht i_Di hown hK hP 0 rfl rfl 3 (Nat.le_of_ble_eq_true rfl) (ht _ m_238) (fun _ h9 => h9) rfl d_Di_rename_10 ?_
    refine lv_imul hx hb d_Di_rename_13 ?_
    refine lv_icmp_ge (tgt := 40) hx hb d_Di_rename_14 (by decide) (fun hc => ?_) (fun hc => ?_)
    · rw [if_pos hc] at hm
      obtain rfl := Option.some.inj hm
      exact vz_vret hx hb hr hlocks hP hD hS (Nat.le_refl _) (Nat.le_refl _) d_Di_rename_40 rfl
    · rw [if_neg hc] at hm
      refine lv_aload_n hx hb d_Di_rename_17 rfl (lv_at hl 0 rfl) ?_
      refine va_get (D := D) (ci := 4) (v := .ref q_p0_label) (C := R_Di) (T := F_Di) (N := 6) hx hb ht i_Di hown hK hP 0 rfl rfl 1 (Nat.le_of_ble_eq_true rfl) (ht _ m_51) (fun _ h9 => h9) rfl d_Di_rename_18 ?_
      refine lv_iload_n hx hb d_Di_rename_21 rfl (lv_at hl 3 rfl) ?_
      obtain ⟨hg, hm⟩ := vz_guard hm
      refine va_iald hx hb hK hP 1 0 rfl rfl hg d_Di_rename_22 ?_
      refine lv_iload_n hx hb d_Di_rename_23 rfl (lv_at hl 1 rfl) ?_
      refine lv_icmp_ne (tgt := 34) hx hb d_Di_rename_24 (by decide) (fun hc => ?_) (fun hc => ?_)
      · rw [if_pos hc] at hm
        exact w_Di_rename_34 fl q_p0 q_p0_sign q_p0_label q_p0_shape i_p0_count i_p0_circles res C0 (B_Di_rename_7 fl i_p0_count nn) ih x1 x2 x3 i_p0_shapeIsKnown f_p0_label _ _ _ hm hP hD hS (lv_sub hl [0, 1, 2, 3] rfl)
      · rw [if_neg (fun q => q hc)] at hm
        refine lv_aload_n hx hb d_Di_rename_27 rfl (lv_at hl 0 rfl) ?_
        refine va_get (D := D) (ci := 4) (v := .ref q_p0_label) (C := R_Di) (T := F_Di) (N := 6) hx hb ht i_Di hown hK hP 0 rfl rfl 1 (Nat.le_of_ble_eq_true rfl) (ht _ m_51) (fun _ h9 => h9) rfl d_Di_rename_28 ?_
        refine lv_iload_n hx hb d_Di_rename_31 rfl (lv_at hl 3 rfl) ?_
        refine lv_iload_n hx hb d_Di_rename_32 rfl (lv_at hl 2 rfl) ?_
        obtain ⟨hg, hm⟩ := vz_guard hm
        refine va_iast hx hb hK hP hD hS 1 0 rfl rfl hg d_Di_rename_33 (fun H locs hP hD hS => ?_)
        have hP : va_P D classes (ws_Di_rename cI cJ cB q_p0 q_p0_sign q_p0_label q_p0_shape i_p0_count i_p0_circles i_p0_shapeIsKnown (upd f_p0_label (Int32.toNatClampNeg x3) x2)) H := hP
        have hD : va_D A (ws_Di_rename cI cJ cB q_p0 q_p0_sign q_p0_label q_p0_shape i_p0_count i_p0_circles i_p0_shapeIsKnown (upd f_p0_label (Int32.toNatClampNeg x3) x2)) := hD
        exact w_Di_rename_34 fl q_p0 q_p0_sign q_p0_label q_p0_shape i_p0_count i_p0_circles res C0 (B_Di_rename_7 fl i_p0_count nn) ih x1 x2 x3 i_p0_shapeIsKnown (upd f_p0_label (Int32.toNatClampNeg x3) x2) _ _ _ hm hP hD hS (lv_sub hl [0, 1, 2, 3] rfl)
set_option maxHeartbeats 4000000 in
set_option maxRecDepth 100000 in
theorem w_Di_rename_0 {p : Program} {l : Launch} {e : Env} {s : State} {m : MethodId} {args : Array Value} {below : List Frame} {meth : Method} {c : Code} {D : va_G} {cI cJ cB : ClassId} {sa : Nat → Nat × Nat} {A : Nat → Prop} (fl : Nat) (q_p0 : Nat) (q_p0_sign : Nat) (q_p0_label : Nat) (q_p0_shape : Nat) (i_p0_count : Int32) (i_p0_circles : Int32) (res : Int32 × (Nat → Int32)) (C0 : vz_Cx p s m meth c b_Di_rename 4 none "LinkEngine$Diagram" "rename" D [(cI, .int), (cJ, .long), (cB, .byte)] sa A args) : ∀ (x1 : Int32) (x2 : Int32) (i_p0_shapeIsKnown : Int32) (f_p0_label : Nat → Int32) (H : Heap) (locs : List Loc) (ls : Array Slot), B_Di_rename_0 fl i_p0_count x1 x2 i_p0_shapeIsKnown f_p0_label = some res → va_P D classes (ws_Di_rename cI cJ cB q_p0 q_p0_sign q_p0_label q_p0_shape i_p0_count i_p0_circles i_p0_shapeIsKnown f_p0_label) H → va_D A (ws_Di_rename cI cJ cB q_p0 q_p0_sign q_p0_label q_p0_shape i_p0_count i_p0_circles i_p0_shapeIsKnown f_p0_label) → va_S A s.heap H locs → lv_has ls 4 [(0, .ref q_p0), (1, .int x1), (2, .int x2)] → W p l e rm_Di_rename s m args below meth c H locs 0 0 (MQ below (va_Qv (fun (w : va_W) => w = (ws_Di_rename cI cJ cB q_p0 q_p0_sign q_p0_label q_p0_shape i_p0_count i_p0_circles res.1 res.2)) (vz_B D A) A) args s 0 0 A) (F0 m 0 ls []) := by
  obtain ⟨hx, hb, hr, hml, hown, ht, hlocks, hin, hN, hK, hA, hZ⟩ := id C0
  intro x1 x2 i_p0_shapeIsKnown f_p0_label H locs ls hm hP hD hS hl
  unfold B_Di_rename_0 at hm
  refine lv_aload_n hx hb d_Di_rename_0 rfl (lv_at hl 0 rfl) ?_
  refine lv_iconst (v := 0) hx hb d_Di_rename_1 (by decide) ?_
  refine va_put (D := D) (ci := 4) (v := .int 0) (ty := .boolean) (C := R_Di) (T := F_Di) (N := 6) hx hb ht i_Di t_Di t_Di_ok n_Di hown hK hP hD hS 0 rfl rfl 5 (Nat.le_of_ble_eq_true rfl) (ht _ m_229) (fun _ h9 => h9) rfl (by decide +kernel) rfl rfl (Nat.le_of_ble_eq_true rfl) d_Di_rename_2 (fun H locs hP hD hS => ?_)
  have hP : va_P D classes (ws_Di_rename cI cJ cB q_p0 q_p0_sign q_p0_label q_p0_shape i_p0_count i_p0_circles 0 f_p0_label) H := hP
  have hD : va_D A (ws_Di_rename cI cJ cB q_p0 q_p0_sign q_p0_label q_p0_shape i_p0_count i_p0_circles 0 f_p0_label) := hD
  refine lv_iconst (v := 0) hx hb d_Di_rename_5 (by decide) ?_
  refine lv_istore_n (lv' := [(3, .int 0), (0, .ref q_p0), (1, .int x1), (2, .int x2)]) hx hb d_Di_rename_6 rfl hl (by decide) rfl (fun ls hl => ?_)
  exact w_Di_rename_7 fl q_p0 q_p0_sign q_p0_label q_p0_shape i_p0_count i_p0_circles res C0 fl x1 x2 0 0 f_p0_label _ _ _ hm hP hD hS (lv_sub hl [1, 2, 3, 0] rfl)
set_option maxHeartbeats 4000000 in
set_option maxRecDepth 100000 in
theorem k_Di_rename (l : Launch) (D : va_G) (cI cJ cB : ClassId) (sa : Nat → Nat × Nat) (fl : Nat) (q_p0 : Nat) (q_p0_sign : Nat) (q_p0_label : Nat) (q_p0_shape : Nat) (i_p0_count : Int32) (i_p0_circles : Int32) (i_p0_shapeIsKnown : Int32) (f_p0_label : Nat → Int32) (x1 : Int32) (x2 : Int32) (res : Int32 × (Nat → Int32)) (hm : m_Di_rename fl i_p0_count x1 x2 i_p0_shapeIsKnown f_p0_label = some res) : MtV l y_Di_rename (.code y_Di_rename b_Di_rename 4 none :: CW) rm_Di_rename D [(cI, .int), (cJ, .long), (cB, .byte)] sa [.ref q_p0, .int x1, .int x2] (ws_Di_rename cI cJ cB q_p0 q_p0_sign q_p0_label q_p0_shape i_p0_count i_p0_circles i_p0_shapeIsKnown f_p0_label) (fun (w : va_W) => w = (ws_Di_rename cI cJ cB q_p0 q_p0_sign q_p0_label q_p0_shape i_p0_count i_p0_circles res.1 res.2)) := by
  intro sz
  refine vz_start (Qc := fun A => va_Qv (fun (w : va_W) => w = (ws_Di_rename cI cJ cB q_p0 q_p0_sign q_p0_label q_p0_shape i_p0_count i_p0_circles res.1 res.2)) (vz_B D A) A) (lv0 := [(0, .ref q_p0), (1, .int x1), (2, .int x2)]) (by decide +kernel) (Nat.le_of_ble_eq_true rfl) rfl ?_
  intro p e s m below meth c A ls C0 hl
  obtain ⟨hx, hb, hr, hml, hown, ht, hlocks, hin, hN, hK, hP, hD, hA, hS, hZ⟩ := C0
  exact w_Di_rename_0 fl q_p0 q_p0_sign q_p0_label q_p0_shape i_p0_count i_p0_circles res ⟨hx, hb, hr, hml, hown, ht, hlocks, hin, hN, hK, hA, hZ⟩ x1 x2 i_p0_shapeIsKnown f_p0_label s.heap [] ls hm hP hD hS (lv_sub hl [0, 1, 2] rfl)
def ws_Sh_isUpper (cI cJ cB : ClassId)  : va_W := []
def rm_Sh_isUpper : Room := { frames := 0, cells := 0, slots := 0, locals := 0 }
def B_Sh_isUpper_0 (fl : Nat) (x0 : Int32) : Option (Int32) := (if ¬ (x0 &&& (1 : Int32)) = (1 : Int32) then (some 0) else (some 1))
def m_Sh_isUpper (fl : Nat) (x0 : Int32) : Option (Int32) := B_Sh_isUpper_0 fl  x0
set_option maxHeartbeats 4000000 in
set_option maxRecDepth 100000 in
theorem w_Sh_isUpper_0 {p : Program} {l : Launch} {e : Env} {s : State} {m : MethodId} {args : Array Value} {below : List Frame} {meth : Method} {c : Code} {D : va_G} {cI cJ cB : ClassId} {sa : Nat → Nat × Nat} {A : Nat → Prop} (fl : Nat)   (res : Int32) (C0 : vz_Cx p s m meth c b_Sh_isUpper 1 (some .boolean) "LinkEngine$Shape" "isUpper" D [(cI, .int), (cJ, .long), (cB, .byte)] sa A args) : ∀ (x0 : Int32) (H : Heap) (locs : List Loc) (ls : Array Slot), B_Sh_isUpper_0 fl x0 = some res → va_P D classes (ws_Sh_isUpper cI cJ cB ) H → va_D A (ws_Sh_isUpper cI cJ cB ) → va_S A s.heap H locs → lv_has ls 1 [(0, .int x0)] → W p l e rm_Sh_isUpper s m args below meth c H locs 0 0 (MQ below (va_Qi (fun (r : Int32) (w : va_W) => r = res ∧ w = (ws_Sh_isUpper cI cJ cB )) (vz_B D A) A) args s 0 0 A) (F0 m 0 ls []) := by
  obtain ⟨hx, hb, hr, hml, hown, ht, hlocks, hin, hN, hK, hA, hZ⟩ := id C0
  intro x0 H locs ls hm hP hD hS hl
  unfold B_Sh_isUpper_0 at hm
  refine lv_iload_n hx hb d_Sh_isUpper_0 rfl (lv_at hl 0 rfl) ?_
  refine lv_iconst (v := 1) hx hb d_Sh_isUpper_1 (by decide) ?_
  refine lv_iand hx hb d_Sh_isUpper_2 ?_
  refine lv_iconst (v := 1) hx hb d_Sh_isUpper_3 (by decide) ?_
  refine lv_icmp_ne (tgt := 11) hx hb d_Sh_isUpper_4 (by decide) (fun hc => ?_) (fun hc => ?_)
  · rw [if_pos hc] at hm
    refine lv_iconst (v := 0) hx hb d_Sh_isUpper_11 (by decide) ?_
    obtain rfl := Option.some.inj hm
    exact vz_iret hx hb hr rfl hlocks hP hD hS (Nat.le_refl _) (Nat.le_refl _) d_Sh_isUpper_12 ⟨rfl, rfl⟩
  · rw [if_neg (fun q => q hc)] at hm
    refine lv_iconst (v := 1) hx hb d_Sh_isUpper_7 (by decide) ?_
    refine lv_goto (tgt := 12) hx hb d_Sh_isUpper_8 (by decide) ?_
    obtain rfl := Option.some.inj hm
    exact vz_iret hx hb hr rfl hlocks hP hD hS (Nat.le_refl _) (Nat.le_refl _) d_Sh_isUpper_12 ⟨rfl, rfl⟩
set_option maxHeartbeats 4000000 in
set_option maxRecDepth 100000 in
theorem k_Sh_isUpper (l : Launch) (D : va_G) (cI cJ cB : ClassId) (sa : Nat → Nat × Nat) (fl : Nat)   (x0 : Int32) (res : Int32) (hm : m_Sh_isUpper fl x0 = some res) : MtI l y_Sh_isUpper (.code y_Sh_isUpper b_Sh_isUpper 1 (some .boolean) :: CW) rm_Sh_isUpper D [(cI, .int), (cJ, .long), (cB, .byte)] sa [.int x0] (ws_Sh_isUpper cI cJ cB ) (fun (r : Int32) (w : va_W) => r = res ∧ w = (ws_Sh_isUpper cI cJ cB )) := by
  intro sz
  refine vz_start (Qc := fun A => va_Qi (fun (r : Int32) (w : va_W) => r = res ∧ w = (ws_Sh_isUpper cI cJ cB )) (vz_B D A) A) (lv0 := [(0, .int x0)]) (by decide +kernel) (Nat.le_of_ble_eq_true rfl) rfl ?_
  intro p e s m below meth c A ls C0 hl
  obtain ⟨hx, hb, hr, hml, hown, ht, hlocks, hin, hN, hK, hP, hD, hA, hS, hZ⟩ := C0
  exact w_Sh_isUpper_0 fl   res ⟨hx, hb, hr, hml, hown, ht, hlocks, hin, hN, hK, hA, hZ⟩ x0 s.heap [] ls hm hP hD hS (lv_sub hl [0] rfl)
def ws_Di_copy (cI cJ cB : ClassId) (q_p0 : Nat) (q_p0_sign : Nat) (q_p0_label : Nat) (q_p0_shape : Nat) (q_p1 : Nat) (q_p1_sign : Nat) (q_p1_label : Nat) (q_p1_shape : Nat) (i_p0_count : Int32) (i_p0_circles : Int32) (i_p0_shapeIsKnown : Int32) (f_p0_label : Nat → Int32) (f_p0_sign : Nat → Int32) (i_p1_count : Int32) (i_p1_circles : Int32) (i_p1_shapeIsKnown : Int32) (f_p1_label : Nat → Int32) (f_p1_sign : Nat → Int32) : va_W := [(q_p0, .inr (4, [.ref q_p0_sign, .ref q_p0_label, .ref q_p0_shape, .int i_p0_count, .int i_p0_circles, .int i_p0_shapeIsKnown])), (q_p0_label, .inl (cI, 80, .inl f_p0_label)), (q_p0_sign, .inl (cI, 20, .inl f_p0_sign)), (q_p1, .inr (4, [.ref q_p1_sign, .ref q_p1_label, .ref q_p1_shape, .int i_p1_count, .int i_p1_circles, .int i_p1_shapeIsKnown])), (q_p1_label, .inl (cI, 80, .inl f_p1_label)), (q_p1_sign, .inl (cI, 20, .inl f_p1_sign))]
def rm_Di_copy : Room := { frames := 1, cells := 0, slots := 0, locals := 64 }
def B_Di_copy_0 (fl : Nat) (i_p1_count : Int32) (i_p1_circles : Int32) (f_p1_label : Nat → Int32) (f_p1_sign : Nat → Int32) (i_p0_count : Int32) (i_p0_circles : Int32) (i_p0_shapeIsKnown : Int32) (f_p0_label : Nat → Int32) (f_p0_sign : Nat → Int32) : Option (Int32 × Int32 × Int32 × (Nat → Int32) × (Nat → Int32)) := (if ¬ (0 : Int32) < 0 ∧ ¬ (0 : Int32) < 0 ∧ ¬ i_p1_count < 0 ∧ Int32.toNatClampNeg 0 + Int32.toNatClampNeg i_p1_count ≤ 20 ∧ Int32.toNatClampNeg 0 + Int32.toNatClampNeg i_p1_count ≤ 20 then (if ¬ (0 : Int32) < 0 ∧ ¬ (0 : Int32) < 0 ∧ ¬ ((4 : Int32) * i_p1_count) < 0 ∧ Int32.toNatClampNeg 0 + Int32.toNatClampNeg ((4 : Int32) * i_p1_count) ≤ 80 ∧ Int32.toNatClampNeg 0 + Int32.toNatClampNeg ((4 : Int32) * i_p1_count) ≤ 80 then (some (i_p1_count, i_p1_circles, 0, (va_cpy f_p1_label f_p0_label (Int32.toNatClampNeg 0) (Int32.toNatClampNeg 0) (Int32.toNatClampNeg ((4 : Int32) * i_p1_count))), (va_cpy f_p1_sign f_p0_sign (Int32.toNatClampNeg 0) (Int32.toNatClampNeg 0) (Int32.toNatClampNeg i_p1_count)))) else none) else none)
def m_Di_copy (fl : Nat) (i_p1_count : Int32) (i_p1_circles : Int32) (f_p1_label : Nat → Int32) (f_p1_sign : Nat → Int32) (i_p0_count : Int32) (i_p0_circles : Int32) (i_p0_shapeIsKnown : Int32) (f_p0_label : Nat → Int32) (f_p0_sign : Nat → Int32) : Option (Int32 × Int32 × Int32 × (Nat → Int32) × (Nat → Int32)) := B_Di_copy_0 fl i_p1_count i_p1_circles f_p1_label f_p1_sign i_p0_count i_p0_circles i_p0_shapeIsKnown f_p0_label f_p0_sign
set_option maxHeartbeats 4000000 in
set_option maxRecDepth 100000 in
theorem w_Di_copy_0 {p : Program} {l : Launch} {e : Env} {s : State} {m : MethodId} {args : Array Value} {below : List Frame} {meth : Method} {c : Code} {D : va_G} {cI cJ cB : ClassId} {sa : Nat → Nat × Nat} {A : Nat → Prop} (fl : Nat) (q_p0 : Nat) (q_p0_sign : Nat) (q_p0_label : Nat) (q_p0_shape : Nat) (q_p1 : Nat) (q_p1_sign : Nat) (q_p1_label : Nat) (q_p1_shape : Nat) (i_p1_count : Int32) (i_p1_circles : Int32) (f_p1_label : Nat → Int32) (f_p1_sign : Nat → Int32) (i_p1_shapeIsKnown : Int32) (res : Int32 × Int32 × Int32 × (Nat → Int32) × (Nat → Int32)) (C0 : vz_Cx p s m meth c b_Di_copy 2 none "LinkEngine$Diagram" "copy" D [(cI, .int), (cJ, .long), (cB, .byte)] sa A args) : ∀ (i_p0_count : Int32) (i_p0_circles : Int32) (i_p0_shapeIsKnown : Int32) (f_p0_label : Nat → Int32) (f_p0_sign : Nat → Int32) (H : Heap) (locs : List Loc) (ls : Array Slot), B_Di_copy_0 fl i_p1_count i_p1_circles f_p1_label f_p1_sign i_p0_count i_p0_circles i_p0_shapeIsKnown f_p0_label f_p0_sign = some res → va_P D classes (ws_Di_copy cI cJ cB q_p0 q_p0_sign q_p0_label q_p0_shape q_p1 q_p1_sign q_p1_label q_p1_shape i_p0_count i_p0_circles i_p0_shapeIsKnown f_p0_label f_p0_sign i_p1_count i_p1_circles i_p1_shapeIsKnown f_p1_label f_p1_sign) H → va_D A (ws_Di_copy cI cJ cB q_p0 q_p0_sign q_p0_label q_p0_shape q_p1 q_p1_sign q_p1_label q_p1_shape i_p0_count i_p0_circles i_p0_shapeIsKnown f_p0_label f_p0_sign i_p1_count i_p1_circles i_p1_shapeIsKnown f_p1_label f_p1_sign) → va_S A s.heap H locs → lv_has ls 2 [(0, .ref q_p0), (1, .ref q_p1)] → W p l e rm_Di_copy s m args below meth c H locs 0 0 (MQ below (va_Qv (fun (w : va_W) => w = (ws_Di_copy cI cJ cB q_p0 q_p0_sign q_p0_label q_p0_shape q_p1 q_p1_sign q_p1_label q_p1_shape res.1 res.2.1 res.2.2.1 res.2.2.2.1 res.2.2.2.2 i_p1_count i_p1_circles i_p1_shapeIsKnown f_p1_label f_p1_sign)) (vz_B D A) A) args s 0 0 A) (F0 m 0 ls []) := by
  obtain ⟨hx, hb, hr, hml, hown, ht, hlocks, hin, hN, hK, hA, hZ⟩ := id C0
  intro i_p0_count i_p0_circles i_p0_shapeIsKnown f_p0_label f_p0_sign H locs ls hm hP hD hS hl
  unfold B_Di_copy_0 at hm
  refine lv_aload_n hx hb d_Di_copy_0 rfl (lv_at hl 0 rfl) ?_
  refine lv_aload_n hx hb d_Di_copy_1 rfl (lv_at hl 1 rfl) ?_
  refine va_get (D := D) (ci := 4) (v := .int i_p1_count) (C := R_Di) (T := F_Di) (N := 6) hx hb ht i_Di hown hK hP 3 rfl rfl 3 (Nat.le_of_ble_eq_true rfl) (ht _ m_238) (fun _ h9 => h9) rfl d_Di_copy_2 ?_
  refine va_put (D := D) (ci := 4) (v := .int i_p1_count) (ty := .int) (C := R_Di) (T := F_Di) (N := 6) hx hb ht i_Di t_Di t_Di_ok n_Di hown hK hP hD hS 0 rfl rfl 3 (Nat.le_of_ble_eq_true rfl) (ht _ m_238) (fun _ h9 => h9) rfl (by decide +kernel) rfl rfl (Nat.le_of_ble_eq_true rfl) d_Di_copy_5 (fun H locs hP hD hS => ?_)
  have hP : va_P D classes (ws_Di_copy cI cJ cB q_p0 q_p0_sign q_p0_label q_p0_shape q_p1 q_p1_sign q_p1_label q_p1_shape i_p1_count i_p0_circles i_p0_shapeIsKnown f_p0_label f_p0_sign i_p1_count i_p1_circles i_p1_shapeIsKnown f_p1_label f_p1_sign) H := hP
  have hD : va_D A (ws_Di_copy cI cJ cB q_p0 q_p0_sign q_p0_label q_p0_shape q_p1 q_p1_sign q_p1_label q_p1_shape i_p1_count i_p0_circles i_p0_shapeIsKnown f_p0_label f_p0_sign i_p1_count i_p1_circles i_p1_shapeIsKnown f_p1_label f_p1_sign) := hD
  refine lv_aload_n hx hb d_Di_copy_8 rfl (lv_at hl 0 rfl) ?_
  refine lv_aload_n hx hb d_Di_copy_9 rfl (lv_at hl 1 rfl) ?_
  refine va_get (D := D) (ci := 4) (v := .int i_p1_circles) (C := R_Di) (T := F_Di) (N := 6) hx hb ht i_Di hown hK hP 3 rfl rfl 4 (Nat.le_of_ble_eq_true rfl) (ht _ m_364) (fun _ h9 => h9) rfl d_Di_copy_10 ?_
  refine va_put (D := D) (ci := 4) (v := .int i_p1_circles) (ty := .int) (C := R_Di) (T := F_Di) (N := 6) hx hb ht i_Di t_Di t_Di_ok n_Di hown hK hP hD hS 0 rfl rfl 4 (Nat.le_of_ble_eq_true rfl) (ht _ m_364) (fun _ h9 => h9) rfl (by decide +kernel) rfl rfl (Nat.le_of_ble_eq_true rfl) d_Di_copy_13 (fun H locs hP hD hS => ?_)
  have hP : va_P D classes (ws_Di_copy cI cJ cB q_p0 q_p0_sign q_p0_label q_p0_shape q_p1 q_p1_sign q_p1_label q_p1_shape i_p1_count i_p1_circles i_p0_shapeIsKnown f_p0_label f_p0_sign i_p1_count i_p1_circles i_p1_shapeIsKnown f_p1_label f_p1_sign) H := hP
  have hD : va_D A (ws_Di_copy cI cJ cB q_p0 q_p0_sign q_p0_label q_p0_shape q_p1 q_p1_sign q_p1_label q_p1_shape i_p1_count i_p1_circles i_p0_shapeIsKnown f_p0_label f_p0_sign i_p1_count i_p1_circles i_p1_shapeIsKnown f_p1_label f_p1_sign) := hD
  refine lv_aload_n hx hb d_Di_copy_16 rfl (lv_at hl 0 rfl) ?_
  refine lv_iconst (v := 0) hx hb d_Di_copy_17 (by decide) ?_
  refine va_put (D := D) (ci := 4) (v := .int 0) (ty := .boolean) (C := R_Di) (T := F_Di) (N := 6) hx hb ht i_Di t_Di t_Di_ok n_Di hown hK hP hD hS 0 rfl rfl 5 (Nat.le_of_ble_eq_true rfl) (ht _ m_229) (fun _ h9 => h9) rfl (by decide +kernel) rfl rfl (Nat.le_of_ble_eq_true rfl) d_Di_copy_18 (fun H locs hP hD hS => ?_)
  have hP : va_P D classes (ws_Di_copy cI cJ cB q_p0 q_p0_sign q_p0_label q_p0_shape q_p1 q_p1_sign q_p1_label q_p1_shape i_p1_count i_p1_circles 0 f_p0_label f_p0_sign i_p1_count i_p1_circles i_p1_shapeIsKnown f_p1_label f_p1_sign) H := hP
  have hD : va_D A (ws_Di_copy cI cJ cB q_p0 q_p0_sign q_p0_label q_p0_shape q_p1 q_p1_sign q_p1_label q_p1_shape i_p1_count i_p1_circles 0 f_p0_label f_p0_sign i_p1_count i_p1_circles i_p1_shapeIsKnown f_p1_label f_p1_sign) := hD
  refine lv_aload_n hx hb d_Di_copy_21 rfl (lv_at hl 1 rfl) ?_
  refine va_get (D := D) (ci := 4) (v := .ref q_p1_sign) (C := R_Di) (T := F_Di) (N := 6) hx hb ht i_Di hown hK hP 3 rfl rfl 0 (Nat.le_of_ble_eq_true rfl) (ht _ m_50) (fun _ h9 => h9) rfl d_Di_copy_22 ?_
  refine lv_iconst (v := 0) hx hb d_Di_copy_25 (by decide) ?_
  refine lv_aload_n hx hb d_Di_copy_26 rfl (lv_at hl 0 rfl) ?_
  refine va_get (D := D) (ci := 4) (v := .ref q_p0_sign) (C := R_Di) (T := F_Di) (N := 6) hx hb ht i_Di hown hK hP 0 rfl rfl 0 (Nat.le_of_ble_eq_true rfl) (ht _ m_50) (fun _ h9 => h9) rfl d_Di_copy_27 ?_
  refine lv_iconst (v := 0) hx hb d_Di_copy_30 (by decide) ?_
  refine lv_aload_n hx hb d_Di_copy_31 rfl (lv_at hl 0 rfl) ?_
  refine va_get (D := D) (ci := 4) (v := .int i_p1_count) (C := R_Di) (T := F_Di) (N := 6) hx hb ht i_Di hown hK hP 0 rfl rfl 3 (Nat.le_of_ble_eq_true rfl) (ht _ m_238) (fun _ h9 => h9) rfl d_Di_copy_32 ?_
  obtain ⟨hg, hm⟩ := vz_guard hm
  refine va_copyi (ty := .int) hx hb (hml.trans hl.1.symm) hown (ht _ m_379) (ht _ m_196) (ht _ m_197) (ht _ m_198) hK hP hD hS 5 2 0 0 rfl rfl rfl rfl rfl hg.1 hg.2.1 hg.2.2.1 hg.2.2.2.1 hg.2.2.2.2 (fun i h => rfl) (Nat.le_of_ble_eq_true rfl) (Nat.le_of_ble_eq_true rfl) d_Di_copy_35 (fun H locs hP hD hS => ?_)
  have hP : va_P D classes (ws_Di_copy cI cJ cB q_p0 q_p0_sign q_p0_label q_p0_shape q_p1 q_p1_sign q_p1_label q_p1_shape i_p1_count i_p1_circles 0 f_p0_label (va_cpy f_p1_sign f_p0_sign (Int32.toNatClampNeg 0) (Int32.toNatClampNeg 0) (Int32.toNatClampNeg i_p1_count)) i_p1_count i_p1_circles i_p1_shapeIsKnown f_p1_label f_p1_sign) H := hP
  have hD : va_D A (ws_Di_copy cI cJ cB q_p0 q_p0_sign q_p0_label q_p0_shape q_p1 q_p1_sign q_p1_label q_p1_shape i_p1_count i_p1_circles 0 f_p0_label (va_cpy f_p1_sign f_p0_sign (Int32.toNatClampNeg 0) (Int32.toNatClampNeg 0) (Int32.toNatClampNeg i_p1_count)) i_p1_count i_p1_circles i_p1_shapeIsKnown f_p1_label f_p1_sign) := hD
  refine lv_aload_n hx hb d_Di_copy_38 rfl (lv_at hl 1 rfl) ?_
  refine va_get (D := D) (ci := 4) (v := .ref q_p1_label) (C := R_Di) (T := F_Di) (N := 6) hx hb ht i_Di hown hK hP 3 rfl rfl 1 (Nat.le_of_ble_eq_true rfl) (ht _ m_51) (fun _ h9 => h9) rfl d_Di_copy_39 ?_
  refine lv_iconst (v := 0) hx hb d_Di_copy_42 (by decide) ?_
  refine lv_aload_n hx hb d_Di_copy_43 rfl (lv_at hl 0 rfl) ?_
  refine va_get (D := D) (ci := 4) (v := .ref q_p0_label) (C := R_Di) (T := F_Di) (N := 6) hx hb ht i_Di hown hK hP 0 rfl rfl 1 (Nat.le_of_ble_eq_true rfl) (ht _ m_51) (fun _ h9 => h9) rfl d_Di_copy_44 ?_
  refine lv_iconst (v := 0) hx hb d_Di_copy_47 (by decide) ?_
  refine lv_iconst (v := 4) hx hb d_Di_copy_48 (by decide) ?_
  refine lv_aload_n hx hb d_Di_copy_49 rfl (lv_at hl 0 rfl) ?_
  refine va_get (D := D) (ci := 4) (v := .int i_p1_count) (C := R_Di) (T := F_Di) (N := 6) hx hb ht i_Di hown hK hP 0 rfl rfl 3 (Nat.le_of_ble_eq_true rfl) (ht _ m_238) (fun _ h9 => h9) rfl d_Di_copy_50 ?_
  refine lv_imul hx hb d_Di_copy_53 ?_
  obtain ⟨hg, hm⟩ := vz_guard hm
  refine va_copyi (ty := .int) hx hb (hml.trans hl.1.symm) hown (ht _ m_379) (ht _ m_196) (ht _ m_197) (ht _ m_198) hK hP hD hS 4 1 0 0 rfl rfl rfl rfl rfl hg.1 hg.2.1 hg.2.2.1 hg.2.2.2.1 hg.2.2.2.2 (fun i h => rfl) (Nat.le_of_ble_eq_true rfl) (Nat.le_of_ble_eq_true rfl) d_Di_copy_54 (fun H locs hP hD hS => ?_)
  have hP : va_P D classes (ws_Di_copy cI cJ cB q_p0 q_p0_sign q_p0_label q_p0_shape q_p1 q_p1_sign q_p1_label q_p1_shape i_p1_count i_p1_circles 0 (va_cpy f_p1_label f_p0_label (Int32.toNatClampNeg 0) (Int32.toNatClampNeg 0) (Int32.toNatClampNeg ((4 : Int32) * i_p1_count))) (va_cpy f_p1_sign f_p0_sign (Int32.toNatClampNeg 0) (Int32.toNatClampNeg 0) (Int32.toNatClampNeg i_p1_count)) i_p1_count i_p1_circles i_p1_shapeIsKnown f_p1_label f_p1_sign) H := hP
  have hD : va_D A (ws_Di_copy cI cJ cB q_p0 q_p0_sign q_p0_label q_p0_shape q_p1 q_p1_sign q_p1_label q_p1_shape i_p1_count i_p1_circles 0 (va_cpy f_p1_label f_p0_label (Int32.toNatClampNeg 0) (Int32.toNatClampNeg 0) (Int32.toNatClampNeg ((4 : Int32) * i_p1_count))) (va_cpy f_p1_sign f_p0_sign (Int32.toNatClampNeg 0) (Int32.toNatClampNeg 0) (Int32.toNatClampNeg i_p1_count)) i_p1_count i_p1_circles i_p1_shapeIsKnown f_p1_label f_p1_sign) := hD
  obtain rfl := Option.some.inj hm
  exact vz_vret hx hb hr hlocks hP hD hS (Nat.le_refl _) (Nat.le_refl _) d_Di_copy_57 rfl
set_option maxHeartbeats 4000000 in
set_option maxRecDepth 100000 in
theorem k_Di_copy (l : Launch) (D : va_G) (cI cJ cB : ClassId) (sa : Nat → Nat × Nat) (fl : Nat) (q_p0 : Nat) (q_p0_sign : Nat) (q_p0_label : Nat) (q_p0_shape : Nat) (q_p1 : Nat) (q_p1_sign : Nat) (q_p1_label : Nat) (q_p1_shape : Nat) (i_p1_count : Int32) (i_p1_circles : Int32) (f_p1_label : Nat → Int32) (f_p1_sign : Nat → Int32) (i_p1_shapeIsKnown : Int32) (i_p0_count : Int32) (i_p0_circles : Int32) (i_p0_shapeIsKnown : Int32) (f_p0_label : Nat → Int32) (f_p0_sign : Nat → Int32)  (res : Int32 × Int32 × Int32 × (Nat → Int32) × (Nat → Int32)) (hm : m_Di_copy fl i_p1_count i_p1_circles f_p1_label f_p1_sign i_p0_count i_p0_circles i_p0_shapeIsKnown f_p0_label f_p0_sign = some res) : MtV l y_Di_copy (.code y_Di_copy b_Di_copy 2 none :: CW) rm_Di_copy D [(cI, .int), (cJ, .long), (cB, .byte)] sa [.ref q_p0, .ref q_p1] (ws_Di_copy cI cJ cB q_p0 q_p0_sign q_p0_label q_p0_shape q_p1 q_p1_sign q_p1_label q_p1_shape i_p0_count i_p0_circles i_p0_shapeIsKnown f_p0_label f_p0_sign i_p1_count i_p1_circles i_p1_shapeIsKnown f_p1_label f_p1_sign) (fun (w : va_W) => w = (ws_Di_copy cI cJ cB q_p0 q_p0_sign q_p0_label q_p0_shape q_p1 q_p1_sign q_p1_label q_p1_shape res.1 res.2.1 res.2.2.1 res.2.2.2.1 res.2.2.2.2 i_p1_count i_p1_circles i_p1_shapeIsKnown f_p1_label f_p1_sign)) := by
  intro sz
  refine vz_start (Qc := fun A => va_Qv (fun (w : va_W) => w = (ws_Di_copy cI cJ cB q_p0 q_p0_sign q_p0_label q_p0_shape q_p1 q_p1_sign q_p1_label q_p1_shape res.1 res.2.1 res.2.2.1 res.2.2.2.1 res.2.2.2.2 i_p1_count i_p1_circles i_p1_shapeIsKnown f_p1_label f_p1_sign)) (vz_B D A) A) (lv0 := [(0, .ref q_p0), (1, .ref q_p1)]) (by decide +kernel) (Nat.le_of_ble_eq_true rfl) rfl ?_
  intro p e s m below meth c A ls C0 hl
  obtain ⟨hx, hb, hr, hml, hown, ht, hlocks, hin, hN, hK, hP, hD, hA, hS, hZ⟩ := C0
  exact w_Di_copy_0 fl q_p0 q_p0_sign q_p0_label q_p0_shape q_p1 q_p1_sign q_p1_label q_p1_shape i_p1_count i_p1_circles f_p1_label f_p1_sign i_p1_shapeIsKnown res ⟨hx, hb, hr, hml, hown, ht, hlocks, hin, hN, hK, hA, hZ⟩ i_p0_count i_p0_circles i_p0_shapeIsKnown f_p0_label f_p0_sign s.heap [] ls hm hP hD hS (lv_sub hl [0, 1] rfl)
def ws_Di_moveToEnd (cI cJ cB : ClassId) (q_p0 : Nat) (q_p0_sign : Nat) (q_p0_label : Nat) (q_p0_shape : Nat) (i_p0_count : Int32) (i_p0_circles : Int32) (i_p0_shapeIsKnown : Int32) (f_p0_label : Nat → Int32) (f_p0_sign : Nat → Int32) : va_W := [(q_p0, .inr (4, [.ref q_p0_sign, .ref q_p0_label, .ref q_p0_shape, .int i_p0_count, .int i_p0_circles, .int i_p0_shapeIsKnown])), (q_p0_label, .inl (cI, 80, .inl f_p0_label)), (q_p0_sign, .inl (cI, 20, .inl f_p0_sign))]
def rm_Di_moveToEnd : Room := { frames := 0, cells := 0, slots := 0, locals := 0 }
def B_Di_moveToEnd_52 (fl : Nat) (i_p0_count : Int32) (kb_7 : Int32 → Int32 → Int32 → (Nat → Int32) → (Nat → Int32) → Option (Int32 × Int32 × (Nat → Int32) × (Nat → Int32))) : Nat → Int32 → Int32 → Int32 → Int32 → Int32 → (Nat → Int32) → (Nat → Int32) → Option (Int32 × Int32 × (Nat → Int32) × (Nat → Int32))
  | 0, _, _, _, _, _, _, _ => none
  | nn + 1, x1, x2, x3, x4, i_p0_shapeIsKnown, f_p0_label, f_p0_sign => (if (((4 : Int32) * x2) + (4 : Int32)) ≤ x4 then kb_7 x1 (x2 + 1) i_p0_shapeIsKnown f_p0_label f_p0_sign else (if ¬ (x4 < 0 ∨ 80 ≤ Int32.toNatClampNeg x4) then (if ¬ ((x4 + (4 : Int32)) < 0 ∨ 80 ≤ Int32.toNatClampNeg (x4 + (4 : Int32))) then (if ¬ (x4 < 0 ∨ 80 ≤ Int32.toNatClampNeg x4) then (if ¬ ((x4 + (4 : Int32)) < 0 ∨ 80 ≤ Int32.toNatClampNeg (x4 + (4 : Int32))) then B_Di_moveToEnd_52 fl i_p0_count kb_7 nn x1 x2 x3 (x4 + 1) i_p0_shapeIsKnown (upd (upd f_p0_label (Int32.toNatClampNeg x4) (f_p0_label (Int32.toNatClampNeg (x4 + (4 : Int32))))) (Int32.toNatClampNeg (x4 + (4 : Int32))) (f_p0_label (Int32.toNatClampNeg x4))) f_p0_sign else none) else none) else none) else none))
def B_Di_moveToEnd_7 (fl : Nat) (i_p0_count : Int32) : Nat → Int32 → Int32 → Int32 → (Nat → Int32) → (Nat → Int32) → Option (Int32 × Int32 × (Nat → Int32) × (Nat → Int32))
  | 0, _, _, _, _, _ => none
  | nn + 1, x1, x2, i_p0_shapeIsKnown, f_p0_label, f_p0_sign => (if i_p0_count ≤ (x2 + (1 : Int32)) then (some ((i_p0_count - (1 : Int32)), i_p0_shapeIsKnown, f_p0_label, f_p0_sign)) else (if ¬ (x2 < 0 ∨ 20 ≤ Int32.toNatClampNeg x2) then (if ¬ ((x2 + (1 : Int32)) < 0 ∨ 20 ≤ Int32.toNatClampNeg (x2 + (1 : Int32))) then (if ¬ (x2 < 0 ∨ 20 ≤ Int32.toNatClampNeg x2) then (if ¬ ((x2 + (1 : Int32)) < 0 ∨ 20 ≤ Int32.toNatClampNeg (x2 + (1 : Int32))) then B_Di_moveToEnd_52 fl i_p0_count (B_Di_moveToEnd_7 fl i_p0_count nn) fl x1 x2 (f_p0_sign (Int32.toNatClampNeg x2)) ((4 : Int32) * x2) i_p0_shapeIsKnown f_p0_label (upd (upd f_p0_sign (Int32.toNatClampNeg x2) (f_p0_sign (Int32.toNatClampNeg (x2 + (1 : Int32))))) (Int32.toNatClampNeg (x2 + (1 : Int32))) (f_p0_sign (Int32.toNatClampNeg x2))) else none) else none) else none) else none))
def B_Di_moveToEnd_0 (fl : Nat) (i_p0_count : Int32) (x1 : Int32) (i_p0_shapeIsKnown : Int32) (f_p0_label : Nat → Int32) (f_p0_sign : Nat → Int32) : Option (Int32 × Int32 × (Nat → Int32) × (Nat → Int32)) := B_Di_moveToEnd_7 fl i_p0_count fl x1 x1 0 f_p0_label f_p0_sign
def m_Di_moveToEnd (fl : Nat) (i_p0_count : Int32) (x1 : Int32) (i_p0_shapeIsKnown : Int32) (f_p0_label : Nat → Int32) (f_p0_sign : Nat → Int32) : Option (Int32 × Int32 × (Nat → Int32) × (Nat → Int32)) := B_Di_moveToEnd_0 fl i_p0_count x1 i_p0_shapeIsKnown f_p0_label f_p0_sign
set_option maxHeartbeats 4000000 in
set_option maxRecDepth 100000 in
theorem w_Di_moveToEnd_52 {p : Program} {l : Launch} {e : Env} {s : State} {m : MethodId} {args : Array Value} {below : List Frame} {meth : Method} {c : Code} {D : va_G} {cI cJ cB : ClassId} {sa : Nat → Nat × Nat} {A : Nat → Prop} (fl : Nat) (q_p0 : Nat) (q_p0_sign : Nat) (q_p0_label : Nat) (q_p0_shape : Nat) (i_p0_count : Int32) (i_p0_circles : Int32) (res : Int32 × Int32 × (Nat → Int32) × (Nat → Int32)) (C0 : vz_Cx p s m meth c b_Di_moveToEnd 6 (some .int) "LinkEngine$Diagram" "moveToEnd" D [(cI, .int), (cJ, .long), (cB, .byte)] sa A args) (kb_7 : Int32 → Int32 → Int32 → (Nat → Int32) → (Nat → Int32) → Option (Int32 × Int32 × (Nat → Int32) × (Nat → Int32))) (hk_7 : ∀ (x1 : Int32) (x2 : Int32) (i_p0_shapeIsKnown : Int32) (f_p0_label : Nat → Int32) (f_p0_sign : Nat → Int32) (H : Heap) (locs : List Loc) (ls : Array Slot), kb_7 x1 x2 i_p0_shapeIsKnown f_p0_label f_p0_sign = some res → va_P D classes (ws_Di_moveToEnd cI cJ cB q_p0 q_p0_sign q_p0_label q_p0_shape i_p0_count i_p0_circles i_p0_shapeIsKnown f_p0_label f_p0_sign) H → va_D A (ws_Di_moveToEnd cI cJ cB q_p0 q_p0_sign q_p0_label q_p0_shape i_p0_count i_p0_circles i_p0_shapeIsKnown f_p0_label f_p0_sign) → va_S A s.heap H locs → lv_has ls 6 [(0, .ref q_p0), (1, .int x1), (2, .int x2)] → W p l e rm_Di_moveToEnd s m args below meth c H locs 0 0 (MQ below (va_Qi (fun (r : Int32) (w : va_W) => r = res.1 ∧ w = (ws_Di_moveToEnd cI cJ cB q_p0 q_p0_sign q_p0_label q_p0_shape i_p0_count i_p0_circles res.2.1 res.2.2.1 res.2.2.2)) (vz_B D A) A) args s 0 0 A) (F0 m 7 ls [])) : ∀ (nn : Nat), ∀ (x1 : Int32) (x2 : Int32) (x3 : Int32) (x4 : Int32) (i_p0_shapeIsKnown : Int32) (f_p0_label : Nat → Int32) (f_p0_sign : Nat → Int32) (H : Heap) (locs : List Loc) (ls : Array Slot), B_Di_moveToEnd_52 fl i_p0_count kb_7 nn x1 x2 x3 x4 i_p0_shapeIsKnown f_p0_label f_p0_sign = some res → va_P D classes (ws_Di_moveToEnd cI cJ cB q_p0 q_p0_sign q_p0_label q_p0_shape i_p0_count i_p0_circles i_p0_shapeIsKnown f_p0_label f_p0_sign) H → va_D A (ws_Di_moveToEnd cI cJ cB q_p0 q_p0_sign q_p0_label q_p0_shape i_p0_count i_p0_circles i_p0_shapeIsKnown f_p0_label f_p0_sign) → va_S A s.heap H locs → lv_has ls 6 [(0, .ref q_p0), (1, .int x1), (2, .int x2), (3, .int x3), (4, .int x4)] → W p l e rm_Di_moveToEnd s m args below meth c H locs 0 0 (MQ below (va_Qi (fun (r : Int32) (w : va_W) => r = res.1 ∧ w = (ws_Di_moveToEnd cI cJ cB q_p0 q_p0_sign q_p0_label q_p0_shape i_p0_count i_p0_circles res.2.1 res.2.2.1 res.2.2.2)) (vz_B D A) A) args s 0 0 A) (F0 m 52 ls []) := by
  obtain ⟨hx, hb, hr, hml, hown, ht, hlocks, hin, hN, hK, hA, hZ⟩ := id C0
  intro nn
  induction nn with
  | zero =>
    intro x1 x2 x3 x4 i_p0_shapeIsKnown f_p0_label f_p0_sign H locs ls hm hP hD hS hl
    rw [B_Di_moveToEnd_52] at hm
    cases hm
  | succ nn ih =>
    intro x1 x2 x3 x4 i_p0_shapeIsKnown f_p0_label f_p0_sign H locs ls hm hP hD hS hl
    rw [B_Di_moveToEnd_52] at hm
    refine lv_iload hx hb d_Di_moveToEnd_52 (lv_at hl 4 rfl) ?_
    refine lv_iconst (v := 4) hx hb d_Di_moveToEnd_54 (by decide) ?_
    refine lv_iload_n hx hb d_Di_moveToEnd_55 rfl (lv_at hl 2 rfl) ?_
    refine lv_imul hx hb d_Di_moveToEnd_56 ?_
    refine lv_iconst (v := 4) hx hb d_Di_moveToEnd_57 (by decide) ?_
    refine lv_iadd hx hb d_Di_moveToEnd_58 ?_
    refine lv_icmp_ge (tgt := 104) hx hb d_Di_moveToEnd_59 (by decide) (fun hc => ?_) (fun hc => ?_)
    · rw [if_pos hc] at hm
      refine lv_iinc (v := (x2 + 1)) (lv' := [(2, .int (x2 + 1)), (0, .ref q_p0), (1, .int x1), (3, .int x3), (4, .int x4)]) hx hb d_Di_moveToEnd_104 hl (k := 2) rfl rfl (by decide) rfl (fun ls hl => ?_)
      refine lv_goto (tgt := 7) hx hb d_Di_moveToEnd_107 (by decide) ?_
      exact hk_7 x1 (x2 + 1) i_p0_shapeIsKnown f_p0_label f_p0_sign _ _ _ hm hP hD hS (lv_sub hl [1, 2, 0] rfl)
    · rw [if_neg hc] at hm
      refine lv_aload_n hx hb d_Di_moveToEnd_62 rfl (lv_at hl 0 rfl) ?_
      refine va_get (D := D) (ci := 4) (v := .ref q_p0_label) (C := R_Di) (T := F_Di) (N := 6) hx hb ht i_Di hown hK hP 0 rfl rfl 1 (Nat.le_of_ble_eq_true rfl) (ht _ m_51) (fun _ h9 => h9) rfl d_Di_moveToEnd_63 ?_
      refine lv_iload hx hb d_Di_moveToEnd_66 (lv_at hl 4 rfl) ?_
      obtain ⟨hg, hm⟩ := vz_guard hm
      refine va_iald hx hb hK hP 1 0 rfl rfl hg d_Di_moveToEnd_68 ?_
      refine lv_istore (lv' := [(5, .int (f_p0_label (Int32.toNatClampNeg x4))), (0, .ref q_p0), (1, .int x1), (2, .int x2), (3, .int x3), (4, .int x4)]) hx hb d_Di_moveToEnd_69 hl (by decide) rfl (fun ls hl => ?_)
      refine lv_aload_n hx hb d_Di_moveToEnd_71 rfl (lv_at hl 1 rfl) ?_
      refine va_get (D := D) (ci := 4) (v := .ref q_p0_label) (C := R_Di) (T := F_Di) (N := 6) hx hb ht i_Di hown hK hP 0 rfl rfl 1 (Nat.le_of_ble_eq_true rfl) (ht _ m_51) (fun _ h9 => h9) rfl d_Di_moveToEnd_72 ?_
      refine lv_iload hx hb d_Di_moveToEnd_75 (lv_at hl 5 rfl) ?_
      refine lv_aload_n hx hb d_Di_moveToEnd_77 rfl (lv_at hl 1 rfl) ?_
      refine va_get (D := D) (ci := 4) (v := .ref q_p0_label) (C := R_Di) (T := F_Di) (N := 6) hx hb ht i_Di hown hK hP 0 rfl rfl 1 (Nat.le_of_ble_eq_true rfl) (ht _ m_51) (fun _ h9 => h9) rfl d_Di_moveToEnd_78 ?_
      refine lv_iload hx hb d_Di_moveToEnd_81 (lv_at hl 5 rfl) ?_
      refine lv_iconst (v := 4) hx hb d_Di_moveToEnd_83 (by decide) ?_
      refine lv_iadd hx hb d_Di_moveToEnd_84 ?_
      obtain ⟨hg, hm⟩ := vz_guard hm
      refine va_iald hx hb hK hP 1 0 rfl rfl hg d_Di_moveToEnd_85 ?_
      obtain ⟨hg, hm⟩ := vz_guard hm
      refine va_iast hx hb hK hP hD hS 1 0 rfl rfl hg d_Di_moveToEnd_86 (fun H locs hP hD hS => ?_)
      have hP : va_P D classes (ws_Di_moveToEnd cI cJ cB q_p0 q_p0_sign q_p0_label q_p0_shape i_p0_count i_p0_circles i_p0_shapeIsKnown (upd f_p0_label (Int32.toNatClampNeg x4) (f_p0_label (Int32.toNatClampNeg (x4 + (4 : Int32))))) f_p0_sign) H := hP
      have hD : va_D A (ws_Di_moveToEnd cI cJ cB q_p0 q_p0_sign q_p0_label q_p0_shape i_p0_count i_p0_circles i_p0_shapeIsKnown (upd f_p0_label (Int32.toNatClampNeg x4) (f_p0_label (Int32.toNatClampNeg (x4 + (4 : Int32))))) f_p0_sign) := hD
      refine lv_aload_n hx hb d_Di_moveToEnd_87 rfl (lv_at hl 1 rfl) ?_
      refine va_get (D := D) (ci := 4) (v := .ref q_p0_label) (C := R_Di) (T := F_Di) (N := 6) hx hb ht i_Di hown hK hP 0 rfl rfl 1 (Nat.le_of_ble_eq_true rfl) (ht _ m_51) (fun _ h9 => h9) rfl d_Di_moveToEnd_88 ?_
      refine lv_iload hx hb d_Di_moveToEnd_91 (lv_at hl 5 rfl) ?_
      refine lv_iconst (v := 4) hx hb d_Di_moveToEnd_93 (by decide) ?_
      refine lv_iadd hx hb d_Di_moveToEnd_94 ?_
      refine lv_iload hx hb d_Di_moveToEnd_95 (lv_at hl 0 rfl) ?_
      obtain ⟨hg, hm⟩ := vz_guard hm
      refine va_iast hx hb hK hP hD hS 1 0 rfl rfl hg d_Di_moveToEnd_97 (fun H locs hP hD hS => ?_)
      have hP : va_P D classes (ws_Di_moveToEnd cI cJ cB q_p0 q_p0_sign q_p0_label q_p0_shape i_p0_count i_p0_circles i_p0_shapeIsKnown (upd (upd f_p0_label (Int32.toNatClampNeg x4) (f_p0_label (Int32.toNatClampNeg (x4 + (4 : Int32))))) (Int32.toNatClampNeg (x4 + (4 : Int32))) (f_p0_label (Int32.toNatClampNeg x4))) f_p0_sign) H := hP
      have hD : va_D A (ws_Di_moveToEnd cI cJ cB q_p0 q_p0_sign q_p0_label q_p0_shape i_p0_count i_p0_circles i_p0_shapeIsKnown (upd (upd f_p0_label (Int32.toNatClampNeg x4) (f_p0_label (Int32.toNatClampNeg (x4 + (4 : Int32))))) (Int32.toNatClampNeg (x4 + (4 : Int32))) (f_p0_label (Int32.toNatClampNeg x4))) f_p0_sign) := hD
      refine lv_iinc (v := (x4 + 1)) (lv' := [(4, .int (x4 + 1)), (5, .int (f_p0_label (Int32.toNatClampNeg x4))), (0, .ref q_p0), (1, .int x1), (2, .int x2), (3, .int x3)]) hx hb d_Di_moveToEnd_98 hl (k := 5) rfl rfl (by decide) rfl (fun ls hl => ?_)
      refine lv_goto (tgt := 52) hx hb d_Di_moveToEnd_101 (by decide) ?_
      exact ih x1 x2 x3 (x4 + 1) i_p0_shapeIsKnown (upd (upd f_p0_label (Int32.toNatClampNeg x4) (f_p0_label (Int32.toNatClampNeg (x4 + (4 : Int32))))) (Int32.toNatClampNeg (x4 + (4 : Int32))) (f_p0_label (Int32.toNatClampNeg x4))) f_p0_sign _ _ _ hm hP hD hS (lv_sub hl [2, 3, 4, 5, 0] rfl)
set_option maxHeartbeats 4000000 in
set_option maxRecDepth 100000 in
theorem w_Di_moveToEnd_7 {p : Program} {l : Launch} {e : Env} {s : State} {m : MethodId} {args : Array Value} {below : List Frame} {meth : Method} {c : Code} {D : va_G} {cI cJ cB : ClassId} {sa : Nat → Nat × Nat} {A : Nat → Prop} (fl : Nat) (q_p0 : Nat) (q_p0_sign : Nat) (q_p0_label : Nat) (q_p0_shape : Nat) (i_p0_count : Int32) (i_p0_circles : Int32) (res : Int32 × Int32 × (Nat → Int32) × (Nat → Int32)) (C0 : vz_Cx p s m meth c b_Di_moveToEnd 6 (some .int) "LinkEngine$Diagram" "moveToEnd" D [(cI, .int), (cJ, .long), (cB, .byte)] sa A args) : ∀ (nn : Nat), ∀ (x1 : Int32) (x2 : Int32) (i_p0_shapeIsKnown : Int32) (f_p0_label : Nat → Int32) (f_p0_sign : Nat → Int32) (H : Heap) (locs : List Loc) (ls : Array Slot), B_Di_moveToEnd_7 fl i_p0_count nn x1 x2 i_p0_shapeIsKnown f_p0_label f_p0_sign = some res → va_P D classes (ws_Di_moveToEnd cI cJ cB q_p0 q_p0_sign q_p0_label q_p0_shape i_p0_count i_p0_circles i_p0_shapeIsKnown f_p0_label f_p0_sign) H → va_D A (ws_Di_moveToEnd cI cJ cB q_p0 q_p0_sign q_p0_label q_p0_shape i_p0_count i_p0_circles i_p0_shapeIsKnown f_p0_label f_p0_sign) → va_S A s.heap H locs → lv_has ls 6 [(0, .ref q_p0), (1, .int x1), (2, .int x2)] → W p l e rm_Di_moveToEnd s m args below meth c H locs 0 0 (MQ below (va_Qi (fun (r : Int32) (w : va_W) => r = res.1 ∧ w = (ws_Di_moveToEnd cI cJ cB q_p0 q_p0_sign q_p0_label q_p0_shape i_p0_count i_p0_circles res.2.1 res.2.2.1 res.2.2.2)) (vz_B D A) A) args s 0 0 A) (F0 m 7 ls []) := by
  obtain ⟨hx, hb, hr, hml, hown, ht, hlocks, hin, hN, hK, hA, hZ⟩ := id C0
  intro nn
  induction nn with
  | zero =>
    intro x1 x2 i_p0_shapeIsKnown f_p0_label f_p0_sign H locs ls hm hP hD hS hl
    rw [B_Di_moveToEnd_7] at hm
    cases hm
  | succ nn ih =>
    intro x1 x2 i_p0_shapeIsKnown f_p0_label f_p0_sign H locs ls hm hP hD hS hl
    rw [B_Di_moveToEnd_7] at hm
    refine lv_iload_n hx hb d_Di_moveToEnd_7 rfl (lv_at hl 2 rfl) ?_
    refine lv_iconst (v := 1) hx hb d_Di_moveToEnd_8 (by decide) ?_
    refine lv_iadd hx hb d_Di_moveToEnd_9 ?_
    refine lv_aload_n hx hb d_Di_moveToEnd_10 rfl (lv_at hl 0 rfl) ?_
    refine va_get (D := D) (ci := 4) (v := .int i_p0_count) (C := R_Di) (T := F_Di) (N := 6) hx hb ht i_Di hown hK hP 0 rfl rfl 3 (Nat.le_of_ble_eq_true rfl) (ht _ m_238) (fun _ h9 => h9) rfl d_Di_moveToEnd_11 ?_
    refine lv_icmp_ge (tgt := 110) hx hb d_Di_moveToEnd_14 (by decide) (fun hc => ?_) (fun hc => ?_)
    · rw [if_pos hc] at hm
      refine lv_aload_n hx hb d_Di_moveToEnd_110 rfl (lv_at hl 0 rfl) ?_
      refine va_get (D := D) (ci := 4) (v := .int i_p0_count) (C := R_Di) (T := F_Di) (N := 6) hx hb ht i_Di hown hK hP 0 rfl rfl 3 (Nat.le_of_ble_eq_true rfl) (ht _ m_238) (fun _ h9 => h9) rfl d_Di_moveToEnd_111 ?_
      refine lv_iconst (v := 1) hx hb d_Di_moveToEnd_114 (by decide) ?_
      refine lv_isub hx hb d_Di_moveToEnd_115 ?_
      obtain rfl := Option.some.inj hm
      exact vz_iret hx hb hr rfl hlocks hP hD hS (Nat.le_refl _) (Nat.le_refl _) d_Di_moveToEnd_116 ⟨rfl, rfl⟩
    · rw [if_neg hc] at hm
      refine lv_aload_n hx hb d_Di_moveToEnd_17 rfl (lv_at hl 0 rfl) ?_
      refine va_get (D := D) (ci := 4) (v := .ref q_p0_sign) (C := R_Di) (T := F_Di) (N := 6) hx hb ht i_Di hown hK hP 0 rfl rfl 0 (Nat.le_of_ble_eq_true rfl) (ht _ m_50) (fun _ h9 => h9) rfl d_Di_moveToEnd_18 ?_
      refine lv_iload_n hx hb d_Di_moveToEnd_21 rfl (lv_at hl 2 rfl) ?_
      obtain ⟨hg, hm⟩ := vz_guard hm
      refine va_iald hx hb hK hP 2 0 rfl rfl hg d_Di_moveToEnd_22 ?_
      refine lv_istore_n (lv' := [(3, .int (f_p0_sign (Int32.toNatClampNeg x2))), (0, .ref q_p0), (1, .int x1), (2, .int x2)]) hx hb d_Di_moveToEnd_23 rfl hl (by decide) rfl (fun ls hl => ?_)
      refine lv_aload_n hx hb d_Di_moveToEnd_24 rfl (lv_at hl 1 rfl) ?_
      refine va_get (D := D) (ci := 4) (v := .ref q_p0_sign) (C := R_Di) (T := F_Di) (N := 6) hx hb ht i_Di hown hK hP 0 rfl rfl 0 (Nat.le_of_ble_eq_true rfl) (ht _ m_50) (fun _ h9 => h9) rfl d_Di_moveToEnd_25 ?_
      refine lv_iload_n hx hb d_Di_moveToEnd_28 rfl (lv_at hl 3 rfl) ?_
      refine lv_aload_n hx hb d_Di_moveToEnd_29 rfl (lv_at hl 1 rfl) ?_
      refine va_get (D := D) (ci := 4) (v := .ref q_p0_sign) (C := R_Di) (T := F_Di) (N := 6) hx hb ht i_Di hown hK hP 0 rfl rfl 0 (Nat.le_of_ble_eq_true rfl) (ht _ m_50) (fun _ h9 => h9) rfl d_Di_moveToEnd_30 ?_
      refine lv_iload_n hx hb d_Di_moveToEnd_33 rfl (lv_at hl 3 rfl) ?_
      refine lv_iconst (v := 1) hx hb d_Di_moveToEnd_34 (by decide) ?_
      refine lv_iadd hx hb d_Di_moveToEnd_35 ?_
      obtain ⟨hg, hm⟩ := vz_guard hm
      refine va_iald hx hb hK hP 2 0 rfl rfl hg d_Di_moveToEnd_36 ?_
      obtain ⟨hg, hm⟩ := vz_guard hm
      refine va_iast hx hb hK hP hD hS 2 0 rfl rfl hg d_Di_moveToEnd_37 (fun H locs hP hD hS => ?_)
      have hP : va_P D classes (ws_Di_moveToEnd cI cJ cB q_p0 q_p0_sign q_p0_label q_p0_shape i_p0_count i_p0_circles i_p0_shapeIsKnown f_p0_label (upd f_p0_sign (Int32.toNatClampNeg x2) (f_p0_sign (Int32.toNatClampNeg (x2 + (1 : Int32)))))) H := hP
      have hD : va_D A (ws_Di_moveToEnd cI cJ cB q_p0 q_p0_sign q_p0_label q_p0_shape i_p0_count i_p0_circles i_p0_shapeIsKnown f_p0_label (upd f_p0_sign (Int32.toNatClampNeg x2) (f_p0_sign (Int32.toNatClampNeg (x2 + (1 : Int32)))))) := hD
      refine lv_aload_n hx hb d_Di_moveToEnd_38 rfl (lv_at hl 1 rfl) ?_
      refine va_get (D := D) (ci := 4) (v := .ref q_p0_sign) (C := R_Di) (T := F_Di) (N := 6) hx hb ht i_Di hown hK hP 0 rfl rfl 0 (Nat.le_of_ble_eq_true rfl) (ht _ m_50) (fun _ h9 => h9) rfl d_Di_moveToEnd_39 ?_
      refine lv_iload_n hx hb d_Di_moveToEnd_42 rfl (lv_at hl 3 rfl) ?_
      refine lv_iconst (v := 1) hx hb d_Di_moveToEnd_43 (by decide) ?_
      refine lv_iadd hx hb d_Di_moveToEnd_44 ?_
      refine lv_iload_n hx hb d_Di_moveToEnd_45 rfl (lv_at hl 0 rfl) ?_
      obtain ⟨hg, hm⟩ := vz_guard hm
      refine va_iast hx hb hK hP hD hS 2 0 rfl rfl hg d_Di_moveToEnd_46 (fun H locs hP hD hS => ?_)
      have hP : va_P D classes (ws_Di_moveToEnd cI cJ cB q_p0 q_p0_sign q_p0_label q_p0_shape i_p0_count i_p0_circles i_p0_shapeIsKnown f_p0_label (upd (upd f_p0_sign (Int32.toNatClampNeg x2) (f_p0_sign (Int32.toNatClampNeg (x2 + (1 : Int32))))) (Int32.toNatClampNeg (x2 + (1 : Int32))) (f_p0_sign (Int32.toNatClampNeg x2)))) H := hP
      have hD : va_D A (ws_Di_moveToEnd cI cJ cB q_p0 q_p0_sign q_p0_label q_p0_shape i_p0_count i_p0_circles i_p0_shapeIsKnown f_p0_label (upd (upd f_p0_sign (Int32.toNatClampNeg x2) (f_p0_sign (Int32.toNatClampNeg (x2 + (1 : Int32))))) (Int32.toNatClampNeg (x2 + (1 : Int32))) (f_p0_sign (Int32.toNatClampNeg x2)))) := hD
      refine lv_iconst (v := 4) hx hb d_Di_moveToEnd_47 (by decide) ?_
      refine lv_iload_n hx hb d_Di_moveToEnd_48 rfl (lv_at hl 3 rfl) ?_
      refine lv_imul hx hb d_Di_moveToEnd_49 ?_
      refine lv_istore (lv' := [(4, .int ((4 : Int32) * x2)), (3, .int (f_p0_sign (Int32.toNatClampNeg x2))), (0, .ref q_p0), (1, .int x1), (2, .int x2)]) hx hb d_Di_moveToEnd_50 hl (by decide) rfl (fun ls hl => ?_)
      exact w_Di_moveToEnd_52 fl q_p0 q_p0_sign q_p0_label q_p0_shape i_p0_count i_p0_circles res C0 (B_Di_moveToEnd_7 fl i_p0_count nn) ih fl x1 x2 (f_p0_sign (Int32.toNatClampNeg x2)) ((4 : Int32) * x2) i_p0_shapeIsKnown f_p0_label (upd (upd f_p0_sign (Int32.toNatClampNeg x2) (f_p0_sign (Int32.toNatClampNeg (x2 + (1 : Int32))))) (Int32.toNatClampNeg (x2 + (1 : Int32))) (f_p0_sign (Int32.toNatClampNeg x2))) _ _ _ hm hP hD hS (lv_sub hl [2, 3, 4, 1, 0] rfl)
set_option maxHeartbeats 4000000 in
set_option maxRecDepth 100000 in
theorem w_Di_moveToEnd_0 {p : Program} {l : Launch} {e : Env} {s : State} {m : MethodId} {args : Array Value} {below : List Frame} {meth : Method} {c : Code} {D : va_G} {cI cJ cB : ClassId} {sa : Nat → Nat × Nat} {A : Nat → Prop} (fl : Nat) (q_p0 : Nat) (q_p0_sign : Nat) (q_p0_label : Nat) (q_p0_shape : Nat) (i_p0_count : Int32) (i_p0_circles : Int32) (res : Int32 × Int32 × (Nat → Int32) × (Nat → Int32)) (C0 : vz_Cx p s m meth c b_Di_moveToEnd 6 (some .int) "LinkEngine$Diagram" "moveToEnd" D [(cI, .int), (cJ, .long), (cB, .byte)] sa A args) : ∀ (x1 : Int32) (i_p0_shapeIsKnown : Int32) (f_p0_label : Nat → Int32) (f_p0_sign : Nat → Int32) (H : Heap) (locs : List Loc) (ls : Array Slot), B_Di_moveToEnd_0 fl i_p0_count x1 i_p0_shapeIsKnown f_p0_label f_p0_sign = some res → va_P D classes (ws_Di_moveToEnd cI cJ cB q_p0 q_p0_sign q_p0_label q_p0_shape i_p0_count i_p0_circles i_p0_shapeIsKnown f_p0_label f_p0_sign) H → va_D A (ws_Di_moveToEnd cI cJ cB q_p0 q_p0_sign q_p0_label q_p0_shape i_p0_count i_p0_circles i_p0_shapeIsKnown f_p0_label f_p0_sign) → va_S A s.heap H locs → lv_has ls 6 [(0, .ref q_p0), (1, .int x1)] → W p l e rm_Di_moveToEnd s m args below meth c H locs 0 0 (MQ below (va_Qi (fun (r : Int32) (w : va_W) => r = res.1 ∧ w = (ws_Di_moveToEnd cI cJ cB q_p0 q_p0_sign q_p0_label q_p0_shape i_p0_count i_p0_circles res.2.1 res.2.2.1 res.2.2.2)) (vz_B D A) A) args s 0 0 A) (F0 m 0 ls []) := by
  obtain ⟨hx, hb, hr, hml, hown, ht, hlocks, hin, hN, hK, hA, hZ⟩ := id C0
  intro x1 i_p0_shapeIsKnown f_p0_label f_p0_sign H locs ls hm hP hD hS hl
  unfold B_Di_moveToEnd_0 at hm
  refine lv_aload_n hx hb d_Di_moveToEnd_0 rfl (lv_at hl 0 rfl) ?_
  refine lv_iconst (v := 0) hx hb d_Di_moveToEnd_1 (by decide) ?_
  refine va_put (D := D) (ci := 4) (v := .int 0) (ty := .boolean) (C := R_Di) (T := F_Di) (N := 6) hx hb ht i_Di t_Di t_Di_ok n_Di hown hK hP hD hS 0 rfl rfl 5 (Nat.le_of_ble_eq_true rfl) (ht _ m_229) (fun _ h9 => h9) rfl (by decide +kernel) rfl rfl (Nat.le_of_ble_eq_true rfl) d_Di_moveToEnd_2 (fun H locs hP hD hS => ?_)
  have hP : va_P D classes (ws_Di_moveToEnd cI cJ cB q_p0 q_p0_sign q_p0_label q_p0_shape i_p0_count i_p0_circles 0 f_p0_label f_p0_sign) H := hP
  have hD : va_D A (ws_Di_moveToEnd cI cJ cB q_p0 q_p0_sign q_p0_label q_p0_shape i_p0_count i_p0_circles 0 f_p0_label f_p0_sign) := hD
  refine lv_iload_n hx hb d_Di_moveToEnd_5 rfl (lv_at hl 1 rfl) ?_
  refine lv_istore_n (lv' := [(2, .int x1), (0, .ref q_p0), (1, .int x1)]) hx hb d_Di_moveToEnd_6 rfl hl (by decide) rfl (fun ls hl => ?_)
  exact w_Di_moveToEnd_7 fl q_p0 q_p0_sign q_p0_label q_p0_shape i_p0_count i_p0_circles res C0 fl x1 x1 0 f_p0_label f_p0_sign _ _ _ hm hP hD hS (lv_sub hl [1, 2, 0] rfl)
set_option maxHeartbeats 4000000 in
set_option maxRecDepth 100000 in
theorem k_Di_moveToEnd (l : Launch) (D : va_G) (cI cJ cB : ClassId) (sa : Nat → Nat × Nat) (fl : Nat) (q_p0 : Nat) (q_p0_sign : Nat) (q_p0_label : Nat) (q_p0_shape : Nat) (i_p0_count : Int32) (i_p0_circles : Int32) (i_p0_shapeIsKnown : Int32) (f_p0_label : Nat → Int32) (f_p0_sign : Nat → Int32) (x1 : Int32) (res : Int32 × Int32 × (Nat → Int32) × (Nat → Int32)) (hm : m_Di_moveToEnd fl i_p0_count x1 i_p0_shapeIsKnown f_p0_label f_p0_sign = some res) : MtI l y_Di_moveToEnd (.code y_Di_moveToEnd b_Di_moveToEnd 6 (some .int) :: CW) rm_Di_moveToEnd D [(cI, .int), (cJ, .long), (cB, .byte)] sa [.ref q_p0, .int x1] (ws_Di_moveToEnd cI cJ cB q_p0 q_p0_sign q_p0_label q_p0_shape i_p0_count i_p0_circles i_p0_shapeIsKnown f_p0_label f_p0_sign) (fun (r : Int32) (w : va_W) => r = res.1 ∧ w = (ws_Di_moveToEnd cI cJ cB q_p0 q_p0_sign q_p0_label q_p0_shape i_p0_count i_p0_circles res.2.1 res.2.2.1 res.2.2.2)) := by
  intro sz
  refine vz_start (Qc := fun A => va_Qi (fun (r : Int32) (w : va_W) => r = res.1 ∧ w = (ws_Di_moveToEnd cI cJ cB q_p0 q_p0_sign q_p0_label q_p0_shape i_p0_count i_p0_circles res.2.1 res.2.2.1 res.2.2.2)) (vz_B D A) A) (lv0 := [(0, .ref q_p0), (1, .int x1)]) (by decide +kernel) (Nat.le_of_ble_eq_true rfl) rfl ?_
  intro p e s m below meth c A ls C0 hl
  obtain ⟨hx, hb, hr, hml, hown, ht, hlocks, hin, hN, hK, hP, hD, hA, hS, hZ⟩ := C0
  exact w_Di_moveToEnd_0 fl q_p0 q_p0_sign q_p0_label q_p0_shape i_p0_count i_p0_circles res ⟨hx, hb, hr, hml, hown, ht, hlocks, hin, hN, hK, hA, hZ⟩ x1 i_p0_shapeIsKnown f_p0_label f_p0_sign s.heap [] ls hm hP hD hS (lv_sub hl [0, 1] rfl)
def ws_Di_joinAt (cI cJ cB : ClassId) (q_p0 : Nat) (q_p0_sign : Nat) (q_p0_label : Nat) (q_p0_shape : Nat) (i_p0_count : Int32) (i_p0_circles : Int32) (i_p0_shapeIsKnown : Int32) (f_p0_label : Nat → Int32) : va_W := [(q_p0, .inr (4, [.ref q_p0_sign, .ref q_p0_label, .ref q_p0_shape, .int i_p0_count, .int i_p0_circles, .int i_p0_shapeIsKnown])), (q_p0_label, .inl (cI, 80, .inl f_p0_label))]
def rm_Di_joinAt : Room := { frames := 1, cells := 0, slots := 0, locals := 23 }
def B_Di_joinAt_0 (fl : Nat) (i_p0_count : Int32) (x1 : Int32) (x2 : Int32) (i_p0_circles : Int32) (i_p0_shapeIsKnown : Int32) (f_p0_label : Nat → Int32) : Option (Int32 × Int32 × (Nat → Int32)) := (if ¬ (x1 < 0 ∨ 80 ≤ Int32.toNatClampNeg x1) then (if ¬ (x2 < 0 ∨ 80 ≤ Int32.toNatClampNeg x2) then (if ¬ (f_p0_label (Int32.toNatClampNeg x1)) = (f_p0_label (Int32.toNatClampNeg x2)) then ((m_Di_rename fl i_p0_count (if (f_p0_label (Int32.toNatClampNeg x1)) < (f_p0_label (Int32.toNatClampNeg x2)) then (f_p0_label (Int32.toNatClampNeg x2)) else (f_p0_label (Int32.toNatClampNeg x1))) (if (f_p0_label (Int32.toNatClampNeg x2)) < (f_p0_label (Int32.toNatClampNeg x1)) then (f_p0_label (Int32.toNatClampNeg x2)) else (f_p0_label (Int32.toNatClampNeg x1))) i_p0_shapeIsKnown f_p0_label).bind fun o0 => (some (i_p0_circles, o0.1, o0.2))) else (some ((i_p0_circles + (1 : Int32)), i_p0_shapeIsKnown, f_p0_label))) else none) else none)
def m_Di_joinAt (fl : Nat) (i_p0_count : Int32) (x1 : Int32) (x2 : Int32) (i_p0_circles : Int32) (i_p0_shapeIsKnown : Int32) (f_p0_label : Nat → Int32) : Option (Int32 × Int32 × (Nat → Int32)) := B_Di_joinAt_0 fl i_p0_count x1 x2 i_p0_circles i_p0_shapeIsKnown f_p0_label
set_option maxHeartbeats 4000000 in
set_option maxRecDepth 100000 in
theorem w_Di_joinAt_0 {p : Program} {l : Launch} {e : Env} {s : State} {m : MethodId} {args : Array Value} {below : List Frame} {meth : Method} {c : Code} {D : va_G} {cI cJ cB : ClassId} {sa : Nat → Nat × Nat} {A : Nat → Prop} (fl : Nat) (q_p0 : Nat) (q_p0_sign : Nat) (q_p0_label : Nat) (q_p0_shape : Nat) (i_p0_count : Int32) (res : Int32 × Int32 × (Nat → Int32)) (C0 : vz_Cx p s m meth c b_Di_joinAt 5 none "LinkEngine$Diagram" "joinAt" D [(cI, .int), (cJ, .long), (cB, .byte)] sa A args) : ∀ (x1 : Int32) (x2 : Int32) (i_p0_circles : Int32) (i_p0_shapeIsKnown : Int32) (f_p0_label : Nat → Int32) (H : Heap) (locs : List Loc) (ls : Array Slot), B_Di_joinAt_0 fl i_p0_count x1 x2 i_p0_circles i_p0_shapeIsKnown f_p0_label = some res → va_P D classes (ws_Di_joinAt cI cJ cB q_p0 q_p0_sign q_p0_label q_p0_shape i_p0_count i_p0_circles i_p0_shapeIsKnown f_p0_label) H → va_D A (ws_Di_joinAt cI cJ cB q_p0 q_p0_sign q_p0_label q_p0_shape i_p0_count i_p0_circles i_p0_shapeIsKnown f_p0_label) → va_S A s.heap H locs → lv_has ls 5 [(0, .ref q_p0), (1, .int x1), (2, .int x2)] → W p l e rm_Di_joinAt s m args below meth c H locs 0 0 (MQ below (va_Qv (fun (w : va_W) => w = (ws_Di_joinAt cI cJ cB q_p0 q_p0_sign q_p0_label q_p0_shape i_p0_count res.1 res.2.1 res.2.2)) (vz_B D A) A) args s 0 0 A) (F0 m 0 ls []) := by
  obtain ⟨hx, hb, hr, hml, hown, ht, hlocks, hin, hN, hK, hA, hZ⟩ := id C0
  intro x1 x2 i_p0_circles i_p0_shapeIsKnown f_p0_label H locs ls hm hP hD hS hl
  unfold B_Di_joinAt_0 at hm
  refine lv_aload_n hx hb d_Di_joinAt_0 rfl (lv_at hl 0 rfl) ?_
  refine va_get (D := D) (ci := 4) (v := .ref q_p0_label) (C := R_Di) (T := F_Di) (N := 6) hx hb ht i_Di hown hK hP 0 rfl rfl 1 (Nat.le_of_ble_eq_true rfl) (ht _ m_51) (fun _ h9 => h9) rfl d_Di_joinAt_1 ?_
  refine lv_iload_n hx hb d_Di_joinAt_4 rfl (lv_at hl 1 rfl) ?_
  obtain ⟨hg, hm⟩ := vz_guard hm
  refine va_iald hx hb hK hP 1 0 rfl rfl hg d_Di_joinAt_5 ?_
  refine lv_istore_n (lv' := [(3, .int (f_p0_label (Int32.toNatClampNeg x1))), (0, .ref q_p0), (1, .int x1), (2, .int x2)]) hx hb d_Di_joinAt_6 rfl hl (by decide) rfl (fun ls hl => ?_)
  refine lv_aload_n hx hb d_Di_joinAt_7 rfl (lv_at hl 1 rfl) ?_
  refine va_get (D := D) (ci := 4) (v := .ref q_p0_label) (C := R_Di) (T := F_Di) (N := 6) hx hb ht i_Di hown hK hP 0 rfl rfl 1 (Nat.le_of_ble_eq_true rfl) (ht _ m_51) (fun _ h9 => h9) rfl d_Di_joinAt_8 ?_
  refine lv_iload_n hx hb d_Di_joinAt_11 rfl (lv_at hl 3 rfl) ?_
  obtain ⟨hg, hm⟩ := vz_guard hm
  refine va_iald hx hb hK hP 1 0 rfl rfl hg d_Di_joinAt_12 ?_
  refine lv_istore (lv' := [(4, .int (f_p0_label (Int32.toNatClampNeg x2))), (3, .int (f_p0_label (Int32.toNatClampNeg x1))), (0, .ref q_p0), (1, .int x1), (2, .int x2)]) hx hb d_Di_joinAt_13 hl (by decide) rfl (fun ls hl => ?_)
  refine lv_iload_n hx hb d_Di_joinAt_15 rfl (lv_at hl 1 rfl) ?_
  refine lv_iload hx hb d_Di_joinAt_16 (lv_at hl 0 rfl) ?_
  refine lv_icmp_ne (tgt := 34) hx hb d_Di_joinAt_18 (by decide) (fun hc => ?_) (fun hc => ?_)
  · rw [if_pos hc] at hm
    refine lv_aload_n hx hb d_Di_joinAt_34 rfl (lv_at hl 2 rfl) ?_
    refine lv_iload_n hx hb d_Di_joinAt_35 rfl (lv_at hl 1 rfl) ?_
    refine lv_iload hx hb d_Di_joinAt_36 (lv_at hl 0 rfl) ?_
    refine va_mmax hx hb (hml.trans hl.1.symm) hown (ht _ m_380) (ht _ m_381) (ht _ m_373) (ht _ m_382) (Nat.le_of_ble_eq_true rfl) (Nat.le_of_ble_eq_true rfl) (Nat.zero_le _) (Nat.zero_le _) d_Di_joinAt_38 ?_
    refine lv_iload_n hx hb d_Di_joinAt_41 rfl (lv_at hl 1 rfl) ?_
    refine lv_iload hx hb d_Di_joinAt_42 (lv_at hl 0 rfl) ?_
    refine va_mmin hx hb (hml.trans hl.1.symm) hown (ht _ m_383) (ht _ m_372) (ht _ m_373) (ht _ m_374) (Nat.le_of_ble_eq_true rfl) (Nat.le_of_ble_eq_true rfl) (Nat.zero_le _) (Nat.zero_le _) d_Di_joinAt_44 ?_
    obtain ⟨o0, ho0, hm⟩ := vz_bind hm
    try dsimp only at hm
    refine vz_callVv (n := 2) (As := [.int (if (f_p0_label (Int32.toNatClampNeg x1)) < (f_p0_label (Int32.toNatClampNeg x2)) then (f_p0_label (Int32.toNatClampNeg x2)) else (f_p0_label (Int32.toNatClampNeg x1))), .int (if (f_p0_label (Int32.toNatClampNeg x2)) < (f_p0_label (Int32.toNatClampNeg x1)) then (f_p0_label (Int32.toNatClampNeg x2)) else (f_p0_label (Int32.toNatClampNeg x1)))]) (rest := []) (wc := (ws_Di_rename cI cJ cB q_p0 q_p0_sign q_p0_label q_p0_shape i_p0_count i_p0_circles i_p0_shapeIsKnown f_p0_label)) (wr := []) (k1 := 0) (n1 := 0) hx hb hml hown ht hN hZ hK hP hD hS hA (k_Di_rename l D cI cJ cB sa fl q_p0 q_p0_sign q_p0_label q_p0_shape i_p0_count i_p0_circles i_p0_shapeIsKnown f_p0_label (if (f_p0_label (Int32.toNatClampNeg x1)) < (f_p0_label (Int32.toNatClampNeg x2)) then (f_p0_label (Int32.toNatClampNeg x2)) else (f_p0_label (Int32.toNatClampNeg x1))) (if (f_p0_label (Int32.toNatClampNeg x2)) < (f_p0_label (Int32.toNatClampNeg x1)) then (f_p0_label (Int32.toNatClampNeg x2)) else (f_p0_label (Int32.toNatClampNeg x1))) o0 ho0) m_387 m_99 m_384 m_385 m_386 (hc := (rfl : classes[4]? = some (R_Di, F_Di, 6))) 0 rfl (by decide +kernel) ⟨Nat.le_of_ble_eq_true rfl, Nat.le_of_ble_eq_true rfl⟩ [0, 1] [] rfl rfl (by decide) (by decide) (by decide) rfl hl.1 rfl (Nat.le_of_ble_eq_true rfl) rfl rfl ⟨Nat.zero_le _, Nat.zero_le _⟩ d_Di_joinAt_47 (fun w1 H locs hw hP hD hS => ?_)
    subst hw
    have hP : va_P D classes (ws_Di_joinAt cI cJ cB q_p0 q_p0_sign q_p0_label q_p0_shape i_p0_count i_p0_circles o0.1 o0.2) H := hP.sub [0, 1] rfl
    have hD : va_D A (ws_Di_joinAt cI cJ cB q_p0 q_p0_sign q_p0_label q_p0_shape i_p0_count i_p0_circles o0.1 o0.2) := hD.sub [0, 1] (by decide) rfl
    obtain rfl := Option.some.inj hm
    exact vz_vret hx hb hr hlocks hP hD hS (Nat.le_refl _) (Nat.le_refl _) d_Di_joinAt_50 rfl
  · rw [if_neg (fun q => q hc)] at hm
    refine lv_aload_n hx hb d_Di_joinAt_21 rfl (lv_at hl 2 rfl) ?_
    refine lv_dup hx hb d_Di_joinAt_22 rfl ?_
    refine va_get (D := D) (ci := 4) (v := .int i_p0_circles) (C := R_Di) (T := F_Di) (N := 6) hx hb ht i_Di hown hK hP 0 rfl rfl 4 (Nat.le_of_ble_eq_true rfl) (ht _ m_364) (fun _ h9 => h9) rfl d_Di_joinAt_23 ?_
    refine lv_iconst (v := 1) hx hb d_Di_joinAt_26 (by decide) ?_
    refine lv_iadd hx hb d_Di_joinAt_27 ?_
    refine va_put (D := D) (ci := 4) (v := .int (i_p0_circles + (1 : Int32))) (ty := .int) (C := R_Di) (T := F_Di) (N := 6) hx hb ht i_Di t_Di t_Di_ok n_Di hown hK hP hD hS 0 rfl rfl 4 (Nat.le_of_ble_eq_true rfl) (ht _ m_364) (fun _ h9 => h9) rfl (by decide +kernel) rfl rfl (Nat.le_of_ble_eq_true rfl) d_Di_joinAt_28 (fun H locs hP hD hS => ?_)
    have hP : va_P D classes (ws_Di_joinAt cI cJ cB q_p0 q_p0_sign q_p0_label q_p0_shape i_p0_count (i_p0_circles + (1 : Int32)) i_p0_shapeIsKnown f_p0_label) H := hP
    have hD : va_D A (ws_Di_joinAt cI cJ cB q_p0 q_p0_sign q_p0_label q_p0_shape i_p0_count (i_p0_circles + (1 : Int32)) i_p0_shapeIsKnown f_p0_label) := hD
    refine lv_goto (tgt := 50) hx hb d_Di_joinAt_31 (by decide) ?_
    obtain rfl := Option.some.inj hm
    exact vz_vret hx hb hr hlocks hP hD hS (Nat.le_refl _) (Nat.le_refl _) d_Di_joinAt_50 rfl
set_option maxHeartbeats 4000000 in
set_option maxRecDepth 100000 in
theorem k_Di_joinAt (l : Launch) (D : va_G) (cI cJ cB : ClassId) (sa : Nat → Nat × Nat) (fl : Nat) (q_p0 : Nat) (q_p0_sign : Nat) (q_p0_label : Nat) (q_p0_shape : Nat) (i_p0_count : Int32) (i_p0_circles : Int32) (i_p0_shapeIsKnown : Int32) (f_p0_label : Nat → Int32) (x1 : Int32) (x2 : Int32) (res : Int32 × Int32 × (Nat → Int32)) (hm : m_Di_joinAt fl i_p0_count x1 x2 i_p0_circles i_p0_shapeIsKnown f_p0_label = some res) : MtV l y_Di_joinAt (.code y_Di_joinAt b_Di_joinAt 5 none :: CW) rm_Di_joinAt D [(cI, .int), (cJ, .long), (cB, .byte)] sa [.ref q_p0, .int x1, .int x2] (ws_Di_joinAt cI cJ cB q_p0 q_p0_sign q_p0_label q_p0_shape i_p0_count i_p0_circles i_p0_shapeIsKnown f_p0_label) (fun (w : va_W) => w = (ws_Di_joinAt cI cJ cB q_p0 q_p0_sign q_p0_label q_p0_shape i_p0_count res.1 res.2.1 res.2.2)) := by
  intro sz
  refine vz_start (Qc := fun A => va_Qv (fun (w : va_W) => w = (ws_Di_joinAt cI cJ cB q_p0 q_p0_sign q_p0_label q_p0_shape i_p0_count res.1 res.2.1 res.2.2)) (vz_B D A) A) (lv0 := [(0, .ref q_p0), (1, .int x1), (2, .int x2)]) (by decide +kernel) (Nat.le_of_ble_eq_true rfl) rfl ?_
  intro p e s m below meth c A ls C0 hl
  obtain ⟨hx, hb, hr, hml, hown, ht, hlocks, hin, hN, hK, hP, hD, hA, hS, hZ⟩ := C0
  exact w_Di_joinAt_0 fl q_p0 q_p0_sign q_p0_label q_p0_shape i_p0_count res ⟨hx, hb, hr, hml, hown, ht, hlocks, hin, hN, hK, hA, hZ⟩ x1 x2 i_p0_circles i_p0_shapeIsKnown f_p0_label s.heap [] ls hm hP hD hS (lv_sub hl [0, 1, 2] rfl)
def ws_Sh_fillArc (cI cJ cB : ClassId) (q_p0 : Nat) (q_p0_key : Nat) (q_p0_name : Nat) (q_p0_from : Nat) (q_p0_to : Nat) (q_p0_edgeAt : Nat) (q_p0_componentOf : Nat) (q_p0_arcOf : Nat) (q_p0_pieceOf : Nat) (q_p0_faceOf : Nat) (q_p0_faceStart : Nat) (q_p0_faceSize : Nat) (q_p0_scratch : Nat) (i_p0_edges : Int32) (i_p0_components : Int32) (i_p0_pieces : Int32) (i_p0_faces : Int32) (i_p0_brokenRule : Int32) (i_p0_culprit : Int32) (f_p0_arcOf : Nat → Int32) (f_p0_edgeAt : Nat → Int32) (f_p0_to : Nat → Int32) : va_W := [(q_p0, .inr (5, [.ref q_p0_key, .ref q_p0_name, .ref q_p0_from, .ref q_p0_to, .ref q_p0_edgeAt, .ref q_p0_componentOf, .ref q_p0_arcOf, .ref q_p0_pieceOf, .ref q_p0_faceOf, .ref q_p0_faceStart, .ref q_p0_faceSize, .ref q_p0_scratch, .int i_p0_edges, .int i_p0_components, .int i_p0_pieces, .int i_p0_faces, .int i_p0_brokenRule, .int i_p0_culprit])), (q_p0_arcOf, .inl (cI, 40, .inl f_p0_arcOf)), (q_p0_edgeAt, .inl (cI, 80, .inl f_p0_edgeAt)), (q_p0_to, .inl (cI, 40, .inl f_p0_to))]
def rm_Sh_fillArc : Room := { frames := 1, cells := 0, slots := 0, locals := 21 }
def B_Sh_fillArc_12 (fl : Nat) (i_p0_edges : Int32) (f_p0_edgeAt : Nat → Int32) (f_p0_to : Nat → Int32) : Nat → Int32 → Int32 → Int32 → Int32 → (Nat → Int32) → Option ((Nat → Int32))
  | 0, _, _, _, _, _ => none
  | nn + 1, x1, x2, x3, x4, f_p0_arcOf => (if i_p0_edges ≤ x4 then (some f_p0_arcOf) else (if ¬ (x3 < 0 ∨ 40 ≤ Int32.toNatClampNeg x3) then ((m_Sh_isUpper fl (f_p0_to (Int32.toNatClampNeg x3))).bind fun o0 => (if o0 = (0 : Int32) then (some f_p0_arcOf) else ((m_Sh_nextEdge fl f_p0_edgeAt f_p0_to x3).bind fun o1 => (if ¬ (o1 < 0 ∨ 40 ≤ Int32.toNatClampNeg o1) then B_Sh_fillArc_12 fl i_p0_edges f_p0_edgeAt f_p0_to nn x1 x2 o1 (x4 + 1) (upd f_p0_arcOf (Int32.toNatClampNeg o1) x2) else none)))) else none))
def B_Sh_fillArc_0 (fl : Nat) (i_p0_edges : Int32) (f_p0_edgeAt : Nat → Int32) (f_p0_to : Nat → Int32) (x1 : Int32) (x2 : Int32) (f_p0_arcOf : Nat → Int32) : Option ((Nat → Int32)) := (if ¬ (x1 < 0 ∨ 40 ≤ Int32.toNatClampNeg x1) then B_Sh_fillArc_12 fl i_p0_edges f_p0_edgeAt f_p0_to fl x1 x2 x1 0 (upd f_p0_arcOf (Int32.toNatClampNeg x1) x2) else none)
def m_Sh_fillArc (fl : Nat) (i_p0_edges : Int32) (f_p0_edgeAt : Nat → Int32) (f_p0_to : Nat → Int32) (x1 : Int32) (x2 : Int32) (f_p0_arcOf : Nat → Int32) : Option ((Nat → Int32)) := B_Sh_fillArc_0 fl i_p0_edges f_p0_edgeAt f_p0_to x1 x2 f_p0_arcOf
set_option maxHeartbeats 4000000 in
set_option maxRecDepth 100000 in
theorem w_Sh_fillArc_12 {p : Program} {l : Launch} {e : Env} {s : State} {m : MethodId} {args : Array Value} {below : List Frame} {meth : Method} {c : Code} {D : va_G} {cI cJ cB : ClassId} {sa : Nat → Nat × Nat} {A : Nat → Prop} (fl : Nat) (q_p0 : Nat) (q_p0_key : Nat) (q_p0_name : Nat) (q_p0_from : Nat) (q_p0_to : Nat) (q_p0_edgeAt : Nat) (q_p0_componentOf : Nat) (q_p0_arcOf : Nat) (q_p0_pieceOf : Nat) (q_p0_faceOf : Nat) (q_p0_faceStart : Nat) (q_p0_faceSize : Nat) (q_p0_scratch : Nat) (i_p0_edges : Int32) (f_p0_edgeAt : Nat → Int32) (f_p0_to : Nat → Int32) (i_p0_components : Int32) (i_p0_pieces : Int32) (i_p0_faces : Int32) (i_p0_brokenRule : Int32) (i_p0_culprit : Int32) (res : (Nat → Int32)) (C0 : vz_Cx p s m meth c b_Sh_fillArc 5 none "LinkEngine$Shape" "fillArc" D [(cI, .int), (cJ, .long), (cB, .byte)] sa A args) : ∀ (nn : Nat), ∀ (x1 : Int32) (x2 : Int32) (x3 : Int32) (x4 : Int32) (f_p0_arcOf : Nat → Int32) (H : Heap) (locs : List Loc) (ls : Array Slot), B_Sh_fillArc_12 fl i_p0_edges f_p0_edgeAt f_p0_to nn x1 x2 x3 x4 f_p0_arcOf = some res → va_P D classes (ws_Sh_fillArc cI cJ cB q_p0 q_p0_key q_p0_name q_p0_from q_p0_to q_p0_edgeAt q_p0_componentOf q_p0_arcOf q_p0_pieceOf q_p0_faceOf q_p0_faceStart q_p0_faceSize q_p0_scratch i_p0_edges i_p0_components i_p0_pieces i_p0_faces i_p0_brokenRule i_p0_culprit f_p0_arcOf f_p0_edgeAt f_p0_to) H → va_D A (ws_Sh_fillArc cI cJ cB q_p0 q_p0_key q_p0_name q_p0_from q_p0_to q_p0_edgeAt q_p0_componentOf q_p0_arcOf q_p0_pieceOf q_p0_faceOf q_p0_faceStart q_p0_faceSize q_p0_scratch i_p0_edges i_p0_components i_p0_pieces i_p0_faces i_p0_brokenRule i_p0_culprit f_p0_arcOf f_p0_edgeAt f_p0_to) → va_S A s.heap H locs → lv_has ls 5 [(0, .ref q_p0), (1, .int x1), (2, .int x2), (3, .int x3), (4, .int x4)] → W p l e rm_Sh_fillArc s m args below meth c H locs 0 0 (MQ below (va_Qv (fun (w : va_W) => w = (ws_Sh_fillArc cI cJ cB q_p0 q_p0_key q_p0_name q_p0_from q_p0_to q_p0_edgeAt q_p0_componentOf q_p0_arcOf q_p0_pieceOf q_p0_faceOf q_p0_faceStart q_p0_faceSize q_p0_scratch i_p0_edges i_p0_components i_p0_pieces i_p0_faces i_p0_brokenRule i_p0_culprit res f_p0_edgeAt f_p0_to)) (vz_B D A) A) args s 0 0 A) (F0 m 12 ls []) := by
  obtain ⟨hx, hb, hr, hml, hown, ht, hlocks, hin, hN, hK, hA, hZ⟩ := id C0
  intro nn
  induction nn with
  | zero =>
    intro x1 x2 x3 x4 f_p0_arcOf H locs ls hm hP hD hS hl
    rw [B_Sh_fillArc_12] at hm
    cases hm
  | succ nn ih =>
    intro x1 x2 x3 x4 f_p0_arcOf H locs ls hm hP hD hS hl
    rw [B_Sh_fillArc_12] at hm
    refine lv_iload hx hb d_Sh_fillArc_12 (lv_at hl 4 rfl) ?_
    refine lv_aload_n hx hb d_Sh_fillArc_14 rfl (lv_at hl 0 rfl) ?_
    refine va_get (D := D) (ci := 5) (v := .int i_p0_edges) (C := R_Sh) (T := F_Sh) (N := 18) hx hb ht i_Sh hown hK hP 0 rfl rfl 12 (Nat.le_of_ble_eq_true rfl) (ht _ m_219) (fun _ h9 => h9) rfl d_Sh_fillArc_15 ?_
    refine lv_icmp_ge (tgt := 52) hx hb d_Sh_fillArc_18 (by decide) (fun hc => ?_) (fun hc => ?_)
    · rw [if_pos hc] at hm
      obtain rfl := Option.some.inj hm
      exact vz_vret hx hb hr hlocks hP hD hS (Nat.le_refl _) (Nat.le_refl _) d_Sh_fillArc_52 rfl
    · rw [if_neg hc] at hm
      refine lv_aload_n hx hb d_Sh_fillArc_21 rfl (lv_at hl 0 rfl) ?_
      refine va_get (D := D) (ci := 5) (v := .ref q_p0_to) (C := R_Sh) (T := F_Sh) (N := 18) hx hb ht i_Sh hown hK hP 0 rfl rfl 3 (Nat.le_of_ble_eq_true rfl) (ht _ m_35) (fun _ h9 => h9) rfl d_Sh_fillArc_22 ?_
      refine lv_iload_n hx hb d_Sh_fillArc_25 rfl (lv_at hl 3 rfl) ?_
      obtain ⟨hg, hm⟩ := vz_guard hm
      refine va_iald hx hb hK hP 3 0 rfl rfl hg d_Sh_fillArc_26 ?_
      obtain ⟨o0, ho0, hm⟩ := vz_bind hm
      try dsimp only at hm
      refine vz_callSi (n := 1) (As := [.int (f_p0_to (Int32.toNatClampNeg x3))]) (rest := []) (wc := (ws_Sh_isUpper cI cJ cB )) (wr := (ws_Sh_fillArc cI cJ cB q_p0 q_p0_key q_p0_name q_p0_from q_p0_to q_p0_edgeAt q_p0_componentOf q_p0_arcOf q_p0_pieceOf q_p0_faceOf q_p0_faceStart q_p0_faceSize q_p0_scratch i_p0_edges i_p0_components i_p0_pieces i_p0_faces i_p0_brokenRule i_p0_culprit f_p0_arcOf f_p0_edgeAt f_p0_to)) (k1 := 0) (n1 := 0) hx hb hml hown ht hN hZ hK hP hD hS hA (k_Sh_isUpper l D cI cJ cB sa fl   (f_p0_to (Int32.toNatClampNeg x3)) o0 ho0) m_390 m_54 m_388 m_389 (by decide +kernel) ⟨Nat.le_of_ble_eq_true rfl, Nat.le_of_ble_eq_true rfl⟩ [] [0, 1, 2, 3] rfl rfl (by decide) (by decide) (by decide) rfl hl.1 rfl (Nat.le_of_ble_eq_true rfl) rfl rfl ⟨Nat.zero_le _, Nat.zero_le _⟩ d_Sh_fillArc_27 (fun r1 w1 H locs hw hP hD hS => ?_)
      obtain ⟨hr1, rfl⟩ := hw
      have hr1 := hr1.symm
      subst hr1
      have hP : va_P D classes (ws_Sh_fillArc cI cJ cB q_p0 q_p0_key q_p0_name q_p0_from q_p0_to q_p0_edgeAt q_p0_componentOf q_p0_arcOf q_p0_pieceOf q_p0_faceOf q_p0_faceStart q_p0_faceSize q_p0_scratch i_p0_edges i_p0_components i_p0_pieces i_p0_faces i_p0_brokenRule i_p0_culprit f_p0_arcOf f_p0_edgeAt f_p0_to) H := hP.sub [0, 1, 2, 3] rfl
      have hD : va_D A (ws_Sh_fillArc cI cJ cB q_p0 q_p0_key q_p0_name q_p0_from q_p0_to q_p0_edgeAt q_p0_componentOf q_p0_arcOf q_p0_pieceOf q_p0_faceOf q_p0_faceStart q_p0_faceSize q_p0_scratch i_p0_edges i_p0_components i_p0_pieces i_p0_faces i_p0_brokenRule i_p0_culprit f_p0_arcOf f_p0_edgeAt f_p0_to) := hD.sub [0, 1, 2, 3] (by decide) rfl
      refine lv_if_eq (tgt := 52) hx hb d_Sh_fillArc_30 (by decide) (fun hc => ?_) (fun hc => ?_)
      · rw [if_pos hc] at hm
        obtain rfl := Option.some.inj hm
        exact vz_vret hx hb hr hlocks hP hD hS (Nat.le_refl _) (Nat.le_refl _) d_Sh_fillArc_52 rfl
      · rw [if_neg hc] at hm
        refine lv_aload_n hx hb d_Sh_fillArc_33 rfl (lv_at hl 0 rfl) ?_
        refine lv_iload_n hx hb d_Sh_fillArc_34 rfl (lv_at hl 3 rfl) ?_
        obtain ⟨o1, ho1, hm⟩ := vz_bind hm
        try dsimp only at hm
        refine vz_callVi (n := 1) (As := [.int x3]) (rest := []) (wc := (ws_Sh_nextEdge cI cJ cB q_p0 q_p0_key q_p0_name q_p0_from q_p0_to q_p0_edgeAt q_p0_componentOf q_p0_arcOf q_p0_pieceOf q_p0_faceOf q_p0_faceStart q_p0_faceSize q_p0_scratch i_p0_edges i_p0_components i_p0_pieces i_p0_faces i_p0_brokenRule i_p0_culprit f_p0_edgeAt f_p0_to)) (wr := [(q_p0_arcOf, .inl (cI, 40, .inl f_p0_arcOf))]) (k1 := 0) (n1 := 0) hx hb hml hown ht hN hZ hK hP hD hS hA (k_Sh_nextEdge l D cI cJ cB sa fl q_p0 q_p0_key q_p0_name q_p0_from q_p0_to q_p0_edgeAt q_p0_componentOf q_p0_arcOf q_p0_pieceOf q_p0_faceOf q_p0_faceStart q_p0_faceSize q_p0_scratch f_p0_edgeAt f_p0_to i_p0_edges i_p0_components i_p0_pieces i_p0_faces i_p0_brokenRule i_p0_culprit x3 o1 ho1) m_394 m_54 m_391 m_392 m_393 (hc := (rfl : classes[5]? = some (R_Sh, F_Sh, 18))) 0 rfl (by decide +kernel) ⟨Nat.le_of_ble_eq_true rfl, Nat.le_of_ble_eq_true rfl⟩ [0, 2, 3] [1] rfl rfl (by decide) (by decide) (by decide) rfl hl.1 rfl (Nat.le_of_ble_eq_true rfl) rfl rfl ⟨Nat.zero_le _, Nat.zero_le _⟩ d_Sh_fillArc_35 (fun r1 w1 H locs hw hP hD hS => ?_)
        obtain ⟨hr1, rfl⟩ := hw
        have hr1 := hr1.symm
        subst hr1
        have hP : va_P D classes (ws_Sh_fillArc cI cJ cB q_p0 q_p0_key q_p0_name q_p0_from q_p0_to q_p0_edgeAt q_p0_componentOf q_p0_arcOf q_p0_pieceOf q_p0_faceOf q_p0_faceStart q_p0_faceSize q_p0_scratch i_p0_edges i_p0_components i_p0_pieces i_p0_faces i_p0_brokenRule i_p0_culprit f_p0_arcOf f_p0_edgeAt f_p0_to) H := hP.sub [1, 0, 2, 3] rfl
        have hD : va_D A (ws_Sh_fillArc cI cJ cB q_p0 q_p0_key q_p0_name q_p0_from q_p0_to q_p0_edgeAt q_p0_componentOf q_p0_arcOf q_p0_pieceOf q_p0_faceOf q_p0_faceStart q_p0_faceSize q_p0_scratch i_p0_edges i_p0_components i_p0_pieces i_p0_faces i_p0_brokenRule i_p0_culprit f_p0_arcOf f_p0_edgeAt f_p0_to) := hD.sub [1, 0, 2, 3] (by decide) rfl
        refine lv_istore_n (lv' := [(3, .int o1), (0, .ref q_p0), (1, .int x1), (2, .int x2), (4, .int x4)]) hx hb d_Sh_fillArc_38 rfl hl (by decide) rfl (fun ls hl => ?_)
        refine lv_aload_n hx hb d_Sh_fillArc_39 rfl (lv_at hl 1 rfl) ?_
        refine va_get (D := D) (ci := 5) (v := .ref q_p0_arcOf) (C := R_Sh) (T := F_Sh) (N := 18) hx hb ht i_Sh hown hK hP 0 rfl rfl 6 (Nat.le_of_ble_eq_true rfl) (ht _ m_38) (fun _ h9 => h9) rfl d_Sh_fillArc_40 ?_
        refine lv_iload_n hx hb d_Sh_fillArc_43 rfl (lv_at hl 0 rfl) ?_
        refine lv_iload_n hx hb d_Sh_fillArc_44 rfl (lv_at hl 3 rfl) ?_
        obtain ⟨hg, hm⟩ := vz_guard hm
        refine va_iast hx hb hK hP hD hS 1 0 rfl rfl hg d_Sh_fillArc_45 (fun H locs hP hD hS => ?_)
        have hP : va_P D classes (ws_Sh_fillArc cI cJ cB q_p0 q_p0_key q_p0_name q_p0_from q_p0_to q_p0_edgeAt q_p0_componentOf q_p0_arcOf q_p0_pieceOf q_p0_faceOf q_p0_faceStart q_p0_faceSize q_p0_scratch i_p0_edges i_p0_components i_p0_pieces i_p0_faces i_p0_brokenRule i_p0_culprit (upd f_p0_arcOf (Int32.toNatClampNeg o1) x2) f_p0_edgeAt f_p0_to) H := hP
        have hD : va_D A (ws_Sh_fillArc cI cJ cB q_p0 q_p0_key q_p0_name q_p0_from q_p0_to q_p0_edgeAt q_p0_componentOf q_p0_arcOf q_p0_pieceOf q_p0_faceOf q_p0_faceStart q_p0_faceSize q_p0_scratch i_p0_edges i_p0_components i_p0_pieces i_p0_faces i_p0_brokenRule i_p0_culprit (upd f_p0_arcOf (Int32.toNatClampNeg o1) x2) f_p0_edgeAt f_p0_to) := hD
        refine lv_iinc (v := (x4 + 1)) (lv' := [(4, .int (x4 + 1)), (3, .int o1), (0, .ref q_p0), (1, .int x1), (2, .int x2)]) hx hb d_Sh_fillArc_46 hl (k := 4) rfl rfl (by decide) rfl (fun ls hl => ?_)
        refine lv_goto (tgt := 12) hx hb d_Sh_fillArc_49 (by decide) ?_
        exact ih x1 x2 o1 (x4 + 1) (upd f_p0_arcOf (Int32.toNatClampNeg o1) x2) _ _ _ hm hP hD hS (lv_sub hl [2, 3, 4, 1, 0] rfl)
set_option maxHeartbeats 4000000 in
set_option maxRecDepth 100000 in
theorem w_Sh_fillArc_0 {p : Program} {l : Launch} {e : Env} {s : State} {m : MethodId} {args : Array Value} {below : List Frame} {meth : Method} {c : Code} {D : va_G} {cI cJ cB : ClassId} {sa : Nat → Nat × Nat} {A : Nat → Prop} (fl : Nat) (q_p0 : Nat) (q_p0_key : Nat) (q_p0_name : Nat) (q_p0_from : Nat) (q_p0_to : Nat) (q_p0_edgeAt : Nat) (q_p0_componentOf : Nat) (q_p0_arcOf : Nat) (q_p0_pieceOf : Nat) (q_p0_faceOf : Nat) (q_p0_faceStart : Nat) (q_p0_faceSize : Nat) (q_p0_scratch : Nat) (i_p0_edges : Int32) (f_p0_edgeAt : Nat → Int32) (f_p0_to : Nat → Int32) (i_p0_components : Int32) (i_p0_pieces : Int32) (i_p0_faces : Int32) (i_p0_brokenRule : Int32) (i_p0_culprit : Int32) (res : (Nat → Int32)) (C0 : vz_Cx p s m meth c b_Sh_fillArc 5 none "LinkEngine$Shape" "fillArc" D [(cI, .int), (cJ, .long), (cB, .byte)] sa A args) : ∀ (x1 : Int32) (x2 : Int32) (f_p0_arcOf : Nat → Int32) (H : Heap) (locs : List Loc) (ls : Array Slot), B_Sh_fillArc_0 fl i_p0_edges f_p0_edgeAt f_p0_to x1 x2 f_p0_arcOf = some res → va_P D classes (ws_Sh_fillArc cI cJ cB q_p0 q_p0_key q_p0_name q_p0_from q_p0_to q_p0_edgeAt q_p0_componentOf q_p0_arcOf q_p0_pieceOf q_p0_faceOf q_p0_faceStart q_p0_faceSize q_p0_scratch i_p0_edges i_p0_components i_p0_pieces i_p0_faces i_p0_brokenRule i_p0_culprit f_p0_arcOf f_p0_edgeAt f_p0_to) H → va_D A (ws_Sh_fillArc cI cJ cB q_p0 q_p0_key q_p0_name q_p0_from q_p0_to q_p0_edgeAt q_p0_componentOf q_p0_arcOf q_p0_pieceOf q_p0_faceOf q_p0_faceStart q_p0_faceSize q_p0_scratch i_p0_edges i_p0_components i_p0_pieces i_p0_faces i_p0_brokenRule i_p0_culprit f_p0_arcOf f_p0_edgeAt f_p0_to) → va_S A s.heap H locs → lv_has ls 5 [(0, .ref q_p0), (1, .int x1), (2, .int x2)] → W p l e rm_Sh_fillArc s m args below meth c H locs 0 0 (MQ below (va_Qv (fun (w : va_W) => w = (ws_Sh_fillArc cI cJ cB q_p0 q_p0_key q_p0_name q_p0_from q_p0_to q_p0_edgeAt q_p0_componentOf q_p0_arcOf q_p0_pieceOf q_p0_faceOf q_p0_faceStart q_p0_faceSize q_p0_scratch i_p0_edges i_p0_components i_p0_pieces i_p0_faces i_p0_brokenRule i_p0_culprit res f_p0_edgeAt f_p0_to)) (vz_B D A) A) args s 0 0 A) (F0 m 0 ls []) := by
  obtain ⟨hx, hb, hr, hml, hown, ht, hlocks, hin, hN, hK, hA, hZ⟩ := id C0
  intro x1 x2 f_p0_arcOf H locs ls hm hP hD hS hl
  unfold B_Sh_fillArc_0 at hm
  refine lv_iload_n hx hb d_Sh_fillArc_0 rfl (lv_at hl 1 rfl) ?_
  refine lv_istore_n (lv' := [(3, .int x1), (0, .ref q_p0), (1, .int x1), (2, .int x2)]) hx hb d_Sh_fillArc_1 rfl hl (by decide) rfl (fun ls hl => ?_)
  refine lv_aload_n hx hb d_Sh_fillArc_2 rfl (lv_at hl 1 rfl) ?_
  refine va_get (D := D) (ci := 5) (v := .ref q_p0_arcOf) (C := R_Sh) (T := F_Sh) (N := 18) hx hb ht i_Sh hown hK hP 0 rfl rfl 6 (Nat.le_of_ble_eq_true rfl) (ht _ m_38) (fun _ h9 => h9) rfl d_Sh_fillArc_3 ?_
  refine lv_iload_n hx hb d_Sh_fillArc_6 rfl (lv_at hl 0 rfl) ?_
  refine lv_iload_n hx hb d_Sh_fillArc_7 rfl (lv_at hl 3 rfl) ?_
  obtain ⟨hg, hm⟩ := vz_guard hm
  refine va_iast hx hb hK hP hD hS 1 0 rfl rfl hg d_Sh_fillArc_8 (fun H locs hP hD hS => ?_)
  have hP : va_P D classes (ws_Sh_fillArc cI cJ cB q_p0 q_p0_key q_p0_name q_p0_from q_p0_to q_p0_edgeAt q_p0_componentOf q_p0_arcOf q_p0_pieceOf q_p0_faceOf q_p0_faceStart q_p0_faceSize q_p0_scratch i_p0_edges i_p0_components i_p0_pieces i_p0_faces i_p0_brokenRule i_p0_culprit (upd f_p0_arcOf (Int32.toNatClampNeg x1) x2) f_p0_edgeAt f_p0_to) H := hP
  have hD : va_D A (ws_Sh_fillArc cI cJ cB q_p0 q_p0_key q_p0_name q_p0_from q_p0_to q_p0_edgeAt q_p0_componentOf q_p0_arcOf q_p0_pieceOf q_p0_faceOf q_p0_faceStart q_p0_faceSize q_p0_scratch i_p0_edges i_p0_components i_p0_pieces i_p0_faces i_p0_brokenRule i_p0_culprit (upd f_p0_arcOf (Int32.toNatClampNeg x1) x2) f_p0_edgeAt f_p0_to) := hD
  refine lv_iconst (v := 0) hx hb d_Sh_fillArc_9 (by decide) ?_
  refine lv_istore (lv' := [(4, .int 0), (3, .int x1), (0, .ref q_p0), (1, .int x1), (2, .int x2)]) hx hb d_Sh_fillArc_10 hl (by decide) rfl (fun ls hl => ?_)
  exact w_Sh_fillArc_12 fl q_p0 q_p0_key q_p0_name q_p0_from q_p0_to q_p0_edgeAt q_p0_componentOf q_p0_arcOf q_p0_pieceOf q_p0_faceOf q_p0_faceStart q_p0_faceSize q_p0_scratch i_p0_edges f_p0_edgeAt f_p0_to i_p0_components i_p0_pieces i_p0_faces i_p0_brokenRule i_p0_culprit res C0 fl x1 x2 x1 0 (upd f_p0_arcOf (Int32.toNatClampNeg x1) x2) _ _ _ hm hP hD hS (lv_sub hl [2, 3, 4, 1, 0] rfl)
set_option maxHeartbeats 4000000 in
set_option maxRecDepth 100000 in
theorem k_Sh_fillArc (l : Launch) (D : va_G) (cI cJ cB : ClassId) (sa : Nat → Nat × Nat) (fl : Nat) (q_p0 : Nat) (q_p0_key : Nat) (q_p0_name : Nat) (q_p0_from : Nat) (q_p0_to : Nat) (q_p0_edgeAt : Nat) (q_p0_componentOf : Nat) (q_p0_arcOf : Nat) (q_p0_pieceOf : Nat) (q_p0_faceOf : Nat) (q_p0_faceStart : Nat) (q_p0_faceSize : Nat) (q_p0_scratch : Nat) (i_p0_edges : Int32) (f_p0_edgeAt : Nat → Int32) (f_p0_to : Nat → Int32) (i_p0_components : Int32) (i_p0_pieces : Int32) (i_p0_faces : Int32) (i_p0_brokenRule : Int32) (i_p0_culprit : Int32) (f_p0_arcOf : Nat → Int32) (x1 : Int32) (x2 : Int32) (res : (Nat → Int32)) (hm : m_Sh_fillArc fl i_p0_edges f_p0_edgeAt f_p0_to x1 x2 f_p0_arcOf = some res) : MtV l y_Sh_fillArc (.code y_Sh_fillArc b_Sh_fillArc 5 none :: CW) rm_Sh_fillArc D [(cI, .int), (cJ, .long), (cB, .byte)] sa [.ref q_p0, .int x1, .int x2] (ws_Sh_fillArc cI cJ cB q_p0 q_p0_key q_p0_name q_p0_from q_p0_to q_p0_edgeAt q_p0_componentOf q_p0_arcOf q_p0_pieceOf q_p0_faceOf q_p0_faceStart q_p0_faceSize q_p0_scratch i_p0_edges i_p0_components i_p0_pieces i_p0_faces i_p0_brokenRule i_p0_culprit f_p0_arcOf f_p0_edgeAt f_p0_to) (fun (w : va_W) => w = (ws_Sh_fillArc cI cJ cB q_p0 q_p0_key q_p0_name q_p0_from q_p0_to q_p0_edgeAt q_p0_componentOf q_p0_arcOf q_p0_pieceOf q_p0_faceOf q_p0_faceStart q_p0_faceSize q_p0_scratch i_p0_edges i_p0_components i_p0_pieces i_p0_faces i_p0_brokenRule i_p0_culprit res f_p0_edgeAt f_p0_to)) := by
  intro sz
  refine vz_start (Qc := fun A => va_Qv (fun (w : va_W) => w = (ws_Sh_fillArc cI cJ cB q_p0 q_p0_key q_p0_name q_p0_from q_p0_to q_p0_edgeAt q_p0_componentOf q_p0_arcOf q_p0_pieceOf q_p0_faceOf q_p0_faceStart q_p0_faceSize q_p0_scratch i_p0_edges i_p0_components i_p0_pieces i_p0_faces i_p0_brokenRule i_p0_culprit res f_p0_edgeAt f_p0_to)) (vz_B D A) A) (lv0 := [(0, .ref q_p0), (1, .int x1), (2, .int x2)]) (by decide +kernel) (Nat.le_of_ble_eq_true rfl) rfl ?_
  intro p e s m below meth c A ls C0 hl
  obtain ⟨hx, hb, hr, hml, hown, ht, hlocks, hin, hN, hK, hP, hD, hA, hS, hZ⟩ := C0
  exact w_Sh_fillArc_0 fl q_p0 q_p0_key q_p0_name q_p0_from q_p0_to q_p0_edgeAt q_p0_componentOf q_p0_arcOf q_p0_pieceOf q_p0_faceOf q_p0_faceStart q_p0_faceSize q_p0_scratch i_p0_edges f_p0_edgeAt f_p0_to i_p0_components i_p0_pieces i_p0_faces i_p0_brokenRule i_p0_culprit res ⟨hx, hb, hr, hml, hown, ht, hlocks, hin, hN, hK, hA, hZ⟩ x1 x2 f_p0_arcOf s.heap [] ls hm hP hD hS (lv_sub hl [0, 1, 2] rfl)
def ws_Sh_seifertRounds (cI cJ cB : ClassId) (q_p0 : Nat) (q_p0_key : Nat) (q_p0_name : Nat) (q_p0_from : Nat) (q_p0_to : Nat) (q_p0_edgeAt : Nat) (q_p0_componentOf : Nat) (q_p0_arcOf : Nat) (q_p0_pieceOf : Nat) (q_p0_faceOf : Nat) (q_p0_faceStart : Nat) (q_p0_faceSize : Nat) (q_p0_scratch : Nat) (q_p1 : Nat) (q_p1_sign : Nat) (q_p1_label : Nat) (q_p1_shape : Nat) (i_p0_edges : Int32) (i_p0_components : Int32) (i_p0_pieces : Int32) (i_p0_faces : Int32) (i_p0_brokenRule : Int32) (i_p0_culprit : Int32) (f_p0_edgeAt : Nat → Int32) (f_p0_scratch : Nat → Int32) (f_p0_to : Nat → Int32) (i_p1_count : Int32) (i_p1_circles : Int32) (i_p1_shapeIsKnown : Int32) (f_p1_sign : Nat → Int32) : va_W := [(q_p0, .inr (5, [.ref q_p0_key, .ref q_p0_name, .ref q_p0_from, .ref q_p0_to, .ref q_p0_edgeAt, .ref q_p0_componentOf, .ref q_p0_arcOf, .ref q_p0_pieceOf, .ref q_p0_faceOf, .ref q_p0_faceStart, .ref q_p0_faceSize, .ref q_p0_scratch, .int i_p0_edges, .int i_p0_components, .int i_p0_pieces, .int i_p0_faces, .int i_p0_brokenRule, .int i_p0_culprit])), (q_p0_edgeAt, .inl (cI, 80, .inl f_p0_edgeAt)), (q_p0_scratch, .inl (cI, 80, .inl f_p0_scratch)), (q_p0_to, .inl (cI, 40, .inl f_p0_to)), (q_p1, .inr (4, [.ref q_p1_sign, .ref q_p1_label, .ref q_p1_shape, .int i_p1_count, .int i_p1_circles, .int i_p1_shapeIsKnown])), (q_p1_sign, .inl (cI, 20, .inl f_p1_sign))]
def rm_Sh_seifertRounds : Room := { frames := 1, cells := 0, slots := 0, locals := 23 }
def B_Sh_seifertRounds_117 (fl : Nat) (i_p0_edges : Int32) (f_p0_edgeAt : Nat → Int32) (f_p0_to : Nat → Int32) (f_p1_sign : Nat → Int32) (kb_12 : Int32 → Int32 → (Nat → Int32) → Option (Int32 × (Nat → Int32))) (x2 : Int32) (x3 : Int32) (f_p0_scratch : Nat → Int32) : Option (Int32 × (Nat → Int32)) := kb_12 x2 (x3 + 1) f_p0_scratch
def B_Sh_seifertRounds_114 (fl : Nat) (i_p0_edges : Int32) (f_p0_edgeAt : Nat → Int32) (f_p0_to : Nat → Int32) (f_p1_sign : Nat → Int32) (kb_12 : Int32 → Int32 → (Nat → Int32) → Option (Int32 × (Nat → Int32))) (x2 : Int32) (x3 : Int32) (x4 : Int32) (x5 : Int32) (f_p0_scratch : Nat → Int32) : Option (Int32 × (Nat → Int32)) := B_Sh_seifertRounds_117 fl i_p0_edges f_p0_edgeAt f_p0_to f_p1_sign kb_12 (x2 + 1) x3 f_p0_scratch
def B_Sh_seifertRounds_105 (fl : Nat) (i_p0_edges : Int32) (f_p0_edgeAt : Nat → Int32) (f_p0_to : Nat → Int32) (f_p1_sign : Nat → Int32) (kb_12 : Int32 → Int32 → (Nat → Int32) → Option (Int32 × (Nat → Int32))) (kb_35 : Int32 → Int32 → Int32 → Int32 → (Nat → Int32) → Option (Int32 × (Nat → Int32))) (s0 : Int32) (x2 : Int32) (x3 : Int32) (x4 : Int32) (x5 : Int32) (x6 : Int32) (f_p0_scratch : Nat → Int32) : Option (Int32 × (Nat → Int32)) := (if ¬ (s0 < 0 ∨ 80 ≤ Int32.toNatClampNeg s0) then kb_35 x2 x3 (f_p0_edgeAt (Int32.toNatClampNeg s0)) (x5 + 1) f_p0_scratch else none)
def B_Sh_seifertRounds_35 (fl : Nat) (i_p0_edges : Int32) (f_p0_edgeAt : Nat → Int32) (f_p0_to : Nat → Int32) (f_p1_sign : Nat → Int32) (kb_12 : Int32 → Int32 → (Nat → Int32) → Option (Int32 × (Nat → Int32))) : Nat → Int32 → Int32 → Int32 → Int32 → (Nat → Int32) → Option (Int32 × (Nat → Int32))
  | 0, _, _, _, _, _ => none
  | nn + 1, x2, x3, x4, x5, f_p0_scratch => (if i_p0_edges ≤ x5 then B_Sh_seifertRounds_114 fl i_p0_edges f_p0_edgeAt f_p0_to f_p1_sign kb_12 x2 x3 x4 x5 f_p0_scratch else (if ¬ (x4 < 0 ∨ 80 ≤ Int32.toNatClampNeg x4) then (if ¬ (f_p0_scratch (Int32.toNatClampNeg x4)) = (0 : Int32) then B_Sh_seifertRounds_114 fl i_p0_edges f_p0_edgeAt f_p0_to f_p1_sign kb_12 x2 x3 x4 x5 f_p0_scratch else (if ¬ (x4 < 0 ∨ 80 ≤ Int32.toNatClampNeg x4) then (if ¬ (x4 < 0 ∨ 40 ≤ Int32.toNatClampNeg x4) then (if ¬ (x4 < 0 ∨ 40 ≤ Int32.toNatClampNeg x4) then ((m_Sh_isUpper fl (f_p0_to (Int32.toNatClampNeg x4))).bind fun o0 => (if o0 = (0 : Int32) then ((m_Di_upperOut fl f_p1_sign ((f_p0_to (Int32.toNatClampNeg x4)) >>> ((2 : Int32) &&& 31))).bind fun o1 => B_Sh_seifertRounds_105 fl i_p0_edges f_p0_edgeAt f_p0_to f_p1_sign kb_12 (B_Sh_seifertRounds_35 fl i_p0_edges f_p0_edgeAt f_p0_to f_p1_sign kb_12 nn) o1 x2 x3 x4 x5 ((f_p0_to (Int32.toNatClampNeg x4)) >>> ((2 : Int32) &&& 31)) (upd f_p0_scratch (Int32.toNatClampNeg x4) 1)) else B_Sh_seifertRounds_105 fl i_p0_edges f_p0_edgeAt f_p0_to f_p1_sign kb_12 (B_Sh_seifertRounds_35 fl i_p0_edges f_p0_edgeAt f_p0_to f_p1_sign kb_12 nn) (((4 : Int32) * ((f_p0_to (Int32.toNatClampNeg x4)) >>> ((2 : Int32) &&& 31))) + (2 : Int32)) x2 x3 x4 x5 ((f_p0_to (Int32.toNatClampNeg x4)) >>> ((2 : Int32) &&& 31)) (upd f_p0_scratch (Int32.toNatClampNeg x4) 1))) else none) else none) else none)) else none))
def B_Sh_seifertRounds_12 (fl : Nat) (i_p0_edges : Int32) (f_p0_edgeAt : Nat → Int32) (f_p0_to : Nat → Int32) (f_p1_sign : Nat → Int32) : Nat → Int32 → Int32 → (Nat → Int32) → Option (Int32 × (Nat → Int32))
  | 0, _, _, _ => none
  | nn + 1, x2, x3, f_p0_scratch => (if i_p0_edges ≤ x3 then (some (x2, f_p0_scratch)) else (if ¬ (x3 < 0 ∨ 80 ≤ Int32.toNatClampNeg x3) then (if ¬ (f_p0_scratch (Int32.toNatClampNeg x3)) = (0 : Int32) then B_Sh_seifertRounds_117 fl i_p0_edges f_p0_edgeAt f_p0_to f_p1_sign (B_Sh_seifertRounds_12 fl i_p0_edges f_p0_edgeAt f_p0_to f_p1_sign nn) x2 x3 f_p0_scratch else B_Sh_seifertRounds_35 fl i_p0_edges f_p0_edgeAt f_p0_to f_p1_sign (B_Sh_seifertRounds_12 fl i_p0_edges f_p0_edgeAt f_p0_to f_p1_sign nn) fl x2 x3 x3 0 f_p0_scratch) else none))
def B_Sh_seifertRounds_0 (fl : Nat) (i_p0_edges : Int32) (f_p0_edgeAt : Nat → Int32) (f_p0_to : Nat → Int32) (f_p1_sign : Nat → Int32) (f_p0_scratch : Nat → Int32) : Option (Int32 × (Nat → Int32)) := B_Sh_seifertRounds_12 fl i_p0_edges f_p0_edgeAt f_p0_to f_p1_sign fl 0 0 (fillF f_p0_scratch 80 0)
def m_Sh_seifertRounds (fl : Nat) (i_p0_edges : Int32) (f_p0_edgeAt : Nat → Int32) (f_p0_to : Nat → Int32) (f_p1_sign : Nat → Int32) (f_p0_scratch : Nat → Int32) : Option (Int32 × (Nat → Int32)) := B_Sh_seifertRounds_0 fl i_p0_edges f_p0_edgeAt f_p0_to f_p1_sign f_p0_scratch
set_option maxHeartbeats 4000000 in
set_option maxRecDepth 100000 in
theorem w_Sh_seifertRounds_117 {p : Program} {l : Launch} {e : Env} {s : State} {m : MethodId} {args : Array Value} {below : List Frame} {meth : Method} {c : Code} {D : va_G} {cI cJ cB : ClassId} {sa : Nat → Nat × Nat} {A : Nat → Prop} (fl : Nat) (q_p0 : Nat) (q_p0_key : Nat) (q_p0_name : Nat) (q_p0_from : Nat) (q_p0_to : Nat) (q_p0_edgeAt : Nat) (q_p0_componentOf : Nat) (q_p0_arcOf : Nat) (q_p0_pieceOf : Nat) (q_p0_faceOf : Nat) (q_p0_faceStart : Nat) (q_p0_faceSize : Nat) (q_p0_scratch : Nat) (q_p1 : Nat) (q_p1_sign : Nat) (q_p1_label : Nat) (q_p1_shape : Nat) (i_p0_edges : Int32) (f_p0_edgeAt : Nat → Int32) (f_p0_to : Nat → Int32) (f_p1_sign : Nat → Int32) (i_p0_components : Int32) (i_p0_pieces : Int32) (i_p0_faces : Int32) (i_p0_brokenRule : Int32) (i_p0_culprit : Int32) (i_p1_count : Int32) (i_p1_circles : Int32) (i_p1_shapeIsKnown : Int32) (res : Int32 × (Nat → Int32)) (C0 : vz_Cx p s m meth c b_Sh_seifertRounds 7 (some .int) "LinkEngine$Shape" "seifertRounds" D [(cI, .int), (cJ, .long), (cB, .byte)] sa A args) (kb_12 : Int32 → Int32 → (Nat → Int32) → Option (Int32 × (Nat → Int32))) (hk_12 : ∀ (x2 : Int32) (x3 : Int32) (f_p0_scratch : Nat → Int32) (H : Heap) (locs : List Loc) (ls : Array Slot), kb_12 x2 x3 f_p0_scratch = some res → va_P D classes (ws_Sh_seifertRounds cI cJ cB q_p0 q_p0_key q_p0_name q_p0_from q_p0_to q_p0_edgeAt q_p0_componentOf q_p0_arcOf q_p0_pieceOf q_p0_faceOf q_p0_faceStart q_p0_faceSize q_p0_scratch q_p1 q_p1_sign q_p1_label q_p1_shape i_p0_edges i_p0_components i_p0_pieces i_p0_faces i_p0_brokenRule i_p0_culprit f_p0_edgeAt f_p0_scratch f_p0_to i_p1_count i_p1_circles i_p1_shapeIsKnown f_p1_sign) H → va_D A (ws_Sh_seifertRounds cI cJ cB q_p0 q_p0_key q_p0_name q_p0_from q_p0_to q_p0_edgeAt q_p0_componentOf q_p0_arcOf q_p0_pieceOf q_p0_faceOf q_p0_faceStart q_p0_faceSize q_p0_scratch q_p1 q_p1_sign q_p1_label q_p1_shape i_p0_edges i_p0_components i_p0_pieces i_p0_faces i_p0_brokenRule i_p0_culprit f_p0_edgeAt f_p0_scratch f_p0_to i_p1_count i_p1_circles i_p1_shapeIsKnown f_p1_sign) → va_S A s.heap H locs → lv_has ls 7 [(0, .ref q_p0), (1, .ref q_p1), (2, .int x2), (3, .int x3)] → W p l e rm_Sh_seifertRounds s m args below meth c H locs 0 0 (MQ below (va_Qi (fun (r : Int32) (w : va_W) => r = res.1 ∧ w = (ws_Sh_seifertRounds cI cJ cB q_p0 q_p0_key q_p0_name q_p0_from q_p0_to q_p0_edgeAt q_p0_componentOf q_p0_arcOf q_p0_pieceOf q_p0_faceOf q_p0_faceStart q_p0_faceSize q_p0_scratch q_p1 q_p1_sign q_p1_label q_p1_shape i_p0_edges i_p0_components i_p0_pieces i_p0_faces i_p0_brokenRule i_p0_culprit f_p0_edgeAt res.2 f_p0_to i_p1_count i_p1_circles i_p1_shapeIsKnown f_p1_sign)) (vz_B D A) A) args s 0 0 A) (F0 m 12 ls [])) : ∀ (x2 : Int32) (x3 : Int32) (f_p0_scratch : Nat → Int32) (H : Heap) (locs : List Loc) (ls : Array Slot), B_Sh_seifertRounds_117 fl i_p0_edges f_p0_edgeAt f_p0_to f_p1_sign kb_12 x2 x3 f_p0_scratch = some res → va_P D classes (ws_Sh_seifertRounds cI cJ cB q_p0 q_p0_key q_p0_name q_p0_from q_p0_to q_p0_edgeAt q_p0_componentOf q_p0_arcOf q_p0_pieceOf q_p0_faceOf q_p0_faceStart q_p0_faceSize q_p0_scratch q_p1 q_p1_sign q_p1_label q_p1_shape i_p0_edges i_p0_components i_p0_pieces i_p0_faces i_p0_brokenRule i_p0_culprit f_p0_edgeAt f_p0_scratch f_p0_to i_p1_count i_p1_circles i_p1_shapeIsKnown f_p1_sign) H → va_D A (ws_Sh_seifertRounds cI cJ cB q_p0 q_p0_key q_p0_name q_p0_from q_p0_to q_p0_edgeAt q_p0_componentOf q_p0_arcOf q_p0_pieceOf q_p0_faceOf q_p0_faceStart q_p0_faceSize q_p0_scratch q_p1 q_p1_sign q_p1_label q_p1_shape i_p0_edges i_p0_components i_p0_pieces i_p0_faces i_p0_brokenRule i_p0_culprit f_p0_edgeAt f_p0_scratch f_p0_to i_p1_count i_p1_circles i_p1_shapeIsKnown f_p1_sign) → va_S A s.heap H locs → lv_has ls 7 [(0, .ref q_p0), (1, .ref q_p1), (2, .int x2), (3, .int x3)] → W p l e rm_Sh_seifertRounds s m args below meth c H locs 0 0 (MQ below (va_Qi (fun (r : Int32) (w : va_W) => r = res.1 ∧ w = (ws_Sh_seifertRounds cI cJ cB q_p0 q_p0_key q_p0_name q_p0_from q_p0_to q_p0_edgeAt q_p0_componentOf q_p0_arcOf q_p0_pieceOf q_p0_faceOf q_p0_faceStart q_p0_faceSize q_p0_scratch q_p1 q_p1_sign q_p1_label q_p1_shape i_p0_edges i_p0_components i_p0_pieces i_p0_faces i_p0_brokenRule i_p0_culprit f_p0_edgeAt res.2 f_p0_to i_p1_count i_p1_circles i_p1_shapeIsKnown f_p1_sign)) (vz_B D A) A) args s 0 0 A) (F0 m 117 ls []) := by
  obtain ⟨hx, hb, hr, hml, hown, ht, hlocks, hin, hN, hK, hA, hZ⟩ := id C0
  intro x2 x3 f_p0_scratch H locs ls hm hP hD hS hl
  unfold B_Sh_seifertRounds_117 at hm
  refine lv_iinc (v := (x3 + 1)) (lv' := [(3, .int (x3 + 1)), (0, .ref q_p0), (1, .ref q_p1), (2, .int x2)]) hx hb d_Sh_seifertRounds_117 hl (k := 3) rfl rfl (by decide) rfl (fun ls hl => ?_)
  refine lv_goto (tgt := 12) hx hb d_Sh_seifertRounds_120 (by decide) ?_
  exact hk_12 x2 (x3 + 1) f_p0_scratch _ _ _ hm hP hD hS (lv_sub hl [1, 2, 3, 0] rfl)
set_option maxHeartbeats 4000000 in
set_option maxRecDepth 100000 in
theorem w_Sh_seifertRounds_114 {p : Program} {l : Launch} {e : Env} {s : State} {m : MethodId} {args : Array Value} {below : List Frame} {meth : Method} {c : Code} {D : va_G} {cI cJ cB : ClassId} {sa : Nat → Nat × Nat} {A : Nat → Prop} (fl : Nat) (q_p0 : Nat) (q_p0_key : Nat) (q_p0_name : Nat) (q_p0_from : Nat) (q_p0_to : Nat) (q_p0_edgeAt : Nat) (q_p0_componentOf : Nat) (q_p0_arcOf : Nat) (q_p0_pieceOf : Nat) (q_p0_faceOf : Nat) (q_p0_faceStart : Nat) (q_p0_faceSize : Nat) (q_p0_scratch : Nat) (q_p1 : Nat) (q_p1_sign : Nat) (q_p1_label : Nat) (q_p1_shape : Nat) (i_p0_edges : Int32) (f_p0_edgeAt : Nat → Int32) (f_p0_to : Nat → Int32) (f_p1_sign : Nat → Int32) (i_p0_components : Int32) (i_p0_pieces : Int32) (i_p0_faces : Int32) (i_p0_brokenRule : Int32) (i_p0_culprit : Int32) (i_p1_count : Int32) (i_p1_circles : Int32) (i_p1_shapeIsKnown : Int32) (res : Int32 × (Nat → Int32)) (C0 : vz_Cx p s m meth c b_Sh_seifertRounds 7 (some .int) "LinkEngine$Shape" "seifertRounds" D [(cI, .int), (cJ, .long), (cB, .byte)] sa A args) (kb_12 : Int32 → Int32 → (Nat → Int32) → Option (Int32 × (Nat → Int32))) (hk_12 : ∀ (x2 : Int32) (x3 : Int32) (f_p0_scratch : Nat → Int32) (H : Heap) (locs : List Loc) (ls : Array Slot), kb_12 x2 x3 f_p0_scratch = some res → va_P D classes (ws_Sh_seifertRounds cI cJ cB q_p0 q_p0_key q_p0_name q_p0_from q_p0_to q_p0_edgeAt q_p0_componentOf q_p0_arcOf q_p0_pieceOf q_p0_faceOf q_p0_faceStart q_p0_faceSize q_p0_scratch q_p1 q_p1_sign q_p1_label q_p1_shape i_p0_edges i_p0_components i_p0_pieces i_p0_faces i_p0_brokenRule i_p0_culprit f_p0_edgeAt f_p0_scratch f_p0_to i_p1_count i_p1_circles i_p1_shapeIsKnown f_p1_sign) H → va_D A (ws_Sh_seifertRounds cI cJ cB q_p0 q_p0_key q_p0_name q_p0_from q_p0_to q_p0_edgeAt q_p0_componentOf q_p0_arcOf q_p0_pieceOf q_p0_faceOf q_p0_faceStart q_p0_faceSize q_p0_scratch q_p1 q_p1_sign q_p1_label q_p1_shape i_p0_edges i_p0_components i_p0_pieces i_p0_faces i_p0_brokenRule i_p0_culprit f_p0_edgeAt f_p0_scratch f_p0_to i_p1_count i_p1_circles i_p1_shapeIsKnown f_p1_sign) → va_S A s.heap H locs → lv_has ls 7 [(0, .ref q_p0), (1, .ref q_p1), (2, .int x2), (3, .int x3)] → W p l e rm_Sh_seifertRounds s m args below meth c H locs 0 0 (MQ below (va_Qi (fun (r : Int32) (w : va_W) => r = res.1 ∧ w = (ws_Sh_seifertRounds cI cJ cB q_p0 q_p0_key q_p0_name q_p0_from q_p0_to q_p0_edgeAt q_p0_componentOf q_p0_arcOf q_p0_pieceOf q_p0_faceOf q_p0_faceStart q_p0_faceSize q_p0_scratch q_p1 q_p1_sign q_p1_label q_p1_shape i_p0_edges i_p0_components i_p0_pieces i_p0_faces i_p0_brokenRule i_p0_culprit f_p0_edgeAt res.2 f_p0_to i_p1_count i_p1_circles i_p1_shapeIsKnown f_p1_sign)) (vz_B D A) A) args s 0 0 A) (F0 m 12 ls [])) : ∀ (x2 : Int32) (x3 : Int32) (x4 : Int32) (x5 : Int32) (f_p0_scratch : Nat → Int32) (H : Heap) (locs : List Loc) (ls : Array Slot), B_Sh_seifertRounds_114 fl i_p0_edges f_p0_edgeAt f_p0_to f_p1_sign kb_12 x2 x3 x4 x5 f_p0_scratch = some res → va_P D classes (ws_Sh_seifertRounds cI cJ cB q_p0 q_p0_key q_p0_name q_p0_from q_p0_to q_p0_edgeAt q_p0_componentOf q_p0_arcOf q_p0_pieceOf q_p0_faceOf q_p0_faceStart q_p0_faceSize q_p0_scratch q_p1 q_p1_sign q_p1_label q_p1_shape i_p0_edges i_p0_components i_p0_pieces i_p0_faces i_p0_brokenRule i_p0_culprit f_p0_edgeAt f_p0_scratch f_p0_to i_p1_count i_p1_circles i_p1_shapeIsKnown f_p1_sign) H → va_D A (ws_Sh_seifertRounds cI cJ cB q_p0 q_p0_key q_p0_name q_p0_from q_p0_to q_p0_edgeAt q_p0_componentOf q_p0_arcOf q_p0_pieceOf q_p0_faceOf q_p0_faceStart q_p0_faceSize q_p0_scratch q_p1 q_p1_sign q_p1_label q_p1_shape i_p0_edges i_p0_components i_p0_pieces i_p0_faces i_p0_brokenRule i_p0_culprit f_p0_edgeAt f_p0_scratch f_p0_to i_p1_count i_p1_circles i_p1_shapeIsKnown f_p1_sign) → va_S A s.heap H locs → lv_has ls 7 [(0, .ref q_p0), (1, .ref q_p1), (2, .int x2), (3, .int x3), (4, .int x4), (5, .int x5)] → W p l e rm_Sh_seifertRounds s m args below meth c H locs 0 0 (MQ below (va_Qi (fun (r : Int32) (w : va_W) => r = res.1 ∧ w = (ws_Sh_seifertRounds cI cJ cB q_p0 q_p0_key q_p0_name q_p0_from q_p0_to q_p0_edgeAt q_p0_componentOf q_p0_arcOf q_p0_pieceOf q_p0_faceOf q_p0_faceStart q_p0_faceSize q_p0_scratch q_p1 q_p1_sign q_p1_label q_p1_shape i_p0_edges i_p0_components i_p0_pieces i_p0_faces i_p0_brokenRule i_p0_culprit f_p0_edgeAt res.2 f_p0_to i_p1_count i_p1_circles i_p1_shapeIsKnown f_p1_sign)) (vz_B D A) A) args s 0 0 A) (F0 m 114 ls []) := by
  obtain ⟨hx, hb, hr, hml, hown, ht, hlocks, hin, hN, hK, hA, hZ⟩ := id C0
  intro x2 x3 x4 x5 f_p0_scratch H locs ls hm hP hD hS hl
  unfold B_Sh_seifertRounds_114 at hm
  refine lv_iinc (v := (x2 + 1)) (lv' := [(2, .int (x2 + 1)), (0, .ref q_p0), (1, .ref q_p1), (3, .int x3), (4, .int x4), (5, .int x5)]) hx hb d_Sh_seifertRounds_114 hl (k := 2) rfl rfl (by decide) rfl (fun ls hl => ?_)
  exact w_Sh_seifertRounds_117 fl q_p0 q_p0_key q_p0_name q_p0_from q_p0_to q_p0_edgeAt q_p0_componentOf q_p0_arcOf q_p0_pieceOf q_p0_faceOf q_p0_faceStart q_p0_faceSize q_p0_scratch q_p1 q_p1_sign q_p1_label q_p1_shape i_p0_edges f_p0_edgeAt f_p0_to f_p1_sign i_p0_components i_p0_pieces i_p0_faces i_p0_brokenRule i_p0_culprit i_p1_count i_p1_circles i_p1_shapeIsKnown res C0 kb_12 hk_12 (x2 + 1) x3 f_p0_scratch _ _ _ hm hP hD hS (lv_sub hl [1, 2, 0, 3] rfl)
set_option maxHeartbeats 4000000 in
set_option maxRecDepth 100000 in
theorem w_Sh_seifertRounds_105 {p : Program} {l : Launch} {e : Env} {s : State} {m : MethodId} {args : Array Value} {below : List Frame} {meth : Method} {c : Code} {D : va_G} {cI cJ cB : ClassId} {sa : Nat → Nat × Nat} {A : Nat → Prop} (fl : Nat) (q_p0 : Nat) (q_p0_key : Nat) (q_p0_name : Nat) (q_p0_from : Nat) (q_p0_to : Nat) (q_p0_edgeAt : Nat) (q_p0_componentOf : Nat) (q_p0_arcOf : Nat) (q_p0_pieceOf : Nat) (q_p0_faceOf : Nat) (q_p0_faceStart : Nat) (q_p0_faceSize : Nat) (q_p0_scratch : Nat) (q_p1 : Nat) (q_p1_sign : Nat) (q_p1_label : Nat) (q_p1_shape : Nat) (i_p0_edges : Int32) (f_p0_edgeAt : Nat → Int32) (f_p0_to : Nat → Int32) (f_p1_sign : Nat → Int32) (i_p0_components : Int32) (i_p0_pieces : Int32) (i_p0_faces : Int32) (i_p0_brokenRule : Int32) (i_p0_culprit : Int32) (i_p1_count : Int32) (i_p1_circles : Int32) (i_p1_shapeIsKnown : Int32) (res : Int32 × (Nat → Int32)) (C0 : vz_Cx p s m meth c b_Sh_seifertRounds 7 (some .int) "LinkEngine$Shape" "seifertRounds" D [(cI, .int), (cJ, .long), (cB, .byte)] sa A args) (kb_12 : Int32 → Int32 → (Nat → Int32) → Option (Int32 × (Nat → Int32))) (hk_12 : ∀ (x2 : Int32) (x3 : Int32) (f_p0_scratch : Nat → Int32) (H : Heap) (locs : List Loc) (ls : Array Slot), kb_12 x2 x3 f_p0_scratch = some res → va_P D classes (ws_Sh_seifertRounds cI cJ cB q_p0 q_p0_key q_p0_name q_p0_from q_p0_to q_p0_edgeAt q_p0_componentOf q_p0_arcOf q_p0_pieceOf q_p0_faceOf q_p0_faceStart q_p0_faceSize q_p0_scratch q_p1 q_p1_sign q_p1_label q_p1_shape i_p0_edges i_p0_components i_p0_pieces i_p0_faces i_p0_brokenRule i_p0_culprit f_p0_edgeAt f_p0_scratch f_p0_to i_p1_count i_p1_circles i_p1_shapeIsKnown f_p1_sign) H → va_D A (ws_Sh_seifertRounds cI cJ cB q_p0 q_p0_key q_p0_name q_p0_from q_p0_to q_p0_edgeAt q_p0_componentOf q_p0_arcOf q_p0_pieceOf q_p0_faceOf q_p0_faceStart q_p0_faceSize q_p0_scratch q_p1 q_p1_sign q_p1_label q_p1_shape i_p0_edges i_p0_components i_p0_pieces i_p0_faces i_p0_brokenRule i_p0_culprit f_p0_edgeAt f_p0_scratch f_p0_to i_p1_count i_p1_circles i_p1_shapeIsKnown f_p1_sign) → va_S A s.heap H locs → lv_has ls 7 [(0, .ref q_p0), (1, .ref q_p1), (2, .int x2), (3, .int x3)] → W p l e rm_Sh_seifertRounds s m args below meth c H locs 0 0 (MQ below (va_Qi (fun (r : Int32) (w : va_W) => r = res.1 ∧ w = (ws_Sh_seifertRounds cI cJ cB q_p0 q_p0_key q_p0_name q_p0_from q_p0_to q_p0_edgeAt q_p0_componentOf q_p0_arcOf q_p0_pieceOf q_p0_faceOf q_p0_faceStart q_p0_faceSize q_p0_scratch q_p1 q_p1_sign q_p1_label q_p1_shape i_p0_edges i_p0_components i_p0_pieces i_p0_faces i_p0_brokenRule i_p0_culprit f_p0_edgeAt res.2 f_p0_to i_p1_count i_p1_circles i_p1_shapeIsKnown f_p1_sign)) (vz_B D A) A) args s 0 0 A) (F0 m 12 ls [])) (kb_35 : Int32 → Int32 → Int32 → Int32 → (Nat → Int32) → Option (Int32 × (Nat → Int32))) (hk_35 : ∀ (x2 : Int32) (x3 : Int32) (x4 : Int32) (x5 : Int32) (f_p0_scratch : Nat → Int32) (H : Heap) (locs : List Loc) (ls : Array Slot), kb_35 x2 x3 x4 x5 f_p0_scratch = some res → va_P D classes (ws_Sh_seifertRounds cI cJ cB q_p0 q_p0_key q_p0_name q_p0_from q_p0_to q_p0_edgeAt q_p0_componentOf q_p0_arcOf q_p0_pieceOf q_p0_faceOf q_p0_faceStart q_p0_faceSize q_p0_scratch q_p1 q_p1_sign q_p1_label q_p1_shape i_p0_edges i_p0_components i_p0_pieces i_p0_faces i_p0_brokenRule i_p0_culprit f_p0_edgeAt f_p0_scratch f_p0_to i_p1_count i_p1_circles i_p1_shapeIsKnown f_p1_sign) H → va_D A (ws_Sh_seifertRounds cI cJ cB q_p0 q_p0_key q_p0_name q_p0_from q_p0_to q_p0_edgeAt q_p0_componentOf q_p0_arcOf q_p0_pieceOf q_p0_faceOf q_p0_faceStart q_p0_faceSize q_p0_scratch q_p1 q_p1_sign q_p1_label q_p1_shape i_p0_edges i_p0_components i_p0_pieces i_p0_faces i_p0_brokenRule i_p0_culprit f_p0_edgeAt f_p0_scratch f_p0_to i_p1_count i_p1_circles i_p1_shapeIsKnown f_p1_sign) → va_S A s.heap H locs → lv_has ls 7 [(0, .ref q_p0), (1, .ref q_p1), (2, .int x2), (3, .int x3), (4, .int x4), (5, .int x5)] → W p l e rm_Sh_seifertRounds s m args below meth c H locs 0 0 (MQ below (va_Qi (fun (r : Int32) (w : va_W) => r = res.1 ∧ w = (ws_Sh_seifertRounds cI cJ cB q_p0 q_p0_key q_p0_name q_p0_from q_p0_to q_p0_edgeAt q_p0_componentOf q_p0_arcOf q_p0_pieceOf q_p0_faceOf q_p0_faceStart q_p0_faceSize q_p0_scratch q_p1 q_p1_sign q_p1_label q_p1_shape i_p0_edges i_p0_components i_p0_pieces i_p0_faces i_p0_brokenRule i_p0_culprit f_p0_edgeAt res.2 f_p0_to i_p1_count i_p1_circles i_p1_shapeIsKnown f_p1_sign)) (vz_B D A) A) args s 0 0 A) (F0 m 35 ls [])) : ∀ (s0 : Int32) (x2 : Int32) (x3 : Int32) (x4 : Int32) (x5 : Int32) (x6 : Int32) (f_p0_scratch : Nat → Int32) (H : Heap) (locs : List Loc) (ls : Array Slot), B_Sh_seifertRounds_105 fl i_p0_edges f_p0_edgeAt f_p0_to f_p1_sign kb_12 kb_35 s0 x2 x3 x4 x5 x6 f_p0_scratch = some res → va_P D classes (ws_Sh_seifertRounds cI cJ cB q_p0 q_p0_key q_p0_name q_p0_from q_p0_to q_p0_edgeAt q_p0_componentOf q_p0_arcOf q_p0_pieceOf q_p0_faceOf q_p0_faceStart q_p0_faceSize q_p0_scratch q_p1 q_p1_sign q_p1_label q_p1_shape i_p0_edges i_p0_components i_p0_pieces i_p0_faces i_p0_brokenRule i_p0_culprit f_p0_edgeAt f_p0_scratch f_p0_to i_p1_count i_p1_circles i_p1_shapeIsKnown f_p1_sign) H → va_D A (ws_Sh_seifertRounds cI cJ cB q_p0 q_p0_key q_p0_name q_p0_from q_p0_to q_p0_edgeAt q_p0_componentOf q_p0_arcOf q_p0_pieceOf q_p0_faceOf q_p0_faceStart q_p0_faceSize q_p0_scratch q_p1 q_p1_sign q_p1_label q_p1_shape i_p0_edges i_p0_components i_p0_pieces i_p0_faces i_p0_brokenRule i_p0_culprit f_p0_edgeAt f_p0_scratch f_p0_to i_p1_count i_p1_circles i_p1_shapeIsKnown f_p1_sign) → va_S A s.heap H locs → lv_has ls 7 [(0, .ref q_p0), (1, .ref q_p1), (2, .int x2), (3, .int x3), (4, .int x4), (5, .int x5), (6, .int x6)] → W p l e rm_Sh_seifertRounds s m args below meth c H locs 0 0 (MQ below (va_Qi (fun (r : Int32) (w : va_W) => r = res.1 ∧ w = (ws_Sh_seifertRounds cI cJ cB q_p0 q_p0_key q_p0_name q_p0_from q_p0_to q_p0_edgeAt q_p0_componentOf q_p0_arcOf q_p0_pieceOf q_p0_faceOf q_p0_faceStart q_p0_faceSize q_p0_scratch q_p1 q_p1_sign q_p1_label q_p1_shape i_p0_edges i_p0_components i_p0_pieces i_p0_faces i_p0_brokenRule i_p0_culprit f_p0_edgeAt res.2 f_p0_to i_p1_count i_p1_circles i_p1_shapeIsKnown f_p1_sign)) (vz_B D A) A) args s 0 0 A) (F0 m 105 ls [.int s0, .ref q_p0_edgeAt]) := by
  obtain ⟨hx, hb, hr, hml, hown, ht, hlocks, hin, hN, hK, hA, hZ⟩ := id C0
  intro s0 x2 x3 x4 x5 x6 f_p0_scratch H locs ls hm hP hD hS hl
  unfold B_Sh_seifertRounds_105 at hm
  obtain ⟨hg, hm⟩ := vz_guard hm
  refine va_iald hx hb hK hP 1 0 rfl rfl hg d_Sh_seifertRounds_105 ?_
  refine lv_istore (lv' := [(4, .int (f_p0_edgeAt (Int32.toNatClampNeg s0))), (0, .ref q_p0), (1, .ref q_p1), (2, .int x2), (3, .int x3), (5, .int x5), (6, .int x6)]) hx hb d_Sh_seifertRounds_106 hl (by decide) rfl (fun ls hl => ?_)
  refine lv_iinc (v := (x5 + 1)) (lv' := [(5, .int (x5 + 1)), (4, .int (f_p0_edgeAt (Int32.toNatClampNeg s0))), (0, .ref q_p0), (1, .ref q_p1), (2, .int x2), (3, .int x3), (6, .int x6)]) hx hb d_Sh_seifertRounds_108 hl (k := 5) rfl rfl (by decide) rfl (fun ls hl => ?_)
  refine lv_goto (tgt := 35) hx hb d_Sh_seifertRounds_111 (by decide) ?_
  exact hk_35 x2 x3 (f_p0_edgeAt (Int32.toNatClampNeg s0)) (x5 + 1) f_p0_scratch _ _ _ hm hP hD hS (lv_sub hl [2, 3, 4, 5, 1, 0] rfl)
set_option maxHeartbeats 4000000 in
set_option maxRecDepth 100000 in
theorem w_Sh_seifertRounds_35 {p : Program} {l : Launch} {e : Env} {s : State} {m : MethodId} {args : Array Value} {below : List Frame} {meth : Method} {c : Code} {D : va_G} {cI cJ cB : ClassId} {sa : Nat → Nat × Nat} {A : Nat → Prop} (fl : Nat) (q_p0 : Nat) (q_p0_key : Nat) (q_p0_name : Nat) (q_p0_from : Nat) (q_p0_to : Nat) (q_p0_edgeAt : Nat) (q_p0_componentOf : Nat) (q_p0_arcOf : Nat) (q_p0_pieceOf : Nat) (q_p0_faceOf : Nat) (q_p0_faceStart : Nat) (q_p0_faceSize : Nat) (q_p0_scratch : Nat) (q_p1 : Nat) (q_p1_sign : Nat) (q_p1_label : Nat) (q_p1_shape : Nat) (i_p0_edges : Int32) (f_p0_edgeAt : Nat → Int32) (f_p0_to : Nat → Int32) (f_p1_sign : Nat → Int32) (i_p0_components : Int32) (i_p0_pieces : Int32) (i_p0_faces : Int32) (i_p0_brokenRule : Int32) (i_p0_culprit : Int32) (i_p1_count : Int32) (i_p1_circles : Int32) (i_p1_shapeIsKnown : Int32) (res : Int32 × (Nat → Int32)) (C0 : vz_Cx p s m meth c b_Sh_seifertRounds 7 (some .int) "LinkEngine$Shape" "seifertRounds" D [(cI, .int), (cJ, .long), (cB, .byte)] sa A args) (kb_12 : Int32 → Int32 → (Nat → Int32) → Option (Int32 × (Nat → Int32))) (hk_12 : ∀ (x2 : Int32) (x3 : Int32) (f_p0_scratch : Nat → Int32) (H : Heap) (locs : List Loc) (ls : Array Slot), kb_12 x2 x3 f_p0_scratch = some res → va_P D classes (ws_Sh_seifertRounds cI cJ cB q_p0 q_p0_key q_p0_name q_p0_from q_p0_to q_p0_edgeAt q_p0_componentOf q_p0_arcOf q_p0_pieceOf q_p0_faceOf q_p0_faceStart q_p0_faceSize q_p0_scratch q_p1 q_p1_sign q_p1_label q_p1_shape i_p0_edges i_p0_components i_p0_pieces i_p0_faces i_p0_brokenRule i_p0_culprit f_p0_edgeAt f_p0_scratch f_p0_to i_p1_count i_p1_circles i_p1_shapeIsKnown f_p1_sign) H → va_D A (ws_Sh_seifertRounds cI cJ cB q_p0 q_p0_key q_p0_name q_p0_from q_p0_to q_p0_edgeAt q_p0_componentOf q_p0_arcOf q_p0_pieceOf q_p0_faceOf q_p0_faceStart q_p0_faceSize q_p0_scratch q_p1 q_p1_sign q_p1_label q_p1_shape i_p0_edges i_p0_components i_p0_pieces i_p0_faces i_p0_brokenRule i_p0_culprit f_p0_edgeAt f_p0_scratch f_p0_to i_p1_count i_p1_circles i_p1_shapeIsKnown f_p1_sign) → va_S A s.heap H locs → lv_has ls 7 [(0, .ref q_p0), (1, .ref q_p1), (2, .int x2), (3, .int x3)] → W p l e rm_Sh_seifertRounds s m args below meth c H locs 0 0 (MQ below (va_Qi (fun (r : Int32) (w : va_W) => r = res.1 ∧ w = (ws_Sh_seifertRounds cI cJ cB q_p0 q_p0_key q_p0_name q_p0_from q_p0_to q_p0_edgeAt q_p0_componentOf q_p0_arcOf q_p0_pieceOf q_p0_faceOf q_p0_faceStart q_p0_faceSize q_p0_scratch q_p1 q_p1_sign q_p1_label q_p1_shape i_p0_edges i_p0_components i_p0_pieces i_p0_faces i_p0_brokenRule i_p0_culprit f_p0_edgeAt res.2 f_p0_to i_p1_count i_p1_circles i_p1_shapeIsKnown f_p1_sign)) (vz_B D A) A) args s 0 0 A) (F0 m 12 ls [])) : ∀ (nn : Nat), ∀ (x2 : Int32) (x3 : Int32) (x4 : Int32) (x5 : Int32) (f_p0_scratch : Nat → Int32) (H : Heap) (locs : List Loc) (ls : Array Slot), B_Sh_seifertRounds_35 fl i_p0_edges f_p0_edgeAt f_p0_to f_p1_sign kb_12 nn x2 x3 x4 x5 f_p0_scratch = some res → va_P D classes (ws_Sh_seifertRounds cI cJ cB q_p0 q_p0_key q_p0_name q_p0_from q_p0_to q_p0_edgeAt q_p0_componentOf q_p0_arcOf q_p0_pieceOf q_p0_faceOf q_p0_faceStart q_p0_faceSize q_p0_scratch q_p1 q_p1_sign q_p1_label q_p1_shape i_p0_edges i_p0_components i_p0_pieces i_p0_faces i_p0_brokenRule i_p0_culprit f_p0_edgeAt f_p0_scratch f_p0_to i_p1_count i_p1_circles i_p1_shapeIsKnown f_p1_sign) H → va_D A (ws_Sh_seifertRounds cI cJ cB q_p0 q_p0_key q_p0_name q_p0_from q_p0_to q_p0_edgeAt q_p0_componentOf q_p0_arcOf q_p0_pieceOf q_p0_faceOf q_p0_faceStart q_p0_faceSize q_p0_scratch q_p1 q_p1_sign q_p1_label q_p1_shape i_p0_edges i_p0_components i_p0_pieces i_p0_faces i_p0_brokenRule i_p0_culprit f_p0_edgeAt f_p0_scratch f_p0_to i_p1_count i_p1_circles i_p1_shapeIsKnown f_p1_sign) → va_S A s.heap H locs → lv_has ls 7 [(0, .ref q_p0), (1, .ref q_p1), (2, .int x2), (3, .int x3), (4, .int x4), (5, .int x5)] → W p l e rm_Sh_seifertRounds s m args below meth c H locs 0 0 (MQ below (va_Qi (fun (r : Int32) (w : va_W) => r = res.1 ∧ w = (ws_Sh_seifertRounds cI cJ cB q_p0 q_p0_key q_p0_name q_p0_from q_p0_to q_p0_edgeAt q_p0_componentOf q_p0_arcOf q_p0_pieceOf q_p0_faceOf q_p0_faceStart q_p0_faceSize q_p0_scratch q_p1 q_p1_sign q_p1_label q_p1_shape i_p0_edges i_p0_components i_p0_pieces i_p0_faces i_p0_brokenRule i_p0_culprit f_p0_edgeAt res.2 f_p0_to i_p1_count i_p1_circles i_p1_shapeIsKnown f_p1_sign)) (vz_B D A) A) args s 0 0 A) (F0 m 35 ls []) := by
  obtain ⟨hx, hb, hr, hml, hown, ht, hlocks, hin, hN, hK, hA, hZ⟩ := id C0
  intro nn
  induction nn with
  | zero =>
    intro x2 x3 x4 x5 f_p0_scratch H locs ls hm hP hD hS hl
    rw [B_Sh_seifertRounds_35] at hm
    cases hm
  | succ nn ih =>
    intro x2 x3 x4 x5 f_p0_scratch H locs ls hm hP hD hS hl
    rw [B_Sh_seifertRounds_35] at hm
    refine lv_iload hx hb d_Sh_seifertRounds_35 (lv_at hl 5 rfl) ?_
    refine lv_aload_n hx hb d_Sh_seifertRounds_37 rfl (lv_at hl 0 rfl) ?_
    refine va_get (D := D) (ci := 5) (v := .int i_p0_edges) (C := R_Sh) (T := F_Sh) (N := 18) hx hb ht i_Sh hown hK hP 0 rfl rfl 12 (Nat.le_of_ble_eq_true rfl) (ht _ m_219) (fun _ h9 => h9) rfl d_Sh_seifertRounds_38 ?_
    refine lv_icmp_ge (tgt := 114) hx hb d_Sh_seifertRounds_41 (by decide) (fun hc => ?_) (fun hc => ?_)
    · rw [if_pos hc] at hm
      exact w_Sh_seifertRounds_114 fl q_p0 q_p0_key q_p0_name q_p0_from q_p0_to q_p0_edgeAt q_p0_componentOf q_p0_arcOf q_p0_pieceOf q_p0_faceOf q_p0_faceStart q_p0_faceSize q_p0_scratch q_p1 q_p1_sign q_p1_label q_p1_shape i_p0_edges f_p0_edgeAt f_p0_to f_p1_sign i_p0_components i_p0_pieces i_p0_faces i_p0_brokenRule i_p0_culprit i_p1_count i_p1_circles i_p1_shapeIsKnown res C0 kb_12 hk_12 x2 x3 x4 x5 f_p0_scratch _ _ _ hm hP hD hS (lv_sub hl [0, 1, 2, 3, 4, 5] rfl)
    · rw [if_neg hc] at hm
      refine lv_aload_n hx hb d_Sh_seifertRounds_44 rfl (lv_at hl 0 rfl) ?_
      refine va_get (D := D) (ci := 5) (v := .ref q_p0_scratch) (C := R_Sh) (T := F_Sh) (N := 18) hx hb ht i_Sh hown hK hP 0 rfl rfl 11 (Nat.le_of_ble_eq_true rfl) (ht _ m_43) (fun _ h9 => h9) rfl d_Sh_seifertRounds_45 ?_
      refine lv_iload hx hb d_Sh_seifertRounds_48 (lv_at hl 4 rfl) ?_
      obtain ⟨hg, hm⟩ := vz_guard hm
      refine va_iald hx hb hK hP 2 0 rfl rfl hg d_Sh_seifertRounds_50 ?_
      refine lv_if_ne (tgt := 114) hx hb d_Sh_seifertRounds_51 (by decide) (fun hc => ?_) (fun hc => ?_)
      · rw [if_pos hc] at hm
        exact w_Sh_seifertRounds_114 fl q_p0 q_p0_key q_p0_name q_p0_from q_p0_to q_p0_edgeAt q_p0_componentOf q_p0_arcOf q_p0_pieceOf q_p0_faceOf q_p0_faceStart q_p0_faceSize q_p0_scratch q_p1 q_p1_sign q_p1_label q_p1_shape i_p0_edges f_p0_edgeAt f_p0_to f_p1_sign i_p0_components i_p0_pieces i_p0_faces i_p0_brokenRule i_p0_culprit i_p1_count i_p1_circles i_p1_shapeIsKnown res C0 kb_12 hk_12 x2 x3 x4 x5 f_p0_scratch _ _ _ hm hP hD hS (lv_sub hl [0, 1, 2, 3, 4, 5] rfl)
      · rw [if_neg (fun q => q hc)] at hm
        refine lv_aload_n hx hb d_Sh_seifertRounds_54 rfl (lv_at hl 0 rfl) ?_
        refine va_get (D := D) (ci := 5) (v := .ref q_p0_scratch) (C := R_Sh) (T := F_Sh) (N := 18) hx hb ht i_Sh hown hK hP 0 rfl rfl 11 (Nat.le_of_ble_eq_true rfl) (ht _ m_43) (fun _ h9 => h9) rfl d_Sh_seifertRounds_55 ?_
        refine lv_iload hx hb d_Sh_seifertRounds_58 (lv_at hl 4 rfl) ?_
        refine lv_iconst (v := 1) hx hb d_Sh_seifertRounds_60 (by decide) ?_
        obtain ⟨hg, hm⟩ := vz_guard hm
        refine va_iast hx hb hK hP hD hS 2 0 rfl rfl hg d_Sh_seifertRounds_61 (fun H locs hP hD hS => ?_)
        have hP : va_P D classes (ws_Sh_seifertRounds cI cJ cB q_p0 q_p0_key q_p0_name q_p0_from q_p0_to q_p0_edgeAt q_p0_componentOf q_p0_arcOf q_p0_pieceOf q_p0_faceOf q_p0_faceStart q_p0_faceSize q_p0_scratch q_p1 q_p1_sign q_p1_label q_p1_shape i_p0_edges i_p0_components i_p0_pieces i_p0_faces i_p0_brokenRule i_p0_culprit f_p0_edgeAt (upd f_p0_scratch (Int32.toNatClampNeg x4) 1) f_p0_to i_p1_count i_p1_circles i_p1_shapeIsKnown f_p1_sign) H := hP
        have hD : va_D A (ws_Sh_seifertRounds cI cJ cB q_p0 q_p0_key q_p0_name q_p0_from q_p0_to q_p0_edgeAt q_p0_componentOf q_p0_arcOf q_p0_pieceOf q_p0_faceOf q_p0_faceStart q_p0_faceSize q_p0_scratch q_p1 q_p1_sign q_p1_label q_p1_shape i_p0_edges i_p0_components i_p0_pieces i_p0_faces i_p0_brokenRule i_p0_culprit f_p0_edgeAt (upd f_p0_scratch (Int32.toNatClampNeg x4) 1) f_p0_to i_p1_count i_p1_circles i_p1_shapeIsKnown f_p1_sign) := hD
        refine lv_aload_n hx hb d_Sh_seifertRounds_62 rfl (lv_at hl 0 rfl) ?_
        refine va_get (D := D) (ci := 5) (v := .ref q_p0_to) (C := R_Sh) (T := F_Sh) (N := 18) hx hb ht i_Sh hown hK hP 0 rfl rfl 3 (Nat.le_of_ble_eq_true rfl) (ht _ m_35) (fun _ h9 => h9) rfl d_Sh_seifertRounds_63 ?_
        refine lv_iload hx hb d_Sh_seifertRounds_66 (lv_at hl 4 rfl) ?_
        obtain ⟨hg, hm⟩ := vz_guard hm
        refine va_iald hx hb hK hP 3 0 rfl rfl hg d_Sh_seifertRounds_68 ?_
        refine lv_iconst (v := 2) hx hb d_Sh_seifertRounds_69 (by decide) ?_
        refine lv_ishr hx hb d_Sh_seifertRounds_70 ?_
        refine lv_istore (lv' := [(6, .int ((f_p0_to (Int32.toNatClampNeg x4)) >>> ((2 : Int32) &&& 31))), (0, .ref q_p0), (1, .ref q_p1), (2, .int x2), (3, .int x3), (4, .int x4), (5, .int x5)]) hx hb d_Sh_seifertRounds_71 hl (by decide) rfl (fun ls hl => ?_)
        refine lv_aload_n hx hb d_Sh_seifertRounds_73 rfl (lv_at hl 1 rfl) ?_
        refine va_get (D := D) (ci := 5) (v := .ref q_p0_edgeAt) (C := R_Sh) (T := F_Sh) (N := 18) hx hb ht i_Sh hown hK hP 0 rfl rfl 4 (Nat.le_of_ble_eq_true rfl) (ht _ m_36) (fun _ h9 => h9) rfl d_Sh_seifertRounds_74 ?_
        refine lv_aload_n hx hb d_Sh_seifertRounds_77 rfl (lv_at hl 1 rfl) ?_
        refine va_get (D := D) (ci := 5) (v := .ref q_p0_to) (C := R_Sh) (T := F_Sh) (N := 18) hx hb ht i_Sh hown hK hP 0 rfl rfl 3 (Nat.le_of_ble_eq_true rfl) (ht _ m_35) (fun _ h9 => h9) rfl d_Sh_seifertRounds_78 ?_
        refine lv_iload hx hb d_Sh_seifertRounds_81 (lv_at hl 5 rfl) ?_
        obtain ⟨hg, hm⟩ := vz_guard hm
        refine va_iald hx hb hK hP 3 0 rfl rfl hg d_Sh_seifertRounds_83 ?_
        obtain ⟨o0, ho0, hm⟩ := vz_bind hm
        try dsimp only at hm
        refine vz_callSi (n := 1) (As := [.int (f_p0_to (Int32.toNatClampNeg x4))]) (rest := [.ref q_p0_edgeAt]) (wc := (ws_Sh_isUpper cI cJ cB )) (wr := (ws_Sh_seifertRounds cI cJ cB q_p0 q_p0_key q_p0_name q_p0_from q_p0_to q_p0_edgeAt q_p0_componentOf q_p0_arcOf q_p0_pieceOf q_p0_faceOf q_p0_faceStart q_p0_faceSize q_p0_scratch q_p1 q_p1_sign q_p1_label q_p1_shape i_p0_edges i_p0_components i_p0_pieces i_p0_faces i_p0_brokenRule i_p0_culprit f_p0_edgeAt (upd f_p0_scratch (Int32.toNatClampNeg x4) 1) f_p0_to i_p1_count i_p1_circles i_p1_shapeIsKnown f_p1_sign)) (k1 := 0) (n1 := 0) hx hb hml hown ht hN hZ hK hP hD hS hA (k_Sh_isUpper l D cI cJ cB sa fl   (f_p0_to (Int32.toNatClampNeg x4)) o0 ho0) m_390 m_54 m_388 m_389 (by decide +kernel) ⟨Nat.le_of_ble_eq_true rfl, Nat.le_of_ble_eq_true rfl⟩ [] [0, 1, 2, 3, 4, 5] rfl rfl (by decide) (by decide) (by decide) rfl hl.1 rfl (Nat.le_of_ble_eq_true rfl) rfl rfl ⟨Nat.zero_le _, Nat.zero_le _⟩ d_Sh_seifertRounds_84 (fun r1 w1 H locs hw hP hD hS => ?_)
        obtain ⟨hr1, rfl⟩ := hw
        have hr1 := hr1.symm
        subst hr1
        have hP : va_P D classes (ws_Sh_seifertRounds cI cJ cB q_p0 q_p0_key q_p0_name q_p0_from q_p0_to q_p0_edgeAt q_p0_componentOf q_p0_arcOf q_p0_pieceOf q_p0_faceOf q_p0_faceStart q_p0_faceSize q_p0_scratch q_p1 q_p1_sign q_p1_label q_p1_shape i_p0_edges i_p0_components i_p0_pieces i_p0_faces i_p0_brokenRule i_p0_culprit f_p0_edgeAt (upd f_p0_scratch (Int32.toNatClampNeg x4) 1) f_p0_to i_p1_count i_p1_circles i_p1_shapeIsKnown f_p1_sign) H := hP.sub [0, 1, 2, 3, 4, 5] rfl
        have hD : va_D A (ws_Sh_seifertRounds cI cJ cB q_p0 q_p0_key q_p0_name q_p0_from q_p0_to q_p0_edgeAt q_p0_componentOf q_p0_arcOf q_p0_pieceOf q_p0_faceOf q_p0_faceStart q_p0_faceSize q_p0_scratch q_p1 q_p1_sign q_p1_label q_p1_shape i_p0_edges i_p0_components i_p0_pieces i_p0_faces i_p0_brokenRule i_p0_culprit f_p0_edgeAt (upd f_p0_scratch (Int32.toNatClampNeg x4) 1) f_p0_to i_p1_count i_p1_circles i_p1_shapeIsKnown f_p1_sign) := hD.sub [0, 1, 2, 3, 4, 5] (by decide) rfl
        refine lv_if_eq (tgt := 99) hx hb d_Sh_seifertRounds_87 (by decide) (fun hc => ?_) (fun hc => ?_)
        · rw [if_pos hc] at hm
          refine lv_aload_n hx hb d_Sh_seifertRounds_99 rfl (lv_at hl 2 rfl) ?_
          refine lv_iload hx hb d_Sh_seifertRounds_100 (lv_at hl 0 rfl) ?_
          obtain ⟨o1, ho1, hm⟩ := vz_bind hm
          try dsimp only at hm
          refine vz_callVi (n := 1) (As := [.int ((f_p0_to (Int32.toNatClampNeg x4)) >>> ((2 : Int32) &&& 31))]) (rest := [.ref q_p0_edgeAt]) (wc := (ws_Di_upperOut cI cJ cB q_p1 q_p1_sign q_p1_label q_p1_shape i_p1_count i_p1_circles i_p1_shapeIsKnown f_p1_sign)) (wr := [(q_p0, .inr (5, [.ref q_p0_key, .ref q_p0_name, .ref q_p0_from, .ref q_p0_to, .ref q_p0_edgeAt, .ref q_p0_componentOf, .ref q_p0_arcOf, .ref q_p0_pieceOf, .ref q_p0_faceOf, .ref q_p0_faceStart, .ref q_p0_faceSize, .ref q_p0_scratch, .int i_p0_edges, .int i_p0_components, .int i_p0_pieces, .int i_p0_faces, .int i_p0_brokenRule, .int i_p0_culprit])), (q_p0_edgeAt, .inl (cI, 80, .inl f_p0_edgeAt)), (q_p0_scratch, .inl (cI, 80, .inl (upd f_p0_scratch (Int32.toNatClampNeg x4) 1))), (q_p0_to, .inl (cI, 40, .inl f_p0_to))]) (k1 := 0) (n1 := 0) hx hb hml hown ht hN hZ hK hP hD hS hA (k_Di_upperOut l D cI cJ cB sa fl q_p1 q_p1_sign q_p1_label q_p1_shape f_p1_sign i_p1_count i_p1_circles i_p1_shapeIsKnown ((f_p0_to (Int32.toNatClampNeg x4)) >>> ((2 : Int32) &&& 31)) o1 ho1) m_398 m_99 m_395 m_396 m_397 (hc := (rfl : classes[4]? = some (R_Di, F_Di, 6))) 4 rfl (by decide +kernel) ⟨Nat.le_of_ble_eq_true rfl, Nat.le_of_ble_eq_true rfl⟩ [4, 5] [0, 1, 2, 3] rfl rfl (by decide) (by decide) (by decide) rfl hl.1 rfl (Nat.le_of_ble_eq_true rfl) rfl rfl ⟨Nat.zero_le _, Nat.zero_le _⟩ d_Sh_seifertRounds_102 (fun r1 w1 H locs hw hP hD hS => ?_)
          obtain ⟨hr1, rfl⟩ := hw
          have hr1 := hr1.symm
          subst hr1
          have hP : va_P D classes (ws_Sh_seifertRounds cI cJ cB q_p0 q_p0_key q_p0_name q_p0_from q_p0_to q_p0_edgeAt q_p0_componentOf q_p0_arcOf q_p0_pieceOf q_p0_faceOf q_p0_faceStart q_p0_faceSize q_p0_scratch q_p1 q_p1_sign q_p1_label q_p1_shape i_p0_edges i_p0_components i_p0_pieces i_p0_faces i_p0_brokenRule i_p0_culprit f_p0_edgeAt (upd f_p0_scratch (Int32.toNatClampNeg x4) 1) f_p0_to i_p1_count i_p1_circles i_p1_shapeIsKnown f_p1_sign) H := hP.sub [0, 1, 2, 3, 4, 5] rfl
          have hD : va_D A (ws_Sh_seifertRounds cI cJ cB q_p0 q_p0_key q_p0_name q_p0_from q_p0_to q_p0_edgeAt q_p0_componentOf q_p0_arcOf q_p0_pieceOf q_p0_faceOf q_p0_faceStart q_p0_faceSize q_p0_scratch q_p1 q_p1_sign q_p1_label q_p1_shape i_p0_edges i_p0_components i_p0_pieces i_p0_faces i_p0_brokenRule i_p0_culprit f_p0_edgeAt (upd f_p0_scratch (Int32.toNatClampNeg x4) 1) f_p0_to i_p1_count i_p1_circles i_p1_shapeIsKnown f_p1_sign) := hD.sub [0, 1, 2, 3, 4, 5] (by decide) rfl
          exact w_Sh_seifertRounds_105 fl q_p0 q_p0_key q_p0_name q_p0_from q_p0_to q_p0_edgeAt q_p0_componentOf q_p0_arcOf q_p0_pieceOf q_p0_faceOf q_p0_faceStart q_p0_faceSize q_p0_scratch q_p1 q_p1_sign q_p1_label q_p1_shape i_p0_edges f_p0_edgeAt f_p0_to f_p1_sign i_p0_components i_p0_pieces i_p0_faces i_p0_brokenRule i_p0_culprit i_p1_count i_p1_circles i_p1_shapeIsKnown res C0 kb_12 hk_12 (B_Sh_seifertRounds_35 fl i_p0_edges f_p0_edgeAt f_p0_to f_p1_sign kb_12 nn) ih o1 x2 x3 x4 x5 ((f_p0_to (Int32.toNatClampNeg x4)) >>> ((2 : Int32) &&& 31)) (upd f_p0_scratch (Int32.toNatClampNeg x4) 1) _ _ _ hm hP hD hS (lv_sub hl [1, 2, 3, 4, 5, 6, 0] rfl)
        · rw [if_neg hc] at hm
          refine lv_iconst (v := 4) hx hb d_Sh_seifertRounds_90 (by decide) ?_
          refine lv_iload hx hb d_Sh_seifertRounds_91 (lv_at hl 0 rfl) ?_
          refine lv_imul hx hb d_Sh_seifertRounds_93 ?_
          refine lv_iconst (v := 2) hx hb d_Sh_seifertRounds_94 (by decide) ?_
          refine lv_iadd hx hb d_Sh_seifertRounds_95 ?_
          refine lv_goto (tgt := 105) hx hb d_Sh_seifertRounds_96 (by decide) ?_
          exact w_Sh_seifertRounds_105 fl q_p0 q_p0_key q_p0_name q_p0_from q_p0_to q_p0_edgeAt q_p0_componentOf q_p0_arcOf q_p0_pieceOf q_p0_faceOf q_p0_faceStart q_p0_faceSize q_p0_scratch q_p1 q_p1_sign q_p1_label q_p1_shape i_p0_edges f_p0_edgeAt f_p0_to f_p1_sign i_p0_components i_p0_pieces i_p0_faces i_p0_brokenRule i_p0_culprit i_p1_count i_p1_circles i_p1_shapeIsKnown res C0 kb_12 hk_12 (B_Sh_seifertRounds_35 fl i_p0_edges f_p0_edgeAt f_p0_to f_p1_sign kb_12 nn) ih (((4 : Int32) * ((f_p0_to (Int32.toNatClampNeg x4)) >>> ((2 : Int32) &&& 31))) + (2 : Int32)) x2 x3 x4 x5 ((f_p0_to (Int32.toNatClampNeg x4)) >>> ((2 : Int32) &&& 31)) (upd f_p0_scratch (Int32.toNatClampNeg x4) 1) _ _ _ hm hP hD hS (lv_sub hl [1, 2, 3, 4, 5, 6, 0] rfl)
set_option maxHeartbeats 4000000 in
set_option maxRecDepth 100000 in
theorem w_Sh_seifertRounds_12 {p : Program} {l : Launch} {e : Env} {s : State} {m : MethodId} {args : Array Value} {below : List Frame} {meth : Method} {c : Code} {D : va_G} {cI cJ cB : ClassId} {sa : Nat → Nat × Nat} {A : Nat → Prop} (fl : Nat) (q_p0 : Nat) (q_p0_key : Nat) (q_p0_name : Nat) (q_p0_from : Nat) (q_p0_to : Nat) (q_p0_edgeAt : Nat) (q_p0_componentOf : Nat) (q_p0_arcOf : Nat) (q_p0_pieceOf : Nat) (q_p0_faceOf : Nat) (q_p0_faceStart : Nat) (q_p0_faceSize : Nat) (q_p0_scratch : Nat) (q_p1 : Nat) (q_p1_sign : Nat) (q_p1_label : Nat) (q_p1_shape : Nat) (i_p0_edges : Int32) (f_p0_edgeAt : Nat → Int32) (f_p0_to : Nat → Int32) (f_p1_sign : Nat → Int32) (i_p0_components : Int32) (i_p0_pieces : Int32) (i_p0_faces : Int32) (i_p0_brokenRule : Int32) (i_p0_culprit : Int32) (i_p1_count : Int32) (i_p1_circles : Int32) (i_p1_shapeIsKnown : Int32) (res : Int32 × (Nat → Int32)) (C0 : vz_Cx p s m meth c b_Sh_seifertRounds 7 (some .int) "LinkEngine$Shape" "seifertRounds" D [(cI, .int), (cJ, .long), (cB, .byte)] sa A args) : ∀ (nn : Nat), ∀ (x2 : Int32) (x3 : Int32) (f_p0_scratch : Nat → Int32) (H : Heap) (locs : List Loc) (ls : Array Slot), B_Sh_seifertRounds_12 fl i_p0_edges f_p0_edgeAt f_p0_to f_p1_sign nn x2 x3 f_p0_scratch = some res → va_P D classes (ws_Sh_seifertRounds cI cJ cB q_p0 q_p0_key q_p0_name q_p0_from q_p0_to q_p0_edgeAt q_p0_componentOf q_p0_arcOf q_p0_pieceOf q_p0_faceOf q_p0_faceStart q_p0_faceSize q_p0_scratch q_p1 q_p1_sign q_p1_label q_p1_shape i_p0_edges i_p0_components i_p0_pieces i_p0_faces i_p0_brokenRule i_p0_culprit f_p0_edgeAt f_p0_scratch f_p0_to i_p1_count i_p1_circles i_p1_shapeIsKnown f_p1_sign) H → va_D A (ws_Sh_seifertRounds cI cJ cB q_p0 q_p0_key q_p0_name q_p0_from q_p0_to q_p0_edgeAt q_p0_componentOf q_p0_arcOf q_p0_pieceOf q_p0_faceOf q_p0_faceStart q_p0_faceSize q_p0_scratch q_p1 q_p1_sign q_p1_label q_p1_shape i_p0_edges i_p0_components i_p0_pieces i_p0_faces i_p0_brokenRule i_p0_culprit f_p0_edgeAt f_p0_scratch f_p0_to i_p1_count i_p1_circles i_p1_shapeIsKnown f_p1_sign) → va_S A s.heap H locs → lv_has ls 7 [(0, .ref q_p0), (1, .ref q_p1), (2, .int x2), (3, .int x3)] → W p l e rm_Sh_seifertRounds s m args below meth c H locs 0 0 (MQ below (va_Qi (fun (r : Int32) (w : va_W) => r = res.1 ∧ w = (ws_Sh_seifertRounds cI cJ cB q_p0 q_p0_key q_p0_name q_p0_from q_p0_to q_p0_edgeAt q_p0_componentOf q_p0_arcOf q_p0_pieceOf q_p0_faceOf q_p0_faceStart q_p0_faceSize q_p0_scratch q_p1 q_p1_sign q_p1_label q_p1_shape i_p0_edges i_p0_components i_p0_pieces i_p0_faces i_p0_brokenRule i_p0_culprit f_p0_edgeAt res.2 f_p0_to i_p1_count i_p1_circles i_p1_shapeIsKnown f_p1_sign)) (vz_B D A) A) args s 0 0 A) (F0 m 12 ls []) := by
  obtain ⟨hx, hb, hr, hml, hown, ht, hlocks, hin, hN, hK, hA, hZ⟩ := id C0
  intro nn
  induction nn with
  | zero =>
    intro x2 x3 f_p0_scratch H locs ls hm hP hD hS hl
    rw [B_Sh_seifertRounds_12] at hm
    cases hm
  | succ nn ih =>
    intro x2 x3 f_p0_scratch H locs ls hm hP hD hS hl
    rw [B_Sh_seifertRounds_12] at hm
    refine lv_iload_n hx hb d_Sh_seifertRounds_12 rfl (lv_at hl 3 rfl) ?_
    refine lv_aload_n hx hb d_Sh_seifertRounds_13 rfl (lv_at hl 0 rfl) ?_
    refine va_get (D := D) (ci := 5) (v := .int i_p0_edges) (C := R_Sh) (T := F_Sh) (N := 18) hx hb ht i_Sh hown hK hP 0 rfl rfl 12 (Nat.le_of_ble_eq_true rfl) (ht _ m_219) (fun _ h9 => h9) rfl d_Sh_seifertRounds_14 ?_
    refine lv_icmp_ge (tgt := 123) hx hb d_Sh_seifertRounds_17 (by decide) (fun hc => ?_) (fun hc => ?_)
    · rw [if_pos hc] at hm
      refine lv_iload_n hx hb d_Sh_seifertRounds_123 rfl (lv_at hl 2 rfl) ?_
      obtain rfl := Option.some.inj hm
      exact vz_iret hx hb hr rfl hlocks hP hD hS (Nat.le_refl _) (Nat.le_refl _) d_Sh_seifertRounds_124 ⟨rfl, rfl⟩
    · rw [if_neg hc] at hm
      refine lv_aload_n hx hb d_Sh_seifertRounds_20 rfl (lv_at hl 0 rfl) ?_
      refine va_get (D := D) (ci := 5) (v := .ref q_p0_scratch) (C := R_Sh) (T := F_Sh) (N := 18) hx hb ht i_Sh hown hK hP 0 rfl rfl 11 (Nat.le_of_ble_eq_true rfl) (ht _ m_43) (fun _ h9 => h9) rfl d_Sh_seifertRounds_21 ?_
      refine lv_iload_n hx hb d_Sh_seifertRounds_24 rfl (lv_at hl 3 rfl) ?_
      obtain ⟨hg, hm⟩ := vz_guard hm
      refine va_iald hx hb hK hP 2 0 rfl rfl hg d_Sh_seifertRounds_25 ?_
      refine lv_if_ne (tgt := 117) hx hb d_Sh_seifertRounds_26 (by decide) (fun hc => ?_) (fun hc => ?_)
      · rw [if_pos hc] at hm
        exact w_Sh_seifertRounds_117 fl q_p0 q_p0_key q_p0_name q_p0_from q_p0_to q_p0_edgeAt q_p0_componentOf q_p0_arcOf q_p0_pieceOf q_p0_faceOf q_p0_faceStart q_p0_faceSize q_p0_scratch q_p1 q_p1_sign q_p1_label q_p1_shape i_p0_edges f_p0_edgeAt f_p0_to f_p1_sign i_p0_components i_p0_pieces i_p0_faces i_p0_brokenRule i_p0_culprit i_p1_count i_p1_circles i_p1_shapeIsKnown res C0 (B_Sh_seifertRounds_12 fl i_p0_edges f_p0_edgeAt f_p0_to f_p1_sign nn) ih x2 x3 f_p0_scratch _ _ _ hm hP hD hS (lv_sub hl [0, 1, 2, 3] rfl)
      · rw [if_neg (fun q => q hc)] at hm
        refine lv_iload_n hx hb d_Sh_seifertRounds_29 rfl (lv_at hl 3 rfl) ?_
        refine lv_istore (lv' := [(4, .int x3), (0, .ref q_p0), (1, .ref q_p1), (2, .int x2), (3, .int x3)]) hx hb d_Sh_seifertRounds_30 hl (by decide) rfl (fun ls hl => ?_)
        refine lv_iconst (v := 0) hx hb d_Sh_seifertRounds_32 (by decide) ?_
        refine lv_istore (lv' := [(5, .int 0), (4, .int x3), (0, .ref q_p0), (1, .ref q_p1), (2, .int x2), (3, .int x3)]) hx hb d_Sh_seifertRounds_33 hl (by decide) rfl (fun ls hl => ?_)
        exact w_Sh_seifertRounds_35 fl q_p0 q_p0_key q_p0_name q_p0_from q_p0_to q_p0_edgeAt q_p0_componentOf q_p0_arcOf q_p0_pieceOf q_p0_faceOf q_p0_faceStart q_p0_faceSize q_p0_scratch q_p1 q_p1_sign q_p1_label q_p1_shape i_p0_edges f_p0_edgeAt f_p0_to f_p1_sign i_p0_components i_p0_pieces i_p0_faces i_p0_brokenRule i_p0_culprit i_p1_count i_p1_circles i_p1_shapeIsKnown res C0 (B_Sh_seifertRounds_12 fl i_p0_edges f_p0_edgeAt f_p0_to f_p1_sign nn) ih fl x2 x3 x3 0 f_p0_scratch _ _ _ hm hP hD hS (lv_sub hl [2, 3, 4, 5, 1, 0] rfl)
set_option maxHeartbeats 4000000 in
set_option maxRecDepth 100000 in
theorem w_Sh_seifertRounds_0 {p : Program} {l : Launch} {e : Env} {s : State} {m : MethodId} {args : Array Value} {below : List Frame} {meth : Method} {c : Code} {D : va_G} {cI cJ cB : ClassId} {sa : Nat → Nat × Nat} {A : Nat → Prop} (fl : Nat) (q_p0 : Nat) (q_p0_key : Nat) (q_p0_name : Nat) (q_p0_from : Nat) (q_p0_to : Nat) (q_p0_edgeAt : Nat) (q_p0_componentOf : Nat) (q_p0_arcOf : Nat) (q_p0_pieceOf : Nat) (q_p0_faceOf : Nat) (q_p0_faceStart : Nat) (q_p0_faceSize : Nat) (q_p0_scratch : Nat) (q_p1 : Nat) (q_p1_sign : Nat) (q_p1_label : Nat) (q_p1_shape : Nat) (i_p0_edges : Int32) (f_p0_edgeAt : Nat → Int32) (f_p0_to : Nat → Int32) (f_p1_sign : Nat → Int32) (i_p0_components : Int32) (i_p0_pieces : Int32) (i_p0_faces : Int32) (i_p0_brokenRule : Int32) (i_p0_culprit : Int32) (i_p1_count : Int32) (i_p1_circles : Int32) (i_p1_shapeIsKnown : Int32) (res : Int32 × (Nat → Int32)) (C0 : vz_Cx p s m meth c b_Sh_seifertRounds 7 (some .int) "LinkEngine$Shape" "seifertRounds" D [(cI, .int), (cJ, .long), (cB, .byte)] sa A args) : ∀ (f_p0_scratch : Nat → Int32) (H : Heap) (locs : List Loc) (ls : Array Slot), B_Sh_seifertRounds_0 fl i_p0_edges f_p0_edgeAt f_p0_to f_p1_sign f_p0_scratch = some res → va_P D classes (ws_Sh_seifertRounds cI cJ cB q_p0 q_p0_key q_p0_name q_p0_from q_p0_to q_p0_edgeAt q_p0_componentOf q_p0_arcOf q_p0_pieceOf q_p0_faceOf q_p0_faceStart q_p0_faceSize q_p0_scratch q_p1 q_p1_sign q_p1_label q_p1_shape i_p0_edges i_p0_components i_p0_pieces i_p0_faces i_p0_brokenRule i_p0_culprit f_p0_edgeAt f_p0_scratch f_p0_to i_p1_count i_p1_circles i_p1_shapeIsKnown f_p1_sign) H → va_D A (ws_Sh_seifertRounds cI cJ cB q_p0 q_p0_key q_p0_name q_p0_from q_p0_to q_p0_edgeAt q_p0_componentOf q_p0_arcOf q_p0_pieceOf q_p0_faceOf q_p0_faceStart q_p0_faceSize q_p0_scratch q_p1 q_p1_sign q_p1_label q_p1_shape i_p0_edges i_p0_components i_p0_pieces i_p0_faces i_p0_brokenRule i_p0_culprit f_p0_edgeAt f_p0_scratch f_p0_to i_p1_count i_p1_circles i_p1_shapeIsKnown f_p1_sign) → va_S A s.heap H locs → lv_has ls 7 [(0, .ref q_p0), (1, .ref q_p1)] → W p l e rm_Sh_seifertRounds s m args below meth c H locs 0 0 (MQ below (va_Qi (fun (r : Int32) (w : va_W) => r = res.1 ∧ w = (ws_Sh_seifertRounds cI cJ cB q_p0 q_p0_key q_p0_name q_p0_from q_p0_to q_p0_edgeAt q_p0_componentOf q_p0_arcOf q_p0_pieceOf q_p0_faceOf q_p0_faceStart q_p0_faceSize q_p0_scratch q_p1 q_p1_sign q_p1_label q_p1_shape i_p0_edges i_p0_components i_p0_pieces i_p0_faces i_p0_brokenRule i_p0_culprit f_p0_edgeAt res.2 f_p0_to i_p1_count i_p1_circles i_p1_shapeIsKnown f_p1_sign)) (vz_B D A) A) args s 0 0 A) (F0 m 0 ls []) := by
  obtain ⟨hx, hb, hr, hml, hown, ht, hlocks, hin, hN, hK, hA, hZ⟩ := id C0
  intro f_p0_scratch H locs ls hm hP hD hS hl
  unfold B_Sh_seifertRounds_0 at hm
  refine lv_iconst (v := 0) hx hb d_Sh_seifertRounds_0 (by decide) ?_
  refine lv_istore_n (lv' := [(2, .int 0), (0, .ref q_p0), (1, .ref q_p1)]) hx hb d_Sh_seifertRounds_1 rfl hl (by decide) rfl (fun ls hl => ?_)
  refine lv_aload_n hx hb d_Sh_seifertRounds_2 rfl (lv_at hl 1 rfl) ?_
  refine va_get (D := D) (ci := 5) (v := .ref q_p0_scratch) (C := R_Sh) (T := F_Sh) (N := 18) hx hb ht i_Sh hown hK hP 0 rfl rfl 11 (Nat.le_of_ble_eq_true rfl) (ht _ m_43) (fun _ h9 => h9) rfl d_Sh_seifertRounds_3 ?_
  refine lv_iconst (v := 0) hx hb d_Sh_seifertRounds_6 (by decide) ?_
  refine vz_callSv (n := 2) (As := [.ref q_p0_scratch, .int 0]) (rest := []) (wc := [(q_p0_scratch, .inl (cI, 80, .inl f_p0_scratch))]) (wr := [(q_p0, .inr (5, [.ref q_p0_key, .ref q_p0_name, .ref q_p0_from, .ref q_p0_to, .ref q_p0_edgeAt, .ref q_p0_componentOf, .ref q_p0_arcOf, .ref q_p0_pieceOf, .ref q_p0_faceOf, .ref q_p0_faceStart, .ref q_p0_faceSize, .ref q_p0_scratch, .int i_p0_edges, .int i_p0_components, .int i_p0_pieces, .int i_p0_faces, .int i_p0_brokenRule, .int i_p0_culprit])), (q_p0_edgeAt, .inl (cI, 80, .inl f_p0_edgeAt)), (q_p0_to, .inl (cI, 40, .inl f_p0_to)), (q_p1, .inr (4, [.ref q_p1_sign, .ref q_p1_label, .ref q_p1_shape, .int i_p1_count, .int i_p1_circles, .int i_p1_shapeIsKnown])), (q_p1_sign, .inl (cI, 20, .inl f_p1_sign))]) (k1 := 0) (n1 := 0) hx hb hml hown ht hN hZ hK hP hD hS hA (k_fillI l D cI cJ cB sa q_p0_scratch 0 80 f_p0_scratch (by decide)) m_227 m_228 m_225 m_226 (by decide +kernel) ⟨Nat.le_of_ble_eq_true rfl, Nat.le_of_ble_eq_true rfl⟩ [2] [0, 1, 3, 4, 5] rfl rfl (by decide) (by decide) (by decide) rfl hl.1 rfl (Nat.le_of_ble_eq_true rfl) rfl rfl ⟨Nat.zero_le _, Nat.zero_le _⟩ d_Sh_seifertRounds_7 (fun w1 H locs hw hP hD hS => ?_)
  subst hw
  have hP : va_P D classes (ws_Sh_seifertRounds cI cJ cB q_p0 q_p0_key q_p0_name q_p0_from q_p0_to q_p0_edgeAt q_p0_componentOf q_p0_arcOf q_p0_pieceOf q_p0_faceOf q_p0_faceStart q_p0_faceSize q_p0_scratch q_p1 q_p1_sign q_p1_label q_p1_shape i_p0_edges i_p0_components i_p0_pieces i_p0_faces i_p0_brokenRule i_p0_culprit f_p0_edgeAt (fillF f_p0_scratch 80 0) f_p0_to i_p1_count i_p1_circles i_p1_shapeIsKnown f_p1_sign) H := hP.sub [0, 1, 5, 2, 3, 4] rfl
  have hD : va_D A (ws_Sh_seifertRounds cI cJ cB q_p0 q_p0_key q_p0_name q_p0_from q_p0_to q_p0_edgeAt q_p0_componentOf q_p0_arcOf q_p0_pieceOf q_p0_faceOf q_p0_faceStart q_p0_faceSize q_p0_scratch q_p1 q_p1_sign q_p1_label q_p1_shape i_p0_edges i_p0_components i_p0_pieces i_p0_faces i_p0_brokenRule i_p0_culprit f_p0_edgeAt (fillF f_p0_scratch 80 0) f_p0_to i_p1_count i_p1_circles i_p1_shapeIsKnown f_p1_sign) := hD.sub [0, 1, 5, 2, 3, 4] (by decide) rfl
  refine lv_iconst (v := 0) hx hb d_Sh_seifertRounds_10 (by decide) ?_
  refine lv_istore_n (lv' := [(3, .int 0), (2, .int 0), (0, .ref q_p0), (1, .ref q_p1)]) hx hb d_Sh_seifertRounds_11 rfl hl (by decide) rfl (fun ls hl => ?_)
  exact w_Sh_seifertRounds_12 fl q_p0 q_p0_key q_p0_name q_p0_from q_p0_to q_p0_edgeAt q_p0_componentOf q_p0_arcOf q_p0_pieceOf q_p0_faceOf q_p0_faceStart q_p0_faceSize q_p0_scratch q_p1 q_p1_sign q_p1_label q_p1_shape i_p0_edges f_p0_edgeAt f_p0_to f_p1_sign i_p0_components i_p0_pieces i_p0_faces i_p0_brokenRule i_p0_culprit i_p1_count i_p1_circles i_p1_shapeIsKnown res C0 fl 0 0 (fillF f_p0_scratch 80 0) _ _ _ hm hP hD hS (lv_sub hl [2, 3, 1, 0] rfl)
set_option maxHeartbeats 4000000 in
set_option maxRecDepth 100000 in
theorem k_Sh_seifertRounds (l : Launch) (D : va_G) (cI cJ cB : ClassId) (sa : Nat → Nat × Nat) (fl : Nat) (q_p0 : Nat) (q_p0_key : Nat) (q_p0_name : Nat) (q_p0_from : Nat) (q_p0_to : Nat) (q_p0_edgeAt : Nat) (q_p0_componentOf : Nat) (q_p0_arcOf : Nat) (q_p0_pieceOf : Nat) (q_p0_faceOf : Nat) (q_p0_faceStart : Nat) (q_p0_faceSize : Nat) (q_p0_scratch : Nat) (q_p1 : Nat) (q_p1_sign : Nat) (q_p1_label : Nat) (q_p1_shape : Nat) (i_p0_edges : Int32) (f_p0_edgeAt : Nat → Int32) (f_p0_to : Nat → Int32) (f_p1_sign : Nat → Int32) (i_p0_components : Int32) (i_p0_pieces : Int32) (i_p0_faces : Int32) (i_p0_brokenRule : Int32) (i_p0_culprit : Int32) (i_p1_count : Int32) (i_p1_circles : Int32) (i_p1_shapeIsKnown : Int32) (f_p0_scratch : Nat → Int32)  (res : Int32 × (Nat → Int32)) (hm : m_Sh_seifertRounds fl i_p0_edges f_p0_edgeAt f_p0_to f_p1_sign f_p0_scratch = some res) : MtI l y_Sh_seifertRounds (.code y_Sh_seifertRounds b_Sh_seifertRounds 7 (some .int) :: CW) rm_Sh_seifertRounds D [(cI, .int), (cJ, .long), (cB, .byte)] sa [.ref q_p0, .ref q_p1] (ws_Sh_seifertRounds cI cJ cB q_p0 q_p0_key q_p0_name q_p0_from q_p0_to q_p0_edgeAt q_p0_componentOf q_p0_arcOf q_p0_pieceOf q_p0_faceOf q_p0_faceStart q_p0_faceSize q_p0_scratch q_p1 q_p1_sign q_p1_label q_p1_shape i_p0_edges i_p0_components i_p0_pieces i_p0_faces i_p0_brokenRule i_p0_culprit f_p0_edgeAt f_p0_scratch f_p0_to i_p1_count i_p1_circles i_p1_shapeIsKnown f_p1_sign) (fun (r : Int32) (w : va_W) => r = res.1 ∧ w = (ws_Sh_seifertRounds cI cJ cB q_p0 q_p0_key q_p0_name q_p0_from q_p0_to q_p0_edgeAt q_p0_componentOf q_p0_arcOf q_p0_pieceOf q_p0_faceOf q_p0_faceStart q_p0_faceSize q_p0_scratch q_p1 q_p1_sign q_p1_label q_p1_shape i_p0_edges i_p0_components i_p0_pieces i_p0_faces i_p0_brokenRule i_p0_culprit f_p0_edgeAt res.2 f_p0_to i_p1_count i_p1_circles i_p1_shapeIsKnown f_p1_sign)) := by
  intro sz
  refine vz_start (Qc := fun A => va_Qi (fun (r : Int32) (w : va_W) => r = res.1 ∧ w = (ws_Sh_seifertRounds cI cJ cB q_p0 q_p0_key q_p0_name q_p0_from q_p0_to q_p0_edgeAt q_p0_componentOf q_p0_arcOf q_p0_pieceOf q_p0_faceOf q_p0_faceStart q_p0_faceSize q_p0_scratch q_p1 q_p1_sign q_p1_label q_p1_shape i_p0_edges i_p0_components i_p0_pieces i_p0_faces i_p0_brokenRule i_p0_culprit f_p0_edgeAt res.2 f_p0_to i_p1_count i_p1_circles i_p1_shapeIsKnown f_p1_sign)) (vz_B D A) A) (lv0 := [(0, .ref q_p0), (1, .ref q_p1)]) (by decide +kernel) (Nat.le_of_ble_eq_true rfl) rfl ?_
  intro p e s m below meth c A ls C0 hl
  obtain ⟨hx, hb, hr, hml, hown, ht, hlocks, hin, hN, hK, hP, hD, hA, hS, hZ⟩ := C0
  exact w_Sh_seifertRounds_0 fl q_p0 q_p0_key q_p0_name q_p0_from q_p0_to q_p0_edgeAt q_p0_componentOf q_p0_arcOf q_p0_pieceOf q_p0_faceOf q_p0_faceStart q_p0_faceSize q_p0_scratch q_p1 q_p1_sign q_p1_label q_p1_shape i_p0_edges f_p0_edgeAt f_p0_to f_p1_sign i_p0_components i_p0_pieces i_p0_faces i_p0_brokenRule i_p0_culprit i_p1_count i_p1_circles i_p1_shapeIsKnown res ⟨hx, hb, hr, hml, hown, ht, hlocks, hin, hN, hK, hA, hZ⟩ f_p0_scratch s.heap [] ls hm hP hD hS (lv_sub hl [0, 1] rfl)
