def ws_Di_moveToEnd (cI cJ cB : ClassId) (q_p0 : Nat) (q_p0_sign : Nat) (q_p0_label : Nat) (q_p0_shape : Nat) (i_p0_count : Int32) (i_p0_circles : Int32) (i_p0_shapeIsKnown : Int32) (f_p0_label : Nat → Int32) (f_p0_sign : Nat → Int32) : va_W := [(q_p0, .inr (4, [.ref q_p0_sign, .ref q_p0_label, .ref q_p0_shape, .int i_p0_count, .int i_p0_circles, .int i_p0_shapeIsKnown])), (q_p0_label, .inl (cI, 80, .inl f_p0_label)), (q_p0_sign, .inl (cI, 20, .inl f_p0_sign))]
def rm_Di_moveToEnd : Room := { frames := 0, cells := 0, slots := 0, locals := 0 }
def B_Di_moveToEnd_52 (fl : Nat) (i_p0_count : Int32) (kb_7 : Int32 → Int32 → Int32 → (Nat → Int32) → (Nat → Int32) → Option (Int32 × Int32 × (Nat → Int32) × (Nat → Int32))) : Nat → Int32 → Int32 → Int32 → Int32 → Int32 → (Nat → Int32) → (Nat → Int32) → Option (Int32 × Int32 × (Nat → Int32) × (Nat → Int32))
  | 0, _, _, _, _, _, _, _ => none
  | nn + 1, x1, x2, x3, x4, i_p0_shapeIsKnown, f_p0_label, f_p0_sign => (if (((4 : Int32) * x2) + (4 : Int32)) ≤ x4 then kb_7 x1 (x2 + 1) i_p0_shapeIsKnown f_p0_label f_p0_sign else (if ¬ (x4 < 0 ∨ 80 ≤ Int32.toNatClampNeg x4) then (if ¬ ((x4 + (4 : Int32)) < 0 ∨ 80 ≤ Int32.toNatClampNeg (x4 + (4 : Int32))) then (if ¬ (x4 < 0 ∨ 80 ≤ Int32.toNatClampNeg x4) then (if ¬ ((x4 + (4 : Int32)) < 0 ∨ 80 ≤ Int32.toNatClampNeg (x4 + (4 : Int32))) then B_Di_moveToEnd_52 fl i_p0_count kb_7 nn x1 x2 x3 (x4 + 1) i_p0_shapeIsKnown (upd (upd f_p0_label (Int32.toNatClampNeg x4) (f_p0_label (Int32.toNatClampNeg (x4 + (4 : Int32))))) (Int32.toNatClampNeg (x4 + (4 : Int32))) (f_p0_label (Int32.toNatClampNeg x4))) f_p0_sign else none) else none) else none) else none))
def B_Di_moveToEnd_7 (fl : Nat) (i_p0_count : Int32) : Nat → Int32 → Int32 → Int32 → (Nat → Int32) → (Nat → Int32) → Option (Int32 × Int32 × (Nat → Int32) × (Nat → Int32))
  | 0, _, _, _, _, _ => none
  | nn + 1, x1, x2, i_p0_shapeIsKnown, f_p0_label, f_p0_sign => (if i_p0_count ≤ (x2 + (1 : Int32)) then (some ((i_p0_count - (1 : Int32)), i_p0_shapeIsKnown, f_p0_label, f_p0_sign)) else (if ¬ (x2 < 0 ∨ 20 ≤ Int32.toNatClampNeg x2) then (if ¬ ((x2 + (1 : Int32)) < 0 ∨ 20 ≤ Int32.toNatClampNeg (x2 + (1 : Int32))) then (if ¬ (x2 < 0 ∨ 20 ≤ Int32.toNatClampNeg x2) then (if ¬ ((x2 + (1 : Int32)) < 0 ∨ 20 ≤ Int32.toNatClampNeg (x2 + (1 : Int32))) then B_Di_moveToEnd_52 fl i_p0_count (B_Di_moveToEnd_7 fl i_p0_count nn) fl x1 x2 (f_p0_sign (Int32.toNatClampNeg x2)) ((4 : Int32) * x2) i_p0_shapeIsKnown f_p0_label (upd (upd f_p0_sign (Int32.toNatClampNeg x2) (f_p0_sign (Int32.toNatClampNeg (x2 + (1 : Int32))))) (Int32.toNatClampNeg (x2 + (1 : Int32))) (f_p0_sign (Int32.toNatClampNeg x2))) else none) else none) else none) else none))
def B_Di_moveToEnd_0 (fl : Nat) (i_p0_count : Int32) (x1 : Int32) (i_p0_shapeIsKnown : Int32) (f_p0_label : Nat → Int32) (f_p0_sign : Nat → Int32) : Option (Int32 × Int32 × (Nat → Int32) × (Nat → Int32)) := B_Di_moveToEnd_7 fl i_p0_count fl x1 x1 0 f_p0_label f_p0_sign
def m_Di_moveToEnd (fl : Nat) (i_p0_count : Int32) (x1 : Int32) (i_p0_shapeIsKnown : Int32) (f_p0_label : Nat → Int32) (f_p0_sign : Nat → Int32) : Option (Int32 × Int32 × (Nat → Int32) × (Nat → Int32)) := B_Di_moveToEnd_0 fl i_p0_count x1 i_p0_shapeIsKnown f_p0_label f_p0_sign
set_option maxHeartbeats 4000000 in
set_option maxRecDepth 100000 in
theorem w_Di_moveToEnd_52 {p : Program} {l : Launch} {e : Env} {s : State} {m : MethodId} {args : Array Value} {below : List Frame} {meth : Method} {c : Code} {D : va_G} {cI cJ cB : ClassId} {A : Nat → Prop} (fl : Nat) (q_p0 : Nat) (q_p0_sign : Nat) (q_p0_label : Nat) (q_p0_shape : Nat) (i_p0_count : Int32) (i_p0_circles : Int32) (res : Int32 × Int32 × (Nat → Int32) × (Nat → Int32)) (C0 : vz_Cx p s m meth c b_Di_moveToEnd 6 (some .int) "LinkEngine$Diagram" "moveToEnd" D [(cI, .int), (cJ, .long), (cB, .byte)] A args) (kb_7 : Int32 → Int32 → Int32 → (Nat → Int32) → (Nat → Int32) → Option (Int32 × Int32 × (Nat → Int32) × (Nat → Int32))) (hk_7 : ∀ (x1 : Int32) (x2 : Int32) (i_p0_shapeIsKnown : Int32) (f_p0_label : Nat → Int32) (f_p0_sign : Nat → Int32) (H : Heap) (locs : List Loc) (ls : Array Slot), kb_7 x1 x2 i_p0_shapeIsKnown f_p0_label f_p0_sign = some res → va_P D classes (ws_Di_moveToEnd cI cJ cB q_p0 q_p0_sign q_p0_label q_p0_shape i_p0_count i_p0_circles i_p0_shapeIsKnown f_p0_label f_p0_sign) H → va_D A (ws_Di_moveToEnd cI cJ cB q_p0 q_p0_sign q_p0_label q_p0_shape i_p0_count i_p0_circles i_p0_shapeIsKnown f_p0_label f_p0_sign) → va_S A s.heap H locs → lv_has ls 6 [(0, .ref q_p0), (1, .int x1), (2, .int x2)] → W p l e rm_Di_moveToEnd s m args below meth c H locs 0 0 (MQ below (va_Qi (fun (r : Int32) (w : va_W) => r = res.1 ∧ w = (ws_Di_moveToEnd cI cJ cB q_p0 q_p0_sign q_p0_label q_p0_shape i_p0_count i_p0_circles res.2.1 res.2.2.1 res.2.2.2)) (vz_B D A) A) args s 0 0 A) (F0 m 7 ls [])) : ∀ (nn : Nat), ∀ (x1 : Int32) (x2 : Int32) (x3 : Int32) (x4 : Int32) (i_p0_shapeIsKnown : Int32) (f_p0_label : Nat → Int32) (f_p0_sign : Nat → Int32) (H : Heap) (locs : List Loc) (ls : Array Slot), B_Di_moveToEnd_52 fl i_p0_count kb_7 nn x1 x2 x3 x4 i_p0_shapeIsKnown f_p0_label f_p0_sign = some res → va_P D classes (ws_Di_moveToEnd cI cJ cB q_p0 q_p0_sign q_p0_label q_p0_shape i_p0_count i_p0_circles i_p0_shapeIsKnown f_p0_label f_p0_sign) H → va_D A (ws_Di_moveToEnd cI cJ cB q_p0 q_p0_sign q_p0_label q_p0_shape i_p0_count i_p0_circles i_p0_shapeIsKnown f_p0_label f_p0_sign) → va_S A s.heap H locs → lv_has ls 6 [(0, .ref q_p0), (1, .int x1), (2, .int x2), (3, .int x3), (4, .int x4)] → W p l e rm_Di_moveToEnd s m args below meth c H locs 0 0 (MQ below (va_Qi (fun (r : Int32) (w : va_W) => r = res.1 ∧ w = (ws_Di_moveToEnd cI cJ cB q_p0 q_p0_sign q_p0_label q_p0_shape i_p0_count i_p0_circles res.2.1 res.2.2.1 res.2.2.2)) (vz_B D A) A) args s 0 0 A) (F0 m 52 ls []) := by
  obtain ⟨hx, hb, hr, hml, hown, ht, hlocks, hin, hN, hK, hA⟩ := id C0
  intro nn
  induction nn with
  | zero =>
    intro x1 x2 x3 x4 i_p0_shapeIsKnown f_p0_label f_p0_sign H locs ls hm hP hD hS hl
    rw [B_Di_moveToEnd_52] at hm
    cases hm
  | succ nn ih =>
    intro x1 x2 x3 x4 i_p0_shapeIsKnown f_p0_label f_p0_sign H locs ls hm hP hD hS hl
    rw [B_Di_moveToEnd_52] at hm
    refine lv_iload hx hb d_Di_moveToEnd_52 (lv_at hl 4 rfl) ?_
    refine lv_iconst (v := 4) hx hb d_Di_moveToEnd_54 (by decide) ?_
    refine lv_iload_n hx hb d_Di_moveToEnd_55 rfl (lv_at hl 2 rfl) ?_
    refine lv_imul hx hb d_Di_moveToEnd_56 ?_
    refine lv_iconst (v := 4) hx hb d_Di_moveToEnd_57 (by decide) ?_
    refine lv_iadd hx hb d_Di_moveToEnd_58 ?_
    refine lv_icmp_ge (tgt := 104) hx hb d_Di_moveToEnd_59 (by decide) (fun hc => ?_) (fun hc => ?_)
    · rw [if_pos hc] at hm
      refine lv_iinc (v := (x2 + 1)) (lv' := [(2, .int (x2 + 1)), (0, .ref q_p0), (1, .int x1), (3, .int x3), (4, .int x4)]) hx hb d_Di_moveToEnd_104 hl (k := 2) rfl rfl (by decide) rfl (fun ls hl => ?_)
      refine lv_goto (tgt := 7) hx hb d_Di_moveToEnd_107 (by decide) ?_
      exact hk_7 x1 (x2 + 1) i_p0_shapeIsKnown f_p0_label f_p0_sign _ _ _ hm hP hD hS (lv_sub hl [1, 2, 0] rfl)
    · rw [if_neg hc] at hm
      refine lv_aload_n hx hb d_Di_moveToEnd_62 rfl (lv_at hl 0 rfl) ?_
      refine va_get (D := D) (ci := 4) (v := .ref q_p0_label) (C := R_Di) (T := F_Di) (N := 6) hx hb ht i_Di hown hK hP 0 rfl rfl 1 (Nat.le_of_ble_eq_true rfl) (ht _ m_51) (fun _ h9 => h9) rfl d_Di_moveToEnd_63 ?_
      refine lv_iload hx hb d_Di_moveToEnd_66 (lv_at hl 4 rfl) ?_
      obtain ⟨hg, hm⟩ := vz_guard hm
      refine va_iald hx hb hK hP 1 0 rfl rfl hg d_Di_moveToEnd_68 ?_
      refine lv_istore (lv' := [(5, .int (f_p0_label (Int32.toNatClampNeg x4))), (0, .ref q_p0), (1, .int x1), (2, .int x2), (3, .int x3), (4, .int x4)]) hx hb d_Di_moveToEnd_69 hl (by decide) rfl (fun ls hl => ?_)
      refine lv_aload_n hx hb d_Di_moveToEnd_71 rfl (lv_at hl 1 rfl) ?_
      refine va_get (D := D) (ci := 4) (v := .ref q_p0_label) (C := R_Di) (T := F_Di) (N := 6) hx hb ht i_Di hown hK hP 0 rfl rfl 1 (Nat.le_of_ble_eq_true rfl) (ht _ m_51) (fun _ h9 => h9) rfl d_Di_moveToEnd_72 ?_
      refine lv_iload hx hb d_Di_moveToEnd_75 (lv_at hl 5 rfl) ?_
      refine lv_aload_n hx hb d_Di_moveToEnd_77 rfl (lv_at hl 1 rfl) ?_
      refine va_get (D := D) (ci := 4) (v := .ref q_p0_label) (C := R_Di) (T := F_Di) (N := 6) hx hb ht i_Di hown hK hP 0 rfl rfl 1 (Nat.le_of_ble_eq_true rfl) (ht _ m_51) (fun _ h9 => h9) rfl d_Di_moveToEnd_78 ?_
      refine lv_iload hx hb d_Di_moveToEnd_81 (lv_at hl 5 rfl) ?_
      refine lv_iconst (v := 4) hx hb d_Di_moveToEnd_83 (by decide) ?_
      refine lv_iadd hx hb d_Di_moveToEnd_84 ?_
      obtain ⟨hg, hm⟩ := vz_guard hm
      refine va_iald hx hb hK hP 1 0 rfl rfl hg d_Di_moveToEnd_85 ?_
      obtain ⟨hg, hm⟩ := vz_guard hm
      refine va_iast hx hb hK hP hD hS 1 0 rfl rfl hg d_Di_moveToEnd_86 (fun H locs hP hD hS => ?_)
      have hP : va_P D classes (ws_Di_moveToEnd cI cJ cB q_p0 q_p0_sign q_p0_label q_p0_shape i_p0_count i_p0_circles i_p0_shapeIsKnown (upd f_p0_label (Int32.toNatClampNeg x4) (f_p0_label (Int32.toNatClampNeg (x4 + (4 : Int32))))) f_p0_sign) H := hP
      have hD : va_D A (ws_Di_moveToEnd cI cJ cB q_p0 q_p0_sign q_p0_label q_p0_shape i_p0_count i_p0_circles i_p0_shapeIsKnown (upd f_p0_label (Int32.toNatClampNeg x4) (f_p0_label (Int32.toNatClampNeg (x4 + (4 : Int32))))) f_p0_sign) := hD
      refine lv_aload_n hx hb d_Di_moveToEnd_87 rfl (lv_at hl 1 rfl) ?_
      refine va_get (D := D) (ci := 4) (v := .ref q_p0_label) (C := R_Di) (T := F_Di) (N := 6) hx hb ht i_Di hown hK hP 0 rfl rfl 1 (Nat.le_of_ble_eq_true rfl) (ht _ m_51) (fun _ h9 => h9) rfl d_Di_moveToEnd_88 ?_
      refine lv_iload hx hb d_Di_moveToEnd_91 (lv_at hl 5 rfl) ?_
      refine lv_iconst (v := 4) hx hb d_Di_moveToEnd_93 (by decide) ?_
      refine lv_iadd hx hb d_Di_moveToEnd_94 ?_
      refine lv_iload hx hb d_Di_moveToEnd_95 (lv_at hl 0 rfl) ?_
      obtain ⟨hg, hm⟩ := vz_guard hm
      refine va_iast hx hb hK hP hD hS 1 0 rfl rfl hg d_Di_moveToEnd_97 (fun H locs hP hD hS => ?_)
      have hP : va_P D classes (ws_Di_moveToEnd cI cJ cB q_p0 q_p0_sign q_p0_label q_p0_shape i_p0_count i_p0_circles i_p0_shapeIsKnown (upd (upd f_p0_label (Int32.toNatClampNeg x4) (f_p0_label (Int32.toNatClampNeg (x4 + (4 : Int32))))) (Int32.toNatClampNeg (x4 + (4 : Int32))) (f_p0_label (Int32.toNatClampNeg x4))) f_p0_sign) H := hP
      have hD : va_D A (ws_Di_moveToEnd cI cJ cB q_p0 q_p0_sign q_p0_label q_p0_shape i_p0_count i_p0_circles i_p0_shapeIsKnown (upd (upd f_p0_label (Int32.toNatClampNeg x4) (f_p0_label (Int32.toNatClampNeg (x4 + (4 : Int32))))) (Int32.toNatClampNeg (x4 + (4 : Int32))) (f_p0_label (Int32.toNatClampNeg x4))) f_p0_sign) := hD
      refine lv_iinc (v := (x4 + 1)) (lv' := [(4, .int (x4 + 1)), (5, .int (f_p0_label (Int32.toNatClampNeg x4))), (0, .ref q_p0), (1, .int x1), (2, .int x2), (3, .int x3)]) hx hb d_Di_moveToEnd_98 hl (k := 5) rfl rfl (by decide) rfl (fun ls hl => ?_)
      refine lv_goto (tgt := 52) hx hb d_Di_moveToEnd_101 (by decide) ?_
      exact ih x1 x2 x3 (x4 + 1) i_p0_shapeIsKnown (upd (upd f_p0_label (Int32.toNatClampNeg x4) (f_p0_label (Int32.toNatClampNeg (x4 + (4 : Int32))))) (Int32.toNatClampNeg (x4 + (4 : Int32))) (f_p0_label (Int32.toNatClampNeg x4))) f_p0_sign _ _ _ hm hP hD hS (lv_sub hl [2, 3, 4, 5, 0] rfl)
set_option maxHeartbeats 4000000 in
set_option maxRecDepth 100000 in
theorem w_Di_moveToEnd_7 {p : Program} {l : Launch} {e : Env} {s : State} {m : MethodId} {args : Array Value} {below : List Frame} {meth : Method} {c : Code} {D : va_G} {cI cJ cB : ClassId} {A : Nat → Prop} (fl : Nat) (q_p0 : Nat) (q_p0_sign : Nat) (q_p0_label : Nat) (q_p0_shape : Nat) (i_p0_count : Int32) (i_p0_circles : Int32) (res : Int32 × Int32 × (Nat → Int32) × (Nat → Int32)) (C0 : vz_Cx p s m meth c b_Di_moveToEnd 6 (some .int) "LinkEngine$Diagram" "moveToEnd" D [(cI, .int), (cJ, .long), (cB, .byte)] A args) : ∀ (nn : Nat), ∀ (x1 : Int32) (x2 : Int32) (i_p0_shapeIsKnown : Int32) (f_p0_label : Nat → Int32) (f_p0_sign : Nat → Int32) (H : Heap) (locs : List Loc) (ls : Array Slot), B_Di_moveToEnd_7 fl i_p0_count nn x1 x2 i_p0_shapeIsKnown f_p0_label f_p0_sign = some res → va_P D classes (ws_Di_moveToEnd cI cJ cB q_p0 q_p0_sign q_p0_label q_p0_shape i_p0_count i_p0_circles i_p0_shapeIsKnown f_p0_label f_p0_sign) H → va_D A (ws_Di_moveToEnd cI cJ cB q_p0 q_p0_sign q_p0_label q_p0_shape i_p0_count i_p0_circles i_p0_shapeIsKnown f_p0_label f_p0_sign) → va_S A s.heap H locs → lv_has ls 6 [(0, .ref q_p0), (1, .int x1), (2, .int x2)] → W p l e rm_Di_moveToEnd s m args below meth c H locs 0 0 (MQ below (va_Qi (fun (r : Int32) (w : va_W) => r = res.1 ∧ w = (ws_Di_moveToEnd cI cJ cB q_p0 q_p0_sign q_p0_label q_p0_shape i_p0_count i_p0_circles res.2.1 res.2.2.1 res.2.2.2)) (vz_B D A) A) args s 0 0 A) (F0 m 7 ls []) := by
  obtain ⟨hx, hb, hr, hml, hown, ht, hlocks, hin, hN, hK, hA⟩ := id C0
  intro nn
  induction nn with
  | zero =>
    intro x1 x2 i_p0_shapeIsKnown f_p0_label f_p0_sign H locs ls hm hP hD hS hl
    rw [B_Di_moveToEnd_7] at hm
    cases hm
  | succ nn ih =>
    intro x1 x2 i_p0_shapeIsKnown f_p0_label f_p0_sign H locs ls hm hP hD hS hl
    rw [B_Di_moveToEnd_7] at hm
    refine lv_iload_n hx hb d_Di_moveToEnd_7 rfl (lv_at hl 2 rfl) ?_
    refine lv_iconst (v := 1) hx hb d_Di_moveToEnd_8 (by decide) ?_
    refine lv_iadd hx hb d_Di_moveToEnd_9 ?_
    refine lv_aload_n hx hb d_Di_moveToEnd_10 rfl (lv_at hl 0 rfl) ?_
    refine va_get (D := D) (ci := 4) (v := .int i_p0_count) (C := R_Di) (T := F_Di) (N := 6) hx hb ht i_Di hown hK hP 0 rfl rfl 3 (Nat.le_of_ble_eq_true rfl) (ht _ m_238) (fun _ h9 => h9) rfl d_Di_moveToEnd_11 ?_
    refine lv_icmp_ge (tgt := 110) hx hb d_Di_moveToEnd_14 (by decide) (fun hc => ?_) (fun hc => ?_)
    · rw [if_pos hc] at hm
      refine lv_aload_n hx hb d_Di_moveToEnd_110 rfl (lv_at hl 0 rfl) ?_
      refine va_get (D := D) (ci := 4) (v := .int i_p0_count) (C := R_Di) (T := F_Di) (N := 6) hx hb ht i_Di hown hK hP 0 rfl rfl 3 (Nat.le_of_ble_eq_true rfl) (ht _ m_238) (fun _ h9 => h9) rfl d_Di_moveToEnd_111 ?_
      refine lv_iconst (v := 1) hx hb d_Di_moveToEnd_114 (by decide) ?_
      refine lv_isub hx hb d_Di_moveToEnd_115 ?_
      obtain rfl := Option.some.inj hm
      exact vz_iret hx hb hr rfl hlocks hP hD hS (Nat.le_refl _) (Nat.le_refl _) d_Di_moveToEnd_116 ⟨rfl, rfl⟩
    · rw [if_neg hc] at hm
      refine lv_aload_n hx hb d_Di_moveToEnd_17 rfl (lv_at hl 0 rfl) ?_
      refine va_get (D := D) (ci := 4) (v := .ref q_p0_sign) (C := R_Di) (T := F_Di) (N := 6) hx hb ht i_Di hown hK hP 0 rfl rfl 0 (Nat.le_of_ble_eq_true rfl) (ht _ m_50) (fun _ h9 => h9) rfl d_Di_moveToEnd_18 ?_
      refine lv_iload_n hx hb d_Di_moveToEnd_21 rfl (lv_at hl 2 rfl) ?_
      obtain ⟨hg, hm⟩ := vz_guard hm
      refine va_iald hx hb hK hP 2 0 rfl rfl hg d_Di_moveToEnd_22 ?_
      refine lv_istore_n (lv' := [(3, .int (f_p0_sign (Int32.toNatClampNeg x2))), (0, .ref q_p0), (1, .int x1), (2, .int x2)]) hx hb d_Di_moveToEnd_23 rfl hl (by decide) rfl (fun ls hl => ?_)
      refine lv_aload_n hx hb d_Di_moveToEnd_24 rfl (lv_at hl 1 rfl) ?_
      refine va_get (D := D) (ci := 4) (v := .ref q_p0_sign) (C := R_Di) (T := F_Di) (N := 6) hx hb ht i_Di hown hK hP 0 rfl rfl 0 (Nat.le_of_ble_eq_true rfl) (ht _ m_50) (fun _ h9 => h9) rfl d_Di_moveToEnd_25 ?_
      refine lv_iload_n hx hb d_Di_moveToEnd_28 rfl (lv_at hl 3 rfl) ?_
      refine lv_aload_n hx hb d_Di_moveToEnd_29 rfl (lv_at hl 1 rfl) ?_
      refine va_get (D := D) (ci := 4) (v := .ref q_p0_sign) (C := R_Di) (T := F_Di) (N := 6) hx hb ht i_Di hown hK hP 0 rfl rfl 0 (Nat.le_of_ble_eq_true rfl) (ht _ m_50) (fun _ h9 => h9) rfl d_Di_moveToEnd_30 ?_
      refine lv_iload_n hx hb d_Di_moveToEnd_33 rfl (lv_at hl 3 rfl) ?_
      refine lv_iconst (v := 1) hx hb d_Di_moveToEnd_34 (by decide) ?_
      refine lv_iadd hx hb d_Di_moveToEnd_35 ?_
      obtain ⟨hg, hm⟩ := vz_guard hm
      refine va_iald hx hb hK hP 2 0 rfl rfl hg d_Di_moveToEnd_36 ?_
      obtain ⟨hg, hm⟩ := vz_guard hm
      refine va_iast hx hb hK hP hD hS 2 0 rfl rfl hg d_Di_moveToEnd_37 (fun H locs hP hD hS => ?_)
      have hP : va_P D classes (ws_Di_moveToEnd cI cJ cB q_p0 q_p0_sign q_p0_label q_p0_shape i_p0_count i_p0_circles i_p0_shapeIsKnown f_p0_label (upd f_p0_sign (Int32.toNatClampNeg x2) (f_p0_sign (Int32.toNatClampNeg (x2 + (1 : Int32)))))) H := hP
      have hD : va_D A (ws_Di_moveToEnd cI cJ cB q_p0 q_p0_sign q_p0_label q_p0_shape i_p0_count i_p0_circles i_p0_shapeIsKnown f_p0_label (upd f_p0_sign (Int32.toNatClampNeg x2) (f_p0_sign (Int32.toNatClampNeg (x2 + (1 : Int32)))))) := hD
      refine lv_aload_n hx hb d_Di_moveToEnd_38 rfl (lv_at hl 1 rfl) ?_
      refine va_get (D := D) (ci := 4) (v := .ref q_p0_sign) (C := R_Di) (T := F_Di) (N := 6) hx hb ht i_Di hown hK hP 0 rfl rfl 0 (Nat.le_of_ble_eq_true rfl) (ht _ m_50) (fun _ h9 => h9) rfl d_Di_moveToEnd_39 ?_
      refine lv_iload_n hx hb d_Di_moveToEnd_42 rfl (lv_at hl 3 rfl) ?_
      refine lv_iconst (v := 1) hx hb d_Di_moveToEnd_43 (by decide) ?_
      refine lv_iadd hx hb d_Di_moveToEnd_44 ?_
      refine lv_iload_n hx hb d_Di_moveToEnd_45 rfl (lv_at hl 0 rfl) ?_
      obtain ⟨hg, hm⟩ := vz_guard hm
      refine va_iast hx hb hK hP hD hS 2 0 rfl rfl hg d_Di_moveToEnd_46 (fun H locs hP hD hS => ?_)
      have hP : va_P D classes (ws_Di_moveToEnd cI cJ cB q_p0 q_p0_sign q_p0_label q_p0_shape i_p0_count i_p0_circles i_p0_shapeIsKnown f_p0_label (upd (upd f_p0_sign (Int32.toNatClampNeg x2) (f_p0_sign (Int32.toNatClampNeg (x2 + (1 : Int32))))) (Int32.toNatClampNeg (x2 + (1 : Int32))) (f_p0_sign (Int32.toNatClampNeg x2)))) H := hP
      have hD : va_D A (ws_Di_moveToEnd cI cJ cB q_p0 q_p0_sign q_p0_label q_p0_shape i_p0_count i_p0_circles i_p0_shapeIsKnown f_p0_label (upd (upd f_p0_sign (Int32.toNatClampNeg x2) (f_p0_sign (Int32.toNatClampNeg (x2 + (1 : Int32))))) (Int32.toNatClampNeg (x2 + (1 : Int32))) (f_p0_sign (Int32.toNatClampNeg x2)))) := hD
      refine lv_iconst (v := 4) hx hb d_Di_moveToEnd_47 (by decide) ?_
      refine lv_iload_n hx hb d_Di_moveToEnd_48 rfl (lv_at hl 3 rfl) ?_
      refine lv_imul hx hb d_Di_moveToEnd_49 ?_
      refine lv_istore (lv' := [(4, .int ((4 : Int32) * x2)), (3, .int (f_p0_sign (Int32.toNatClampNeg x2))), (0, .ref q_p0), (1, .int x1), (2, .int x2)]) hx hb d_Di_moveToEnd_50 hl (by decide) rfl (fun ls hl => ?_)
      exact w_Di_moveToEnd_52 fl q_p0 q_p0_sign q_p0_label q_p0_shape i_p0_count i_p0_circles res C0 (B_Di_moveToEnd_7 fl i_p0_count nn) ih fl x1 x2 (f_p0_sign (Int32.toNatClampNeg x2)) ((4 : Int32) * x2) i_p0_shapeIsKnown f_p0_label (upd (upd f_p0_sign (Int32.toNatClampNeg x2) (f_p0_sign (Int32.toNatClampNeg (x2 + (1 : Int32))))) (Int32.toNatClampNeg (x2 + (1 : Int32))) (f_p0_sign (Int32.toNatClampNeg x2))) _ _ _ hm hP hD hS (lv_sub hl [2, 3, 4, 1, 0] rfl)
set_option maxHeartbeats 4000000 in
set_option maxRecDepth 100000 in
theorem w_Di_moveToEnd_0 {p : Program} {l : Launch} {e : Env} {s : State} {m : MethodId} {args : Array Value} {below : List Frame} {meth : Method} {c : Code} {D : va_G} {cI cJ cB : ClassId} {A : Nat → Prop} (fl : Nat) (q_p0 : Nat) (q_p0_sign : Nat) (q_p0_label : Nat) (q_p0_shape : Nat) (i_p0_count : Int32) (i_p0_circles : Int32) (res : Int32 × Int32 × (Nat → Int32) × (Nat → Int32)) (C0 : vz_Cx p s m meth c b_Di_moveToEnd 6 (some .int) "LinkEngine$Diagram" "moveToEnd" D [(cI, .int), (cJ, .long), (cB, .byte)] A args) : ∀ (x1 : Int32) (i_p0_shapeIsKnown : Int32) (f_p0_label : Nat → Int32) (f_p0_sign : Nat → Int32) (H : Heap) (locs : List Loc) (ls : Array Slot), B_Di_moveToEnd_0 fl i_p0_count x1 i_p0_shapeIsKnown f_p0_label f_p0_sign = some res → va_P D classes (ws_Di_moveToEnd cI cJ cB q_p0 q_p0_sign q_p0_label q_p0_shape i_p0_count i_p0_circles i_p0_shapeIsKnown f_p0_label f_p0_sign) H → va_D A (ws_Di_moveToEnd cI cJ cB q_p0 q_p0_sign q_p0_label q_p0_shape i_p0_count i_p0_circles i_p0_shapeIsKnown f_p0_label f_p0_sign) → va_S A s.heap H locs → lv_has ls 6 [(0, .ref q_p0), (1, .int x1)] → W p l e rm_Di_moveToEnd s m args below meth c H locs 0 0 (MQ below (va_Qi (fun (r : Int32) (w : va_W) => r = res.1 ∧ w = (ws_Di_moveToEnd cI cJ cB q_p0 q_p0_sign q_p0_label q_p0_shape i_p0_count i_p0_circles res.2.1 res.2.2.1 res.2.2.2)) (vz_B D A) A) args s 0 0 A) (F0 m 0 ls []) := by
  obtain ⟨hx, hb, hr, hml, hown, ht, hlocks, hin, hN, hK, hA⟩ := id C0
  intro x1 i_p0_shapeIsKnown f_p0_label f_p0_sign H locs ls hm hP hD hS hl
  unfold B_Di_moveToEnd_0 at hm
  refine lv_aload_n hx hb d_Di_moveToEnd_0 rfl (lv_at hl 0 rfl) ?_
  refine lv_iconst (v := 0) hx hb d_Di_moveToEnd_1 (by decide) ?_
  refine va_put (D := D) (ci := 4) (v := .int 0) (ty := .boolean) (C := R_Di) (T := F_Di) (N := 6) hx hb ht i_Di t_Di t_Di_ok n_Di hown hK hP hD hS 0 rfl rfl 5 (Nat.le_of_ble_eq_true rfl) (ht _ m_229) (fun _ h9 => h9) rfl (by decide +kernel) rfl rfl (Nat.le_of_ble_eq_true rfl) d_Di_moveToEnd_2 (fun H locs hP hD hS => ?_)
  have hP : va_P D classes (ws_Di_moveToEnd cI cJ cB q_p0 q_p0_sign q_p0_label q_p0_shape i_p0_count i_p0_circles 0 f_p0_label f_p0_sign) H := hP
  have hD : va_D A (ws_Di_moveToEnd cI cJ cB q_p0 q_p0_sign q_p0_label q_p0_shape i_p0_count i_p0_circles 0 f_p0_label f_p0_sign) := hD
  refine lv_iload_n hx hb d_Di_moveToEnd_5 rfl (lv_at hl 1 rfl) ?_
  refine lv_istore_n (lv' := [(2, .int x1), (0, .ref q_p0), (1, .int x1)]) hx hb d_Di_moveToEnd_6 rfl hl (by decide) rfl (fun ls hl => ?_)
  exact w_Di_moveToEnd_7 fl q_p0 q_p0_sign q_p0_label q_p0_shape i_p0_count i_p0_circles res C0 fl x1 x1 0 f_p0_label f_p0_sign _ _ _ hm hP hD hS (lv_sub hl [1, 2, 0] rfl)
set_option maxHeartbeats 4000000 in
set_option maxRecDepth 100000 in
theorem k_Di_moveToEnd (l : Launch) (D : va_G) (cI cJ cB : ClassId) (fl : Nat) (q_p0 : Nat) (q_p0_sign : Nat) (q_p0_label : Nat) (q_p0_shape : Nat) (i_p0_count : Int32) (i_p0_circles : Int32) (i_p0_shapeIsKnown : Int32) (f_p0_label : Nat → Int32) (f_p0_sign : Nat → Int32) (x1 : Int32) (res : Int32 × Int32 × (Nat → Int32) × (Nat → Int32)) (hm : m_Di_moveToEnd fl i_p0_count x1 i_p0_shapeIsKnown f_p0_label f_p0_sign = some res) : MtI l y_Di_moveToEnd (.code y_Di_moveToEnd b_Di_moveToEnd 6 (some .int) :: CW) rm_Di_moveToEnd D [(cI, .int), (cJ, .long), (cB, .byte)] [.ref q_p0, .int x1] (ws_Di_moveToEnd cI cJ cB q_p0 q_p0_sign q_p0_label q_p0_shape i_p0_count i_p0_circles i_p0_shapeIsKnown f_p0_label f_p0_sign) (fun (r : Int32) (w : va_W) => r = res.1 ∧ w = (ws_Di_moveToEnd cI cJ cB q_p0 q_p0_sign q_p0_label q_p0_shape i_p0_count i_p0_circles res.2.1 res.2.2.1 res.2.2.2)) := by
  intro sz
  refine vz_start (Qc := fun A => va_Qi (fun (r : Int32) (w : va_W) => r = res.1 ∧ w = (ws_Di_moveToEnd cI cJ cB q_p0 q_p0_sign q_p0_label q_p0_shape i_p0_count i_p0_circles res.2.1 res.2.2.1 res.2.2.2)) (vz_B D A) A) (lv0 := [(0, .ref q_p0), (1, .int x1)]) (by decide +kernel) (Nat.le_of_ble_eq_true rfl) rfl ?_
  intro p e s m below meth c A ls C0 hl
  obtain ⟨hx, hb, hr, hml, hown, ht, hlocks, hin, hN, hK, hP, hD, hA, hS⟩ := C0
  exact w_Di_moveToEnd_0 fl q_p0 q_p0_sign q_p0_label q_p0_shape i_p0_count i_p0_circles res ⟨hx, hb, hr, hml, hown, ht, hlocks, hin, hN, hK, hA⟩ x1 i_p0_shapeIsKnown f_p0_label f_p0_sign s.heap [] ls hm hP hD hS (lv_sub hl [0, 1] rfl)
def ws_Di_joinAt (cI cJ cB : ClassId) (q_p0 : Nat) (q_p0_sign : Nat) (q_p0_label : Nat) (q_p0_shape : Nat) (i_p0_count : Int32) (i_p0_circles : Int32) (i_p0_shapeIsKnown : Int32) (f_p0_label : Nat → Int32) : va_W := [(q_p0, .inr (4, [.ref q_p0_sign, .ref q_p0_label, .ref q_p0_shape, .int i_p0_count, .int i_p0_circles, .int i_p0_shapeIsKnown])), (q_p0_label, .inl (cI, 80, .inl f_p0_label))]
def rm_Di_joinAt : Room := { frames := 1, cells := 0, slots := 0, locals := 23 }
def B_Di_joinAt_0 (fl : Nat) (i_p0_count : Int32) (x1 : Int32) (x2 : Int32) (i_p0_circles : Int32) (i_p0_shapeIsKnown : Int32) (f_p0_label : Nat → Int32) : Option (Int32 × Int32 × (Nat → Int32)) := (if ¬ (x1 < 0 ∨ 80 ≤ Int32.toNatClampNeg x1) then (if ¬ (x2 < 0 ∨ 80 ≤ Int32.toNatClampNeg x2) then (if ¬ (f_p0_label (Int32.toNatClampNeg x1)) = (f_p0_label (Int32.toNatClampNeg x2)) then ((m_Di_rename fl i_p0_count (if (f_p0_label (Int32.toNatClampNeg x1)) < (f_p0_label (Int32.toNatClampNeg x2)) then (f_p0_label (Int32.toNatClampNeg x2)) else (f_p0_label (Int32.toNatClampNeg x1))) (if (f_p0_label (Int32.toNatClampNeg x2)) < (f_p0_label (Int32.toNatClampNeg x1)) then (f_p0_label (Int32.toNatClampNeg x2)) else (f_p0_label (Int32.toNatClampNeg x1))) i_p0_shapeIsKnown f_p0_label).bind fun o0 => (some (i_p0_circles, o0.1, o0.2))) else (some ((i_p0_circles + (1 : Int32)), i_p0_shapeIsKnown, f_p0_label))) else none) else none)
def m_Di_joinAt (fl : Nat) (i_p0_count : Int32) (x1 : Int32) (x2 : Int32) (i_p0_circles : Int32) (i_p0_shapeIsKnown : Int32) (f_p0_label : Nat → Int32) : Option (Int32 × Int32 × (Nat → Int32)) := B_Di_joinAt_0 fl i_p0_count x1 x2 i_p0_circles i_p0_shapeIsKnown f_p0_label
set_option maxHeartbeats 4000000 in
set_option maxRecDepth 100000 in
theorem w_Di_joinAt_0 {p : Program} {l : Launch} {e : Env} {s : State} {m : MethodId} {args : Array Value} {below : List Frame} {meth : Method} {c : Code} {D : va_G} {cI cJ cB : ClassId} {A : Nat → Prop} (fl : Nat) (q_p0 : Nat) (q_p0_sign : Nat) (q_p0_label : Nat) (q_p0_shape : Nat) (i_p0_count : Int32) (res : Int32 × Int32 × (Nat → Int32)) (C0 : vz_Cx p s m meth c b_Di_joinAt 5 none "LinkEngine$Diagram" "joinAt" D [(cI, .int), (cJ, .long), (cB, .byte)] A args) : ∀ (x1 : Int32) (x2 : Int32) (i_p0_circles : Int32) (i_p0_shapeIsKnown : Int32) (f_p0_label : Nat → Int32) (H : Heap) (locs : List Loc) (ls : Array Slot), B_Di_joinAt_0 fl i_p0_count x1 x2 i_p0_circles i_p0_shapeIsKnown f_p0_label = some res → va_P D classes (ws_Di_joinAt cI cJ cB q_p0 q_p0_sign q_p0_label q_p0_shape i_p0_count i_p0_circles i_p0_shapeIsKnown f_p0_label) H → va_D A (ws_Di_joinAt cI cJ cB q_p0 q_p0_sign q_p0_label q_p0_shape i_p0_count i_p0_circles i_p0_shapeIsKnown f_p0_label) → va_S A s.heap H locs → lv_has ls 5 [(0, .ref q_p0), (1, .int x1), (2, .int x2)] → W p l e rm_Di_joinAt s m args below meth c H locs 0 0 (MQ below (va_Qv (fun (w : va_W) => w = (ws_Di_joinAt cI cJ cB q_p0 q_p0_sign q_p0_label q_p0_shape i_p0_count res.1 res.2.1 res.2.2)) (vz_B D A) A) args s 0 0 A) (F0 m 0 ls []) := by
  obtain ⟨hx, hb, hr, hml, hown, ht, hlocks, hin, hN, hK, hA⟩ := id C0
  intro x1 x2 i_p0_circles i_p0_shapeIsKnown f_p0_label H locs ls hm hP hD hS hl
  unfold B_Di_joinAt_0 at hm
  refine lv_aload_n hx hb d_Di_joinAt_0 rfl (lv_at hl 0 rfl) ?_
  refine va_get (D := D) (ci := 4) (v := .ref q_p0_label) (C := R_Di) (T := F_Di) (N := 6) hx hb ht i_Di hown hK hP 0 rfl rfl 1 (Nat.le_of_ble_eq_true rfl) (ht _ m_51) (fun _ h9 => h9) rfl d_Di_joinAt_1 ?_
  refine lv_iload_n hx hb d_Di_joinAt_4 rfl (lv_at hl 1 rfl) ?_
  obtain ⟨hg, hm⟩ := vz_guard hm
  refine va_iald hx hb hK hP 1 0 rfl rfl hg d_Di_joinAt_5 ?_
  refine lv_istore_n (lv' := [(3, .int (f_p0_label (Int32.toNatClampNeg x1))), (0, .ref q_p0), (1, .int x1), (2, .int x2)]) hx hb d_Di_joinAt_6 rfl hl (by decide) rfl (fun ls hl => ?_)
  refine lv_aload_n hx hb d_Di_joinAt_7 rfl (lv_at hl 1 rfl) ?_
  refine va_get (D := D) (ci := 4) (v := .ref q_p0_label) (C := R_Di) (T := F_Di) (N := 6) hx hb ht i_Di hown hK hP 0 rfl rfl 1 (Nat.le_of_ble_eq_true rfl) (ht _ m_51) (fun _ h9 => h9) rfl d_Di_joinAt_8 ?_
  refine lv_iload_n hx hb d_Di_joinAt_11 rfl (lv_at hl 3 rfl) ?_
  obtain ⟨hg, hm⟩ := vz_guard hm
  refine va_iald hx hb hK hP 1 0 rfl rfl hg d_Di_joinAt_12 ?_
  refine lv_istore (lv' := [(4, .int (f_p0_label (Int32.toNatClampNeg x2))), (3, .int (f_p0_label (Int32.toNatClampNeg x1))), (0, .ref q_p0), (1, .int x1), (2, .int x2)]) hx hb d_Di_joinAt_13 hl (by decide) rfl (fun ls hl => ?_)
  refine lv_iload_n hx hb d_Di_joinAt_15 rfl (lv_at hl 1 rfl) ?_
  refine lv_iload hx hb d_Di_joinAt_16 (lv_at hl 0 rfl) ?_
  refine lv_icmp_ne (tgt := 34) hx hb d_Di_joinAt_18 (by decide) (fun hc => ?_) (fun hc => ?_)
  · rw [if_pos hc] at hm
    refine lv_aload_n hx hb d_Di_joinAt_34 rfl (lv_at hl 2 rfl) ?_
    refine lv_iload_n hx hb d_Di_joinAt_35 rfl (lv_at hl 1 rfl) ?_
    refine lv_iload hx hb d_Di_joinAt_36 (lv_at hl 0 rfl) ?_
    refine va_mmax hx hb (hml.trans hl.1.symm) hown (ht _ m_345) (ht _ m_346) (ht _ m_341) (ht _ m_347) (Nat.le_of_ble_eq_true rfl) (Nat.le_of_ble_eq_true rfl) (Nat.zero_le _) (Nat.zero_le _) d_Di_joinAt_38 ?_
    refine lv_iload_n hx hb d_Di_joinAt_41 rfl (lv_at hl 1 rfl) ?_
    refine lv_iload hx hb d_Di_joinAt_42 (lv_at hl 0 rfl) ?_
    refine va_mmin hx hb (hml.trans hl.1.symm) hown (ht _ m_348) (ht _ m_340) (ht _ m_341) (ht _ m_342) (Nat.le_of_ble_eq_true rfl) (Nat.le_of_ble_eq_true rfl) (Nat.zero_le _) (Nat.zero_le _) d_Di_joinAt_44 ?_
    obtain ⟨o0, ho0, hm⟩ := vz_bind hm
    try dsimp only at hm
    refine vz_callVv (n := 2) (As := [.int (if (f_p0_label (Int32.toNatClampNeg x1)) < (f_p0_label (Int32.toNatClampNeg x2)) then (f_p0_label (Int32.toNatClampNeg x2)) else (f_p0_label (Int32.toNatClampNeg x1))), .int (if (f_p0_label (Int32.toNatClampNeg x2)) < (f_p0_label (Int32.toNatClampNeg x1)) then (f_p0_label (Int32.toNatClampNeg x2)) else (f_p0_label (Int32.toNatClampNeg x1)))]) (rest := []) (wc := (ws_Di_rename cI cJ cB q_p0 q_p0_sign q_p0_label q_p0_shape i_p0_count i_p0_circles i_p0_shapeIsKnown f_p0_label)) (wr := []) (k1 := 0) (n1 := 0) hx hb hml hown ht hN hK hP hD hS hA (k_Di_rename l D cI cJ cB fl q_p0 q_p0_sign q_p0_label q_p0_shape i_p0_count i_p0_circles i_p0_shapeIsKnown f_p0_label (if (f_p0_label (Int32.toNatClampNeg x1)) < (f_p0_label (Int32.toNatClampNeg x2)) then (f_p0_label (Int32.toNatClampNeg x2)) else (f_p0_label (Int32.toNatClampNeg x1))) (if (f_p0_label (Int32.toNatClampNeg x2)) < (f_p0_label (Int32.toNatClampNeg x1)) then (f_p0_label (Int32.toNatClampNeg x2)) else (f_p0_label (Int32.toNatClampNeg x1))) o0 ho0) m_352 m_99 m_349 m_350 m_351 (hc := (rfl : classes[4]? = some (R_Di, F_Di, 6))) 0 rfl (by decide +kernel) ⟨Nat.le_of_ble_eq_true rfl, Nat.le_of_ble_eq_true rfl⟩ [0, 1] [] rfl rfl (by decide) (by decide) (by decide) rfl hl.1 rfl (Nat.le_of_ble_eq_true rfl) rfl rfl ⟨Nat.zero_le _, Nat.zero_le _⟩ d_Di_joinAt_47 (fun w1 H locs hw hP hD hS => ?_)
    subst hw
    have hP : va_P D classes (ws_Di_joinAt cI cJ cB q_p0 q_p0_sign q_p0_label q_p0_shape i_p0_count i_p0_circles o0.1 o0.2) H := hP.sub [0, 1] rfl
    have hD : va_D A (ws_Di_joinAt cI cJ cB q_p0 q_p0_sign q_p0_label q_p0_shape i_p0_count i_p0_circles o0.1 o0.2) := hD.sub [0, 1] (by decide) rfl
    obtain rfl := Option.some.inj hm
    exact vz_vret hx hb hr hlocks hP hD hS (Nat.le_refl _) (Nat.le_refl _) d_Di_joinAt_50 rfl
  · rw [if_neg (fun q => q hc)] at hm
    refine lv_aload_n hx hb d_Di_joinAt_21 rfl (lv_at hl 2 rfl) ?_
    refine lv_dup hx hb d_Di_joinAt_22 rfl ?_
    refine va_get (D := D) (ci := 4) (v := .int i_p0_circles) (C := R_Di) (T := F_Di) (N := 6) hx hb ht i_Di hown hK hP 0 rfl rfl 4 (Nat.le_of_ble_eq_true rfl) (ht _ m_332) (fun _ h9 => h9) rfl d_Di_joinAt_23 ?_
    refine lv_iconst (v := 1) hx hb d_Di_joinAt_26 (by decide) ?_
    refine lv_iadd hx hb d_Di_joinAt_27 ?_
    refine va_put (D := D) (ci := 4) (v := .int (i_p0_circles + (1 : Int32))) (ty := .int) (C := R_Di) (T := F_Di) (N := 6) hx hb ht i_Di t_Di t_Di_ok n_Di hown hK hP hD hS 0 rfl rfl 4 (Nat.le_of_ble_eq_true rfl) (ht _ m_332) (fun _ h9 => h9) rfl (by decide +kernel) rfl rfl (Nat.le_of_ble_eq_true rfl) d_Di_joinAt_28 (fun H locs hP hD hS => ?_)
    have hP : va_P D classes (ws_Di_joinAt cI cJ cB q_p0 q_p0_sign q_p0_label q_p0_shape i_p0_count (i_p0_circles + (1 : Int32)) i_p0_shapeIsKnown f_p0_label) H := hP
    have hD : va_D A (ws_Di_joinAt cI cJ cB q_p0 q_p0_sign q_p0_label q_p0_shape i_p0_count (i_p0_circles + (1 : Int32)) i_p0_shapeIsKnown f_p0_label) := hD
    refine lv_goto (tgt := 50) hx hb d_Di_joinAt_31 (by decide) ?_
    obtain rfl := Option.some.inj hm
    exact vz_vret hx hb hr hlocks hP hD hS (Nat.le_refl _) (Nat.le_refl _) d_Di_joinAt_50 rfl
set_option maxHeartbeats 4000000 in
set_option maxRecDepth 100000 in
theorem k_Di_joinAt (l : Launch) (D : va_G) (cI cJ cB : ClassId) (fl : Nat) (q_p0 : Nat) (q_p0_sign : Nat) (q_p0_label : Nat) (q_p0_shape : Nat) (i_p0_count : Int32) (i_p0_circles : Int32) (i_p0_shapeIsKnown : Int32) (f_p0_label : Nat → Int32) (x1 : Int32) (x2 : Int32) (res : Int32 × Int32 × (Nat → Int32)) (hm : m_Di_joinAt fl i_p0_count x1 x2 i_p0_circles i_p0_shapeIsKnown f_p0_label = some res) : MtV l y_Di_joinAt (.code y_Di_joinAt b_Di_joinAt 5 none :: CW) rm_Di_joinAt D [(cI, .int), (cJ, .long), (cB, .byte)] [.ref q_p0, .int x1, .int x2] (ws_Di_joinAt cI cJ cB q_p0 q_p0_sign q_p0_label q_p0_shape i_p0_count i_p0_circles i_p0_shapeIsKnown f_p0_label) (fun (w : va_W) => w = (ws_Di_joinAt cI cJ cB q_p0 q_p0_sign q_p0_label q_p0_shape i_p0_count res.1 res.2.1 res.2.2)) := by
  intro sz
  refine vz_start (Qc := fun A => va_Qv (fun (w : va_W) => w = (ws_Di_joinAt cI cJ cB q_p0 q_p0_sign q_p0_label q_p0_shape i_p0_count res.1 res.2.1 res.2.2)) (vz_B D A) A) (lv0 := [(0, .ref q_p0), (1, .int x1), (2, .int x2)]) (by decide +kernel) (Nat.le_of_ble_eq_true rfl) rfl ?_
  intro p e s m below meth c A ls C0 hl
  obtain ⟨hx, hb, hr, hml, hown, ht, hlocks, hin, hN, hK, hP, hD, hA, hS⟩ := C0
  exact w_Di_joinAt_0 fl q_p0 q_p0_sign q_p0_label q_p0_shape i_p0_count res ⟨hx, hb, hr, hml, hown, ht, hlocks, hin, hN, hK, hA⟩ x1 x2 i_p0_circles i_p0_shapeIsKnown f_p0_label s.heap [] ls hm hP hD hS (lv_sub hl [0, 1, 2] rfl)
def ws_Sh_fillArc (cI cJ cB : ClassId) (q_p0 : Nat) (q_p0_key : Nat) (q_p0_name : Nat) (q_p0_from : Nat) (q_p0_to : Nat) (q_p0_edgeAt : Nat) (q_p0_componentOf : Nat) (q_p0_arcOf : Nat) (q_p0_pieceOf : Nat) (q_p0_faceOf : Nat) (q_p0_faceStart : Nat) (q_p0_faceSize : Nat) (q_p0_scratch : Nat) (i_p0_edges : Int32) (i_p0_components : Int32) (i_p0_pieces : Int32) (i_p0_faces : Int32) (i_p0_brokenRule : Int32) (i_p0_culprit : Int32) (f_p0_arcOf : Nat → Int32) (f_p0_edgeAt : Nat → Int32) (f_p0_to : Nat → Int32) : va_W := [(q_p0, .inr (5, [.ref q_p0_key, .ref q_p0_name, .ref q_p0_from, .ref q_p0_to, .ref q_p0_edgeAt, .ref q_p0_componentOf, .ref q_p0_arcOf, .ref q_p0_pieceOf, .ref q_p0_faceOf, .ref q_p0_faceStart, .ref q_p0_faceSize, .ref q_p0_scratch, .int i_p0_edges, .int i_p0_components, .int i_p0_pieces, .int i_p0_faces, .int i_p0_brokenRule, .int i_p0_culprit])), (q_p0_arcOf, .inl (cI, 40, .inl f_p0_arcOf)), (q_p0_edgeAt, .inl (cI, 80, .inl f_p0_edgeAt)), (q_p0_to, .inl (cI, 40, .inl f_p0_to))]
def rm_Sh_fillArc : Room := { frames := 1, cells := 0, slots := 0, locals := 21 }
def B_Sh_fillArc_12 (fl : Nat) (i_p0_edges : Int32) (f_p0_edgeAt : Nat → Int32) (f_p0_to : Nat → Int32) : Nat → Int32 → Int32 → Int32 → Int32 → (Nat → Int32) → Option ((Nat → Int32))
  | 0, _, _, _, _, _ => none
  | nn + 1, x1, x2, x3, x4, f_p0_arcOf => (if i_p0_edges ≤ x4 then (some f_p0_arcOf) else (if ¬ (x3 < 0 ∨ 40 ≤ Int32.toNatClampNeg x3) then ((m_Sh_isUpper fl (f_p0_to (Int32.toNatClampNeg x3))).bind fun o0 => (if o0 = (0 : Int32) then (some f_p0_arcOf) else ((m_Sh_nextEdge fl f_p0_edgeAt f_p0_to x3).bind fun o1 => (if ¬ (o1 < 0 ∨ 40 ≤ Int32.toNatClampNeg o1) then B_Sh_fillArc_12 fl i_p0_edges f_p0_edgeAt f_p0_to nn x1 x2 o1 (x4 + 1) (upd f_p0_arcOf (Int32.toNatClampNeg o1) x2) else none)))) else none))
def B_Sh_fillArc_0 (fl : Nat) (i_p0_edges : Int32) (f_p0_edgeAt : Nat → Int32) (f_p0_to : Nat → Int32) (x1 : Int32) (x2 : Int32) (f_p0_arcOf : Nat → Int32) : Option ((Nat → Int32)) := (if ¬ (x1 < 0 ∨ 40 ≤ Int32.toNatClampNeg x1) then B_Sh_fillArc_12 fl i_p0_edges f_p0_edgeAt f_p0_to fl x1 x2 x1 0 (upd f_p0_arcOf (Int32.toNatClampNeg x1) x2) else none)
def m_Sh_fillArc (fl : Nat) (i_p0_edges : Int32) (f_p0_edgeAt : Nat → Int32) (f_p0_to : Nat → Int32) (x1 : Int32) (x2 : Int32) (f_p0_arcOf : Nat → Int32) : Option ((Nat → Int32)) := B_Sh_fillArc_0 fl i_p0_edges f_p0_edgeAt f_p0_to x1 x2 f_p0_arcOf
set_option maxHeartbeats 4000000 in
set_option maxRecDepth 100000 in
theorem w_Sh_fillArc_12 {p : Program} {l : Launch} {e : Env} {s : State} {m : MethodId} {args : Array Value} {below : List Frame} {meth : Method} {c : Code} {D : va_G} {cI cJ cB : ClassId} {A : Nat → Prop} (fl : Nat) (q_p0 : Nat) (q_p0_key : Nat) (q_p0_name : Nat) (q_p0_from : Nat) (q_p0_to : Nat) (q_p0_edgeAt : Nat) (q_p0_componentOf : Nat) (q_p0_arcOf : Nat) (q_p0_pieceOf : Nat) (q_p0_faceOf : Nat) (q_p0_faceStart : Nat) (q_p0_faceSize : Nat) (q_p0_scratch : Nat) (i_p0_edges : Int32) (f_p0_edgeAt : Nat → Int32) (f_p0_to : Nat → Int32) (i_p0_components : Int32) (i_p0_pieces : Int32) (i_p0_faces : Int32) (i_p0_brokenRule : Int32) (i_p0_culprit : Int32) (res : (Nat → Int32)) (C0 : vz_Cx p s m meth c b_Sh_fillArc 5 none "LinkEngine$Shape" "fillArc" D [(cI, .int), (cJ, .long), (cB, .byte)] A args) : ∀ (nn : Nat), ∀ (x1 : Int32) (x2 : Int32) (x3 : Int32) (x4 : Int32) (f_p0_arcOf : Nat → Int32) (H : Heap) (locs : List Loc) (ls : Array Slot), B_Sh_fillArc_12 fl i_p0_edges f_p0_edgeAt f_p0_to nn x1 x2 x3 x4 f_p0_arcOf = some res → va_P D classes (ws_Sh_fillArc cI cJ cB q_p0 q_p0_key q_p0_name q_p0_from q_p0_to q_p0_edgeAt q_p0_componentOf q_p0_arcOf q_p0_pieceOf q_p0_faceOf q_p0_faceStart q_p0_faceSize q_p0_scratch i_p0_edges i_p0_components i_p0_pieces i_p0_faces i_p0_brokenRule i_p0_culprit f_p0_arcOf f_p0_edgeAt f_p0_to) H → va_D A (ws_Sh_fillArc cI cJ cB q_p0 q_p0_key q_p0_name q_p0_from q_p0_to q_p0_edgeAt q_p0_componentOf q_p0_arcOf q_p0_pieceOf q_p0_faceOf q_p0_faceStart q_p0_faceSize q_p0_scratch i_p0_edges i_p0_components i_p0_pieces i_p0_faces i_p0_brokenRule i_p0_culprit f_p0_arcOf f_p0_edgeAt f_p0_to) → va_S A s.heap H locs → lv_has ls 5 [(0, .ref q_p0), (1, .int x1), (2, .int x2), (3, .int x3), (4, .int x4)] → W p l e rm_Sh_fillArc s m args below meth c H locs 0 0 (MQ below (va_Qv (fun (w : va_W) => w = (ws_Sh_fillArc cI cJ cB q_p0 q_p0_key q_p0_name q_p0_from q_p0_to q_p0_edgeAt q_p0_componentOf q_p0_arcOf q_p0_pieceOf q_p0_faceOf q_p0_faceStart q_p0_faceSize q_p0_scratch i_p0_edges i_p0_components i_p0_pieces i_p0_faces i_p0_brokenRule i_p0_culprit res f_p0_edgeAt f_p0_to)) (vz_B D A) A) args s 0 0 A) (F0 m 12 ls []) := by
  obtain ⟨hx, hb, hr, hml, hown, ht, hlocks, hin, hN, hK, hA⟩ := id C0
  intro nn
  induction nn with
  | zero =>
    intro x1 x2 x3 x4 f_p0_arcOf H locs ls hm hP hD hS hl
    rw [B_Sh_fillArc_12] at hm
    cases hm
  | succ nn ih =>
    intro x1 x2 x3 x4 f_p0_arcOf H locs ls hm hP hD hS hl
    rw [B_Sh_fillArc_12] at hm
    refine lv_iload hx hb d_Sh_fillArc_12 (lv_at hl 4 rfl) ?_
    refine lv_aload_n hx hb d_Sh_fillArc_14 rfl (lv_at hl 0 rfl) ?_
    refine va_get (D := D) (ci := 5) (v := .int i_p0_edges) (C := R_Sh) (T := F_Sh) (N := 18) hx hb ht i_Sh hown hK hP 0 rfl rfl 12 (Nat.le_of_ble_eq_true rfl) (ht _ m_219) (fun _ h9 => h9) rfl d_Sh_fillArc_15 ?_
    refine lv_icmp_ge (tgt := 52) hx hb d_Sh_fillArc_18 (by decide) (fun hc => ?_) (fun hc => ?_)
    · rw [if_pos hc] at hm
      obtain rfl := Option.some.inj hm
      exact vz_vret hx hb hr hlocks hP hD hS (Nat.le_refl _) (Nat.le_refl _) d_Sh_fillArc_52 rfl
    · rw [if_neg hc] at hm
      refine lv_aload_n hx hb d_Sh_fillArc_21 rfl (lv_at hl 0 rfl) ?_
      refine va_get (D := D) (ci := 5) (v := .ref q_p0_to) (C := R_Sh) (T := F_Sh) (N := 18) hx hb ht i_Sh hown hK hP 0 rfl rfl 3 (Nat.le_of_ble_eq_true rfl) (ht _ m_35) (fun _ h9 => h9) rfl d_Sh_fillArc_22 ?_
      refine lv_iload_n hx hb d_Sh_fillArc_25 rfl (lv_at hl 3 rfl) ?_
      obtain ⟨hg, hm⟩ := vz_guard hm
      refine va_iald hx hb hK hP 3 0 rfl rfl hg d_Sh_fillArc_26 ?_
      obtain ⟨o0, ho0, hm⟩ := vz_bind hm
      try dsimp only at hm
      refine vz_callSi (n := 1) (As := [.int (f_p0_to (Int32.toNatClampNeg x3))]) (rest := []) (wc := (ws_Sh_isUpper cI cJ cB )) (wr := (ws_Sh_fillArc cI cJ cB q_p0 q_p0_key q_p0_name q_p0_from q_p0_to q_p0_edgeAt q_p0_componentOf q_p0_arcOf q_p0_pieceOf q_p0_faceOf q_p0_faceStart q_p0_faceSize q_p0_scratch i_p0_edges i_p0_components i_p0_pieces i_p0_faces i_p0_brokenRule i_p0_culprit f_p0_arcOf f_p0_edgeAt f_p0_to)) (k1 := 0) (n1 := 0) hx hb hml hown ht hN hK hP hD hS hA (k_Sh_isUpper l D cI cJ cB fl   (f_p0_to (Int32.toNatClampNeg x3)) o0 ho0) m_355 m_54 m_353 m_354 (by decide +kernel) ⟨Nat.le_of_ble_eq_true rfl, Nat.le_of_ble_eq_true rfl⟩ [] [0, 1, 2, 3] rfl rfl (by decide) (by decide) (by decide) rfl hl.1 rfl (Nat.le_of_ble_eq_true rfl) rfl rfl ⟨Nat.zero_le _, Nat.zero_le _⟩ d_Sh_fillArc_27 (fun r1 w1 H locs hw hP hD hS => ?_)
      obtain ⟨hr1, rfl⟩ := hw
      have hr1 := hr1.symm
      subst hr1
      have hP : va_P D classes (ws_Sh_fillArc cI cJ cB q_p0 q_p0_key q_p0_name q_p0_from q_p0_to q_p0_edgeAt q_p0_componentOf q_p0_arcOf q_p0_pieceOf q_p0_faceOf q_p0_faceStart q_p0_faceSize q_p0_scratch i_p0_edges i_p0_components i_p0_pieces i_p0_faces i_p0_brokenRule i_p0_culprit f_p0_arcOf f_p0_edgeAt f_p0_to) H := hP.sub [0, 1, 2, 3] rfl
      have hD : va_D A (ws_Sh_fillArc cI cJ cB q_p0 q_p0_key q_p0_name q_p0_from q_p0_to q_p0_edgeAt q_p0_componentOf q_p0_arcOf q_p0_pieceOf q_p0_faceOf q_p0_faceStart q_p0_faceSize q_p0_scratch i_p0_edges i_p0_components i_p0_pieces i_p0_faces i_p0_brokenRule i_p0_culprit f_p0_arcOf f_p0_edgeAt f_p0_to) := hD.sub [0, 1, 2, 3] (by decide) rfl
      refine lv_if_eq (tgt := 52) hx hb d_Sh_fillArc_30 (by decide) (fun hc => ?_) (fun hc => ?_)
      · rw [if_pos hc] at hm
        obtain rfl := Option.some.inj hm
        exact vz_vret hx hb hr hlocks hP hD hS (Nat.le_refl _) (Nat.le_refl _) d_Sh_fillArc_52 rfl
      · rw [if_neg hc] at hm
        refine lv_aload_n hx hb d_Sh_fillArc_33 rfl (lv_at hl 0 rfl) ?_
        refine lv_iload_n hx hb d_Sh_fillArc_34 rfl (lv_at hl 3 rfl) ?_
        obtain ⟨o1, ho1, hm⟩ := vz_bind hm
        try dsimp only at hm
        refine vz_callVi (n := 1) (As := [.int x3]) (rest := []) (wc := (ws_Sh_nextEdge cI cJ cB q_p0 q_p0_key q_p0_name q_p0_from q_p0_to q_p0_edgeAt q_p0_componentOf q_p0_arcOf q_p0_pieceOf q_p0_faceOf q_p0_faceStart q_p0_faceSize q_p0_scratch i_p0_edges i_p0_components i_p0_pieces i_p0_faces i_p0_brokenRule i_p0_culprit f_p0_edgeAt f_p0_to)) (wr := [(q_p0_arcOf, .inl (cI, 40, .inl f_p0_arcOf))]) (k1 := 0) (n1 := 0) hx hb hml hown ht hN hK hP hD hS hA (k_Sh_nextEdge l D cI cJ cB fl q_p0 q_p0_key q_p0_name q_p0_from q_p0_to q_p0_edgeAt q_p0_componentOf q_p0_arcOf q_p0_pieceOf q_p0_faceOf q_p0_faceStart q_p0_faceSize q_p0_scratch f_p0_edgeAt f_p0_to i_p0_edges i_p0_components i_p0_pieces i_p0_faces i_p0_brokenRule i_p0_culprit x3 o1 ho1) m_359 m_54 m_356 m_357 m_358 (hc := (rfl : classes[5]? = some (R_Sh, F_Sh, 18))) 0 rfl (by decide +kernel) ⟨Nat.le_of_ble_eq_true rfl, Nat.le_of_ble_eq_true rfl⟩ [0, 2, 3] [1] rfl rfl (by decide) (by decide) (by decide) rfl hl.1 rfl (Nat.le_of_ble_eq_true rfl) rfl rfl ⟨Nat.zero_le _, Nat.zero_le _⟩ d_Sh_fillArc_35 (fun r1 w1 H locs hw hP hD hS => ?_)
        obtain ⟨hr1, rfl⟩ := hw
        have hr1 := hr1.symm
        subst hr1
        have hP : va_P D classes (ws_Sh_fillArc cI cJ cB q_p0 q_p0_key q_p0_name q_p0_from q_p0_to q_p0_edgeAt q_p0_componentOf q_p0_arcOf q_p0_pieceOf q_p0_faceOf q_p0_faceStart q_p0_faceSize q_p0_scratch i_p0_edges i_p0_components i_p0_pieces i_p0_faces i_p0_brokenRule i_p0_culprit f_p0_arcOf f_p0_edgeAt f_p0_to) H := hP.sub [1, 0, 2, 3] rfl
        have hD : va_D A (ws_Sh_fillArc cI cJ cB q_p0 q_p0_key q_p0_name q_p0_from q_p0_to q_p0_edgeAt q_p0_componentOf q_p0_arcOf q_p0_pieceOf q_p0_faceOf q_p0_faceStart q_p0_faceSize q_p0_scratch i_p0_edges i_p0_components i_p0_pieces i_p0_faces i_p0_brokenRule i_p0_culprit f_p0_arcOf f_p0_edgeAt f_p0_to) := hD.sub [1, 0, 2, 3] (by decide) rfl
        refine lv_istore_n (lv' := [(3, .int o1), (0, .ref q_p0), (1, .int x1), (2, .int x2), (4, .int x4)]) hx hb d_Sh_fillArc_38 rfl hl (by decide) rfl (fun ls hl => ?_)
        refine lv_aload_n hx hb d_Sh_fillArc_39 rfl (lv_at hl 1 rfl) ?_
        refine va_get (D := D) (ci := 5) (v := .ref q_p0_arcOf) (C := R_Sh) (T := F_Sh) (N := 18) hx hb ht i_Sh hown hK hP 0 rfl rfl 6 (Nat.le_of_ble_eq_true rfl) (ht _ m_38) (fun _ h9 => h9) rfl d_Sh_fillArc_40 ?_
        refine lv_iload_n hx hb d_Sh_fillArc_43 rfl (lv_at hl 0 rfl) ?_
        refine lv_iload_n hx hb d_Sh_fillArc_44 rfl (lv_at hl 3 rfl) ?_
        obtain ⟨hg, hm⟩ := vz_guard hm
        refine va_iast hx hb hK hP hD hS 1 0 rfl rfl hg d_Sh_fillArc_45 (fun H locs hP hD hS => ?_)
        have hP : va_P D classes (ws_Sh_fillArc cI cJ cB q_p0 q_p0_key q_p0_name q_p0_from q_p0_to q_p0_edgeAt q_p0_componentOf q_p0_arcOf q_p0_pieceOf q_p0_faceOf q_p0_faceStart q_p0_faceSize q_p0_scratch i_p0_edges i_p0_components i_p0_pieces i_p0_faces i_p0_brokenRule i_p0_culprit (upd f_p0_arcOf (Int32.toNatClampNeg o1) x2) f_p0_edgeAt f_p0_to) H := hP
        have hD : va_D A (ws_Sh_fillArc cI cJ cB q_p0 q_p0_key q_p0_name q_p0_from q_p0_to q_p0_edgeAt q_p0_componentOf q_p0_arcOf q_p0_pieceOf q_p0_faceOf q_p0_faceStart q_p0_faceSize q_p0_scratch i_p0_edges i_p0_components i_p0_pieces i_p0_faces i_p0_brokenRule i_p0_culprit (upd f_p0_arcOf (Int32.toNatClampNeg o1) x2) f_p0_edgeAt f_p0_to) := hD
        refine lv_iinc (v := (x4 + 1)) (lv' := [(4, .int (x4 + 1)), (3, .int o1), (0, .ref q_p0), (1, .int x1), (2, .int x2)]) hx hb d_Sh_fillArc_46 hl (k := 4) rfl rfl (by decide) rfl (fun ls hl => ?_)
        refine lv_goto (tgt := 12) hx hb d_Sh_fillArc_49 (by decide) ?_
        exact ih x1 x2 o1 (x4 + 1) (upd f_p0_arcOf (Int32.toNatClampNeg o1) x2) _ _ _ hm hP hD hS (lv_sub hl [2, 3, 4, 1, 0] rfl)
set_option maxHeartbeats 4000000 in
set_option maxRecDepth 100000 in
theorem w_Sh_fillArc_0 {p : Program} {l : Launch} {e : Env} {s : State} {m : MethodId} {args : Array Value} {below : List Frame} {meth : Method} {c : Code} {D : va_G} {cI cJ cB : ClassId} {A : Nat → Prop} (fl : Nat) (q_p0 : Nat) (q_p0_key : Nat) (q_p0_name : Nat) (q_p0_from : Nat) (q_p0_to : Nat) (q_p0_edgeAt : Nat) (q_p0_componentOf : Nat) (q_p0_arcOf : Nat) (q_p0_pieceOf : Nat) (q_p0_faceOf : Nat) (q_p0_faceStart : Nat) (q_p0_faceSize : Nat) (q_p0_scratch : Nat) (i_p0_edges : Int32) (f_p0_edgeAt : Nat → Int32) (f_p0_to : Nat → Int32) (i_p0_components : Int32) (i_p0_pieces : Int32) (i_p0_faces : Int32) (i_p0_brokenRule : Int32) (i_p0_culprit : Int32) (res : (Nat → Int32)) (C0 : vz_Cx p s m meth c b_Sh_fillArc 5 none "LinkEngine$Shape" "fillArc" D [(cI, .int), (cJ, .long), (cB, .byte)] A args) : ∀ (x1 : Int32) (x2 : Int32) (f_p0_arcOf : Nat → Int32) (H : Heap) (locs : List Loc) (ls : Array Slot), B_Sh_fillArc_0 fl i_p0_edges f_p0_edgeAt f_p0_to x1 x2 f_p0_arcOf = some res → va_P D classes (ws_Sh_fillArc cI cJ cB q_p0 q_p0_key q_p0_name q_p0_from q_p0_to q_p0_edgeAt q_p0_componentOf q_p0_arcOf q_p0_pieceOf q_p0_faceOf q_p0_faceStart q_p0_faceSize q_p0_scratch i_p0_edges i_p0_components i_p0_pieces i_p0_faces i_p0_brokenRule i_p0_culprit f_p0_arcOf f_p0_edgeAt f_p0_to) H → va_D A (ws_Sh_fillArc cI cJ cB q_p0 q_p0_key q_p0_name q_p0_from q_p0_to q_p0_edgeAt q_p0_componentOf q_p0_arcOf q_p0_pieceOf q_p0_faceOf q_p0_faceStart q_p0_faceSize q_p0_scratch i_p0_edges i_p0_components i_p0_pieces i_p0_faces i_p0_brokenRule i_p0_culprit f_p0_arcOf f_p0_edgeAt f_p0_to) → va_S A s.heap H locs → lv_has ls 5 [(0, .ref q_p0), (1, .int x1), (2, .int x2)] → W p l e rm_Sh_fillArc s m args below meth c H locs 0 0 (MQ below (va_Qv (fun (w : va_W) => w = (ws_Sh_fillArc cI cJ cB q_p0 q_p0_key q_p0_name q_p0_from q_p0_to q_p0_edgeAt q_p0_componentOf q_p0_arcOf q_p0_pieceOf q_p0_faceOf q_p0_faceStart q_p0_faceSize q_p0_scratch i_p0_edges i_p0_components i_p0_pieces i_p0_faces i_p0_brokenRule i_p0_culprit res f_p0_edgeAt f_p0_to)) (vz_B D A) A) args s 0 0 A) (F0 m 0 ls []) := by
  obtain ⟨hx, hb, hr, hml, hown, ht, hlocks, hin, hN, hK, hA⟩ := id C0
  intro x1 x2 f_p0_arcOf H locs ls hm hP hD hS hl
  unfold B_Sh_fillArc_0 at hm
  refine lv_iload_n hx hb d_Sh_fillArc_0 rfl (lv_at hl 1 rfl) ?_
  refine lv_istore_n (lv' := [(3, .int x1), (0, .ref q_p0), (1, .int x1), (2, .int x2)]) hx hb d_Sh_fillArc_1 rfl hl (by decide) rfl (fun ls hl => ?_)
  refine lv_aload_n hx hb d_Sh_fillArc_2 rfl (lv_at hl 1 rfl) ?_
  refine va_get (D := D) (ci := 5) (v := .ref q_p0_arcOf) (C := R_Sh) (T := F_Sh) (N := 18) hx hb ht i_Sh hown hK hP 0 rfl rfl 6 (Nat.le_of_ble_eq_true rfl) (ht _ m_38) (fun _ h9 => h9) rfl d_Sh_fillArc_3 ?_
  refine lv_iload_n hx hb d_Sh_fillArc_6 rfl (lv_at hl 0 rfl) ?_
  refine lv_iload_n hx hb d_Sh_fillArc_7 rfl (lv_at hl 3 rfl) ?_
  obtain ⟨hg, hm⟩ := vz_guard hm
  refine va_iast hx hb hK hP hD hS 1 0 rfl rfl hg d_Sh_fillArc_8 (fun H locs hP hD hS => ?_)
  have hP : va_P D classes (ws_Sh_fillArc cI cJ cB q_p0 q_p0_key q_p0_name q_p0_from q_p0_to q_p0_edgeAt q_p0_componentOf q_p0_arcOf q_p0_pieceOf q_p0_faceOf q_p0_faceStart q_p0_faceSize q_p0_scratch i_p0_edges i_p0_components i_p0_pieces i_p0_faces i_p0_brokenRule i_p0_culprit (upd f_p0_arcOf (Int32.toNatClampNeg x1) x2) f_p0_edgeAt f_p0_to) H := hP
  have hD : va_D A (ws_Sh_fillArc cI cJ cB q_p0 q_p0_key q_p0_name q_p0_from q_p0_to q_p0_edgeAt q_p0_componentOf q_p0_arcOf q_p0_pieceOf q_p0_faceOf q_p0_faceStart q_p0_faceSize q_p0_scratch i_p0_edges i_p0_components i_p0_pieces i_p0_faces i_p0_brokenRule i_p0_culprit (upd f_p0_arcOf (Int32.toNatClampNeg x1) x2) f_p0_edgeAt f_p0_to) := hD
  refine lv_iconst (v := 0) hx hb d_Sh_fillArc_9 (by decide) ?_
  refine lv_istore (lv' := [(4, .int 0), (3, .int x1), (0, .ref q_p0), (1, .int x1), (2, .int x2)]) hx hb d_Sh_fillArc_10 hl (by decide) rfl (fun ls hl => ?_)
  exact w_Sh_fillArc_12 fl q_p0 q_p0_key q_p0_name q_p0_from q_p0_to q_p0_edgeAt q_p0_componentOf q_p0_arcOf q_p0_pieceOf q_p0_faceOf q_p0_faceStart q_p0_faceSize q_p0_scratch i_p0_edges f_p0_edgeAt f_p0_to i_p0_components i_p0_pieces i_p0_faces i_p0_brokenRule i_p0_culprit res C0 fl x1 x2 x1 0 (upd f_p0_arcOf (Int32.toNatClampNeg x1) x2) _ _ _ hm hP hD hS (lv_sub hl [2, 3, 4, 1, 0] rfl)
set_option maxHeartbeats 4000000 in
set_option maxRecDepth 100000 in
theorem k_Sh_fillArc (l : Launch) (D : va_G) (cI cJ cB : ClassId) (fl : Nat) (q_p0 : Nat) (q_p0_key : Nat) (q_p0_name : Nat) (q_p0_from : Nat) (q_p0_to : Nat) (q_p0_edgeAt : Nat) (q_p0_componentOf : Nat) (q_p0_arcOf : Nat) (q_p0_pieceOf : Nat) (q_p0_faceOf : Nat) (q_p0_faceStart : Nat) (q_p0_faceSize : Nat) (q_p0_scratch : Nat) (i_p0_edges : Int32) (f_p0_edgeAt : Nat → Int32) (f_p0_to : Nat → Int32) (i_p0_components : Int32) (i_p0_pieces : Int32) (i_p0_faces : Int32) (i_p0_brokenRule : Int32) (i_p0_culprit : Int32) (f_p0_arcOf : Nat → Int32) (x1 : Int32) (x2 : Int32) (res : (Nat → Int32)) (hm : m_Sh_fillArc fl i_p0_edges f_p0_edgeAt f_p0_to x1 x2 f_p0_arcOf = some res) : MtV l y_Sh_fillArc (.code y_Sh_fillArc b_Sh_fillArc 5 none :: CW) rm_Sh_fillArc D [(cI, .int), (cJ, .long), (cB, .byte)] [.ref q_p0, .int x1, .int x2] (ws_Sh_fillArc cI cJ cB q_p0 q_p0_key q_p0_name q_p0_from q_p0_to q_p0_edgeAt q_p0_componentOf q_p0_arcOf q_p0_pieceOf q_p0_faceOf q_p0_faceStart q_p0_faceSize q_p0_scratch i_p0_edges i_p0_components i_p0_pieces i_p0_faces i_p0_brokenRule i_p0_culprit f_p0_arcOf f_p0_edgeAt f_p0_to) (fun (w : va_W) => w = (ws_Sh_fillArc cI cJ cB q_p0 q_p0_key q_p0_name q_p0_from q_p0_to q_p0_edgeAt q_p0_componentOf q_p0_arcOf q_p0_pieceOf q_p0_faceOf q_p0_faceStart q_p0_faceSize q_p0_scratch i_p0_edges i_p0_components i_p0_pieces i_p0_faces i_p0_brokenRule i_p0_culprit res f_p0_edgeAt f_p0_to)) := by
  intro sz
  refine vz_start (Qc := fun A => va_Qv (fun (w : va_W) => w = (ws_Sh_fillArc cI cJ cB q_p0 q_p0_key q_p0_name q_p0_from q_p0_to q_p0_edgeAt q_p0_componentOf q_p0_arcOf q_p0_pieceOf q_p0_faceOf q_p0_faceStart q_p0_faceSize q_p0_scratch i_p0_edges i_p0_components i_p0_pieces i_p0_faces i_p0_brokenRule i_p0_culprit res f_p0_edgeAt f_p0_to)) (vz_B D A) A) (lv0 := [(0, .ref q_p0), (1, .int x1), (2, .int x2)]) (by decide +kernel) (Nat.le_of_ble_eq_true rfl) rfl ?_
  intro p e s m below meth c A ls C0 hl
  obtain ⟨hx, hb, hr, hml, hown, ht, hlocks, hin, hN, hK, hP, hD, hA, hS⟩ := C0
  exact w_Sh_fillArc_0 fl q_p0 q_p0_key q_p0_name q_p0_from q_p0_to q_p0_edgeAt q_p0_componentOf q_p0_arcOf q_p0_pieceOf q_p0_faceOf q_p0_faceStart q_p0_faceSize q_p0_scratch i_p0_edges f_p0_edgeAt f_p0_to i_p0_components i_p0_pieces i_p0_faces i_p0_brokenRule i_p0_culprit res ⟨hx, hb, hr, hml, hown, ht, hlocks, hin, hN, hK, hA⟩ x1 x2 f_p0_arcOf s.heap [] ls hm hP hD hS (lv_sub hl [0, 1, 2] rfl)
def ws_Sh_seifertRounds (cI cJ cB : ClassId) (q_p0 : Nat) (q_p0_key : Nat) (q_p0_name : Nat) (q_p0_from : Nat) (q_p0_to : Nat) (q_p0_edgeAt : Nat) (q_p0_componentOf : Nat) (q_p0_arcOf : Nat) (q_p0_pieceOf : Nat) (q_p0_faceOf : Nat) (q_p0_faceStart : Nat) (q_p0_faceSize : Nat) (q_p0_scratch : Nat) (q_p1 : Nat) (q_p1_sign : Nat) (q_p1_label : Nat) (q_p1_shape : Nat) (i_p0_edges : Int32) (i_p0_components : Int32) (i_p0_pieces : Int32) (i_p0_faces : Int32) (i_p0_brokenRule : Int32) (i_p0_culprit : Int32) (f_p0_edgeAt : Nat → Int32) (f_p0_scratch : Nat → Int32) (f_p0_to : Nat → Int32) (i_p1_count : Int32) (i_p1_circles : Int32) (i_p1_shapeIsKnown : Int32) (f_p1_sign : Nat → Int32) : va_W := [(q_p0, .inr (5, [.ref q_p0_key, .ref q_p0_name, .ref q_p0_from, .ref q_p0_to, .ref q_p0_edgeAt, .ref q_p0_componentOf, .ref q_p0_arcOf, .ref q_p0_pieceOf, .ref q_p0_faceOf, .ref q_p0_faceStart, .ref q_p0_faceSize, .ref q_p0_scratch, .int i_p0_edges, .int i_p0_components, .int i_p0_pieces, .int i_p0_faces, .int i_p0_brokenRule, .int i_p0_culprit])), (q_p0_edgeAt, .inl (cI, 80, .inl f_p0_edgeAt)), (q_p0_scratch, .inl (cI, 80, .inl f_p0_scratch)), (q_p0_to, .inl (cI, 40, .inl f_p0_to)), (q_p1, .inr (4, [.ref q_p1_sign, .ref q_p1_label, .ref q_p1_shape, .int i_p1_count, .int i_p1_circles, .int i_p1_shapeIsKnown])), (q_p1_sign, .inl (cI, 20, .inl f_p1_sign))]
def rm_Sh_seifertRounds : Room := { frames := 1, cells := 0, slots := 0, locals := 23 }
def B_Sh_seifertRounds_117 (fl : Nat) (i_p0_edges : Int32) (f_p0_edgeAt : Nat → Int32) (f_p0_to : Nat → Int32) (f_p1_sign : Nat → Int32) (kb_12 : Int32 → Int32 → (Nat → Int32) → Option (Int32 × (Nat → Int32))) (x2 : Int32) (x3 : Int32) (f_p0_scratch : Nat → Int32) : Option (Int32 × (Nat → Int32)) := kb_12 x2 (x3 + 1) f_p0_scratch
def B_Sh_seifertRounds_114 (fl : Nat) (i_p0_edges : Int32) (f_p0_edgeAt : Nat → Int32) (f_p0_to : Nat → Int32) (f_p1_sign : Nat → Int32) (kb_12 : Int32 → Int32 → (Nat → Int32) → Option (Int32 × (Nat → Int32))) (x2 : Int32) (x3 : Int32) (x4 : Int32) (x5 : Int32) (f_p0_scratch : Nat → Int32) : Option (Int32 × (Nat → Int32)) := B_Sh_seifertRounds_117 fl i_p0_edges f_p0_edgeAt f_p0_to f_p1_sign kb_12 (x2 + 1) x3 f_p0_scratch
def B_Sh_seifertRounds_105 (fl : Nat) (i_p0_edges : Int32) (f_p0_edgeAt : Nat → Int32) (f_p0_to : Nat → Int32) (f_p1_sign : Nat → Int32) (kb_12 : Int32 → Int32 → (Nat → Int32) → Option (Int32 × (Nat → Int32))) (kb_35 : Int32 → Int32 → Int32 → Int32 → (Nat → Int32) → Option (Int32 × (Nat → Int32))) (s0 : Int32) (x2 : Int32) (x3 : Int32) (x4 : Int32) (x5 : Int32) (x6 : Int32) (f_p0_scratch : Nat → Int32) : Option (Int32 × (Nat → Int32)) := (if ¬ (s0 < 0 ∨ 80 ≤ Int32.toNatClampNeg s0) then kb_35 x2 x3 (f_p0_edgeAt (Int32.toNatClampNeg s0)) (x5 + 1) f_p0_scratch else none)
def B_Sh_seifertRounds_35 (fl : Nat) (i_p0_edges : Int32) (f_p0_edgeAt : Nat → Int32) (f_p0_to : Nat → Int32) (f_p1_sign : Nat → Int32) (kb_12 : Int32 → Int32 → (Nat → Int32) → Option (Int32 × (Nat → Int32))) : Nat → Int32 → Int32 → Int32 → Int32 → (Nat → Int32) → Option (Int32 × (Nat → Int32))
  | 0, _, _, _, _, _ => none
  | nn + 1, x2, x3, x4, x5, f_p0_scratch => (if i_p0_edges ≤ x5 then B_Sh_seifertRounds_114 fl i_p0_edges f_p0_edgeAt f_p0_to f_p1_sign kb_12 x2 x3 x4 x5 f_p0_scratch else (if ¬ (x4 < 0 ∨ 80 ≤ Int32.toNatClampNeg x4) then (if ¬ (f_p0_scratch (Int32.toNatClampNeg x4)) = (0 : Int32) then B_Sh_seifertRounds_114 fl i_p0_edges f_p0_edgeAt f_p0_to f_p1_sign kb_12 x2 x3 x4 x5 f_p0_scratch else (if ¬ (x4 < 0 ∨ 80 ≤ Int32.toNatClampNeg x4) then (if ¬ (x4 < 0 ∨ 40 ≤ Int32.toNatClampNeg x4) then (if ¬ (x4 < 0 ∨ 40 ≤ Int32.toNatClampNeg x4) then ((m_Sh_isUpper fl (f_p0_to (Int32.toNatClampNeg x4))).bind fun o0 => (if o0 = (0 : Int32) then ((m_Di_upperOut fl f_p1_sign ((f_p0_to (Int32.toNatClampNeg x4)) >>> ((2 : Int32) &&& 31))).bind fun o1 => B_Sh_seifertRounds_105 fl i_p0_edges f_p0_edgeAt f_p0_to f_p1_sign kb_12 (B_Sh_seifertRounds_35 fl i_p0_edges f_p0_edgeAt f_p0_to f_p1_sign kb_12 nn) o1 x2 x3 x4 x5 ((f_p0_to (Int32.toNatClampNeg x4)) >>> ((2 : Int32) &&& 31)) (upd f_p0_scratch (Int32.toNatClampNeg x4) 1)) else B_Sh_seifertRounds_105 fl i_p0_edges f_p0_edgeAt f_p0_to f_p1_sign kb_12 (B_Sh_seifertRounds_35 fl i_p0_edges f_p0_edgeAt f_p0_to f_p1_sign kb_12 nn) (((4 : Int32) * ((f_p0_to (Int32.toNatClampNeg x4)) >>> ((2 : Int32) &&& 31))) + (2 : Int32)) x2 x3 x4 x5 ((f_p0_to (Int32.toNatClampNeg x4)) >>> ((2 : Int32) &&& 31)) (upd f_p0_scratch (Int32.toNatClampNeg x4) 1))) else none) else none) else none)) else none))
def B_Sh_seifertRounds_12 (fl : Nat) (i_p0_edges : Int32) (f_p0_edgeAt : Nat → Int32) (f_p0_to : Nat → Int32) (f_p1_sign : Nat → Int32) : Nat → Int32 → Int32 → (Nat → Int32) → Option (Int32 × (Nat → Int32))
  | 0, _, _, _ => none
  | nn + 1, x2, x3, f_p0_scratch => (if i_p0_edges ≤ x3 then (some (x2, f_p0_scratch)) else (if ¬ (x3 < 0 ∨ 80 ≤ Int32.toNatClampNeg x3) then (if ¬ (f_p0_scratch (Int32.toNatClampNeg x3)) = (0 : Int32) then B_Sh_seifertRounds_117 fl i_p0_edges f_p0_edgeAt f_p0_to f_p1_sign (B_Sh_seifertRounds_12 fl i_p0_edges f_p0_edgeAt f_p0_to f_p1_sign nn) x2 x3 f_p0_scratch else B_Sh_seifertRounds_35 fl i_p0_edges f_p0_edgeAt f_p0_to f_p1_sign (B_Sh_seifertRounds_12 fl i_p0_edges f_p0_edgeAt f_p0_to f_p1_sign nn) fl x2 x3 x3 0 f_p0_scratch) else none))
def B_Sh_seifertRounds_0 (fl : Nat) (i_p0_edges : Int32) (f_p0_edgeAt : Nat → Int32) (f_p0_to : Nat → Int32) (f_p1_sign : Nat → Int32) (f_p0_scratch : Nat → Int32) : Option (Int32 × (Nat → Int32)) := B_Sh_seifertRounds_12 fl i_p0_edges f_p0_edgeAt f_p0_to f_p1_sign fl 0 0 (fillF f_p0_scratch 80 0)
def m_Sh_seifertRounds (fl : Nat) (i_p0_edges : Int32) (f_p0_edgeAt : Nat → Int32) (f_p0_to : Nat → Int32) (f_p1_sign : Nat → Int32) (f_p0_scratch : Nat → Int32) : Option (Int32 × (Nat → Int32)) := B_Sh_seifertRounds_0 fl i_p0_edges f_p0_edgeAt f_p0_to f_p1_sign f_p0_scratch
set_option maxHeartbeats 4000000 in
set_option maxRecDepth 100000 in
theorem w_Sh_seifertRounds_117 {p : Program} {l : Launch} {e : Env} {s : State} {m : MethodId} {args : Array Value} {below : List Frame} {meth : Method} {c : Code} {D : va_G} {cI cJ cB : ClassId} {A : Nat → Prop} (fl : Nat) (q_p0 : Nat) (q_p0_key : Nat) (q_p0_name : Nat) (q_p0_from : Nat) (q_p0_to : Nat) (q_p0_edgeAt : Nat) (q_p0_componentOf : Nat) (q_p0_arcOf : Nat) (q_p0_pieceOf : Nat) (q_p0_faceOf : Nat) (q_p0_faceStart : Nat) (q_p0_faceSize : Nat) (q_p0_scratch : Nat) (q_p1 : Nat) (q_p1_sign : Nat) (q_p1_label : Nat) (q_p1_shape : Nat) (i_p0_edges : Int32) (f_p0_edgeAt : Nat → Int32) (f_p0_to : Nat → Int32) (f_p1_sign : Nat → Int32) (i_p0_components : Int32) (i_p0_pieces : Int32) (i_p0_faces : Int32) (i_p0_brokenRule : Int32) (i_p0_culprit : Int32) (i_p1_count : Int32) (i_p1_circles : Int32) (i_p1_shapeIsKnown : Int32) (res : Int32 × (Nat → Int32)) (C0 : vz_Cx p s m meth c b_Sh_seifertRounds 7 (some .int) "LinkEngine$Shape" "seifertRounds" D [(cI, .int), (cJ, .long), (cB, .byte)] A args) (kb_12 : Int32 → Int32 → (Nat → Int32) → Option (Int32 × (Nat → Int32))) (hk_12 : ∀ (x2 : Int32) (x3 : Int32) (f_p0_scratch : Nat → Int32) (H : Heap) (locs : List Loc) (ls : Array Slot), kb_12 x2 x3 f_p0_scratch = some res → va_P D classes (ws_Sh_seifertRounds cI cJ cB q_p0 q_p0_key q_p0_name q_p0_from q_p0_to q_p0_edgeAt q_p0_componentOf q_p0_arcOf q_p0_pieceOf q_p0_faceOf q_p0_faceStart q_p0_faceSize q_p0_scratch q_p1 q_p1_sign q_p1_label q_p1_shape i_p0_edges i_p0_components i_p0_pieces i_p0_faces i_p0_brokenRule i_p0_culprit f_p0_edgeAt f_p0_scratch f_p0_to i_p1_count i_p1_circles i_p1_shapeIsKnown f_p1_sign) H → va_D A (ws_Sh_seifertRounds cI cJ cB q_p0 q_p0_key q_p0_name q_p0_from q_p0_to q_p0_edgeAt q_p0_componentOf q_p0_arcOf q_p0_pieceOf q_p0_faceOf q_p0_faceStart q_p0_faceSize q_p0_scratch q_p1 q_p1_sign q_p1_label q_p1_shape i_p0_edges i_p0_components i_p0_pieces i_p0_faces i_p0_brokenRule i_p0_culprit f_p0_edgeAt f_p0_scratch f_p0_to i_p1_count i_p1_circles i_p1_shapeIsKnown f_p1_sign) → va_S A s.heap H locs → lv_has ls 7 [(0, .ref q_p0), (1, .ref q_p1), (2, .int x2), (3, .int x3)] → W p l e rm_Sh_seifertRounds s m args below meth c H locs 0 0 (MQ below (va_Qi (fun (r : Int32) (w : va_W) => r = res.1 ∧ w = (ws_Sh_seifertRounds cI cJ cB q_p0 q_p0_key q_p0_name q_p0_from q_p0_to q_p0_edgeAt q_p0_componentOf q_p0_arcOf q_p0_pieceOf q_p0_faceOf q_p0_faceStart q_p0_faceSize q_p0_scratch q_p1 q_p1_sign q_p1_label q_p1_shape i_p0_edges i_p0_components i_p0_pieces i_p0_faces i_p0_brokenRule i_p0_culprit f_p0_edgeAt res.2 f_p0_to i_p1_count i_p1_circles i_p1_shapeIsKnown f_p1_sign)) (vz_B D A) A) args s 0 0 A) (F0 m 12 ls [])) : ∀ (x2 : Int32) (x3 : Int32) (f_p0_scratch : Nat → Int32) (H : Heap) (locs : List Loc) (ls : Array Slot), B_Sh_seifertRounds_117 fl i_p0_edges f_p0_edgeAt f_p0_to f_p1_sign kb_12 x2 x3 f_p0_scratch = some res → va_P D classes (ws_Sh_seifertRounds cI cJ cB q_p0 q_p0_key q_p0_name q_p0_from q_p0_to q_p0_edgeAt q_p0_componentOf q_p0_arcOf q_p0_pieceOf q_p0_faceOf q_p0_faceStart q_p0_faceSize q_p0_scratch q_p1 q_p1_sign q_p1_label q_p1_shape i_p0_edges i_p0_components i_p0_pieces i_p0_faces i_p0_brokenRule i_p0_culprit f_p0_edgeAt f_p0_scratch f_p0_to i_p1_count i_p1_circles i_p1_shapeIsKnown f_p1_sign) H → va_D A (ws_Sh_seifertRounds cI cJ cB q_p0 q_p0_key q_p0_name q_p0_from q_p0_to q_p0_edgeAt q_p0_componentOf q_p0_arcOf q_p0_pieceOf q_p0_faceOf q_p0_faceStart q_p0_faceSize q_p0_scratch q_p1 q_p1_sign q_p1_label q_p1_shape i_p0_edges i_p0_components i_p0_pieces i_p0_faces i_p0_brokenRule i_p0_culprit f_p0_edgeAt f_p0_scratch f_p0_to i_p1_count i_p1_circles i_p1_shapeIsKnown f_p1_sign) → va_S A s.heap H locs → lv_has ls 7 [(0, .ref q_p0), (1, .ref q_p1), (2, .int x2), (3, .int x3)] → W p l e rm_Sh_seifertRounds s m args below meth c H locs 0 0 (MQ below (va_Qi (fun (r : Int32) (w : va_W) => r = res.1 ∧ w = (ws_Sh_seifertRounds cI cJ cB q_p0 q_p0_key q_p0_name q_p0_from q_p0_to q_p0_edgeAt q_p0_componentOf q_p0_arcOf q_p0_pieceOf q_p0_faceOf q_p0_faceStart q_p0_faceSize q_p0_scratch q_p1 q_p1_sign q_p1_label q_p1_shape i_p0_edges i_p0_components i_p0_pieces i_p0_faces i_p0_brokenRule i_p0_culprit f_p0_edgeAt res.2 f_p0_to i_p1_count i_p1_circles i_p1_shapeIsKnown f_p1_sign)) (vz_B D A) A) args s 0 0 A) (F0 m 117 ls []) := by
  obtain ⟨hx, hb, hr, hml, hown, ht, hlocks, hin, hN, hK, hA⟩ := id C0
  intro x2 x3 f_p0_scratch H locs ls hm hP hD hS hl
  unfold B_Sh_seifertRounds_117 at hm
  refine lv_iinc (v := (x3 + 1)) (lv' := [(3, .int (x3 + 1)), (0, .ref q_p0), (1, .ref q_p1), (2, .int x2)]) hx hb d_Sh_seifertRounds_117 hl (k := 3) rfl rfl (by decide) rfl (fun ls hl => ?_)
  refine lv_goto (tgt := 12) hx hb d_Sh_seifertRounds_120 (by decide) ?_
  exact hk_12 x2 (x3 + 1) f_p0_scratch _ _ _ hm hP hD hS (lv_sub hl [1, 2, 3, 0] rfl)
set_option maxHeartbeats 4000000 in
set_option maxRecDepth 100000 in
theorem w_Sh_seifertRounds_114 {p : Program} {l : Launch} {e : Env} {s : State} {m : MethodId} {args : Array Value} {below : List Frame} {meth : Method} {c : Code} {D : va_G} {cI cJ cB : ClassId} {A : Nat → Prop} (fl : Nat) (q_p0 : Nat) (q_p0_key : Nat) (q_p0_name : Nat) (q_p0_from : Nat) (q_p0_to : Nat) (q_p0_edgeAt : Nat) (q_p0_componentOf : Nat) (q_p0_arcOf : Nat) (q_p0_pieceOf : Nat) (q_p0_faceOf : Nat) (q_p0_faceStart : Nat) (q_p0_faceSize : Nat) (q_p0_scratch : Nat) (q_p1 : Nat) (q_p1_sign : Nat) (q_p1_label : Nat) (q_p1_shape : Nat) (i_p0_edges : Int32) (f_p0_edgeAt : Nat → Int32) (f_p0_to : Nat → Int32) (f_p1_sign : Nat → Int32) (i_p0_components : Int32) (i_p0_pieces : Int32) (i_p0_faces : Int32) (i_p0_brokenRule : Int32) (i_p0_culprit : Int32) (i_p1_count : Int32) (i_p1_circles : Int32) (i_p1_shapeIsKnown : Int32) (res : Int32 × (Nat → Int32)) (C0 : vz_Cx p s m meth c b_Sh_seifertRounds 7 (some .int) "LinkEngine$Shape" "seifertRounds" D [(cI, .int), (cJ, .long), (cB, .byte)] A args) (kb_12 : Int32 → Int32 → (Nat → Int32) → Option (Int32 × (Nat → Int32))) (hk_12 : ∀ (x2 : Int32) (x3 : Int32) (f_p0_scratch : Nat → Int32) (H : Heap) (locs : List Loc) (ls : Array Slot), kb_12 x2 x3 f_p0_scratch = some res → va_P D classes (ws_Sh_seifertRounds cI cJ cB q_p0 q_p0_key q_p0_name q_p0_from q_p0_to q_p0_edgeAt q_p0_componentOf q_p0_arcOf q_p0_pieceOf q_p0_faceOf q_p0_faceStart q_p0_faceSize q_p0_scratch q_p1 q_p1_sign q_p1_label q_p1_shape i_p0_edges i_p0_components i_p0_pieces i_p0_faces i_p0_brokenRule i_p0_culprit f_p0_edgeAt f_p0_scratch f_p0_to i_p1_count i_p1_circles i_p1_shapeIsKnown f_p1_sign) H → va_D A (ws_Sh_seifertRounds cI cJ cB q_p0 q_p0_key q_p0_name q_p0_from q_p0_to q_p0_edgeAt q_p0_componentOf q_p0_arcOf q_p0_pieceOf q_p0_faceOf q_p0_faceStart q_p0_faceSize q_p0_scratch q_p1 q_p1_sign q_p1_label q_p1_shape i_p0_edges i_p0_components i_p0_pieces i_p0_faces i_p0_brokenRule i_p0_culprit f_p0_edgeAt f_p0_scratch f_p0_to i_p1_count i_p1_circles i_p1_shapeIsKnown f_p1_sign) → va_S A s.heap H locs → lv_has ls 7 [(0, .ref q_p0), (1, .ref q_p1), (2, .int x2), (3, .int x3)] → W p l e rm_Sh_seifertRounds s m args below meth c H locs 0 0 (MQ below (va_Qi (fun (r : Int32) (w : va_W) => r = res.1 ∧ w = (ws_Sh_seifertRounds cI cJ cB q_p0 q_p0_key q_p0_name q_p0_from q_p0_to q_p0_edgeAt q_p0_componentOf q_p0_arcOf q_p0_pieceOf q_p0_faceOf q_p0_faceStart q_p0_faceSize q_p0_scratch q_p1 q_p1_sign q_p1_label q_p1_shape i_p0_edges i_p0_components i_p0_pieces i_p0_faces i_p0_brokenRule i_p0_culprit f_p0_edgeAt res.2 f_p0_to i_p1_count i_p1_circles i_p1_shapeIsKnown f_p1_sign)) (vz_B D A) A) args s 0 0 A) (F0 m 12 ls [])) : ∀ (x2 : Int32) (x3 : Int32) (x4 : Int32) (x5 : Int32) (f_p0_scratch : Nat → Int32) (H : Heap) (locs : List Loc) (ls : Array Slot), B_Sh_seifertRounds_114 fl i_p0_edges f_p0_edgeAt f_p0_to f_p1_sign kb_12 x2 x3 x4 x5 f_p0_scratch = some res → va_P D classes (ws_Sh_seifertRounds cI cJ cB q_p0 q_p0_key q_p0_name q_p0_from q_p0_to q_p0_edgeAt q_p0_componentOf q_p0_arcOf q_p0_pieceOf q_p0_faceOf q_p0_faceStart q_p0_faceSize q_p0_scratch q_p1 q_p1_sign q_p1_label q_p1_shape i_p0_edges i_p0_components i_p0_pieces i_p0_faces i_p0_brokenRule i_p0_culprit f_p0_edgeAt f_p0_scratch f_p0_to i_p1_count i_p1_circles i_p1_shapeIsKnown f_p1_sign) H → va_D A (ws_Sh_seifertRounds cI cJ cB q_p0 q_p0_key q_p0_name q_p0_from q_p0_to q_p0_edgeAt q_p0_componentOf q_p0_arcOf q_p0_pieceOf q_p0_faceOf q_p0_faceStart q_p0_faceSize q_p0_scratch q_p1 q_p1_sign q_p1_label q_p1_shape i_p0_edges i_p0_components i_p0_pieces i_p0_faces i_p0_brokenRule i_p0_culprit f_p0_edgeAt f_p0_scratch f_p0_to i_p1_count i_p1_circles i_p1_shapeIsKnown f_p1_sign) → va_S A s.heap H locs → lv_has ls 7 [(0, .ref q_p0), (1, .ref q_p1), (2, .int x2), (3, .int x3), (4, .int x4), (5, .int x5)] → W p l e rm_Sh_seifertRounds s m args below meth c H locs 0 0 (MQ below (va_Qi (fun (r : Int32) (w : va_W) => r = res.1 ∧ w = (ws_Sh_seifertRounds cI cJ cB q_p0 q_p0_key q_p0_name q_p0_from q_p0_to q_p0_edgeAt q_p0_componentOf q_p0_arcOf q_p0_pieceOf q_p0_faceOf q_p0_faceStart q_p0_faceSize q_p0_scratch q_p1 q_p1_sign q_p1_label q_p1_shape i_p0_edges i_p0_components i_p0_pieces i_p0_faces i_p0_brokenRule i_p0_culprit f_p0_edgeAt res.2 f_p0_to i_p1_count i_p1_circles i_p1_shapeIsKnown f_p1_sign)) (vz_B D A) A) args s 0 0 A) (F0 m 114 ls []) := by
  obtain ⟨hx, hb, hr, hml, hown, ht, hlocks, hin, hN, hK, hA⟩ := id C0
  intro x2 x3 x4 x5 f_p0_scratch H locs ls hm hP hD hS hl
  unfold B_Sh_seifertRounds_114 at hm
  refine lv_iinc (v := (x2 + 1)) (lv' := [(2, .int (x2 + 1)), (0, .ref q_p0), (1, .ref q_p1), (3, .int x3), (4, .int x4), (5, .int x5)]) hx hb d_Sh_seifertRounds_114 hl (k := 2) rfl rfl (by decide) rfl (fun ls hl => ?_)
  exact w_Sh_seifertRounds_117 fl q_p0 q_p0_key q_p0_name q_p0_from q_p0_to q_p0_edgeAt q_p0_componentOf q_p0_arcOf q_p0_pieceOf q_p0_faceOf q_p0_faceStart q_p0_faceSize q_p0_scratch q_p1 q_p1_sign q_p1_label q_p1_shape i_p0_edges f_p0_edgeAt f_p0_to f_p1_sign i_p0_components i_p0_pieces i_p0_faces i_p0_brokenRule i_p0_culprit i_p1_count i_p1_circles i_p1_shapeIsKnown res C0 kb_12 hk_12 (x2 + 1) x3 f_p0_scratch _ _ _ hm hP hD hS (lv_sub hl [1, 2, 0, 3] rfl)
set_option maxHeartbeats 4000000 in
set_option maxRecDepth 100000 in
theorem w_Sh_seifertRounds_105 {p : Program} {l : Launch} {e : Env} {s : State} {m : MethodId} {args : Array Value} {below : List Frame} {meth : Method} {c : Code} {D : va_G} {cI cJ cB : ClassId} {A : Nat → Prop} (fl : Nat) (q_p0 : Nat) (q_p0_key : Nat) (q_p0_name : Nat) (q_p0_from : Nat) (q_p0_to : Nat) (q_p0_edgeAt : Nat) (q_p0_componentOf : Nat) (q_p0_arcOf : Nat) (q_p0_pieceOf : Nat) (q_p0_faceOf : Nat) (q_p0_faceStart : Nat) (q_p0_faceSize : Nat) (q_p0_scratch : Nat) (q_p1 : Nat) (q_p1_sign : Nat) (q_p1_label : Nat) (q_p1_shape : Nat) (i_p0_edges : Int32) (f_p0_edgeAt : Nat → Int32) (f_p0_to : Nat → Int32) (f_p1_sign : Nat → Int32) (i_p0_components : Int32) (i_p0_pieces : Int32) (i_p0_faces : Int32) (i_p0_brokenRule : Int32) (i_p0_culprit : Int32) (i_p1_count : Int32) (i_p1_circles : Int32) (i_p1_shapeIsKnown : Int32) (res : Int32 × (Nat → Int32)) (C0 : vz_Cx p s m meth c b_Sh_seifertRounds 7 (some .int) "LinkEngine$Shape" "seifertRounds" D [(cI, .int), (cJ, .long), (cB, .byte)] A args) (kb_12 : Int32 → Int32 → (Nat → Int32) → Option (Int32 × (Nat → Int32))) (hk_12 : ∀ (x2 : Int32) (x3 : Int32) (f_p0_scratch : Nat → Int32) (H : Heap) (locs : List Loc) (ls : Array Slot), kb_12 x2 x3 f_p0_scratch = some res → va_P D classes (ws_Sh_seifertRounds cI cJ cB q_p0 q_p0_key q_p0_name q_p0_from q_p0_to q_p0_edgeAt q_p0_componentOf q_p0_arcOf q_p0_pieceOf q_p0_faceOf q_p0_faceStart q_p0_faceSize q_p0_scratch q_p1 q_p1_sign q_p1_label q_p1_shape i_p0_edges i_p0_components i_p0_pieces i_p0_faces i_p0_brokenRule i_p0_culprit f_p0_edgeAt f_p0_scratch f_p0_to i_p1_count i_p1_circles i_p1_shapeIsKnown f_p1_sign) H → va_D A (ws_Sh_seifertRounds cI cJ cB q_p0 q_p0_key q_p0_name q_p0_from q_p0_to q_p0_edgeAt q_p0_componentOf q_p0_arcOf q_p0_pieceOf q_p0_faceOf q_p0_faceStart q_p0_faceSize q_p0_scratch q_p1 q_p1_sign q_p1_label q_p1_shape i_p0_edges i_p0_components i_p0_pieces i_p0_faces i_p0_brokenRule i_p0_culprit f_p0_edgeAt f_p0_scratch f_p0_to i_p1_count i_p1_circles i_p1_shapeIsKnown f_p1_sign) → va_S A s.heap H locs → lv_has ls 7 [(0, .ref q_p0), (1, .ref q_p1), (2, .int x2), (3, .int x3)] → W p l e rm_Sh_seifertRounds s m args below meth c H locs 0 0 (MQ below (va_Qi (fun (r : Int32) (w : va_W) => r = res.1 ∧ w = (ws_Sh_seifertRounds cI cJ cB q_p0 q_p0_key q_p0_name q_p0_from q_p0_to q_p0_edgeAt q_p0_componentOf q_p0_arcOf q_p0_pieceOf q_p0_faceOf q_p0_faceStart q_p0_faceSize q_p0_scratch q_p1 q_p1_sign q_p1_label q_p1_shape i_p0_edges i_p0_components i_p0_pieces i_p0_faces i_p0_brokenRule i_p0_culprit f_p0_edgeAt res.2 f_p0_to i_p1_count i_p1_circles i_p1_shapeIsKnown f_p1_sign)) (vz_B D A) A) args s 0 0 A) (F0 m 12 ls [])) (kb_35 : Int32 → Int32 → Int32 → Int32 → (Nat → Int32) → Option (Int32 × (Nat → Int32))) (hk_35 : ∀ (x2 : Int32) (x3 : Int32) (x4 : Int32) (x5 : Int32) (f_p0_scratch : Nat → Int32) (H : Heap) (locs : List Loc) (ls : Array Slot), kb_35 x2 x3 x4 x5 f_p0_scratch = some res → va_P D classes (ws_Sh_seifertRounds cI cJ cB q_p0 q_p0_key q_p0_name q_p0_from q_p0_to q_p0_edgeAt q_p0_componentOf q_p0_arcOf q_p0_pieceOf q_p0_faceOf q_p0_faceStart q_p0_faceSize q_p0_scratch q_p1 q_p1_sign q_p1_label q_p1_shape i_p0_edges i_p0_components i_p0_pieces i_p0_faces i_p0_brokenRule i_p0_culprit f_p0_edgeAt f_p0_scratch f_p0_to i_p1_count i_p1_circles i_p1_shapeIsKnown f_p1_sign) H → va_D A (ws_Sh_seifertRounds cI cJ cB q_p0 q_p0_key q_p0_name q_p0_from q_p0_to q_p0_edgeAt q_p0_componentOf q_p0_arcOf q_p0_pieceOf q_p0_faceOf q_p0_faceStart q_p0_faceSize q_p0_scratch q_p1 q_p1_sign q_p1_label q_p1_shape i_p0_edges i_p0_components i_p0_pieces i_p0_faces i_p0_brokenRule i_p0_culprit f_p0_edgeAt f_p0_scratch f_p0_to i_p1_count i_p1_circles i_p1_shapeIsKnown f_p1_sign) → va_S A s.heap H locs → lv_has ls 7 [(0, .ref q_p0), (1, .ref q_p1), (2, .int x2), (3, .int x3), (4, .int x4), (5, .int x5)] → W p l e rm_Sh_seifertRounds s m args below meth c H locs 0 0 (MQ below (va_Qi (fun (r : Int32) (w : va_W) => r = res.1 ∧ w = (ws_Sh_seifertRounds cI cJ cB q_p0 q_p0_key q_p0_name q_p0_from q_p0_to q_p0_edgeAt q_p0_componentOf q_p0_arcOf q_p0_pieceOf q_p0_faceOf q_p0_faceStart q_p0_faceSize q_p0_scratch q_p1 q_p1_sign q_p1_label q_p1_shape i_p0_edges i_p0_components i_p0_pieces i_p0_faces i_p0_brokenRule i_p0_culprit f_p0_edgeAt res.2 f_p0_to i_p1_count i_p1_circles i_p1_shapeIsKnown f_p1_sign)) (vz_B D A) A) args s 0 0 A) (F0 m 35 ls [])) : ∀ (s0 : Int32) (x2 : Int32) (x3 : Int32) (x4 : Int32) (x5 : Int32) (x6 : Int32) (f_p0_scratch : Nat → Int32) (H : Heap) (locs : List Loc) (ls : Array Slot), B_Sh_seifertRounds_105 fl i_p0_edges f_p0_edgeAt f_p0_to f_p1_sign kb_12 kb_35 s0 x2 x3 x4 x5 x6 f_p0_scratch = some res → va_P D classes (ws_Sh_seifertRounds cI cJ cB q_p0 q_p0_key q_p0_name q_p0_from q_p0_to q_p0_edgeAt q_p0_componentOf q_p0_arcOf q_p0_pieceOf q_p0_faceOf q_p0_faceStart q_p0_faceSize q_p0_scratch q_p1 q_p1_sign q_p1_label q_p1_shape i_p0_edges i_p0_components i_p0_pieces i_p0_faces i_p0_brokenRule i_p0_culprit f_p0_edgeAt f_p0_scratch f_p0_to i_p1_count i_p1_circles i_p1_shapeIsKnown f_p1_sign) H → va_D A (ws_Sh_seifertRounds cI cJ cB q_p0 q_p0_key q_p0_name q_p0_from q_p0_to q_p0_edgeAt q_p0_componentOf q_p0_arcOf q_p0_pieceOf q_p0_faceOf q_p0_faceStart q_p0_faceSize q_p0_scratch q_p1 q_p1_sign q_p1_label q_p1_shape i_p0_edges i_p0_components i_p0_pieces i_p0_faces i_p0_brokenRule i_p0_culprit f_p0_edgeAt f_p0_scratch f_p0_to i_p1_count i_p1_circles i_p1_shapeIsKnown f_p1_sign) → va_S A s.heap H locs → lv_has ls 7 [(0, .ref q_p0), (1, .ref q_p1), (2, .int x2), (3, .int x3), (4, .int x4), (5, .int x5), (6, .int x6)] → W p l e rm_Sh_seifertRounds s m args below meth c H locs 0 0 (MQ below (va_Qi (fun (r : Int32) (w : va_W) => r = res.1 ∧ w = (ws_Sh_seifertRounds cI cJ cB q_p0 q_p0_key q_p0_name q_p0_from q_p0_to q_p0_edgeAt q_p0_componentOf q_p0_arcOf q_p0_pieceOf q_p0_faceOf q_p0_faceStart q_p0_faceSize q_p0_scratch q_p1 q_p1_sign q_p1_label q_p1_shape i_p0_edges i_p0_components i_p0_pieces i_p0_faces i_p0_brokenRule i_p0_culprit f_p0_edgeAt res.2 f_p0_to i_p1_count i_p1_circles i_p1_shapeIsKnown f_p1_sign)) (vz_B D A) A) args s 0 0 A) (F0 m 105 ls [.int s0, .ref q_p0_edgeAt]) := by
  obtain ⟨hx, hb, hr, hml, hown, ht, hlocks, hin, hN, hK, hA⟩ := id C0
  intro s0 x2 x3 x4 x5 x6 f_p0_scratch H locs ls hm hP hD hS hl
  unfold B_Sh_seifertRounds_105 at hm
  obtain ⟨hg, hm⟩ := vz_guard hm
  refine va_iald hx hb hK hP 1 0 rfl rfl hg d_Sh_seifertRounds_105 ?_
  refine lv_istore (lv' := [(4, .int (f_p0_edgeAt (Int32.toNatClampNeg s0))), (0, .ref q_p0), (1, .ref q_p1), (2, .int x2), (3, .int x3), (5, .int x5), (6, .int x6)]) hx hb d_Sh_seifertRounds_106 hl (by decide) rfl (fun ls hl => ?_)
  refine lv_iinc (v := (x5 + 1)) (lv' := [(5, .int (x5 + 1)), (4, .int (f_p0_edgeAt (Int32.toNatClampNeg s0))), (0, .ref q_p0), (1, .ref q_p1), (2, .int x2), (3, .int x3), (6, .int x6)]) hx hb d_Sh_seifertRounds_108 hl (k := 5) rfl rfl (by decide) rfl (fun ls hl => ?_)
  refine lv_goto (tgt := 35) hx hb d_Sh_seifertRounds_111 (by decide) ?_
  exact hk_35 x2 x3 (f_p0_edgeAt (Int32.toNatClampNeg s0)) (x5 + 1) f_p0_scratch _ _ _ hm hP hD hS (lv_sub hl [2, 3, 4, 5, 1, 0] rfl)
set_option maxHeartbeats 4000000 in
set_option maxRecDepth 100000 in
theorem w_Sh_seifertRounds_35 {p : Program} {l : Launch} {e : Env} {s : State} {m : MethodId} {args : Array Value} {below : List Frame} {meth : Method} {c : Code} {D : va_G} {cI cJ cB : ClassId} {A : Nat → Prop} (fl : Nat) (q_p0 : Nat) (q_p0_key : Nat) (q_p0_name : Nat) (q_p0_from : Nat) (q_p0_to : Nat) (q_p0_edgeAt : Nat) (q_p0_componentOf : Nat) (q_p0_arcOf : Nat) (q_p0_pieceOf : Nat) (q_p0_faceOf : Nat) (q_p0_faceStart : Nat) (q_p0_faceSize : Nat) (q_p0_scratch : Nat) (q_p1 : Nat) (q_p1_sign : Nat) (q_p1_label : Nat) (q_p1_shape : Nat) (i_p0_edges : Int32) (f_p0_edgeAt : Nat → Int32) (f_p0_to : Nat → Int32) (f_p1_sign : Nat → Int32) (i_p0_components : Int32) (i_p0_pieces : Int32) (i_p0_faces : Int32) (i_p0_brokenRule : Int32) (i_p0_culprit : Int32) (i_p1_count : Int32) (i_p1_circles : Int32) (i_p1_shapeIsKnown : Int32) (res : Int32 × (Nat → Int32)) (C0 : vz_Cx p s m meth c b_Sh_seifertRounds 7 (some .int) "LinkEngine$Shape" "seifertRounds" D [(cI, .int), (cJ, .long), (cB, .byte)] A args) (kb_12 : Int32 → Int32 → (Nat → Int32) → Option (Int32 × (Nat → Int32))) (hk_12 : ∀ (x2 : Int32) (x3 : Int32) (f_p0_scratch : Nat → Int32) (H : Heap) (locs : List Loc) (ls : Array Slot), kb_12 x2 x3 f_p0_scratch = some res → va_P D classes (ws_Sh_seifertRounds cI cJ cB q_p0 q_p0_key q_p0_name q_p0_from q_p0_to q_p0_edgeAt q_p0_componentOf q_p0_arcOf q_p0_pieceOf q_p0_faceOf q_p0_faceStart q_p0_faceSize q_p0_scratch q_p1 q_p1_sign q_p1_label q_p1_shape i_p0_edges i_p0_components i_p0_pieces i_p0_faces i_p0_brokenRule i_p0_culprit f_p0_edgeAt f_p0_scratch f_p0_to i_p1_count i_p1_circles i_p1_shapeIsKnown f_p1_sign) H → va_D A (ws_Sh_seifertRounds cI cJ cB q_p0 q_p0_key q_p0_name q_p0_from q_p0_to q_p0_edgeAt q_p0_componentOf q_p0_arcOf q_p0_pieceOf q_p0_faceOf q_p0_faceStart q_p0_faceSize q_p0_scratch q_p1 q_p1_sign q_p1_label q_p1_shape i_p0_edges i_p0_components i_p0_pieces i_p0_faces i_p0_brokenRule i_p0_culprit f_p0_edgeAt f_p0_scratch f_p0_to i_p1_count i_p1_circles i_p1_shapeIsKnown f_p1_sign) → va_S A s.heap H locs → lv_has ls 7 [(0, .ref q_p0), (1, .ref q_p1), (2, .int x2), (3, .int x3)] → W p l e rm_Sh_seifertRounds s m args below meth c H locs 0 0 (MQ below (va_Qi (fun (r : Int32) (w : va_W) => r = res.1 ∧ w = (ws_Sh_seifertRounds cI cJ cB q_p0 q_p0_key q_p0_name q_p0_from q_p0_to q_p0_edgeAt q_p0_componentOf q_p0_arcOf q_p0_pieceOf q_p0_faceOf q_p0_faceStart q_p0_faceSize q_p0_scratch q_p1 q_p1_sign q_p1_label q_p1_shape i_p0_edges i_p0_components i_p0_pieces i_p0_faces i_p0_brokenRule i_p0_culprit f_p0_edgeAt res.2 f_p0_to i_p1_count i_p1_circles i_p1_shapeIsKnown f_p1_sign)) (vz_B D A) A) args s 0 0 A) (F0 m 12 ls [])) : ∀ (nn : Nat), ∀ (x2 : Int32) (x3 : Int32) (x4 : Int32) (x5 : Int32) (f_p0_scratch : Nat → Int32) (H : Heap) (locs : List Loc) (ls : Array Slot), B_Sh_seifertRounds_35 fl i_p0_edges f_p0_edgeAt f_p0_to f_p1_sign kb_12 nn x2 x3 x4 x5 f_p0_scratch = some res → va_P D classes (ws_Sh_seifertRounds cI cJ cB q_p0 q_p0_key q_p0_name q_p0_from q_p0_to q_p0_edgeAt q_p0_componentOf q_p0_arcOf q_p0_pieceOf q_p0_faceOf q_p0_faceStart q_p0_faceSize q_p0_scratch q_p1 q_p1_sign q_p1_label q_p1_shape i_p0_edges i_p0_components i_p0_pieces i_p0_faces i_p0_brokenRule i_p0_culprit f_p0_edgeAt f_p0_scratch f_p0_to i_p1_count i_p1_circles i_p1_shapeIsKnown f_p1_sign) H → va_D A (ws_Sh_seifertRounds cI cJ cB q_p0 q_p0_key q_p0_name q_p0_from q_p0_to q_p0_edgeAt q_p0_componentOf q_p0_arcOf q_p0_pieceOf q_p0_faceOf q_p0_faceStart q_p0_faceSize q_p0_scratch q_p1 q_p1_sign q_p1_label q_p1_shape i_p0_edges i_p0_components i_p0_pieces i_p0_faces i_p0_brokenRule i_p0_culprit f_p0_edgeAt f_p0_scratch f_p0_to i_p1_count i_p1_circles i_p1_shapeIsKnown f_p1_sign) → va_S A s.heap H locs → lv_has ls 7 [(0, .ref q_p0), (1, .ref q_p1), (2, .int x2), (3, .int x3), (4, .int x4), (5, .int x5)] → W p l e rm_Sh_seifertRounds s m args below meth c H locs 0 0 (MQ below (va_Qi (fun (r : Int32) (w : va_W) => r = res.1 ∧ w = (ws_Sh_seifertRounds cI cJ cB q_p0 q_p0_key q_p0_name q_p0_from q_p0_to q_p0_edgeAt q_p0_componentOf q_p0_arcOf q_p0_pieceOf q_p0_faceOf q_p0_faceStart q_p0_faceSize q_p0_scratch q_p1 q_p1_sign q_p1_label q_p1_shape i_p0_edges i_p0_components i_p0_pieces i_p0_faces i_p0_brokenRule i_p0_culprit f_p0_edgeAt res.2 f_p0_to i_p1_count i_p1_circles i_p1_shapeIsKnown f_p1_sign)) (vz_B D A) A) args s 0 0 A) (F0 m 35 ls []) := by
  obtain ⟨hx, hb, hr, hml, hown, ht, hlocks, hin, hN, hK, hA⟩ := id C0
  intro nn
  induction nn with
  | zero =>
    intro x2 x3 x4 x5 f_p0_scratch H locs ls hm hP hD hS hl
    rw [B_Sh_seifertRounds_35] at hm
    cases hm
  | succ nn ih =>
    intro x2 x3 x4 x5 f_p0_scratch H locs ls hm hP hD hS hl
    rw [B_Sh_seifertRounds_35] at hm
    refine lv_iload hx hb d_Sh_seifertRounds_35 (lv_at hl 5 rfl) ?_
    refine lv_aload_n hx hb d_Sh_seifertRounds_37 rfl (lv_at hl 0 rfl) ?_
    refine va_get (D := D) (ci := 5) (v := .int i_p0_edges) (C := R_Sh) (T := F_Sh) (N := 18) hx hb ht i_Sh hown hK hP 0 rfl rfl 12 (Nat.le_of_ble_eq_true rfl) (ht _ m_219) (fun _ h9 => h9) rfl d_Sh_seifertRounds_38 ?_
    refine lv_icmp_ge (tgt := 114) hx hb d_Sh_seifertRounds_41 (by decide) (fun hc => ?_) (fun hc => ?_)
    · rw [if_pos hc] at hm
      exact w_Sh_seifertRounds_114 fl q_p0 q_p0_key q_p0_name q_p0_from q_p0_to q_p0_edgeAt q_p0_componentOf q_p0_arcOf q_p0_pieceOf q_p0_faceOf q_p0_faceStart q_p0_faceSize q_p0_scratch q_p1 q_p1_sign q_p1_label q_p1_shape i_p0_edges f_p0_edgeAt f_p0_to f_p1_sign i_p0_components i_p0_pieces i_p0_faces i_p0_brokenRule i_p0_culprit i_p1_count i_p1_circles i_p1_shapeIsKnown res C0 kb_12 hk_12 x2 x3 x4 x5 f_p0_scratch _ _ _ hm hP hD hS (lv_sub hl [0, 1, 2, 3, 4, 5] rfl)
    · rw [if_neg hc] at hm
      refine lv_aload_n hx hb d_Sh_seifertRounds_44 rfl (lv_at hl 0 rfl) ?_
      refine va_get (D := D) (ci := 5) (v := .ref q_p0_scratch) (C := R_Sh) (T := F_Sh) (N := 18) hx hb ht i_Sh hown hK hP 0 rfl rfl 11 (Nat.le_of_ble_eq_true rfl) (ht _ m_43) (fun _ h9 => h9) rfl d_Sh_seifertRounds_45 ?_
      refine lv_iload hx hb d_Sh_seifertRounds_48 (lv_at hl 4 rfl) ?_
      obtain ⟨hg, hm⟩ := vz_guard hm
      refine va_iald hx hb hK hP 2 0 rfl rfl hg d_Sh_seifertRounds_50 ?_
      refine lv_if_ne (tgt := 114) hx hb d_Sh_seifertRounds_51 (by decide) (fun hc => ?_) (fun hc => ?_)
      · rw [if_pos hc] at hm
        exact w_Sh_seifertRounds_114 fl q_p0 q_p0_key q_p0_name q_p0_from q_p0_to q_p0_edgeAt q_p0_componentOf q_p0_arcOf q_p0_pieceOf q_p0_faceOf q_p0_faceStart q_p0_faceSize q_p0_scratch q_p1 q_p1_sign q_p1_label q_p1_shape i_p0_edges f_p0_edgeAt f_p0_to f_p1_sign i_p0_components i_p0_pieces i_p0_faces i_p0_brokenRule i_p0_culprit i_p1_count i_p1_circles i_p1_shapeIsKnown res C0 kb_12 hk_12 x2 x3 x4 x5 f_p0_scratch _ _ _ hm hP hD hS (lv_sub hl [0, 1, 2, 3, 4, 5] rfl)
      · rw [if_neg (fun q => q hc)] at hm
        refine lv_aload_n hx hb d_Sh_seifertRounds_54 rfl (lv_at hl 0 rfl) ?_
        refine va_get (D := D) (ci := 5) (v := .ref q_p0_scratch) (C := R_Sh) (T := F_Sh) (N := 18) hx hb ht i_Sh hown hK hP 0 rfl rfl 11 (Nat.le_of_ble_eq_true rfl) (ht _ m_43) (fun _ h9 => h9) rfl d_Sh_seifertRounds_55 ?_
        refine lv_iload hx hb d_Sh_seifertRounds_58 (lv_at hl 4 rfl) ?_
        refine lv_iconst (v := 1) hx hb d_Sh_seifertRounds_60 (by decide) ?_
        obtain ⟨hg, hm⟩ := vz_guard hm
        refine va_iast hx hb hK hP hD hS 2 0 rfl rfl hg d_Sh_seifertRounds_61 (fun H locs hP hD hS => ?_)
        have hP : va_P D classes (ws_Sh_seifertRounds cI cJ cB q_p0 q_p0_key q_p0_name q_p0_from q_p0_to q_p0_edgeAt q_p0_componentOf q_p0_arcOf q_p0_pieceOf q_p0_faceOf q_p0_faceStart q_p0_faceSize q_p0_scratch q_p1 q_p1_sign q_p1_label q_p1_shape i_p0_edges i_p0_components i_p0_pieces i_p0_faces i_p0_brokenRule i_p0_culprit f_p0_edgeAt (upd f_p0_scratch (Int32.toNatClampNeg x4) 1) f_p0_to i_p1_count i_p1_circles i_p1_shapeIsKnown f_p1_sign) H := hP
        have hD : va_D A (ws_Sh_seifertRounds cI cJ cB q_p0 q_p0_key q_p0_name q_p0_from q_p0_to q_p0_edgeAt q_p0_componentOf q_p0_arcOf q_p0_pieceOf q_p0_faceOf q_p0_faceStart q_p0_faceSize q_p0_scratch q_p1 q_p1_sign q_p1_label q_p1_shape i_p0_edges i_p0_components i_p0_pieces i_p0_faces i_p0_brokenRule i_p0_culprit f_p0_edgeAt (upd f_p0_scratch (Int32.toNatClampNeg x4) 1) f_p0_to i_p1_count i_p1_circles i_p1_shapeIsKnown f_p1_sign) := hD
        refine lv_aload_n hx hb d_Sh_seifertRounds_62 rfl (lv_at hl 0 rfl) ?_
        refine va_get (D := D) (ci := 5) (v := .ref q_p0_to) (C := R_Sh) (T := F_Sh) (N := 18) hx hb ht i_Sh hown hK hP 0 rfl rfl 3 (Nat.le_of_ble_eq_true rfl) (ht _ m_35) (fun _ h9 => h9) rfl d_Sh_seifertRounds_63 ?_
        refine lv_iload hx hb d_Sh_seifertRounds_66 (lv_at hl 4 rfl) ?_
        obtain ⟨hg, hm⟩ := vz_guard hm
        refine va_iald hx hb hK hP 3 0 rfl rfl hg d_Sh_seifertRounds_68 ?_
        refine lv_iconst (v := 2) hx hb d_Sh_seifertRounds_69 (by decide) ?_
        refine lv_ishr hx hb d_Sh_seifertRounds_70 ?_
        refine lv_istore (lv' := [(6, .int ((f_p0_to (Int32.toNatClampNeg x4)) >>> ((2 : Int32) &&& 31))), (0, .ref q_p0), (1, .ref q_p1), (2, .int x2), (3, .int x3), (4, .int x4), (5, .int x5)]) hx hb d_Sh_seifertRounds_71 hl (by decide) rfl (fun ls hl => ?_)
        refine lv_aload_n hx hb d_Sh_seifertRounds_73 rfl (lv_at hl 1 rfl) ?_
        refine va_get (D := D) (ci := 5) (v := .ref q_p0_edgeAt) (C := R_Sh) (T := F_Sh) (N := 18) hx hb ht i_Sh hown hK hP 0 rfl rfl 4 (Nat.le_of_ble_eq_true rfl) (ht _ m_36) (fun _ h9 => h9) rfl d_Sh_seifertRounds_74 ?_
        refine lv_aload_n hx hb d_Sh_seifertRounds_77 rfl (lv_at hl 1 rfl) ?_
        refine va_get (D := D) (ci := 5) (v := .ref q_p0_to) (C := R_Sh) (T := F_Sh) (N := 18) hx hb ht i_Sh hown hK hP 0 rfl rfl 3 (Nat.le_of_ble_eq_true rfl) (ht _ m_35) (fun _ h9 => h9) rfl d_Sh_seifertRounds_78 ?_
        refine lv_iload hx hb d_Sh_seifertRounds_81 (lv_at hl 5 rfl) ?_
        obtain ⟨hg, hm⟩ := vz_guard hm
        refine va_iald hx hb hK hP 3 0 rfl rfl hg d_Sh_seifertRounds_83 ?_
        obtain ⟨o0, ho0, hm⟩ := vz_bind hm
        try dsimp only at hm
        refine vz_callSi (n := 1) (As := [.int (f_p0_to (Int32.toNatClampNeg x4))]) (rest := [.ref q_p0_edgeAt]) (wc := (ws_Sh_isUpper cI cJ cB )) (wr := (ws_Sh_seifertRounds cI cJ cB q_p0 q_p0_key q_p0_name q_p0_from q_p0_to q_p0_edgeAt q_p0_componentOf q_p0_arcOf q_p0_pieceOf q_p0_faceOf q_p0_faceStart q_p0_faceSize q_p0_scratch q_p1 q_p1_sign q_p1_label q_p1_shape i_p0_edges i_p0_components i_p0_pieces i_p0_faces i_p0_brokenRule i_p0_culprit f_p0_edgeAt (upd f_p0_scratch (Int32.toNatClampNeg x4) 1) f_p0_to i_p1_count i_p1_circles i_p1_shapeIsKnown f_p1_sign)) (k1 := 0) (n1 := 0) hx hb hml hown ht hN hK hP hD hS hA (k_Sh_isUpper l D cI cJ cB fl   (f_p0_to (Int32.toNatClampNeg x4)) o0 ho0) m_355 m_54 m_353 m_354 (by decide +kernel) ⟨Nat.le_of_ble_eq_true rfl, Nat.le_of_ble_eq_true rfl⟩ [] [0, 1, 2, 3, 4, 5] rfl rfl (by decide) (by decide) (by decide) rfl hl.1 rfl (Nat.le_of_ble_eq_true rfl) rfl rfl ⟨Nat.zero_le _, Nat.zero_le _⟩ d_Sh_seifertRounds_84 (fun r1 w1 H locs hw hP hD hS => ?_)
        obtain ⟨hr1, rfl⟩ := hw
        have hr1 := hr1.symm
        subst hr1
        have hP : va_P D classes (ws_Sh_seifertRounds cI cJ cB q_p0 q_p0_key q_p0_name q_p0_from q_p0_to q_p0_edgeAt q_p0_componentOf q_p0_arcOf q_p0_pieceOf q_p0_faceOf q_p0_faceStart q_p0_faceSize q_p0_scratch q_p1 q_p1_sign q_p1_label q_p1_shape i_p0_edges i_p0_components i_p0_pieces i_p0_faces i_p0_brokenRule i_p0_culprit f_p0_edgeAt (upd f_p0_scratch (Int32.toNatClampNeg x4) 1) f_p0_to i_p1_count i_p1_circles i_p1_shapeIsKnown f_p1_sign) H := hP.sub [0, 1, 2, 3, 4, 5] rfl
        have hD : va_D A (ws_Sh_seifertRounds cI cJ cB q_p0 q_p0_key q_p0_name q_p0_from q_p0_to q_p0_edgeAt q_p0_componentOf q_p0_arcOf q_p0_pieceOf q_p0_faceOf q_p0_faceStart q_p0_faceSize q_p0_scratch q_p1 q_p1_sign q_p1_label q_p1_shape i_p0_edges i_p0_components i_p0_pieces i_p0_faces i_p0_brokenRule i_p0_culprit f_p0_edgeAt (upd f_p0_scratch (Int32.toNatClampNeg x4) 1) f_p0_to i_p1_count i_p1_circles i_p1_shapeIsKnown f_p1_sign) := hD.sub [0, 1, 2, 3, 4, 5] (by decide) rfl
        refine lv_if_eq (tgt := 99) hx hb d_Sh_seifertRounds_87 (by decide) (fun hc => ?_) (fun hc => ?_)
        · rw [if_pos hc] at hm
          refine lv_aload_n hx hb d_Sh_seifertRounds_99 rfl (lv_at hl 2 rfl) ?_
          refine lv_iload hx hb d_Sh_seifertRounds_100 (lv_at hl 0 rfl) ?_
          obtain ⟨o1, ho1, hm⟩ := vz_bind hm
          try dsimp only at hm
          refine vz_callVi (n := 1) (As := [.int ((f_p0_to (Int32.toNatClampNeg x4)) >>> ((2 : Int32) &&& 31))]) (rest := [.ref q_p0_edgeAt]) (wc := (ws_Di_upperOut cI cJ cB q_p1 q_p1_sign q_p1_label q_p1_shape i_p1_count i_p1_circles i_p1_shapeIsKnown f_p1_sign)) (wr := [(q_p0, .inr (5, [.ref q_p0_key, .ref q_p0_name, .ref q_p0_from, .ref q_p0_to, .ref q_p0_edgeAt, .ref q_p0_componentOf, .ref q_p0_arcOf, .ref q_p0_pieceOf, .ref q_p0_faceOf, .ref q_p0_faceStart, .ref q_p0_faceSize, .ref q_p0_scratch, .int i_p0_edges, .int i_p0_components, .int i_p0_pieces, .int i_p0_faces, .int i_p0_brokenRule, .int i_p0_culprit])), (q_p0_edgeAt, .inl (cI, 80, .inl f_p0_edgeAt)), (q_p0_scratch, .inl (cI, 80, .inl (upd f_p0_scratch (Int32.toNatClampNeg x4) 1))), (q_p0_to, .inl (cI, 40, .inl f_p0_to))]) (k1 := 0) (n1 := 0) hx hb hml hown ht hN hK hP hD hS hA (k_Di_upperOut l D cI cJ cB fl q_p1 q_p1_sign q_p1_label q_p1_shape f_p1_sign i_p1_count i_p1_circles i_p1_shapeIsKnown ((f_p0_to (Int32.toNatClampNeg x4)) >>> ((2 : Int32) &&& 31)) o1 ho1) m_363 m_99 m_360 m_361 m_362 (hc := (rfl : classes[4]? = some (R_Di, F_Di, 6))) 4 rfl (by decide +kernel) ⟨Nat.le_of_ble_eq_true rfl, Nat.le_of_ble_eq_true rfl⟩ [4, 5] [0, 1, 2, 3] rfl rfl (by decide) (by decide) (by decide) rfl hl.1 rfl (Nat.le_of_ble_eq_true rfl) rfl rfl ⟨Nat.zero_le _, Nat.zero_le _⟩ d_Sh_seifertRounds_102 (fun r1 w1 H locs hw hP hD hS => ?_)
          obtain ⟨hr1, rfl⟩ := hw
          have hr1 := hr1.symm
          subst hr1
          have hP : va_P D classes (ws_Sh_seifertRounds cI cJ cB q_p0 q_p0_key q_p0_name q_p0_from q_p0_to q_p0_edgeAt q_p0_componentOf q_p0_arcOf q_p0_pieceOf q_p0_faceOf q_p0_faceStart q_p0_faceSize q_p0_scratch q_p1 q_p1_sign q_p1_label q_p1_shape i_p0_edges i_p0_components i_p0_pieces i_p0_faces i_p0_brokenRule i_p0_culprit f_p0_edgeAt (upd f_p0_scratch (Int32.toNatClampNeg x4) 1) f_p0_to i_p1_count i_p1_circles i_p1_shapeIsKnown f_p1_sign) H := hP.sub [0, 1, 2, 3, 4, 5] rfl
          have hD : va_D A (ws_Sh_seifertRounds cI cJ cB q_p0 q_p0_key q_p0_name q_p0_from q_p0_to q_p0_edgeAt q_p0_componentOf q_p0_arcOf q_p0_pieceOf q_p0_faceOf q_p0_faceStart q_p0_faceSize q_p0_scratch q_p1 q_p1_sign q_p1_label q_p1_shape i_p0_edges i_p0_components i_p0_pieces i_p0_faces i_p0_brokenRule i_p0_culprit f_p0_edgeAt (upd f_p0_scratch (Int32.toNatClampNeg x4) 1) f_p0_to i_p1_count i_p1_circles i_p1_shapeIsKnown f_p1_sign) := hD.sub [0, 1, 2, 3, 4, 5] (by decide) rfl
          exact w_Sh_seifertRounds_105 fl q_p0 q_p0_key q_p0_name q_p0_from q_p0_to q_p0_edgeAt q_p0_componentOf q_p0_arcOf q_p0_pieceOf q_p0_faceOf q_p0_faceStart q_p0_faceSize q_p0_scratch q_p1 q_p1_sign q_p1_label q_p1_shape i_p0_edges f_p0_edgeAt f_p0_to f_p1_sign i_p0_components i_p0_pieces i_p0_faces i_p0_brokenRule i_p0_culprit i_p1_count i_p1_circles i_p1_shapeIsKnown res C0 kb_12 hk_12 (B_Sh_seifertRounds_35 fl i_p0_edges f_p0_edgeAt f_p0_to f_p1_sign kb_12 nn) ih o1 x2 x3 x4 x5 ((f_p0_to (Int32.toNatClampNeg x4)) >>> ((2 : Int32) &&& 31)) (upd f_p0_scratch (Int32.toNatClampNeg x4) 1) _ _ _ hm hP hD hS (lv_sub hl [1, 2, 3, 4, 5, 6, 0] rfl)
        · rw [if_neg hc] at hm
          refine lv_iconst (v := 4) hx hb d_Sh_seifertRounds_90 (by decide) ?_
          refine lv_iload hx hb d_Sh_seifertRounds_91 (lv_at hl 0 rfl) ?_
          refine lv_imul hx hb d_Sh_seifertRounds_93 ?_
          refine lv_iconst (v := 2) hx hb d_Sh_seifertRounds_94 (by decide) ?_
          refine lv_iadd hx hb d_Sh_seifertRounds_95 ?_
          refine lv_goto (tgt := 105) hx hb d_Sh_seifertRounds_96 (by decide) ?_
          exact w_Sh_seifertRounds_105 fl q_p0 q_p0_key q_p0_name q_p0_from q_p0_to q_p0_edgeAt q_p0_componentOf q_p0_arcOf q_p0_pieceOf q_p0_faceOf q_p0_faceStart q_p0_faceSize q_p0_scratch q_p1 q_p1_sign q_p1_label q_p1_shape i_p0_edges f_p0_edgeAt f_p0_to f_p1_sign i_p0_components i_p0_pieces i_p0_faces i_p0_brokenRule i_p0_culprit i_p1_count i_p1_circles i_p1_shapeIsKnown res C0 kb_12 hk_12 (B_Sh_seifertRounds_35 fl i_p0_edges f_p0_edgeAt f_p0_to f_p1_sign kb_12 nn) ih (((4 : Int32) * ((f_p0_to (Int32.toNatClampNeg x4)) >>> ((2 : Int32) &&& 31))) + (2 : Int32)) x2 x3 x4 x5 ((f_p0_to (Int32.toNatClampNeg x4)) >>> ((2 : Int32) &&& 31)) (upd f_p0_scratch (Int32.toNatClampNeg x4) 1) _ _ _ hm hP hD hS (lv_sub hl [1, 2, 3, 4, 5, 6, 0] rfl)
set_option maxHeartbeats 4000000 in
set_option maxRecDepth 100000 in
theorem w_Sh_seifertRounds_12 {p : Program} {l : Launch} {e : Env} {s : State} {m : MethodId} {args : Array Value} {below : List Frame} {meth : Method} {c : Code} {D : va_G} {cI cJ cB : ClassId} {A : Nat → Prop} (fl : Nat) (q_p0 : Nat) (q_p0_key : Nat) (q_p0_name : Nat) (q_p0_from : Nat) (q_p0_to : Nat) (q_p0_edgeAt : Nat) (q_p0_componentOf : Nat) (q_p0_arcOf : Nat) (q_p0_pieceOf : Nat) (q_p0_faceOf : Nat) (q_p0_faceStart : Nat) (q_p0_faceSize : Nat) (q_p0_scratch : Nat) (q_p1 : Nat) (q_p1_sign : Nat) (q_p1_label : Nat) (q_p1_shape : Nat) (i_p0_edges : Int32) (f_p0_edgeAt : Nat → Int32) (f_p0_to : Nat → Int32) (f_p1_sign : Nat → Int32) (i_p0_components : Int32) (i_p0_pieces : Int32) (i_p0_faces : Int32) (i_p0_brokenRule : Int32) (i_p0_culprit : Int32) (i_p1_count : Int32) (i_p1_circles : Int32) (i_p1_shapeIsKnown : Int32) (res : Int32 × (Nat → Int32)) (C0 : vz_Cx p s m meth c b_Sh_seifertRounds 7 (some .int) "LinkEngine$Shape" "seifertRounds" D [(cI, .int), (cJ, .long), (cB, .byte)] A args) : ∀ (nn : Nat), ∀ (x2 : Int32) (x3 : Int32) (f_p0_scratch : Nat → Int32) (H : Heap) (locs : List Loc) (ls : Array Slot), B_Sh_seifertRounds_12 fl i_p0_edges f_p0_edgeAt f_p0_to f_p1_sign nn x2 x3 f_p0_scratch = some res → va_P D classes (ws_Sh_seifertRounds cI cJ cB q_p0 q_p0_key q_p0_name q_p0_from q_p0_to q_p0_edgeAt q_p0_componentOf q_p0_arcOf q_p0_pieceOf q_p0_faceOf q_p0_faceStart q_p0_faceSize q_p0_scratch q_p1 q_p1_sign q_p1_label q_p1_shape i_p0_edges i_p0_components i_p0_pieces i_p0_faces i_p0_brokenRule i_p0_culprit f_p0_edgeAt f_p0_scratch f_p0_to i_p1_count i_p1_circles i_p1_shapeIsKnown f_p1_sign) H → va_D A (ws_Sh_seifertRounds cI cJ cB q_p0 q_p0_key q_p0_name q_p0_from q_p0_to q_p0_edgeAt q_p0_componentOf q_p0_arcOf q_p0_pieceOf q_p0_faceOf q_p0_faceStart q_p0_faceSize q_p0_scratch q_p1 q_p1_sign q_p1_label q_p1_shape i_p0_edges i_p0_components i_p0_pieces i_p0_faces i_p0_brokenRule i_p0_culprit f_p0_edgeAt f_p0_scratch f_p0_to i_p1_count i_p1_circles i_p1_shapeIsKnown f_p1_sign) → va_S A s.heap H locs → lv_has ls 7 [(0, .ref q_p0), (1, .ref q_p1), (2, .int x2), (3, .int x3)] → W p l e rm_Sh_seifertRounds s m args below meth c H locs 0 0 (MQ below (va_Qi (fun (r : Int32) (w : va_W) => r = res.1 ∧ w = (ws_Sh_seifertRounds cI cJ cB q_p0 q_p0_key q_p0_name q_p0_from q_p0_to q_p0_edgeAt q_p0_componentOf q_p0_arcOf q_p0_pieceOf q_p0_faceOf q_p0_faceStart q_p0_faceSize q_p0_scratch q_p1 q_p1_sign q_p1_label q_p1_shape i_p0_edges i_p0_components i_p0_pieces i_p0_faces i_p0_brokenRule i_p0_culprit f_p0_edgeAt res.2 f_p0_to i_p1_count i_p1_circles i_p1_shapeIsKnown f_p1_sign)) (vz_B D A) A) args s 0 0 A) (F0 m 12 ls []) := by
  obtain ⟨hx, hb, hr, hml, hown, ht, hlocks, hin, hN, hK, hA⟩ := id C0
  intro nn
  induction nn with
  | zero =>
    intro x2 x3 f_p0_scratch H locs ls hm hP hD hS hl
    rw [B_Sh_seifertRounds_12] at hm
    cases hm
  | succ nn ih =>
    intro x2 x3 f_p0_scratch H locs ls hm hP hD hS hl
    rw [B_Sh_seifertRounds_12] at hm
    refine lv_iload_n hx hb d_Sh_seifertRounds_12 rfl (lv_at hl 3 rfl) ?_
    refine lv_aload_n hx hb d_Sh_seifertRounds_13 rfl (lv_at hl 0 rfl) ?_
    refine va_get (D := D) (ci := 5) (v := .int i_p0_edges) (C := R_Sh) (T := F_Sh) (N := 18) hx hb ht i_Sh hown hK hP 0 rfl rfl 12 (Nat.le_of_ble_eq_true rfl) (ht _ m_219) (fun _ h9 => h9) rfl d_Sh_seifertRounds_14 ?_
    refine lv_icmp_ge (tgt := 123) hx hb d_Sh_seifertRounds_17 (by decide) (fun hc => ?_) (fun hc => ?_)
    · rw [if_pos hc] at hm
      refine lv_iload_n hx hb d_Sh_seifertRounds_123 rfl (lv_at hl 2 rfl) ?_
      obtain rfl := Option.some.inj hm
      exact vz_iret hx hb hr rfl hlocks hP hD hS (Nat.le_refl _) (Nat.le_refl _) d_Sh_seifertRounds_124 ⟨rfl, rfl⟩
    · rw [if_neg hc] at hm
      refine lv_aload_n hx hb d_Sh_seifertRounds_20 rfl (lv_at hl 0 rfl) ?_
      refine va_get (D := D) (ci := 5) (v := .ref q_p0_scratch) (C := R_Sh) (T := F_Sh) (N := 18) hx hb ht i_Sh hown hK hP 0 rfl rfl 11 (Nat.le_of_ble_eq_true rfl) (ht _ m_43) (fun _ h9 => h9) rfl d_Sh_seifertRounds_21 ?_
      refine lv_iload_n hx hb d_Sh_seifertRounds_24 rfl (lv_at hl 3 rfl) ?_
      obtain ⟨hg, hm⟩ := vz_guard hm
      refine va_iald hx hb hK hP 2 0 rfl rfl hg d_Sh_seifertRounds_25 ?_
      refine lv_if_ne (tgt := 117) hx hb d_Sh_seifertRounds_26 (by decide) (fun hc => ?_) (fun hc => ?_)
      · rw [if_pos hc] at hm
        exact w_Sh_seifertRounds_117 fl q_p0 q_p0_key q_p0_name q_p0_from q_p0_to q_p0_edgeAt q_p0_componentOf q_p0_arcOf q_p0_pieceOf q_p0_faceOf q_p0_faceStart q_p0_faceSize q_p0_scratch q_p1 q_p1_sign q_p1_label q_p1_shape i_p0_edges f_p0_edgeAt f_p0_to f_p1_sign i_p0_components i_p0_pieces i_p0_faces i_p0_brokenRule i_p0_culprit i_p1_count i_p1_circles i_p1_shapeIsKnown res C0 (B_Sh_seifertRounds_12 fl i_p0_edges f_p0_edgeAt f_p0_to f_p1_sign nn) ih x2 x3 f_p0_scratch _ _ _ hm hP hD hS (lv_sub hl [0, 1, 2, 3] rfl)
      · rw [if_neg (fun q => q hc)] at hm
        refine lv_iload_n hx hb d_Sh_seifertRounds_29 rfl (lv_at hl 3 rfl) ?_
        refine lv_istore (lv' := [(4, .int x3), (0, .ref q_p0), (1, .ref q_p1), (2, .int x2), (3, .int x3)]) hx hb d_Sh_seifertRounds_30 hl (by decide) rfl (fun ls hl => ?_)
        refine lv_iconst (v := 0) hx hb d_Sh_seifertRounds_32 (by decide) ?_
        refine lv_istore (lv' := [(5, .int 0), (4, .int x3), (0, .ref q_p0), (1, .ref q_p1), (2, .int x2), (3, .int x3)]) hx hb d_Sh_seifertRounds_33 hl (by decide) rfl (fun ls hl => ?_)
        exact w_Sh_seifertRounds_35 fl q_p0 q_p0_key q_p0_name q_p0_from q_p0_to q_p0_edgeAt q_p0_componentOf q_p0_arcOf q_p0_pieceOf q_p0_faceOf q_p0_faceStart q_p0_faceSize q_p0_scratch q_p1 q_p1_sign q_p1_label q_p1_shape i_p0_edges f_p0_edgeAt f_p0_to f_p1_sign i_p0_components i_p0_pieces i_p0_faces i_p0_brokenRule i_p0_culprit i_p1_count i_p1_circles i_p1_shapeIsKnown res C0 (B_Sh_seifertRounds_12 fl i_p0_edges f_p0_edgeAt f_p0_to f_p1_sign nn) ih fl x2 x3 x3 0 f_p0_scratch _ _ _ hm hP hD hS (lv_sub hl [2, 3, 4, 5, 1, 0] rfl)
set_option maxHeartbeats 4000000 in
set_option maxRecDepth 100000 in
theorem w_Sh_seifertRounds_0 {p : Program} {l : Launch} {e : Env} {s : State} {m : MethodId} {args : Array Value} {below : List Frame} {meth : Method} {c : Code} {D : va_G} {cI cJ cB : ClassId} {A : Nat → Prop} (fl : Nat) (q_p0 : Nat) (q_p0_key : Nat) (q_p0_name : Nat) (q_p0_from : Nat) (q_p0_to : Nat) (q_p0_edgeAt : Nat) (q_p0_componentOf : Nat) (q_p0_arcOf : Nat) (q_p0_pieceOf : Nat) (q_p0_faceOf : Nat) (q_p0_faceStart : Nat) (q_p0_faceSize : Nat) (q_p0_scratch : Nat) (q_p1 : Nat) (q_p1_sign : Nat) (q_p1_label : Nat) (q_p1_shape : Nat) (i_p0_edges : Int32) (f_p0_edgeAt : Nat → Int32) (f_p0_to : Nat → Int32) (f_p1_sign : Nat → Int32) (i_p0_components : Int32) (i_p0_pieces : Int32) (i_p0_faces : Int32) (i_p0_brokenRule : Int32) (i_p0_culprit : Int32) (i_p1_count : Int32) (i_p1_circles : Int32) (i_p1_shapeIsKnown : Int32) (res : Int32 × (Nat → Int32)) (C0 : vz_Cx p s m meth c b_Sh_seifertRounds 7 (some .int) "LinkEngine$Shape" "seifertRounds" D [(cI, .int), (cJ, .long), (cB, .byte)] A args) : ∀ (f_p0_scratch : Nat → Int32) (H : Heap) (locs : List Loc) (ls : Array Slot), B_Sh_seifertRounds_0 fl i_p0_edges f_p0_edgeAt f_p0_to f_p1_sign f_p0_scratch = some res → va_P D classes (ws_Sh_seifertRounds cI cJ cB q_p0 q_p0_key q_p0_name q_p0_from q_p0_to q_p0_edgeAt q_p0_componentOf q_p0_arcOf q_p0_pieceOf q_p0_faceOf q_p0_faceStart q_p0_faceSize q_p0_scratch q_p1 q_p1_sign q_p1_label q_p1_shape i_p0_edges i_p0_components i_p0_pieces i_p0_faces i_p0_brokenRule i_p0_culprit f_p0_edgeAt f_p0_scratch f_p0_to i_p1_count i_p1_circles i_p1_shapeIsKnown f_p1_sign) H → va_D A (ws_Sh_seifertRounds cI cJ cB q_p0 q_p0_key q_p0_name q_p0_from q_p0_to q_p0_edgeAt q_p0_componentOf q_p0_arcOf q_p0_pieceOf q_p0_faceOf q_p0_faceStart q_p0_faceSize q_p0_scratch q_p1 q_p1_sign q_p1_label q_p1_shape i_p0_edges i_p0_components i_p0_pieces i_p0_faces i_p0_brokenRule i_p0_culprit f_p0_edgeAt f_p0_scratch f_p0_to i_p1_count i_p1_circles i_p1_shapeIsKnown f_p1_sign) → va_S A s.heap H locs → lv_has ls 7 [(0, .ref q_p0), (1, .ref q_p1)] → W p l e rm_Sh_seifertRounds s m args below meth c H locs 0 0 (MQ below (va_Qi (fun (r : Int32) (w : va_W) => r = res.1 ∧ w = (ws_Sh_seifertRounds cI cJ cB q_p0 q_p0_key q_p0_name q_p0_from q_p0_to q_p0_edgeAt q_p0_componentOf q_p0_arcOf q_p0_pieceOf q_p0_faceOf q_p0_faceStart q_p0_faceSize q_p0_scratch q_p1 q_p1_sign q_p1_label q_p1_shape i_p0_edges i_p0_components i_p0_pieces i_p0_faces i_p0_brokenRule i_p0_culprit f_p0_edgeAt res.2 f_p0_to i_p1_count i_p1_circles i_p1_shapeIsKnown f_p1_sign)) (vz_B D A) A) args s 0 0 A) (F0 m 0 ls []) := by
  obtain ⟨hx, hb, hr, hml, hown, ht, hlocks, hin, hN, hK, hA⟩ := id C0
  intro f_p0_scratch H locs ls hm hP hD hS hl
  unfold B_Sh_seifertRounds_0 at hm
  refine lv_iconst (v := 0) hx hb d_Sh_seifertRounds_0 (by decide) ?_
  refine lv_istore_n (lv' := [(2, .int 0), (0, .ref q_p0), (1, .ref q_p1)]) hx hb d_Sh_seifertRounds_1 rfl hl (by decide) rfl (fun ls hl => ?_)
  refine lv_aload_n hx hb d_Sh_seifertRounds_2 rfl (lv_at hl 1 rfl) ?_
  refine va_get (D := D) (ci := 5) (v := .ref q_p0_scratch) (C := R_Sh) (T := F_Sh) (N := 18) hx hb ht i_Sh hown hK hP 0 rfl rfl 11 (Nat.le_of_ble_eq_true rfl) (ht _ m_43) (fun _ h9 => h9) rfl d_Sh_seifertRounds_3 ?_
  refine lv_iconst (v := 0) hx hb d_Sh_seifertRounds_6 (by decide) ?_
  refine vz_callSv (n := 2) (As := [.ref q_p0_scratch, .int 0]) (rest := []) (wc := [(q_p0_scratch, .inl (cI, 80, .inl f_p0_scratch))]) (wr := [(q_p0, .inr (5, [.ref q_p0_key, .ref q_p0_name, .ref q_p0_from, .ref q_p0_to, .ref q_p0_edgeAt, .ref q_p0_componentOf, .ref q_p0_arcOf, .ref q_p0_pieceOf, .ref q_p0_faceOf, .ref q_p0_faceStart, .ref q_p0_faceSize, .ref q_p0_scratch, .int i_p0_edges, .int i_p0_components, .int i_p0_pieces, .int i_p0_faces, .int i_p0_brokenRule, .int i_p0_culprit])), (q_p0_edgeAt, .inl (cI, 80, .inl f_p0_edgeAt)), (q_p0_to, .inl (cI, 40, .inl f_p0_to)), (q_p1, .inr (4, [.ref q_p1_sign, .ref q_p1_label, .ref q_p1_shape, .int i_p1_count, .int i_p1_circles, .int i_p1_shapeIsKnown])), (q_p1_sign, .inl (cI, 20, .inl f_p1_sign))]) (k1 := 0) (n1 := 0) hx hb hml hown ht hN hK hP hD hS hA (k_fillI l D cI cJ cB q_p0_scratch 0 80 f_p0_scratch (by decide)) m_227 m_228 m_225 m_226 (by decide +kernel) ⟨Nat.le_of_ble_eq_true rfl, Nat.le_of_ble_eq_true rfl⟩ [2] [0, 1, 3, 4, 5] rfl rfl (by decide) (by decide) (by decide) rfl hl.1 rfl (Nat.le_of_ble_eq_true rfl) rfl rfl ⟨Nat.zero_le _, Nat.zero_le _⟩ d_Sh_seifertRounds_7 (fun w1 H locs hw hP hD hS => ?_)
  subst hw
  have hP : va_P D classes (ws_Sh_seifertRounds cI cJ cB q_p0 q_p0_key q_p0_name q_p0_from q_p0_to q_p0_edgeAt q_p0_componentOf q_p0_arcOf q_p0_pieceOf q_p0_faceOf q_p0_faceStart q_p0_faceSize q_p0_scratch q_p1 q_p1_sign q_p1_label q_p1_shape i_p0_edges i_p0_components i_p0_pieces i_p0_faces i_p0_brokenRule i_p0_culprit f_p0_edgeAt (fillF f_p0_scratch 80 0) f_p0_to i_p1_count i_p1_circles i_p1_shapeIsKnown f_p1_sign) H := hP.sub [0, 1, 5, 2, 3, 4] rfl
  have hD : va_D A (ws_Sh_seifertRounds cI cJ cB q_p0 q_p0_key q_p0_name q_p0_from q_p0_to q_p0_edgeAt q_p0_componentOf q_p0_arcOf q_p0_pieceOf q_p0_faceOf q_p0_faceStart q_p0_faceSize q_p0_scratch q_p1 q_p1_sign q_p1_label q_p1_shape i_p0_edges i_p0_components i_p0_pieces i_p0_faces i_p0_brokenRule i_p0_culprit f_p0_edgeAt (fillF f_p0_scratch 80 0) f_p0_to i_p1_count i_p1_circles i_p1_shapeIsKnown f_p1_sign) := hD.sub [0, 1, 5, 2, 3, 4] (by decide) rfl
  refine lv_iconst (v := 0) hx hb d_Sh_seifertRounds_10 (by decide) ?_
  refine lv_istore_n (lv' := [(3, .int 0), (2, .int 0), (0, .ref q_p0), (1, .ref q_p1)]) hx hb d_Sh_seifertRounds_11 rfl hl (by decide) rfl (fun ls hl => ?_)
  exact w_Sh_seifertRounds_12 fl q_p0 q_p0_key q_p0_name q_p0_from q_p0_to q_p0_edgeAt q_p0_componentOf q_p0_arcOf q_p0_pieceOf q_p0_faceOf q_p0_faceStart q_p0_faceSize q_p0_scratch q_p1 q_p1_sign q_p1_label q_p1_shape i_p0_edges f_p0_edgeAt f_p0_to f_p1_sign i_p0_components i_p0_pieces i_p0_faces i_p0_brokenRule i_p0_culprit i_p1_count i_p1_circles i_p1_shapeIsKnown res C0 fl 0 0 (fillF f_p0_scratch 80 0) _ _ _ hm hP hD hS (lv_sub hl [2, 3, 1, 0] rfl)
set_option maxHeartbeats 4000000 in
set_option maxRecDepth 100000 in
theorem k_Sh_seifertRounds (l : Launch) (D : va_G) (cI cJ cB : ClassId) (fl : Nat) (q_p0 : Nat) (q_p0_key : Nat) (q_p0_name : Nat) (q_p0_from : Nat) (q_p0_to : Nat) (q_p0_edgeAt : Nat) (q_p0_componentOf : Nat) (q_p0_arcOf : Nat) (q_p0_pieceOf : Nat) (q_p0_faceOf : Nat) (q_p0_faceStart : Nat) (q_p0_faceSize : Nat) (q_p0_scratch : Nat) (q_p1 : Nat) (q_p1_sign : Nat) (q_p1_label : Nat) (q_p1_shape : Nat) (i_p0_edges : Int32) (f_p0_edgeAt : Nat → Int32) (f_p0_to : Nat → Int32) (f_p1_sign : Nat → Int32) (i_p0_components : Int32) (i_p0_pieces : Int32) (i_p0_faces : Int32) (i_p0_brokenRule : Int32) (i_p0_culprit : Int32) (i_p1_count : Int32) (i_p1_circles : Int32) (i_p1_shapeIsKnown : Int32) (f_p0_scratch : Nat → Int32)  (res : Int32 × (Nat → Int32)) (hm : m_Sh_seifertRounds fl i_p0_edges f_p0_edgeAt f_p0_to f_p1_sign f_p0_scratch = some res) : MtI l y_Sh_seifertRounds (.code y_Sh_seifertRounds b_Sh_seifertRounds 7 (some .int) :: CW) rm_Sh_seifertRounds D [(cI, .int), (cJ, .long), (cB, .byte)] [.ref q_p0, .ref q_p1] (ws_Sh_seifertRounds cI cJ cB q_p0 q_p0_key q_p0_name q_p0_from q_p0_to q_p0_edgeAt q_p0_componentOf q_p0_arcOf q_p0_pieceOf q_p0_faceOf q_p0_faceStart q_p0_faceSize q_p0_scratch q_p1 q_p1_sign q_p1_label q_p1_shape i_p0_edges i_p0_components i_p0_pieces i_p0_faces i_p0_brokenRule i_p0_culprit f_p0_edgeAt f_p0_scratch f_p0_to i_p1_count i_p1_circles i_p1_shapeIsKnown f_p1_sign) (fun (r : Int32) (w : va_W) => r = res.1 ∧ w = (ws_Sh_seifertRounds cI cJ cB q_p0 q_p0_key q_p0_name q_p0_from q_p0_to q_p0_edgeAt q_p0_componentOf q_p0_arcOf q_p0_pieceOf q_p0_faceOf q_p0_faceStart q_p0_faceSize q_p0_scratch q_p1 q_p1_sign q_p1_label q_p1_shape i_p0_edges i_p0_components i_p0_pieces i_p0_faces i_p0_brokenRule i_p0_culprit f_p0_edgeAt res.2 f_p0_to i_p1_count i_p1_circles i_p1_shapeIsKnown f_p1_sign)) := by
  intro sz
  refine vz_start (Qc := fun A => va_Qi (fun (r : Int32) (w : va_W) => r = res.1 ∧ w = (ws_Sh_seifertRounds cI cJ cB q_p0 q_p0_key q_p0_name q_p0_from q_p0_to q_p0_edgeAt q_p0_componentOf q_p0_arcOf q_p0_pieceOf q_p0_faceOf q_p0_faceStart q_p0_faceSize q_p0_scratch q_p1 q_p1_sign q_p1_label q_p1_shape i_p0_edges i_p0_components i_p0_pieces i_p0_faces i_p0_brokenRule i_p0_culprit f_p0_edgeAt res.2 f_p0_to i_p1_count i_p1_circles i_p1_shapeIsKnown f_p1_sign)) (vz_B D A) A) (lv0 := [(0, .ref q_p0), (1, .ref q_p1)]) (by decide +kernel) (Nat.le_of_ble_eq_true rfl) rfl ?_
  intro p e s m below meth c A ls C0 hl
  obtain ⟨hx, hb, hr, hml, hown, ht, hlocks, hin, hN, hK, hP, hD, hA, hS⟩ := C0
  exact w_Sh_seifertRounds_0 fl q_p0 q_p0_key q_p0_name q_p0_from q_p0_to q_p0_edgeAt q_p0_componentOf q_p0_arcOf q_p0_pieceOf q_p0_faceOf q_p0_faceStart q_p0_faceSize q_p0_scratch q_p1 q_p1_sign q_p1_label q_p1_shape i_p0_edges f_p0_edgeAt f_p0_to f_p1_sign i_p0_components i_p0_pieces i_p0_faces i_p0_brokenRule i_p0_culprit i_p1_count i_p1_circles i_p1_shapeIsKnown res ⟨hx, hb, hr, hml, hown, ht, hlocks, hin, hN, hK, hA⟩ f_p0_scratch s.heap [] ls hm hP hD hS (lv_sub hl [0, 1] rfl)
def ws_Di_sumOfSigns (cI cJ cB : ClassId) (q_p0 : Nat) (q_p0_sign : Nat) (q_p0_label : Nat) (q_p0_shape : Nat) (i_p0_count : Int32) (i_p0_circles : Int32) (i_p0_shapeIsKnown : Int32) (f_p0_sign : Nat → Int32) : va_W := [(q_p0, .inr (4, [.ref q_p0_sign, .ref q_p0_label, .ref q_p0_shape, .int i_p0_count, .int i_p0_circles, .int i_p0_shapeIsKnown])), (q_p0_sign, .inl (cI, 20, .inl f_p0_sign))]
def rm_Di_sumOfSigns : Room := { frames := 0, cells := 0, slots := 0, locals := 0 }
def B_Di_sumOfSigns_4 (fl : Nat) (i_p0_count : Int32) (f_p0_sign : Nat → Int32) : Nat → Int32 → Int32 → Option (Int32)
  | 0, _, _ => none
  | nn + 1, x1, x2 => (if i_p0_count ≤ x2 then (some x1) else (if ¬ (x2 < 0 ∨ 20 ≤ Int32.toNatClampNeg x2) then B_Di_sumOfSigns_4 fl i_p0_count f_p0_sign nn (x1 + (f_p0_sign (Int32.toNatClampNeg x2))) (x2 + 1) else none))
def B_Di_sumOfSigns_0 (fl : Nat) (i_p0_count : Int32) (f_p0_sign : Nat → Int32) : Option (Int32) := B_Di_sumOfSigns_4 fl i_p0_count f_p0_sign fl 0 0
def m_Di_sumOfSigns (fl : Nat) (i_p0_count : Int32) (f_p0_sign : Nat → Int32) : Option (Int32) := B_Di_sumOfSigns_0 fl i_p0_count f_p0_sign
set_option maxHeartbeats 4000000 in
set_option maxRecDepth 100000 in
theorem w_Di_sumOfSigns_4 {p : Program} {l : Launch} {e : Env} {s : State} {m : MethodId} {args : Array Value} {below : List Frame} {meth : Method} {c : Code} {D : va_G} {cI cJ cB : ClassId} {A : Nat → Prop} (fl : Nat) (q_p0 : Nat) (q_p0_sign : Nat) (q_p0_label : Nat) (q_p0_shape : Nat) (i_p0_count : Int32) (f_p0_sign : Nat → Int32) (i_p0_circles : Int32) (i_p0_shapeIsKnown : Int32) (res : Int32) (C0 : vz_Cx p s m meth c b_Di_sumOfSigns 3 (some .int) "LinkEngine$Diagram" "sumOfSigns" D [(cI, .int), (cJ, .long), (cB, .byte)] A args) : ∀ (nn : Nat), ∀ (x1 : Int32) (x2 : Int32) (H : Heap) (locs : List Loc) (ls : Array Slot), B_Di_sumOfSigns_4 fl i_p0_count f_p0_sign nn x1 x2 = some res → va_P D classes (ws_Di_sumOfSigns cI cJ cB q_p0 q_p0_sign q_p0_label q_p0_shape i_p0_count i_p0_circles i_p0_shapeIsKnown f_p0_sign) H → va_D A (ws_Di_sumOfSigns cI cJ cB q_p0 q_p0_sign q_p0_label q_p0_shape i_p0_count i_p0_circles i_p0_shapeIsKnown f_p0_sign) → va_S A s.heap H locs → lv_has ls 3 [(0, .ref q_p0), (1, .int x1), (2, .int x2)] → W p l e rm_Di_sumOfSigns s m args below meth c H locs 0 0 (MQ below (va_Qi (fun (r : Int32) (w : va_W) => r = res ∧ w = (ws_Di_sumOfSigns cI cJ cB q_p0 q_p0_sign q_p0_label q_p0_shape i_p0_count i_p0_circles i_p0_shapeIsKnown f_p0_sign)) (vz_B D A) A) args s 0 0 A) (F0 m 4 ls []) := by
  obtain ⟨hx, hb, hr, hml, hown, ht, hlocks, hin, hN, hK, hA⟩ := id C0
  intro nn
  induction nn with
  | zero =>
    intro x1 x2 H locs ls hm hP hD hS hl
    rw [B_Di_sumOfSigns_4] at hm
    cases hm
  | succ nn ih =>
    intro x1 x2 H locs ls hm hP hD hS hl
    rw [B_Di_sumOfSigns_4] at hm
    refine lv_iload_n hx hb d_Di_sumOfSigns_4 rfl (lv_at hl 2 rfl) ?_
    refine lv_aload_n hx hb d_Di_sumOfSigns_5 rfl (lv_at hl 0 rfl) ?_
    refine va_get (D := D) (ci := 4) (v := .int i_p0_count) (C := R_Di) (T := F_Di) (N := 6) hx hb ht i_Di hown hK hP 0 rfl rfl 3 (Nat.le_of_ble_eq_true rfl) (ht _ m_238) (fun _ h9 => h9) rfl d_Di_sumOfSigns_6 ?_
    refine lv_icmp_ge (tgt := 27) hx hb d_Di_sumOfSigns_9 (by decide) (fun hc => ?_) (fun hc => ?_)
    · rw [if_pos hc] at hm
      refine lv_iload_n hx hb d_Di_sumOfSigns_27 rfl (lv_at hl 1 rfl) ?_
      obtain rfl := Option.some.inj hm
      exact vz_iret hx hb hr rfl hlocks hP hD hS (Nat.le_refl _) (Nat.le_refl _) d_Di_sumOfSigns_28 ⟨rfl, rfl⟩
    · rw [if_neg hc] at hm
      refine lv_iload_n hx hb d_Di_sumOfSigns_12 rfl (lv_at hl 1 rfl) ?_
      refine lv_aload_n hx hb d_Di_sumOfSigns_13 rfl (lv_at hl 0 rfl) ?_
      refine va_get (D := D) (ci := 4) (v := .ref q_p0_sign) (C := R_Di) (T := F_Di) (N := 6) hx hb ht i_Di hown hK hP 0 rfl rfl 0 (Nat.le_of_ble_eq_true rfl) (ht _ m_50) (fun _ h9 => h9) rfl d_Di_sumOfSigns_14 ?_
      refine lv_iload_n hx hb d_Di_sumOfSigns_17 rfl (lv_at hl 2 rfl) ?_
      obtain ⟨hg, hm⟩ := vz_guard hm
      refine va_iald hx hb hK hP 1 0 rfl rfl hg d_Di_sumOfSigns_18 ?_
      refine lv_iadd hx hb d_Di_sumOfSigns_19 ?_
      refine lv_istore_n (lv' := [(1, .int (x1 + (f_p0_sign (Int32.toNatClampNeg x2)))), (0, .ref q_p0), (2, .int x2)]) hx hb d_Di_sumOfSigns_20 rfl hl (by decide) rfl (fun ls hl => ?_)
      refine lv_iinc (v := (x2 + 1)) (lv' := [(2, .int (x2 + 1)), (1, .int (x1 + (f_p0_sign (Int32.toNatClampNeg x2)))), (0, .ref q_p0)]) hx hb d_Di_sumOfSigns_21 hl (k := 2) rfl rfl (by decide) rfl (fun ls hl => ?_)
      refine lv_goto (tgt := 4) hx hb d_Di_sumOfSigns_24 (by decide) ?_
      exact ih (x1 + (f_p0_sign (Int32.toNatClampNeg x2))) (x2 + 1) _ _ _ hm hP hD hS (lv_sub hl [2, 1, 0] rfl)
set_option maxHeartbeats 4000000 in
set_option maxRecDepth 100000 in
theorem w_Di_sumOfSigns_0 {p : Program} {l : Launch} {e : Env} {s : State} {m : MethodId} {args : Array Value} {below : List Frame} {meth : Method} {c : Code} {D : va_G} {cI cJ cB : ClassId} {A : Nat → Prop} (fl : Nat) (q_p0 : Nat) (q_p0_sign : Nat) (q_p0_label : Nat) (q_p0_shape : Nat) (i_p0_count : Int32) (f_p0_sign : Nat → Int32) (i_p0_circles : Int32) (i_p0_shapeIsKnown : Int32) (res : Int32) (C0 : vz_Cx p s m meth c b_Di_sumOfSigns 3 (some .int) "LinkEngine$Diagram" "sumOfSigns" D [(cI, .int), (cJ, .long), (cB, .byte)] A args) : ∀ (H : Heap) (locs : List Loc) (ls : Array Slot), B_Di_sumOfSigns_0 fl i_p0_count f_p0_sign = some res → va_P D classes (ws_Di_sumOfSigns cI cJ cB q_p0 q_p0_sign q_p0_label q_p0_shape i_p0_count i_p0_circles i_p0_shapeIsKnown f_p0_sign) H → va_D A (ws_Di_sumOfSigns cI cJ cB q_p0 q_p0_sign q_p0_label q_p0_shape i_p0_count i_p0_circles i_p0_shapeIsKnown f_p0_sign) → va_S A s.heap H locs → lv_has ls 3 [(0, .ref q_p0)] → W p l e rm_Di_sumOfSigns s m args below meth c H locs 0 0 (MQ below (va_Qi (fun (r : Int32) (w : va_W) => r = res ∧ w = (ws_Di_sumOfSigns cI cJ cB q_p0 q_p0_sign q_p0_label q_p0_shape i_p0_count i_p0_circles i_p0_shapeIsKnown f_p0_sign)) (vz_B D A) A) args s 0 0 A) (F0 m 0 ls []) := by
  obtain ⟨hx, hb, hr, hml, hown, ht, hlocks, hin, hN, hK, hA⟩ := id C0
  intro H locs ls hm hP hD hS hl
  unfold B_Di_sumOfSigns_0 at hm
  refine lv_iconst (v := 0) hx hb d_Di_sumOfSigns_0 (by decide) ?_
  refine lv_istore_n (lv' := [(1, .int 0), (0, .ref q_p0)]) hx hb d_Di_sumOfSigns_1 rfl hl (by decide) rfl (fun ls hl => ?_)
  refine lv_iconst (v := 0) hx hb d_Di_sumOfSigns_2 (by decide) ?_
  refine lv_istore_n (lv' := [(2, .int 0), (1, .int 0), (0, .ref q_p0)]) hx hb d_Di_sumOfSigns_3 rfl hl (by decide) rfl (fun ls hl => ?_)
  exact w_Di_sumOfSigns_4 fl q_p0 q_p0_sign q_p0_label q_p0_shape i_p0_count f_p0_sign i_p0_circles i_p0_shapeIsKnown res C0 fl 0 0 _ _ _ hm hP hD hS (lv_sub hl [2, 1, 0] rfl)
set_option maxHeartbeats 4000000 in
set_option maxRecDepth 100000 in
theorem k_Di_sumOfSigns (l : Launch) (D : va_G) (cI cJ cB : ClassId) (fl : Nat) (q_p0 : Nat) (q_p0_sign : Nat) (q_p0_label : Nat) (q_p0_shape : Nat) (i_p0_count : Int32) (f_p0_sign : Nat → Int32) (i_p0_circles : Int32) (i_p0_shapeIsKnown : Int32)  (res : Int32) (hm : m_Di_sumOfSigns fl i_p0_count f_p0_sign = some res) : MtI l y_Di_sumOfSigns (.code y_Di_sumOfSigns b_Di_sumOfSigns 3 (some .int) :: CW) rm_Di_sumOfSigns D [(cI, .int), (cJ, .long), (cB, .byte)] [.ref q_p0] (ws_Di_sumOfSigns cI cJ cB q_p0 q_p0_sign q_p0_label q_p0_shape i_p0_count i_p0_circles i_p0_shapeIsKnown f_p0_sign) (fun (r : Int32) (w : va_W) => r = res ∧ w = (ws_Di_sumOfSigns cI cJ cB q_p0 q_p0_sign q_p0_label q_p0_shape i_p0_count i_p0_circles i_p0_shapeIsKnown f_p0_sign)) := by
  intro sz
  refine vz_start (Qc := fun A => va_Qi (fun (r : Int32) (w : va_W) => r = res ∧ w = (ws_Di_sumOfSigns cI cJ cB q_p0 q_p0_sign q_p0_label q_p0_shape i_p0_count i_p0_circles i_p0_shapeIsKnown f_p0_sign)) (vz_B D A) A) (lv0 := [(0, .ref q_p0)]) (by decide +kernel) (Nat.le_of_ble_eq_true rfl) rfl ?_
  intro p e s m below meth c A ls C0 hl
  obtain ⟨hx, hb, hr, hml, hown, ht, hlocks, hin, hN, hK, hP, hD, hA, hS⟩ := C0
  exact w_Di_sumOfSigns_0 fl q_p0 q_p0_sign q_p0_label q_p0_shape i_p0_count f_p0_sign i_p0_circles i_p0_shapeIsKnown res ⟨hx, hb, hr, hml, hown, ht, hlocks, hin, hN, hK, hA⟩  s.heap [] ls hm hP hD hS (lv_sub hl [0] rfl)
def ws_Sh_isAlternating (cI cJ cB : ClassId) (q_p0 : Nat) (q_p0_key : Nat) (q_p0_name : Nat) (q_p0_from : Nat) (q_p0_to : Nat) (q_p0_edgeAt : Nat) (q_p0_componentOf : Nat) (q_p0_arcOf : Nat) (q_p0_pieceOf : Nat) (q_p0_faceOf : Nat) (q_p0_faceStart : Nat) (q_p0_faceSize : Nat) (q_p0_scratch : Nat) (i_p0_edges : Int32) (i_p0_components : Int32) (i_p0_pieces : Int32) (i_p0_faces : Int32) (i_p0_brokenRule : Int32) (i_p0_culprit : Int32) (f_p0_from : Nat → Int32) (f_p0_to : Nat → Int32) : va_W := [(q_p0, .inr (5, [.ref q_p0_key, .ref q_p0_name, .ref q_p0_from, .ref q_p0_to, .ref q_p0_edgeAt, .ref q_p0_componentOf, .ref q_p0_arcOf, .ref q_p0_pieceOf, .ref q_p0_faceOf, .ref q_p0_faceStart, .ref q_p0_faceSize, .ref q_p0_scratch, .int i_p0_edges, .int i_p0_components, .int i_p0_pieces, .int i_p0_faces, .int i_p0_brokenRule, .int i_p0_culprit])), (q_p0_from, .inl (cI, 40, .inl f_p0_from)), (q_p0_to, .inl (cI, 40, .inl f_p0_to))]
def rm_Sh_isAlternating : Room := { frames := 1, cells := 0, slots := 0, locals := 20 }
def B_Sh_isAlternating_2 (fl : Nat) (i_p0_edges : Int32) (f_p0_from : Nat → Int32) (f_p0_to : Nat → Int32) : Nat → Int32 → Option (Int32)
  | 0, _ => none
  | nn + 1, x1 => (if i_p0_edges ≤ x1 then (some 1) else (if ¬ (x1 < 0 ∨ 40 ≤ Int32.toNatClampNeg x1) then ((m_Sh_isUpper fl (f_p0_from (Int32.toNatClampNeg x1))).bind fun o0 => (if ¬ (x1 < 0 ∨ 40 ≤ Int32.toNatClampNeg x1) then ((m_Sh_isUpper fl (f_p0_to (Int32.toNatClampNeg x1))).bind fun o1 => (if ¬ o0 = o1 then B_Sh_isAlternating_2 fl i_p0_edges f_p0_from f_p0_to nn (x1 + 1) else (some 0))) else none)) else none))
def B_Sh_isAlternating_0 (fl : Nat) (i_p0_edges : Int32) (f_p0_from : Nat → Int32) (f_p0_to : Nat → Int32) : Option (Int32) := B_Sh_isAlternating_2 fl i_p0_edges f_p0_from f_p0_to fl 0
def m_Sh_isAlternating (fl : Nat) (i_p0_edges : Int32) (f_p0_from : Nat → Int32) (f_p0_to : Nat → Int32) : Option (Int32) := B_Sh_isAlternating_0 fl i_p0_edges f_p0_from f_p0_to
set_option maxHeartbeats 4000000 in
set_option maxRecDepth 100000 in
theorem w_Sh_isAlternating_2 {p : Program} {l : Launch} {e : Env} {s : State} {m : MethodId} {args : Array Value} {below : List Frame} {meth : Method} {c : Code} {D : va_G} {cI cJ cB : ClassId} {A : Nat → Prop} (fl : Nat) (q_p0 : Nat) (q_p0_key : Nat) (q_p0_name : Nat) (q_p0_from : Nat) (q_p0_to : Nat) (q_p0_edgeAt : Nat) (q_p0_componentOf : Nat) (q_p0_arcOf : Nat) (q_p0_pieceOf : Nat) (q_p0_faceOf : Nat) (q_p0_faceStart : Nat) (q_p0_faceSize : Nat) (q_p0_scratch : Nat) (i_p0_edges : Int32) (f_p0_from : Nat → Int32) (f_p0_to : Nat → Int32) (i_p0_components : Int32) (i_p0_pieces : Int32) (i_p0_faces : Int32) (i_p0_brokenRule : Int32) (i_p0_culprit : Int32) (res : Int32) (C0 : vz_Cx p s m meth c b_Sh_isAlternating 2 (some .boolean) "LinkEngine$Shape" "isAlternating" D [(cI, .int), (cJ, .long), (cB, .byte)] A args) : ∀ (nn : Nat), ∀ (x1 : Int32) (H : Heap) (locs : List Loc) (ls : Array Slot), B_Sh_isAlternating_2 fl i_p0_edges f_p0_from f_p0_to nn x1 = some res → va_P D classes (ws_Sh_isAlternating cI cJ cB q_p0 q_p0_key q_p0_name q_p0_from q_p0_to q_p0_edgeAt q_p0_componentOf q_p0_arcOf q_p0_pieceOf q_p0_faceOf q_p0_faceStart q_p0_faceSize q_p0_scratch i_p0_edges i_p0_components i_p0_pieces i_p0_faces i_p0_brokenRule i_p0_culprit f_p0_from f_p0_to) H → va_D A (ws_Sh_isAlternating cI cJ cB q_p0 q_p0_key q_p0_name q_p0_from q_p0_to q_p0_edgeAt q_p0_componentOf q_p0_arcOf q_p0_pieceOf q_p0_faceOf q_p0_faceStart q_p0_faceSize q_p0_scratch i_p0_edges i_p0_components i_p0_pieces i_p0_faces i_p0_brokenRule i_p0_culprit f_p0_from f_p0_to) → va_S A s.heap H locs → lv_has ls 2 [(0, .ref q_p0), (1, .int x1)] → W p l e rm_Sh_isAlternating s m args below meth c H locs 0 0 (MQ below (va_Qi (fun (r : Int32) (w : va_W) => r = res ∧ w = (ws_Sh_isAlternating cI cJ cB q_p0 q_p0_key q_p0_name q_p0_from q_p0_to q_p0_edgeAt q_p0_componentOf q_p0_arcOf q_p0_pieceOf q_p0_faceOf q_p0_faceStart q_p0_faceSize q_p0_scratch i_p0_edges i_p0_components i_p0_pieces i_p0_faces i_p0_brokenRule i_p0_culprit f_p0_from f_p0_to)) (vz_B D A) A) args s 0 0 A) (F0 m 2 ls []) := by
  obtain ⟨hx, hb, hr, hml, hown, ht, hlocks, hin, hN, hK, hA⟩ := id C0
  intro nn
  induction nn with
  | zero =>
    intro x1 H locs ls hm hP hD hS hl
    rw [B_Sh_isAlternating_2] at hm
    cases hm
  | succ nn ih =>
    intro x1 H locs ls hm hP hD hS hl
    rw [B_Sh_isAlternating_2] at hm
    refine lv_iload_n hx hb d_Sh_isAlternating_2 rfl (lv_at hl 1 rfl) ?_
    refine lv_aload_n hx hb d_Sh_isAlternating_3 rfl (lv_at hl 0 rfl) ?_
    refine va_get (D := D) (ci := 5) (v := .int i_p0_edges) (C := R_Sh) (T := F_Sh) (N := 18) hx hb ht i_Sh hown hK hP 0 rfl rfl 12 (Nat.le_of_ble_eq_true rfl) (ht _ m_219) (fun _ h9 => h9) rfl d_Sh_isAlternating_4 ?_
    refine lv_icmp_ge (tgt := 39) hx hb d_Sh_isAlternating_7 (by decide) (fun hc => ?_) (fun hc => ?_)
    · rw [if_pos hc] at hm
      refine lv_iconst (v := 1) hx hb d_Sh_isAlternating_39 (by decide) ?_
      obtain rfl := Option.some.inj hm
      exact vz_iret hx hb hr rfl hlocks hP hD hS (Nat.le_refl _) (Nat.le_refl _) d_Sh_isAlternating_40 ⟨rfl, rfl⟩
    · rw [if_neg hc] at hm
      refine lv_aload_n hx hb d_Sh_isAlternating_10 rfl (lv_at hl 0 rfl) ?_
      refine va_get (D := D) (ci := 5) (v := .ref q_p0_from) (C := R_Sh) (T := F_Sh) (N := 18) hx hb ht i_Sh hown hK hP 0 rfl rfl 2 (Nat.le_of_ble_eq_true rfl) (ht _ m_34) (fun _ h9 => h9) rfl d_Sh_isAlternating_11 ?_
      refine lv_iload_n hx hb d_Sh_isAlternating_14 rfl (lv_at hl 1 rfl) ?_
      obtain ⟨hg, hm⟩ := vz_guard hm
      refine va_iald hx hb hK hP 1 0 rfl rfl hg d_Sh_isAlternating_15 ?_
      obtain ⟨o0, ho0, hm⟩ := vz_bind hm
      try dsimp only at hm
      refine vz_callSi (n := 1) (As := [.int (f_p0_from (Int32.toNatClampNeg x1))]) (rest := []) (wc := (ws_Sh_isUpper cI cJ cB )) (wr := (ws_Sh_isAlternating cI cJ cB q_p0 q_p0_key q_p0_name q_p0_from q_p0_to q_p0_edgeAt q_p0_componentOf q_p0_arcOf q_p0_pieceOf q_p0_faceOf q_p0_faceStart q_p0_faceSize q_p0_scratch i_p0_edges i_p0_components i_p0_pieces i_p0_faces i_p0_brokenRule i_p0_culprit f_p0_from f_p0_to)) (k1 := 0) (n1 := 0) hx hb hml hown ht hN hK hP hD hS hA (k_Sh_isUpper l D cI cJ cB fl   (f_p0_from (Int32.toNatClampNeg x1)) o0 ho0) m_355 m_54 m_353 m_354 (by decide +kernel) ⟨Nat.le_of_ble_eq_true rfl, Nat.le_of_ble_eq_true rfl⟩ [] [0, 1, 2] rfl rfl (by decide) (by decide) (by decide) rfl hl.1 rfl (Nat.le_of_ble_eq_true rfl) rfl rfl ⟨Nat.zero_le _, Nat.zero_le _⟩ d_Sh_isAlternating_16 (fun r1 w1 H locs hw hP hD hS => ?_)
      obtain ⟨hr1, rfl⟩ := hw
      have hr1 := hr1.symm
      subst hr1
      have hP : va_P D classes (ws_Sh_isAlternating cI cJ cB q_p0 q_p0_key q_p0_name q_p0_from q_p0_to q_p0_edgeAt q_p0_componentOf q_p0_arcOf q_p0_pieceOf q_p0_faceOf q_p0_faceStart q_p0_faceSize q_p0_scratch i_p0_edges i_p0_components i_p0_pieces i_p0_faces i_p0_brokenRule i_p0_culprit f_p0_from f_p0_to) H := hP.sub [0, 1, 2] rfl
      have hD : va_D A (ws_Sh_isAlternating cI cJ cB q_p0 q_p0_key q_p0_name q_p0_from q_p0_to q_p0_edgeAt q_p0_componentOf q_p0_arcOf q_p0_pieceOf q_p0_faceOf q_p0_faceStart q_p0_faceSize q_p0_scratch i_p0_edges i_p0_components i_p0_pieces i_p0_faces i_p0_brokenRule i_p0_culprit f_p0_from f_p0_to) := hD.sub [0, 1, 2] (by decide) rfl
      refine lv_aload_n hx hb d_Sh_isAlternating_19 rfl (lv_at hl 0 rfl) ?_
      refine va_get (D := D) (ci := 5) (v := .ref q_p0_to) (C := R_Sh) (T := F_Sh) (N := 18) hx hb ht i_Sh hown hK hP 0 rfl rfl 3 (Nat.le_of_ble_eq_true rfl) (ht _ m_35) (fun _ h9 => h9) rfl d_Sh_isAlternating_20 ?_
      refine lv_iload_n hx hb d_Sh_isAlternating_23 rfl (lv_at hl 1 rfl) ?_
      obtain ⟨hg, hm⟩ := vz_guard hm
      refine va_iald hx hb hK hP 2 0 rfl rfl hg d_Sh_isAlternating_24 ?_
      obtain ⟨o1, ho1, hm⟩ := vz_bind hm
      try dsimp only at hm
      refine vz_callSi (n := 1) (As := [.int (f_p0_to (Int32.toNatClampNeg x1))]) (rest := [.int o0]) (wc := (ws_Sh_isUpper cI cJ cB )) (wr := (ws_Sh_isAlternating cI cJ cB q_p0 q_p0_key q_p0_name q_p0_from q_p0_to q_p0_edgeAt q_p0_componentOf q_p0_arcOf q_p0_pieceOf q_p0_faceOf q_p0_faceStart q_p0_faceSize q_p0_scratch i_p0_edges i_p0_components i_p0_pieces i_p0_faces i_p0_brokenRule i_p0_culprit f_p0_from f_p0_to)) (k1 := 0) (n1 := 0) hx hb hml hown ht hN hK hP hD hS hA (k_Sh_isUpper l D cI cJ cB fl   (f_p0_to (Int32.toNatClampNeg x1)) o1 ho1) m_355 m_54 m_353 m_354 (by decide +kernel) ⟨Nat.le_of_ble_eq_true rfl, Nat.le_of_ble_eq_true rfl⟩ [] [0, 1, 2] rfl rfl (by decide) (by decide) (by decide) rfl hl.1 rfl (Nat.le_of_ble_eq_true rfl) rfl rfl ⟨Nat.zero_le _, Nat.zero_le _⟩ d_Sh_isAlternating_25 (fun r1 w1 H locs hw hP hD hS => ?_)
      obtain ⟨hr1, rfl⟩ := hw
      have hr1 := hr1.symm
      subst hr1
      have hP : va_P D classes (ws_Sh_isAlternating cI cJ cB q_p0 q_p0_key q_p0_name q_p0_from q_p0_to q_p0_edgeAt q_p0_componentOf q_p0_arcOf q_p0_pieceOf q_p0_faceOf q_p0_faceStart q_p0_faceSize q_p0_scratch i_p0_edges i_p0_components i_p0_pieces i_p0_faces i_p0_brokenRule i_p0_culprit f_p0_from f_p0_to) H := hP.sub [0, 1, 2] rfl
      have hD : va_D A (ws_Sh_isAlternating cI cJ cB q_p0 q_p0_key q_p0_name q_p0_from q_p0_to q_p0_edgeAt q_p0_componentOf q_p0_arcOf q_p0_pieceOf q_p0_faceOf q_p0_faceStart q_p0_faceSize q_p0_scratch i_p0_edges i_p0_components i_p0_pieces i_p0_faces i_p0_brokenRule i_p0_culprit f_p0_from f_p0_to) := hD.sub [0, 1, 2] (by decide) rfl
      refine lv_icmp_ne (tgt := 33) hx hb d_Sh_isAlternating_28 (by decide) (fun hc => ?_) (fun hc => ?_)
      · rw [if_pos hc] at hm
        refine lv_iinc (v := (x1 + 1)) (lv' := [(1, .int (x1 + 1)), (0, .ref q_p0)]) hx hb d_Sh_isAlternating_33 hl (k := 1) rfl rfl (by decide) rfl (fun ls hl => ?_)
        refine lv_goto (tgt := 2) hx hb d_Sh_isAlternating_36 (by decide) ?_
        exact ih (x1 + 1) _ _ _ hm hP hD hS (lv_sub hl [1, 0] rfl)
      · rw [if_neg (fun q => q hc)] at hm
        refine lv_iconst (v := 0) hx hb d_Sh_isAlternating_31 (by decide) ?_
        obtain rfl := Option.some.inj hm
        exact vz_iret hx hb hr rfl hlocks hP hD hS (Nat.le_refl _) (Nat.le_refl _) d_Sh_isAlternating_32 ⟨rfl, rfl⟩
set_option maxHeartbeats 4000000 in
set_option maxRecDepth 100000 in
theorem w_Sh_isAlternating_0 {p : Program} {l : Launch} {e : Env} {s : State} {m : MethodId} {args : Array Value} {below : List Frame} {meth : Method} {c : Code} {D : va_G} {cI cJ cB : ClassId} {A : Nat → Prop} (fl : Nat) (q_p0 : Nat) (q_p0_key : Nat) (q_p0_name : Nat) (q_p0_from : Nat) (q_p0_to : Nat) (q_p0_edgeAt : Nat) (q_p0_componentOf : Nat) (q_p0_arcOf : Nat) (q_p0_pieceOf : Nat) (q_p0_faceOf : Nat) (q_p0_faceStart : Nat) (q_p0_faceSize : Nat) (q_p0_scratch : Nat) (i_p0_edges : Int32) (f_p0_from : Nat → Int32) (f_p0_to : Nat → Int32) (i_p0_components : Int32) (i_p0_pieces : Int32) (i_p0_faces : Int32) (i_p0_brokenRule : Int32) (i_p0_culprit : Int32) (res : Int32) (C0 : vz_Cx p s m meth c b_Sh_isAlternating 2 (some .boolean) "LinkEngine$Shape" "isAlternating" D [(cI, .int), (cJ, .long), (cB, .byte)] A args) : ∀ (H : Heap) (locs : List Loc) (ls : Array Slot), B_Sh_isAlternating_0 fl i_p0_edges f_p0_from f_p0_to = some res → va_P D classes (ws_Sh_isAlternating cI cJ cB q_p0 q_p0_key q_p0_name q_p0_from q_p0_to q_p0_edgeAt q_p0_componentOf q_p0_arcOf q_p0_pieceOf q_p0_faceOf q_p0_faceStart q_p0_faceSize q_p0_scratch i_p0_edges i_p0_components i_p0_pieces i_p0_faces i_p0_brokenRule i_p0_culprit f_p0_from f_p0_to) H → va_D A (ws_Sh_isAlternating cI cJ cB q_p0 q_p0_key q_p0_name q_p0_from q_p0_to q_p0_edgeAt q_p0_componentOf q_p0_arcOf q_p0_pieceOf q_p0_faceOf q_p0_faceStart q_p0_faceSize q_p0_scratch i_p0_edges i_p0_components i_p0_pieces i_p0_faces i_p0_brokenRule i_p0_culprit f_p0_from f_p0_to) → va_S A s.heap H locs → lv_has ls 2 [(0, .ref q_p0)] → W p l e rm_Sh_isAlternating s m args below meth c H locs 0 0 (MQ below (va_Qi (fun (r : Int32) (w : va_W) => r = res ∧ w = (ws_Sh_isAlternating cI cJ cB q_p0 q_p0_key q_p0_name q_p0_from q_p0_to q_p0_edgeAt q_p0_componentOf q_p0_arcOf q_p0_pieceOf q_p0_faceOf q_p0_faceStart q_p0_faceSize q_p0_scratch i_p0_edges i_p0_components i_p0_pieces i_p0_faces i_p0_brokenRule i_p0_culprit f_p0_from f_p0_to)) (vz_B D A) A) args s 0 0 A) (F0 m 0 ls []) := by
  obtain ⟨hx, hb, hr, hml, hown, ht, hlocks, hin, hN, hK, hA⟩ := id C0
  intro H locs ls hm hP hD hS hl
  unfold B_Sh_isAlternating_0 at hm
  refine lv_iconst (v := 0) hx hb d_Sh_isAlternating_0 (by decide) ?_
  refine lv_istore_n (lv' := [(1, .int 0), (0, .ref q_p0)]) hx hb d_Sh_isAlternating_1 rfl hl (by decide) rfl (fun ls hl => ?_)
  exact w_Sh_isAlternating_2 fl q_p0 q_p0_key q_p0_name q_p0_from q_p0_to q_p0_edgeAt q_p0_componentOf q_p0_arcOf q_p0_pieceOf q_p0_faceOf q_p0_faceStart q_p0_faceSize q_p0_scratch i_p0_edges f_p0_from f_p0_to i_p0_components i_p0_pieces i_p0_faces i_p0_brokenRule i_p0_culprit res C0 fl 0 _ _ _ hm hP hD hS (lv_sub hl [1, 0] rfl)
set_option maxHeartbeats 4000000 in
set_option maxRecDepth 100000 in
theorem k_Sh_isAlternating (l : Launch) (D : va_G) (cI cJ cB : ClassId) (fl : Nat) (q_p0 : Nat) (q_p0_key : Nat) (q_p0_name : Nat) (q_p0_from : Nat) (q_p0_to : Nat) (q_p0_edgeAt : Nat) (q_p0_componentOf : Nat) (q_p0_arcOf : Nat) (q_p0_pieceOf : Nat) (q_p0_faceOf : Nat) (q_p0_faceStart : Nat) (q_p0_faceSize : Nat) (q_p0_scratch : Nat) (i_p0_edges : Int32) (f_p0_from : Nat → Int32) (f_p0_to : Nat → Int32) (i_p0_components : Int32) (i_p0_pieces : Int32) (i_p0_faces : Int32) (i_p0_brokenRule : Int32) (i_p0_culprit : Int32)  (res : Int32) (hm : m_Sh_isAlternating fl i_p0_edges f_p0_from f_p0_to = some res) : MtI l y_Sh_isAlternating (.code y_Sh_isAlternating b_Sh_isAlternating 2 (some .boolean) :: CW) rm_Sh_isAlternating D [(cI, .int), (cJ, .long), (cB, .byte)] [.ref q_p0] (ws_Sh_isAlternating cI cJ cB q_p0 q_p0_key q_p0_name q_p0_from q_p0_to q_p0_edgeAt q_p0_componentOf q_p0_arcOf q_p0_pieceOf q_p0_faceOf q_p0_faceStart q_p0_faceSize q_p0_scratch i_p0_edges i_p0_components i_p0_pieces i_p0_faces i_p0_brokenRule i_p0_culprit f_p0_from f_p0_to) (fun (r : Int32) (w : va_W) => r = res ∧ w = (ws_Sh_isAlternating cI cJ cB q_p0 q_p0_key q_p0_name q_p0_from q_p0_to q_p0_edgeAt q_p0_componentOf q_p0_arcOf q_p0_pieceOf q_p0_faceOf q_p0_faceStart q_p0_faceSize q_p0_scratch i_p0_edges i_p0_components i_p0_pieces i_p0_faces i_p0_brokenRule i_p0_culprit f_p0_from f_p0_to)) := by
  intro sz
  refine vz_start (Qc := fun A => va_Qi (fun (r : Int32) (w : va_W) => r = res ∧ w = (ws_Sh_isAlternating cI cJ cB q_p0 q_p0_key q_p0_name q_p0_from q_p0_to q_p0_edgeAt q_p0_componentOf q_p0_arcOf q_p0_pieceOf q_p0_faceOf q_p0_faceStart q_p0_faceSize q_p0_scratch i_p0_edges i_p0_components i_p0_pieces i_p0_faces i_p0_brokenRule i_p0_culprit f_p0_from f_p0_to)) (vz_B D A) A) (lv0 := [(0, .ref q_p0)]) (by decide +kernel) (Nat.le_of_ble_eq_true rfl) rfl ?_
  intro p e s m below meth c A ls C0 hl
  obtain ⟨hx, hb, hr, hml, hown, ht, hlocks, hin, hN, hK, hP, hD, hA, hS⟩ := C0
  exact w_Sh_isAlternating_0 fl q_p0 q_p0_key q_p0_name q_p0_from q_p0_to q_p0_edgeAt q_p0_componentOf q_p0_arcOf q_p0_pieceOf q_p0_faceOf q_p0_faceStart q_p0_faceSize q_p0_scratch i_p0_edges f_p0_from f_p0_to i_p0_components i_p0_pieces i_p0_faces i_p0_brokenRule i_p0_culprit res ⟨hx, hb, hr, hml, hown, ht, hlocks, hin, hN, hK, hA⟩  s.heap [] ls hm hP hD hS (lv_sub hl [0] rfl)
def ws_Sh_dartNumber (cI cJ cB : ClassId) (q_p0 : Nat) (q_p0_key : Nat) (q_p0_name : Nat) (q_p0_from : Nat) (q_p0_to : Nat) (q_p0_edgeAt : Nat) (q_p0_componentOf : Nat) (q_p0_arcOf : Nat) (q_p0_pieceOf : Nat) (q_p0_faceOf : Nat) (q_p0_faceStart : Nat) (q_p0_faceSize : Nat) (q_p0_scratch : Nat) (i_p0_edges : Int32) (i_p0_components : Int32) (i_p0_pieces : Int32) (i_p0_faces : Int32) (i_p0_brokenRule : Int32) (i_p0_culprit : Int32) (f_p0_name : Nat → Int32) : va_W := [(q_p0, .inr (5, [.ref q_p0_key, .ref q_p0_name, .ref q_p0_from, .ref q_p0_to, .ref q_p0_edgeAt, .ref q_p0_componentOf, .ref q_p0_arcOf, .ref q_p0_pieceOf, .ref q_p0_faceOf, .ref q_p0_faceStart, .ref q_p0_faceSize, .ref q_p0_scratch, .int i_p0_edges, .int i_p0_components, .int i_p0_pieces, .int i_p0_faces, .int i_p0_brokenRule, .int i_p0_culprit])), (q_p0_name, .inl (cI, 40, .inl f_p0_name))]
def rm_Sh_dartNumber : Room := { frames := 0, cells := 0, slots := 0, locals := 0 }
def B_Sh_dartNumber_0 (fl : Nat) (f_p0_name : Nat → Int32) (x1 : Int32) : Option (Int32) := (if ¬ ((x1 >>> ((1 : Int32) &&& 31)) < 0 ∨ 40 ≤ Int32.toNatClampNeg (x1 >>> ((1 : Int32) &&& 31))) then (if ¬ (x1 &&& (1 : Int32)) = (0 : Int32) then (some (-(f_p0_name (Int32.toNatClampNeg (x1 >>> ((1 : Int32) &&& 31)))))) else (some (f_p0_name (Int32.toNatClampNeg (x1 >>> ((1 : Int32) &&& 31)))))) else none)
def m_Sh_dartNumber (fl : Nat) (f_p0_name : Nat → Int32) (x1 : Int32) : Option (Int32) := B_Sh_dartNumber_0 fl f_p0_name x1
set_option maxHeartbeats 4000000 in
set_option maxRecDepth 100000 in
theorem w_Sh_dartNumber_0 {p : Program} {l : Launch} {e : Env} {s : State} {m : MethodId} {args : Array Value} {below : List Frame} {meth : Method} {c : Code} {D : va_G} {cI cJ cB : ClassId} {A : Nat → Prop} (fl : Nat) (q_p0 : Nat) (q_p0_key : Nat) (q_p0_name : Nat) (q_p0_from : Nat) (q_p0_to : Nat) (q_p0_edgeAt : Nat) (q_p0_componentOf : Nat) (q_p0_arcOf : Nat) (q_p0_pieceOf : Nat) (q_p0_faceOf : Nat) (q_p0_faceStart : Nat) (q_p0_faceSize : Nat) (q_p0_scratch : Nat) (f_p0_name : Nat → Int32) (i_p0_edges : Int32) (i_p0_components : Int32) (i_p0_pieces : Int32) (i_p0_faces : Int32) (i_p0_brokenRule : Int32) (i_p0_culprit : Int32) (res : Int32) (C0 : vz_Cx p s m meth c b_Sh_dartNumber 3 (some .int) "LinkEngine$Shape" "dartNumber" D [(cI, .int), (cJ, .long), (cB, .byte)] A args) : ∀ (x1 : Int32) (H : Heap) (locs : List Loc) (ls : Array Slot), B_Sh_dartNumber_0 fl f_p0_name x1 = some res → va_P D classes (ws_Sh_dartNumber cI cJ cB q_p0 q_p0_key q_p0_name q_p0_from q_p0_to q_p0_edgeAt q_p0_componentOf q_p0_arcOf q_p0_pieceOf q_p0_faceOf q_p0_faceStart q_p0_faceSize q_p0_scratch i_p0_edges i_p0_components i_p0_pieces i_p0_faces i_p0_brokenRule i_p0_culprit f_p0_name) H → va_D A (ws_Sh_dartNumber cI cJ cB q_p0 q_p0_key q_p0_name q_p0_from q_p0_to q_p0_edgeAt q_p0_componentOf q_p0_arcOf q_p0_pieceOf q_p0_faceOf q_p0_faceStart q_p0_faceSize q_p0_scratch i_p0_edges i_p0_components i_p0_pieces i_p0_faces i_p0_brokenRule i_p0_culprit f_p0_name) → va_S A s.heap H locs → lv_has ls 3 [(0, .ref q_p0), (1, .int x1)] → W p l e rm_Sh_dartNumber s m args below meth c H locs 0 0 (MQ below (va_Qi (fun (r : Int32) (w : va_W) => r = res ∧ w = (ws_Sh_dartNumber cI cJ cB q_p0 q_p0_key q_p0_name q_p0_from q_p0_to q_p0_edgeAt q_p0_componentOf q_p0_arcOf q_p0_pieceOf q_p0_faceOf q_p0_faceStart q_p0_faceSize q_p0_scratch i_p0_edges i_p0_components i_p0_pieces i_p0_faces i_p0_brokenRule i_p0_culprit f_p0_name)) (vz_B D A) A) args s 0 0 A) (F0 m 0 ls []) := by
  obtain ⟨hx, hb, hr, hml, hown, ht, hlocks, hin, hN, hK, hA⟩ := id C0
  intro x1 H locs ls hm hP hD hS hl
  unfold B_Sh_dartNumber_0 at hm
  refine lv_aload_n hx hb d_Sh_dartNumber_0 rfl (lv_at hl 0 rfl) ?_
  refine va_get (D := D) (ci := 5) (v := .ref q_p0_name) (C := R_Sh) (T := F_Sh) (N := 18) hx hb ht i_Sh hown hK hP 0 rfl rfl 1 (Nat.le_of_ble_eq_true rfl) (ht _ m_33) (fun _ h9 => h9) rfl d_Sh_dartNumber_1 ?_
  refine lv_iload_n hx hb d_Sh_dartNumber_4 rfl (lv_at hl 1 rfl) ?_
  refine lv_iconst (v := 1) hx hb d_Sh_dartNumber_5 (by decide) ?_
  refine lv_ishr hx hb d_Sh_dartNumber_6 ?_
  obtain ⟨hg, hm⟩ := vz_guard hm
  refine va_iald hx hb hK hP 1 0 rfl rfl hg d_Sh_dartNumber_7 ?_
  refine lv_istore_n (lv' := [(2, .int (f_p0_name (Int32.toNatClampNeg (x1 >>> ((1 : Int32) &&& 31))))), (0, .ref q_p0), (1, .int x1)]) hx hb d_Sh_dartNumber_8 rfl hl (by decide) rfl (fun ls hl => ?_)
  refine lv_iload_n hx hb d_Sh_dartNumber_9 rfl (lv_at hl 2 rfl) ?_
  refine lv_iconst (v := 1) hx hb d_Sh_dartNumber_10 (by decide) ?_
  refine lv_iand hx hb d_Sh_dartNumber_11 ?_
  refine lv_if_ne (tgt := 19) hx hb d_Sh_dartNumber_12 (by decide) (fun hc => ?_) (fun hc => ?_)
  · rw [if_pos hc] at hm
    refine lv_iload_n hx hb d_Sh_dartNumber_19 rfl (lv_at hl 0 rfl) ?_
    refine lv_ineg hx hb d_Sh_dartNumber_20 ?_
    obtain rfl := Option.some.inj hm
    exact vz_iret hx hb hr rfl hlocks hP hD hS (Nat.le_refl _) (Nat.le_refl _) d_Sh_dartNumber_21 ⟨rfl, rfl⟩
  · rw [if_neg (fun q => q hc)] at hm
    refine lv_iload_n hx hb d_Sh_dartNumber_15 rfl (lv_at hl 0 rfl) ?_
    refine lv_goto (tgt := 21) hx hb d_Sh_dartNumber_16 (by decide) ?_
    obtain rfl := Option.some.inj hm
    exact vz_iret hx hb hr rfl hlocks hP hD hS (Nat.le_refl _) (Nat.le_refl _) d_Sh_dartNumber_21 ⟨rfl, rfl⟩
set_option maxHeartbeats 4000000 in
set_option maxRecDepth 100000 in
theorem k_Sh_dartNumber (l : Launch) (D : va_G) (cI cJ cB : ClassId) (fl : Nat) (q_p0 : Nat) (q_p0_key : Nat) (q_p0_name : Nat) (q_p0_from : Nat) (q_p0_to : Nat) (q_p0_edgeAt : Nat) (q_p0_componentOf : Nat) (q_p0_arcOf : Nat) (q_p0_pieceOf : Nat) (q_p0_faceOf : Nat) (q_p0_faceStart : Nat) (q_p0_faceSize : Nat) (q_p0_scratch : Nat) (f_p0_name : Nat → Int32) (i_p0_edges : Int32) (i_p0_components : Int32) (i_p0_pieces : Int32) (i_p0_faces : Int32) (i_p0_brokenRule : Int32) (i_p0_culprit : Int32) (x1 : Int32) (res : Int32) (hm : m_Sh_dartNumber fl f_p0_name x1 = some res) : MtI l y_Sh_dartNumber (.code y_Sh_dartNumber b_Sh_dartNumber 3 (some .int) :: CW) rm_Sh_dartNumber D [(cI, .int), (cJ, .long), (cB, .byte)] [.ref q_p0, .int x1] (ws_Sh_dartNumber cI cJ cB q_p0 q_p0_key q_p0_name q_p0_from q_p0_to q_p0_edgeAt q_p0_componentOf q_p0_arcOf q_p0_pieceOf q_p0_faceOf q_p0_faceStart q_p0_faceSize q_p0_scratch i_p0_edges i_p0_components i_p0_pieces i_p0_faces i_p0_brokenRule i_p0_culprit f_p0_name) (fun (r : Int32) (w : va_W) => r = res ∧ w = (ws_Sh_dartNumber cI cJ cB q_p0 q_p0_key q_p0_name q_p0_from q_p0_to q_p0_edgeAt q_p0_componentOf q_p0_arcOf q_p0_pieceOf q_p0_faceOf q_p0_faceStart q_p0_faceSize q_p0_scratch i_p0_edges i_p0_components i_p0_pieces i_p0_faces i_p0_brokenRule i_p0_culprit f_p0_name)) := by
  intro sz
  refine vz_start (Qc := fun A => va_Qi (fun (r : Int32) (w : va_W) => r = res ∧ w = (ws_Sh_dartNumber cI cJ cB q_p0 q_p0_key q_p0_name q_p0_from q_p0_to q_p0_edgeAt q_p0_componentOf q_p0_arcOf q_p0_pieceOf q_p0_faceOf q_p0_faceStart q_p0_faceSize q_p0_scratch i_p0_edges i_p0_components i_p0_pieces i_p0_faces i_p0_brokenRule i_p0_culprit f_p0_name)) (vz_B D A) A) (lv0 := [(0, .ref q_p0), (1, .int x1)]) (by decide +kernel) (Nat.le_of_ble_eq_true rfl) rfl ?_
  intro p e s m below meth c A ls C0 hl
  obtain ⟨hx, hb, hr, hml, hown, ht, hlocks, hin, hN, hK, hP, hD, hA, hS⟩ := C0
  exact w_Sh_dartNumber_0 fl q_p0 q_p0_key q_p0_name q_p0_from q_p0_to q_p0_edgeAt q_p0_componentOf q_p0_arcOf q_p0_pieceOf q_p0_faceOf q_p0_faceStart q_p0_faceSize q_p0_scratch f_p0_name i_p0_edges i_p0_components i_p0_pieces i_p0_faces i_p0_brokenRule i_p0_culprit res ⟨hx, hb, hr, hml, hown, ht, hlocks, hin, hN, hK, hA⟩ x1 s.heap [] ls hm hP hD hS (lv_sub hl [0, 1] rfl)
def ws_Po_clear (cI cJ cB : ClassId) (q_p0 : Nat) (q_p0_term : Nat) (i_p0_raise : Int32) (i_p0_sign : Int32) (f_p0_term : Nat → Int64) : va_W := [(q_p0, .inr (8, [.ref q_p0_term, .int i_p0_raise, .int i_p0_sign])), (q_p0_term, .inl (cJ, 161, .inr (.inl f_p0_term)))]
def rm_Po_clear : Room := { frames := 1, cells := 0, slots := 0, locals := 24 }
def B_Po_clear_0 (fl : Nat) (i_p0_raise : Int32) (i_p0_sign : Int32) (f_p0_term : Nat → Int64) : Option (Int32 × Int32 × (Nat → Int64)) := (some (0, 1, (fillF f_p0_term 161 0)))
def m_Po_clear (fl : Nat) (i_p0_raise : Int32) (i_p0_sign : Int32) (f_p0_term : Nat → Int64) : Option (Int32 × Int32 × (Nat → Int64)) := B_Po_clear_0 fl  i_p0_raise i_p0_sign f_p0_term
set_option maxHeartbeats 4000000 in
set_option maxRecDepth 100000 in
theorem w_Po_clear_0 {p : Program} {l : Launch} {e : Env} {s : State} {m : MethodId} {args : Array Value} {below : List Frame} {meth : Method} {c : Code} {D : va_G} {cI cJ cB : ClassId} {A : Nat → Prop} (fl : Nat) (q_p0 : Nat) (q_p0_term : Nat)  (res : Int32 × Int32 × (Nat → Int64)) (C0 : vz_Cx p s m meth c b_Po_clear 1 none "LinkEngine$Polynomial" "clear" D [(cI, .int), (cJ, .long), (cB, .byte)] A args) : ∀ (i_p0_raise : Int32) (i_p0_sign : Int32) (f_p0_term : Nat → Int64) (H : Heap) (locs : List Loc) (ls : Array Slot), B_Po_clear_0 fl i_p0_raise i_p0_sign f_p0_term = some res → va_P D classes (ws_Po_clear cI cJ cB q_p0 q_p0_term i_p0_raise i_p0_sign f_p0_term) H → va_D A (ws_Po_clear cI cJ cB q_p0 q_p0_term i_p0_raise i_p0_sign f_p0_term) → va_S A s.heap H locs → lv_has ls 1 [(0, .ref q_p0)] → W p l e rm_Po_clear s m args below meth c H locs 0 0 (MQ below (va_Qv (fun (w : va_W) => w = (ws_Po_clear cI cJ cB q_p0 q_p0_term res.1 res.2.1 res.2.2)) (vz_B D A) A) args s 0 0 A) (F0 m 0 ls []) := by
  obtain ⟨hx, hb, hr, hml, hown, ht, hlocks, hin, hN, hK, hA⟩ := id C0
  intro i_p0_raise i_p0_sign f_p0_term H locs ls hm hP hD hS hl
  unfold B_Po_clear_0 at hm
  refine lv_aload_n hx hb d_Po_clear_0 rfl (lv_at hl 0 rfl) ?_
  refine va_get (D := D) (ci := 8) (v := .ref q_p0_term) (C := R_Po) (T := F_Po) (N := 3) hx hb ht i_Po hown hK hP 0 rfl rfl 0 (Nat.le_of_ble_eq_true rfl) (ht _ m_29) (fun _ h9 => h9) rfl d_Po_clear_1 ?_
  refine lv_lconst (v := 0) hx hb d_Po_clear_4 (by decide) ?_
  refine vz_callSv (n := 2) (As := [.ref q_p0_term, .long 0]) (rest := []) (wc := [(q_p0_term, .inl (cJ, 161, .inr (.inl f_p0_term)))]) (wr := [(q_p0, .inr (8, [.ref q_p0_term, .int i_p0_raise, .int i_p0_sign]))]) (k1 := 0) (n1 := 0) hx hb hml hown ht hN hK hP hD hS hA (k_fillJ l D cI cJ cB q_p0_term 0 161 f_p0_term (by decide)) m_364 m_228 m_365 m_366 (by decide +kernel) ⟨Nat.le_of_ble_eq_true rfl, Nat.le_of_ble_eq_true rfl⟩ [1] [0] rfl rfl (by decide) (by decide) (by decide) rfl hl.1 rfl (Nat.le_of_ble_eq_true rfl) rfl rfl ⟨Nat.zero_le _, Nat.zero_le _⟩ d_Po_clear_5 (fun w1 H locs hw hP hD hS => ?_)
  subst hw
  have hP : va_P D classes (ws_Po_clear cI cJ cB q_p0 q_p0_term i_p0_raise i_p0_sign (fillF f_p0_term 161 0)) H := hP.sub [0, 1] rfl
  have hD : va_D A (ws_Po_clear cI cJ cB q_p0 q_p0_term i_p0_raise i_p0_sign (fillF f_p0_term 161 0)) := hD.sub [0, 1] (by decide) rfl
  refine lv_aload_n hx hb d_Po_clear_8 rfl (lv_at hl 0 rfl) ?_
  refine lv_iconst (v := 0) hx hb d_Po_clear_9 (by decide) ?_
  refine va_put (D := D) (ci := 8) (v := .int 0) (ty := .int) (C := R_Po) (T := F_Po) (N := 3) hx hb ht i_Po t_Po t_Po_ok n_Po hown hK hP hD hS 0 rfl rfl 1 (Nat.le_of_ble_eq_true rfl) (ht _ m_367) (fun _ h9 => h9) rfl (by decide +kernel) rfl rfl (Nat.le_of_ble_eq_true rfl) d_Po_clear_10 (fun H locs hP hD hS => ?_)
  have hP : va_P D classes (ws_Po_clear cI cJ cB q_p0 q_p0_term 0 i_p0_sign (fillF f_p0_term 161 0)) H := hP
  have hD : va_D A (ws_Po_clear cI cJ cB q_p0 q_p0_term 0 i_p0_sign (fillF f_p0_term 161 0)) := hD
  refine lv_aload_n hx hb d_Po_clear_13 rfl (lv_at hl 0 rfl) ?_
  refine lv_iconst (v := 1) hx hb d_Po_clear_14 (by decide) ?_
  refine va_put (D := D) (ci := 8) (v := .int 1) (ty := .int) (C := R_Po) (T := F_Po) (N := 3) hx hb ht i_Po t_Po t_Po_ok n_Po hown hK hP hD hS 0 rfl rfl 2 (Nat.le_of_ble_eq_true rfl) (ht _ m_30) (fun _ h9 => h9) rfl (by decide +kernel) rfl rfl (Nat.le_of_ble_eq_true rfl) d_Po_clear_15 (fun H locs hP hD hS => ?_)
  have hP : va_P D classes (ws_Po_clear cI cJ cB q_p0 q_p0_term 0 1 (fillF f_p0_term 161 0)) H := hP
  have hD : va_D A (ws_Po_clear cI cJ cB q_p0 q_p0_term 0 1 (fillF f_p0_term 161 0)) := hD
  obtain rfl := Option.some.inj hm
  exact vz_vret hx hb hr hlocks hP hD hS (Nat.le_refl _) (Nat.le_refl _) d_Po_clear_18 rfl
set_option maxHeartbeats 4000000 in
set_option maxRecDepth 100000 in
theorem k_Po_clear (l : Launch) (D : va_G) (cI cJ cB : ClassId) (fl : Nat) (q_p0 : Nat) (q_p0_term : Nat) (i_p0_raise : Int32) (i_p0_sign : Int32) (f_p0_term : Nat → Int64)  (res : Int32 × Int32 × (Nat → Int64)) (hm : m_Po_clear fl i_p0_raise i_p0_sign f_p0_term = some res) : MtV l y_Po_clear (.code y_Po_clear b_Po_clear 1 none :: CW) rm_Po_clear D [(cI, .int), (cJ, .long), (cB, .byte)] [.ref q_p0] (ws_Po_clear cI cJ cB q_p0 q_p0_term i_p0_raise i_p0_sign f_p0_term) (fun (w : va_W) => w = (ws_Po_clear cI cJ cB q_p0 q_p0_term res.1 res.2.1 res.2.2)) := by
  intro sz
  refine vz_start (Qc := fun A => va_Qv (fun (w : va_W) => w = (ws_Po_clear cI cJ cB q_p0 q_p0_term res.1 res.2.1 res.2.2)) (vz_B D A) A) (lv0 := [(0, .ref q_p0)]) (by decide +kernel) (Nat.le_of_ble_eq_true rfl) rfl ?_
  intro p e s m below meth c A ls C0 hl
  obtain ⟨hx, hb, hr, hml, hown, ht, hlocks, hin, hN, hK, hP, hD, hA, hS⟩ := C0
  exact w_Po_clear_0 fl q_p0 q_p0_term  res ⟨hx, hb, hr, hml, hown, ht, hlocks, hin, hN, hK, hA⟩ i_p0_raise i_p0_sign f_p0_term s.heap [] ls hm hP hD hS (lv_sub hl [0] rfl)
def ws_Mi_reach (cI cJ cB : ClassId) (q_p0 : Nat) (q_p0_sum : Nat) (q_p0_reached : Nat) (i_p0_order : Int32) (f_p0_reached : Nat → Int32) (f_p0_sum : Nat → Int32) : va_W := [(q_p0, .inr (10, [.ref q_p0_sum, .ref q_p0_reached, .int i_p0_order])), (q_p0_reached, .inl (cI, 512, .inl f_p0_reached)), (q_p0_sum, .inl (cI, 5120, .inl f_p0_sum))]
def rm_Mi_reach : Room := { frames := 0, cells := 0, slots := 0, locals := 0 }
def B_Mi_reach_18 (fl : Nat) : Nat → Int32 → Int32 → (Nat → Int32) → (Nat → Int32) → Option ((Nat → Int32) × (Nat → Int32))
  | 0, _, _, _, _ => none
  | nn + 1, x1, x2, f_p0_reached, f_p0_sum => (if (10 : Int32) ≤ x2 then (some (f_p0_reached, f_p0_sum)) else (if ¬ (((x1 * (10 : Int32)) + x2) < 0 ∨ 5120 ≤ Int32.toNatClampNeg ((x1 * (10 : Int32)) + x2)) then B_Mi_reach_18 fl nn x1 (x2 + 1) f_p0_reached (upd f_p0_sum (Int32.toNatClampNeg ((x1 * (10 : Int32)) + x2)) 0) else none))
def B_Mi_reach_0 (fl : Nat) (x1 : Int32) (f_p0_reached : Nat → Int32) (f_p0_sum : Nat → Int32) : Option ((Nat → Int32) × (Nat → Int32)) := (if ¬ (x1 < 0 ∨ 512 ≤ Int32.toNatClampNeg x1) then (if ¬ (f_p0_reached (Int32.toNatClampNeg x1)) = (0 : Int32) then (some (f_p0_reached, f_p0_sum)) else (if ¬ (x1 < 0 ∨ 512 ≤ Int32.toNatClampNeg x1) then B_Mi_reach_18 fl fl x1 0 (upd f_p0_reached (Int32.toNatClampNeg x1) 1) f_p0_sum else none)) else none)
def m_Mi_reach (fl : Nat) (x1 : Int32) (f_p0_reached : Nat → Int32) (f_p0_sum : Nat → Int32) : Option ((Nat → Int32) × (Nat → Int32)) := B_Mi_reach_0 fl  x1 f_p0_reached f_p0_sum
set_option maxHeartbeats 4000000 in
set_option maxRecDepth 100000 in
theorem w_Mi_reach_18 {p : Program} {l : Launch} {e : Env} {s : State} {m : MethodId} {args : Array Value} {below : List Frame} {meth : Method} {c : Code} {D : va_G} {cI cJ cB : ClassId} {A : Nat → Prop} (fl : Nat) (q_p0 : Nat) (q_p0_sum : Nat) (q_p0_reached : Nat) (i_p0_order : Int32) (res : (Nat → Int32) × (Nat → Int32)) (C0 : vz_Cx p s m meth c b_Mi_reach 3 none "LinkEngine$Minor" "reach" D [(cI, .int), (cJ, .long), (cB, .byte)] A args) : ∀ (nn : Nat), ∀ (x1 : Int32) (x2 : Int32) (f_p0_reached : Nat → Int32) (f_p0_sum : Nat → Int32) (H : Heap) (locs : List Loc) (ls : Array Slot), B_Mi_reach_18 fl nn x1 x2 f_p0_reached f_p0_sum = some res → va_P D classes (ws_Mi_reach cI cJ cB q_p0 q_p0_sum q_p0_reached i_p0_order f_p0_reached f_p0_sum) H → va_D A (ws_Mi_reach cI cJ cB q_p0 q_p0_sum q_p0_reached i_p0_order f_p0_reached f_p0_sum) → va_S A s.heap H locs → lv_has ls 3 [(0, .ref q_p0), (1, .int x1), (2, .int x2)] → W p l e rm_Mi_reach s m args below meth c H locs 0 0 (MQ below (va_Qv (fun (w : va_W) => w = (ws_Mi_reach cI cJ cB q_p0 q_p0_sum q_p0_reached i_p0_order res.1 res.2)) (vz_B D A) A) args s 0 0 A) (F0 m 18 ls []) := by
  obtain ⟨hx, hb, hr, hml, hown, ht, hlocks, hin, hN, hK, hA⟩ := id C0
  intro nn
  induction nn with
  | zero =>
    intro x1 x2 f_p0_reached f_p0_sum H locs ls hm hP hD hS hl
    rw [B_Mi_reach_18] at hm
    cases hm
  | succ nn ih =>
    intro x1 x2 f_p0_reached f_p0_sum H locs ls hm hP hD hS hl
    rw [B_Mi_reach_18] at hm
    refine lv_iload_n hx hb d_Mi_reach_18 rfl (lv_at hl 2 rfl) ?_
    refine lv_bipush (v := 10) hx hb d_Mi_reach_19 (by decide +kernel) ?_
    refine lv_icmp_ge (tgt := 42) hx hb d_Mi_reach_21 (by decide) (fun hc => ?_) (fun hc => ?_)
    · rw [if_pos hc] at hm
      obtain rfl := Option.some.inj hm
      exact vz_vret hx hb hr hlocks hP hD hS (Nat.le_refl _) (Nat.le_refl _) d_Mi_reach_42 rfl
    · rw [if_neg hc] at hm
      refine lv_aload_n hx hb d_Mi_reach_24 rfl (lv_at hl 0 rfl) ?_
      refine va_get (D := D) (ci := 10) (v := .ref q_p0_sum) (C := R_Mi) (T := F_Mi) (N := 3) hx hb ht i_Mi hown hK hP 0 rfl rfl 0 (Nat.le_of_ble_eq_true rfl) (ht _ m_26) (fun _ h9 => h9) rfl d_Mi_reach_25 ?_
      refine lv_iload_n hx hb d_Mi_reach_28 rfl (lv_at hl 1 rfl) ?_
      refine lv_bipush (v := 10) hx hb d_Mi_reach_29 (by decide +kernel) ?_
      refine lv_imul hx hb d_Mi_reach_31 ?_
      refine lv_iload_n hx hb d_Mi_reach_32 rfl (lv_at hl 2 rfl) ?_
      refine lv_iadd hx hb d_Mi_reach_33 ?_
      refine lv_iconst (v := 0) hx hb d_Mi_reach_34 (by decide) ?_
      obtain ⟨hg, hm⟩ := vz_guard hm
      refine va_iast hx hb hK hP hD hS 2 0 rfl rfl hg d_Mi_reach_35 (fun H locs hP hD hS => ?_)
      have hP : va_P D classes (ws_Mi_reach cI cJ cB q_p0 q_p0_sum q_p0_reached i_p0_order f_p0_reached (upd f_p0_sum (Int32.toNatClampNeg ((x1 * (10 : Int32)) + x2)) 0)) H := hP
      have hD : va_D A (ws_Mi_reach cI cJ cB q_p0 q_p0_sum q_p0_reached i_p0_order f_p0_reached (upd f_p0_sum (Int32.toNatClampNeg ((x1 * (10 : Int32)) + x2)) 0)) := hD
      refine lv_iinc (v := (x2 + 1)) (lv' := [(2, .int (x2 + 1)), (0, .ref q_p0), (1, .int x1)]) hx hb d_Mi_reach_36 hl (k := 2) rfl rfl (by decide) rfl (fun ls hl => ?_)
      refine lv_goto (tgt := 18) hx hb d_Mi_reach_39 (by decide) ?_
      exact ih x1 (x2 + 1) f_p0_reached (upd f_p0_sum (Int32.toNatClampNeg ((x1 * (10 : Int32)) + x2)) 0) _ _ _ hm hP hD hS (lv_sub hl [1, 2, 0] rfl)
set_option maxHeartbeats 4000000 in
set_option maxRecDepth 100000 in
theorem w_Mi_reach_0 {p : Program} {l : Launch} {e : Env} {s : State} {m : MethodId} {args : Array Value} {below : List Frame} {meth : Method} {c : Code} {D : va_G} {cI cJ cB : ClassId} {A : Nat → Prop} (fl : Nat) (q_p0 : Nat) (q_p0_sum : Nat) (q_p0_reached : Nat) (i_p0_order : Int32) (res : (Nat → Int32) × (Nat → Int32)) (C0 : vz_Cx p s m meth c b_Mi_reach 3 none "LinkEngine$Minor" "reach" D [(cI, .int), (cJ, .long), (cB, .byte)] A args) : ∀ (x1 : Int32) (f_p0_reached : Nat → Int32) (f_p0_sum : Nat → Int32) (H : Heap) (locs : List Loc) (ls : Array Slot), B_Mi_reach_0 fl x1 f_p0_reached f_p0_sum = some res → va_P D classes (ws_Mi_reach cI cJ cB q_p0 q_p0_sum q_p0_reached i_p0_order f_p0_reached f_p0_sum) H → va_D A (ws_Mi_reach cI cJ cB q_p0 q_p0_sum q_p0_reached i_p0_order f_p0_reached f_p0_sum) → va_S A s.heap H locs → lv_has ls 3 [(0, .ref q_p0), (1, .int x1)] → W p l e rm_Mi_reach s m args below meth c H locs 0 0 (MQ below (va_Qv (fun (w : va_W) => w = (ws_Mi_reach cI cJ cB q_p0 q_p0_sum q_p0_reached i_p0_order res.1 res.2)) (vz_B D A) A) args s 0 0 A) (F0 m 0 ls []) := by
  obtain ⟨hx, hb, hr, hml, hown, ht, hlocks, hin, hN, hK, hA⟩ := id C0
  intro x1 f_p0_reached f_p0_sum H locs ls hm hP hD hS hl
  unfold B_Mi_reach_0 at hm
  refine lv_aload_n hx hb d_Mi_reach_0 rfl (lv_at hl 0 rfl) ?_
  refine va_get (D := D) (ci := 10) (v := .ref q_p0_reached) (C := R_Mi) (T := F_Mi) (N := 3) hx hb ht i_Mi hown hK hP 0 rfl rfl 1 (Nat.le_of_ble_eq_true rfl) (ht _ m_27) (fun _ h9 => h9) rfl d_Mi_reach_1 ?_
  refine lv_iload_n hx hb d_Mi_reach_4 rfl (lv_at hl 1 rfl) ?_
  obtain ⟨hg, hm⟩ := vz_guard hm
  refine va_iald hx hb hK hP 1 0 rfl rfl hg d_Mi_reach_5 ?_
  refine lv_if_ne (tgt := 42) hx hb d_Mi_reach_6 (by decide) (fun hc => ?_) (fun hc => ?_)
  · rw [if_pos hc] at hm
    obtain rfl := Option.some.inj hm
    exact vz_vret hx hb hr hlocks hP hD hS (Nat.le_refl _) (Nat.le_refl _) d_Mi_reach_42 rfl
  · rw [if_neg (fun q => q hc)] at hm
    refine lv_aload_n hx hb d_Mi_reach_9 rfl (lv_at hl 0 rfl) ?_
    refine va_get (D := D) (ci := 10) (v := .ref q_p0_reached) (C := R_Mi) (T := F_Mi) (N := 3) hx hb ht i_Mi hown hK hP 0 rfl rfl 1 (Nat.le_of_ble_eq_true rfl) (ht _ m_27) (fun _ h9 => h9) rfl d_Mi_reach_10 ?_
    refine lv_iload_n hx hb d_Mi_reach_13 rfl (lv_at hl 1 rfl) ?_
    refine lv_iconst (v := 1) hx hb d_Mi_reach_14 (by decide) ?_
    obtain ⟨hg, hm⟩ := vz_guard hm
    refine va_iast hx hb hK hP hD hS 1 0 rfl rfl hg d_Mi_reach_15 (fun H locs hP hD hS => ?_)
    have hP : va_P D classes (ws_Mi_reach cI cJ cB q_p0 q_p0_sum q_p0_reached i_p0_order (upd f_p0_reached (Int32.toNatClampNeg x1) 1) f_p0_sum) H := hP
    have hD : va_D A (ws_Mi_reach cI cJ cB q_p0 q_p0_sum q_p0_reached i_p0_order (upd f_p0_reached (Int32.toNatClampNeg x1) 1) f_p0_sum) := hD
    refine lv_iconst (v := 0) hx hb d_Mi_reach_16 (by decide) ?_
    refine lv_istore_n (lv' := [(2, .int 0), (0, .ref q_p0), (1, .int x1)]) hx hb d_Mi_reach_17 rfl hl (by decide) rfl (fun ls hl => ?_)
    exact w_Mi_reach_18 fl q_p0 q_p0_sum q_p0_reached i_p0_order res C0 fl x1 0 (upd f_p0_reached (Int32.toNatClampNeg x1) 1) f_p0_sum _ _ _ hm hP hD hS (lv_sub hl [1, 2, 0] rfl)
set_option maxHeartbeats 4000000 in
set_option maxRecDepth 100000 in
theorem k_Mi_reach (l : Launch) (D : va_G) (cI cJ cB : ClassId) (fl : Nat) (q_p0 : Nat) (q_p0_sum : Nat) (q_p0_reached : Nat) (i_p0_order : Int32) (f_p0_reached : Nat → Int32) (f_p0_sum : Nat → Int32) (x1 : Int32) (res : (Nat → Int32) × (Nat → Int32)) (hm : m_Mi_reach fl x1 f_p0_reached f_p0_sum = some res) : MtV l y_Mi_reach (.code y_Mi_reach b_Mi_reach 3 none :: CW) rm_Mi_reach D [(cI, .int), (cJ, .long), (cB, .byte)] [.ref q_p0, .int x1] (ws_Mi_reach cI cJ cB q_p0 q_p0_sum q_p0_reached i_p0_order f_p0_reached f_p0_sum) (fun (w : va_W) => w = (ws_Mi_reach cI cJ cB q_p0 q_p0_sum q_p0_reached i_p0_order res.1 res.2)) := by
  intro sz
  refine vz_start (Qc := fun A => va_Qv (fun (w : va_W) => w = (ws_Mi_reach cI cJ cB q_p0 q_p0_sum q_p0_reached i_p0_order res.1 res.2)) (vz_B D A) A) (lv0 := [(0, .ref q_p0), (1, .int x1)]) (by decide +kernel) (Nat.le_of_ble_eq_true rfl) rfl ?_
  intro p e s m below meth c A ls C0 hl
  obtain ⟨hx, hb, hr, hml, hown, ht, hlocks, hin, hN, hK, hP, hD, hA, hS⟩ := C0
  exact w_Mi_reach_0 fl q_p0 q_p0_sum q_p0_reached i_p0_order res ⟨hx, hb, hr, hml, hown, ht, hlocks, hin, hN, hK, hA⟩ x1 f_p0_reached f_p0_sum s.heap [] ls hm hP hD hS (lv_sub hl [0, 1] rfl)
