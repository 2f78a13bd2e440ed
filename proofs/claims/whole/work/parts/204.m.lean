def ws_Po_add (cI cJ cB : ClassId) (q_p0 : Nat) (q_p0_term : Nat) (i_p0_raise : Int32) (i_p0_sign : Int32) (f_p0_term : Nat → Int64) : va_W := [(q_p0, .inr (8, [.ref q_p0_term, .int i_p0_raise, .int i_p0_sign])), (q_p0_term, .inl (cJ, 161, .inr (.inl f_p0_term)))]
def rm_Po_add : Room := { frames := 1, cells := 0, slots := 0, locals := 21 }
def B_Po_add_0 (fl : Nat) (x1 : Int32) (x2 : Int64) (f_p0_term : Nat → Int64) : Option ((Nat → Int64)) := (if (80 : Int32) < (if 0 ≤ x1 then x1 else 0 - x1) then (some f_p0_term) else (if ¬ ((x1 + (80 : Int32)) < 0 ∨ 161 ≤ Int32.toNatClampNeg (x1 + (80 : Int32))) then (if ¬ ((x1 + (80 : Int32)) < 0 ∨ 161 ≤ Int32.toNatClampNeg (x1 + (80 : Int32))) then (some (vp_updL f_p0_term (Int32.toNatClampNeg (x1 + (80 : Int32))) ((f_p0_term (Int32.toNatClampNeg (x1 + (80 : Int32)))) + x2))) else none) else none))
def m_Po_add (fl : Nat) (x1 : Int32) (x2 : Int64) (f_p0_term : Nat → Int64) : Option ((Nat → Int64)) := B_Po_add_0 fl  x1 x2 f_p0_term
set_option maxHeartbeats 4000000 in
set_option maxRecDepth 100000 in
theorem w_Po_add_0 {p : Program} {l : Launch} {e : Env} {s : State} {m : MethodId} {args : Array Value} {below : List Frame} {meth : Method} {c : Code} {D : va_G} {cI cJ cB : ClassId} {A : Nat → Prop} (fl : Nat) (q_p0 : Nat) (q_p0_term : Nat) (i_p0_raise : Int32) (i_p0_sign : Int32) (res : (Nat → Int64)) (C0 : vz_Cx p s m meth c b_Po_add 4 none "LinkEngine$Polynomial" "add" D [(cI, .int), (cJ, .long), (cB, .byte)] A args) : ∀ (x1 : Int32) (x2 : Int64) (f_p0_term : Nat → Int64) (H : Heap) (locs : List Loc) (ls : Array Slot), B_Po_add_0 fl x1 x2 f_p0_term = some res → va_P D classes (ws_Po_add cI cJ cB q_p0 q_p0_term i_p0_raise i_p0_sign f_p0_term) H → va_D A (ws_Po_add cI cJ cB q_p0 q_p0_term i_p0_raise i_p0_sign f_p0_term) → va_S A s.heap H locs → lv_has ls 4 [(0, .ref q_p0), (1, .int x1), (2, .long x2)] → W p l e rm_Po_add s m args below meth c H locs 0 0 (MQ below (va_Qv (fun (w : va_W) => w = (ws_Po_add cI cJ cB q_p0 q_p0_term i_p0_raise i_p0_sign res)) (vz_B D A) A) args s 0 0 A) (F0 m 0 ls []) := by
  obtain ⟨hx, hb, hr, hml, hown, ht, hlocks, hin, hN, hK, hA⟩ := id C0
  intro x1 x2 f_p0_term H locs ls hm hP hD hS hl
  unfold B_Po_add_0 at hm
  refine lv_iload_n hx hb d_Po_add_0 rfl (lv_at hl 1 rfl) ?_
  refine va_mabs hx hb (hml.trans hl.1.symm) hown (ht _ m_368) (ht _ m_369) (ht _ m_341) (ht _ m_370) (Nat.le_of_ble_eq_true rfl) (Nat.le_of_ble_eq_true rfl) (Nat.zero_le _) (Nat.zero_le _) d_Po_add_1 ?_
  refine lv_bipush (v := 80) hx hb d_Po_add_4 (by decide +kernel) ?_
  refine lv_icmp_gt (tgt := 22) hx hb d_Po_add_6 (by decide) (fun hc => ?_) (fun hc => ?_)
  · rw [if_pos hc] at hm
    obtain rfl := Option.some.inj hm
    exact vz_vret hx hb hr hlocks hP hD hS (Nat.le_refl _) (Nat.le_refl _) d_Po_add_22 rfl
  · rw [if_neg hc] at hm
    refine lv_aload_n hx hb d_Po_add_9 rfl (lv_at hl 0 rfl) ?_
    refine va_get (D := D) (ci := 8) (v := .ref q_p0_term) (C := R_Po) (T := F_Po) (N := 3) hx hb ht i_Po hown hK hP 0 rfl rfl 0 (Nat.le_of_ble_eq_true rfl) (ht _ m_29) (fun _ h9 => h9) rfl d_Po_add_10 ?_
    refine lv_iload_n hx hb d_Po_add_13 rfl (lv_at hl 1 rfl) ?_
    refine lv_bipush (v := 80) hx hb d_Po_add_14 (by decide +kernel) ?_
    refine lv_iadd hx hb d_Po_add_16 ?_
    refine lv_dup2_11 hx hb d_Po_add_17 rfl rfl ?_
    obtain ⟨hg, hm⟩ := vz_guard hm
    refine va_lald hx hb hK hP 1 1 rfl rfl hg d_Po_add_18 ?_
    refine lv_lload_n hx hb d_Po_add_19 rfl (lv_at hl 2 rfl) ?_
    refine lv_ladd hx hb d_Po_add_20 ?_
    obtain ⟨hg, hm⟩ := vz_guard hm
    refine va_last hx hb hK hP hD hS 1 1 rfl rfl hg d_Po_add_21 (fun H locs hP hD hS => ?_)
    have hP : va_P D classes (ws_Po_add cI cJ cB q_p0 q_p0_term i_p0_raise i_p0_sign (vp_updL f_p0_term (Int32.toNatClampNeg (x1 + (80 : Int32))) ((f_p0_term (Int32.toNatClampNeg (x1 + (80 : Int32)))) + x2))) H := hP
    have hD : va_D A (ws_Po_add cI cJ cB q_p0 q_p0_term i_p0_raise i_p0_sign (vp_updL f_p0_term (Int32.toNatClampNeg (x1 + (80 : Int32))) ((f_p0_term (Int32.toNatClampNeg (x1 + (80 : Int32)))) + x2))) := hD
    obtain rfl := Option.some.inj hm
    exact vz_vret hx hb hr hlocks hP hD hS (Nat.le_refl _) (Nat.le_refl _) d_Po_add_22 rfl
set_option maxHeartbeats 4000000 in
set_option maxRecDepth 100000 in
theorem k_Po_add (l : Launch) (D : va_G) (cI cJ cB : ClassId) (fl : Nat) (q_p0 : Nat) (q_p0_term : Nat) (i_p0_raise : Int32) (i_p0_sign : Int32) (f_p0_term : Nat → Int64) (x1 : Int32) (x2 : Int64) (res : (Nat → Int64)) (hm : m_Po_add fl x1 x2 f_p0_term = some res) : MtV l y_Po_add (.code y_Po_add b_Po_add 4 none :: CW) rm_Po_add D [(cI, .int), (cJ, .long), (cB, .byte)] [.ref q_p0, .int x1, .long x2] (ws_Po_add cI cJ cB q_p0 q_p0_term i_p0_raise i_p0_sign f_p0_term) (fun (w : va_W) => w = (ws_Po_add cI cJ cB q_p0 q_p0_term i_p0_raise i_p0_sign res)) := by
  intro sz
  refine vz_start (Qc := fun A => va_Qv (fun (w : va_W) => w = (ws_Po_add cI cJ cB q_p0 q_p0_term i_p0_raise i_p0_sign res)) (vz_B D A) A) (lv0 := [(0, .ref q_p0), (1, .int x1), (2, .long x2)]) (by decide +kernel) (Nat.le_of_ble_eq_true rfl) rfl ?_
  intro p e s m below meth c A ls C0 hl
  obtain ⟨hx, hb, hr, hml, hown, ht, hlocks, hin, hN, hK, hP, hD, hA, hS⟩ := C0
  exact w_Po_add_0 fl q_p0 q_p0_term i_p0_raise i_p0_sign res ⟨hx, hb, hr, hml, hown, ht, hlocks, hin, hN, hK, hA⟩ x1 x2 f_p0_term s.heap [] ls hm hP hD hS (lv_sub hl [0, 1, 2] rfl)
def ws_Po_makeNormal (cI cJ cB : ClassId) (q_p0 : Nat) (q_p0_term : Nat) (i_p0_raise : Int32) (i_p0_sign : Int32) (f_p0_term : Nat → Int64) : va_W := [(q_p0, .inr (8, [.ref q_p0_term, .int i_p0_raise, .int i_p0_sign])), (q_p0_term, .inl (cJ, 161, .inr (.inl f_p0_term)))]
def rm_Po_makeNormal : Room := { frames := 0, cells := 0, slots := 0, locals := 0 }
def B_Po_makeNormal_47 (fl : Nat) (f_p0_term : Nat → Int64) (s0 : Int32) (x1 : Int32) (i_p0_raise : Int32) (i_p0_sign : Int32) : Option (Int32 × Int32) := (some (i_p0_raise, s0))
def B_Po_makeNormal_2 (fl : Nat) (f_p0_term : Nat → Int64) : Nat → Int32 → Int32 → Int32 → Option (Int32 × Int32)
  | 0, _, _, _ => none
  | nn + 1, x1, i_p0_raise, i_p0_sign => (if (161 : Int32) ≤ x1 then (some (i_p0_raise, i_p0_sign)) else (if ¬ (x1 < 0 ∨ 161 ≤ Int32.toNatClampNeg x1) then (if (lg_cmp (f_p0_term (Int32.toNatClampNeg x1)) 0) = (0 : Int32) then B_Po_makeNormal_2 fl f_p0_term nn (x1 + 1) i_p0_raise i_p0_sign else (if ¬ (x1 < 0 ∨ 161 ≤ Int32.toNatClampNeg x1) then (if (lg_cmp (f_p0_term (Int32.toNatClampNeg x1)) 0) ≤ (0 : Int32) then B_Po_makeNormal_47 fl f_p0_term (-1) x1 ((80 : Int32) - x1) i_p0_sign else B_Po_makeNormal_47 fl f_p0_term 1 x1 ((80 : Int32) - x1) i_p0_sign) else none)) else none))
def B_Po_makeNormal_0 (fl : Nat) (f_p0_term : Nat → Int64) (i_p0_raise : Int32) (i_p0_sign : Int32) : Option (Int32 × Int32) := B_Po_makeNormal_2 fl f_p0_term fl 0 i_p0_raise i_p0_sign
def m_Po_makeNormal (fl : Nat) (f_p0_term : Nat → Int64) (i_p0_raise : Int32) (i_p0_sign : Int32) : Option (Int32 × Int32) := B_Po_makeNormal_0 fl f_p0_term i_p0_raise i_p0_sign
set_option maxHeartbeats 4000000 in
set_option maxRecDepth 100000 in
theorem w_Po_makeNormal_47 {p : Program} {l : Launch} {e : Env} {s : State} {m : MethodId} {args : Array Value} {below : List Frame} {meth : Method} {c : Code} {D : va_G} {cI cJ cB : ClassId} {A : Nat → Prop} (fl : Nat) (q_p0 : Nat) (q_p0_term : Nat) (f_p0_term : Nat → Int64) (res : Int32 × Int32) (C0 : vz_Cx p s m meth c b_Po_makeNormal 2 none "LinkEngine$Polynomial" "makeNormal" D [(cI, .int), (cJ, .long), (cB, .byte)] A args) : ∀ (s0 : Int32) (x1 : Int32) (i_p0_raise : Int32) (i_p0_sign : Int32) (H : Heap) (locs : List Loc) (ls : Array Slot), B_Po_makeNormal_47 fl f_p0_term s0 x1 i_p0_raise i_p0_sign = some res → va_P D classes (ws_Po_makeNormal cI cJ cB q_p0 q_p0_term i_p0_raise i_p0_sign f_p0_term) H → va_D A (ws_Po_makeNormal cI cJ cB q_p0 q_p0_term i_p0_raise i_p0_sign f_p0_term) → va_S A s.heap H locs → lv_has ls 2 [(0, .ref q_p0), (1, .int x1)] → W p l e rm_Po_makeNormal s m args below meth c H locs 0 0 (MQ below (va_Qv (fun (w : va_W) => w = (ws_Po_makeNormal cI cJ cB q_p0 q_p0_term res.1 res.2 f_p0_term)) (vz_B D A) A) args s 0 0 A) (F0 m 47 ls [.int s0, .ref q_p0]) := by
  obtain ⟨hx, hb, hr, hml, hown, ht, hlocks, hin, hN, hK, hA⟩ := id C0
  intro s0 x1 i_p0_raise i_p0_sign H locs ls hm hP hD hS hl
  unfold B_Po_makeNormal_47 at hm
  refine va_put (D := D) (ci := 8) (v := .int s0) (ty := .int) (C := R_Po) (T := F_Po) (N := 3) hx hb ht i_Po t_Po t_Po_ok n_Po hown hK hP hD hS 0 rfl rfl 2 (Nat.le_of_ble_eq_true rfl) (ht _ m_30) (fun _ h9 => h9) rfl (by decide +kernel) rfl rfl (Nat.le_of_ble_eq_true rfl) d_Po_makeNormal_47 (fun H locs hP hD hS => ?_)
  have hP : va_P D classes (ws_Po_makeNormal cI cJ cB q_p0 q_p0_term i_p0_raise s0 f_p0_term) H := hP
  have hD : va_D A (ws_Po_makeNormal cI cJ cB q_p0 q_p0_term i_p0_raise s0 f_p0_term) := hD
  obtain rfl := Option.some.inj hm
  exact vz_vret hx hb hr hlocks hP hD hS (Nat.le_refl _) (Nat.le_refl _) d_Po_makeNormal_50 rfl
set_option maxHeartbeats 4000000 in
set_option maxRecDepth 100000 in
theorem w_Po_makeNormal_2 {p : Program} {l : Launch} {e : Env} {s : State} {m : MethodId} {args : Array Value} {below : List Frame} {meth : Method} {c : Code} {D : va_G} {cI cJ cB : ClassId} {A : Nat → Prop} (fl : Nat) (q_p0 : Nat) (q_p0_term : Nat) (f_p0_term : Nat → Int64) (res : Int32 × Int32) (C0 : vz_Cx p s m meth c b_Po_makeNormal 2 none "LinkEngine$Polynomial" "makeNormal" D [(cI, .int), (cJ, .long), (cB, .byte)] A args) : ∀ (nn : Nat), ∀ (x1 : Int32) (i_p0_raise : Int32) (i_p0_sign : Int32) (H : Heap) (locs : List Loc) (ls : Array Slot), B_Po_makeNormal_2 fl f_p0_term nn x1 i_p0_raise i_p0_sign = some res → va_P D classes (ws_Po_makeNormal cI cJ cB q_p0 q_p0_term i_p0_raise i_p0_sign f_p0_term) H → va_D A (ws_Po_makeNormal cI cJ cB q_p0 q_p0_term i_p0_raise i_p0_sign f_p0_term) → va_S A s.heap H locs → lv_has ls 2 [(0, .ref q_p0), (1, .int x1)] → W p l e rm_Po_makeNormal s m args below meth c H locs 0 0 (MQ below (va_Qv (fun (w : va_W) => w = (ws_Po_makeNormal cI cJ cB q_p0 q_p0_term res.1 res.2 f_p0_term)) (vz_B D A) A) args s 0 0 A) (F0 m 2 ls []) := by
  obtain ⟨hx, hb, hr, hml, hown, ht, hlocks, hin, hN, hK, hA⟩ := id C0
  intro nn
  induction nn with
  | zero =>
    intro x1 i_p0_raise i_p0_sign H locs ls hm hP hD hS hl
    rw [B_Po_makeNormal_2] at hm
    cases hm
  | succ nn ih =>
    intro x1 i_p0_raise i_p0_sign H locs ls hm hP hD hS hl
    rw [B_Po_makeNormal_2] at hm
    refine lv_iload_n hx hb d_Po_makeNormal_2 rfl (lv_at hl 1 rfl) ?_
    refine lv_aload_n hx hb d_Po_makeNormal_3 rfl (lv_at hl 0 rfl) ?_
    refine va_get (D := D) (ci := 8) (v := .ref q_p0_term) (C := R_Po) (T := F_Po) (N := 3) hx hb ht i_Po hown hK hP 0 rfl rfl 0 (Nat.le_of_ble_eq_true rfl) (ht _ m_29) (fun _ h9 => h9) rfl d_Po_makeNormal_4 ?_
    refine va_alen (v := 161) hx hb hK hP 1 1 rfl rfl rfl d_Po_makeNormal_7 ?_
    refine lv_icmp_ge (tgt := 57) hx hb d_Po_makeNormal_8 (by decide) (fun hc => ?_) (fun hc => ?_)
    · rw [if_pos hc] at hm
      obtain rfl := Option.some.inj hm
      exact vz_vret hx hb hr hlocks hP hD hS (Nat.le_refl _) (Nat.le_refl _) d_Po_makeNormal_57 rfl
    · rw [if_neg hc] at hm
      refine lv_aload_n hx hb d_Po_makeNormal_11 rfl (lv_at hl 0 rfl) ?_
      refine va_get (D := D) (ci := 8) (v := .ref q_p0_term) (C := R_Po) (T := F_Po) (N := 3) hx hb ht i_Po hown hK hP 0 rfl rfl 0 (Nat.le_of_ble_eq_true rfl) (ht _ m_29) (fun _ h9 => h9) rfl d_Po_makeNormal_12 ?_
      refine lv_iload_n hx hb d_Po_makeNormal_15 rfl (lv_at hl 1 rfl) ?_
      obtain ⟨hg, hm⟩ := vz_guard hm
      refine va_lald hx hb hK hP 1 1 rfl rfl hg d_Po_makeNormal_16 ?_
      refine lv_lconst (v := 0) hx hb d_Po_makeNormal_17 (by decide) ?_
      refine W.lcmp hx hb d_Po_makeNormal_18 ?_
      refine lv_if_eq (tgt := 51) hx hb d_Po_makeNormal_19 (by decide) (fun hc => ?_) (fun hc => ?_)
      · rw [if_pos hc] at hm
        refine lv_iinc (v := (x1 + 1)) (lv' := [(1, .int (x1 + 1)), (0, .ref q_p0)]) hx hb d_Po_makeNormal_51 hl (k := 1) rfl rfl (by decide) rfl (fun ls hl => ?_)
        refine lv_goto (tgt := 2) hx hb d_Po_makeNormal_54 (by decide) ?_
        exact ih (x1 + 1) i_p0_raise i_p0_sign _ _ _ hm hP hD hS (lv_sub hl [1, 0] rfl)
      · rw [if_neg hc] at hm
        refine lv_aload_n hx hb d_Po_makeNormal_22 rfl (lv_at hl 0 rfl) ?_
        refine lv_bipush (v := 80) hx hb d_Po_makeNormal_23 (by decide +kernel) ?_
        refine lv_iload_n hx hb d_Po_makeNormal_25 rfl (lv_at hl 1 rfl) ?_
        refine lv_isub hx hb d_Po_makeNormal_26 ?_
        refine va_put (D := D) (ci := 8) (v := .int ((80 : Int32) - x1)) (ty := .int) (C := R_Po) (T := F_Po) (N := 3) hx hb ht i_Po t_Po t_Po_ok n_Po hown hK hP hD hS 0 rfl rfl 1 (Nat.le_of_ble_eq_true rfl) (ht _ m_367) (fun _ h9 => h9) rfl (by decide +kernel) rfl rfl (Nat.le_of_ble_eq_true rfl) d_Po_makeNormal_27 (fun H locs hP hD hS => ?_)
        have hP : va_P D classes (ws_Po_makeNormal cI cJ cB q_p0 q_p0_term ((80 : Int32) - x1) i_p0_sign f_p0_term) H := hP
        have hD : va_D A (ws_Po_makeNormal cI cJ cB q_p0 q_p0_term ((80 : Int32) - x1) i_p0_sign f_p0_term) := hD
        refine lv_aload_n hx hb d_Po_makeNormal_30 rfl (lv_at hl 0 rfl) ?_
        refine lv_aload_n hx hb d_Po_makeNormal_31 rfl (lv_at hl 0 rfl) ?_
        refine va_get (D := D) (ci := 8) (v := .ref q_p0_term) (C := R_Po) (T := F_Po) (N := 3) hx hb ht i_Po hown hK hP 0 rfl rfl 0 (Nat.le_of_ble_eq_true rfl) (ht _ m_29) (fun _ h9 => h9) rfl d_Po_makeNormal_32 ?_
        refine lv_iload_n hx hb d_Po_makeNormal_35 rfl (lv_at hl 1 rfl) ?_
        obtain ⟨hg, hm⟩ := vz_guard hm
        refine va_lald hx hb hK hP 1 1 rfl rfl hg d_Po_makeNormal_36 ?_
        refine lv_lconst (v := 0) hx hb d_Po_makeNormal_37 (by decide) ?_
        refine W.lcmp hx hb d_Po_makeNormal_38 ?_
        refine lv_if_le (tgt := 46) hx hb d_Po_makeNormal_39 (by decide) (fun hc => ?_) (fun hc => ?_)
        · rw [if_pos hc] at hm
          refine lv_iconst (v := (-1)) hx hb d_Po_makeNormal_46 (by decide) ?_
          exact w_Po_makeNormal_47 fl q_p0 q_p0_term f_p0_term res C0 (-1) x1 ((80 : Int32) - x1) i_p0_sign _ _ _ hm hP hD hS (lv_sub hl [0, 1] rfl)
        · rw [if_neg hc] at hm
          refine lv_iconst (v := 1) hx hb d_Po_makeNormal_42 (by decide) ?_
          refine lv_goto (tgt := 47) hx hb d_Po_makeNormal_43 (by decide) ?_
          exact w_Po_makeNormal_47 fl q_p0 q_p0_term f_p0_term res C0 1 x1 ((80 : Int32) - x1) i_p0_sign _ _ _ hm hP hD hS (lv_sub hl [0, 1] rfl)
set_option maxHeartbeats 4000000 in
set_option maxRecDepth 100000 in
theorem w_Po_makeNormal_0 {p : Program} {l : Launch} {e : Env} {s : State} {m : MethodId} {args : Array Value} {below : List Frame} {meth : Method} {c : Code} {D : va_G} {cI cJ cB : ClassId} {A : Nat → Prop} (fl : Nat) (q_p0 : Nat) (q_p0_term : Nat) (f_p0_term : Nat → Int64) (res : Int32 × Int32) (C0 : vz_Cx p s m meth c b_Po_makeNormal 2 none "LinkEngine$Polynomial" "makeNormal" D [(cI, .int), (cJ, .long), (cB, .byte)] A args) : ∀ (i_p0_raise : Int32) (i_p0_sign : Int32) (H : Heap) (locs : List Loc) (ls : Array Slot), B_Po_makeNormal_0 fl f_p0_term i_p0_raise i_p0_sign = some res → va_P D classes (ws_Po_makeNormal cI cJ cB q_p0 q_p0_term i_p0_raise i_p0_sign f_p0_term) H → va_D A (ws_Po_makeNormal cI cJ cB q_p0 q_p0_term i_p0_raise i_p0_sign f_p0_term) → va_S A s.heap H locs → lv_has ls 2 [(0, .ref q_p0)] → W p l e rm_Po_makeNormal s m args below meth c H locs 0 0 (MQ below (va_Qv (fun (w : va_W) => w = (ws_Po_makeNormal cI cJ cB q_p0 q_p0_term res.1 res.2 f_p0_term)) (vz_B D A) A) args s 0 0 A) (F0 m 0 ls []) := by
  obtain ⟨hx, hb, hr, hml, hown, ht, hlocks, hin, hN, hK, hA⟩ := id C0
  intro i_p0_raise i_p0_sign H locs ls hm hP hD hS hl
  unfold B_Po_makeNormal_0 at hm
  refine lv_iconst (v := 0) hx hb d_Po_makeNormal_0 (by decide) ?_
  refine lv_istore_n (lv' := [(1, .int 0), (0, .ref q_p0)]) hx hb d_Po_makeNormal_1 rfl hl (by decide) rfl (fun ls hl => ?_)
  exact w_Po_makeNormal_2 fl q_p0 q_p0_term f_p0_term res C0 fl 0 i_p0_raise i_p0_sign _ _ _ hm hP hD hS (lv_sub hl [1, 0] rfl)
set_option maxHeartbeats 4000000 in
set_option maxRecDepth 100000 in
theorem k_Po_makeNormal (l : Launch) (D : va_G) (cI cJ cB : ClassId) (fl : Nat) (q_p0 : Nat) (q_p0_term : Nat) (f_p0_term : Nat → Int64) (i_p0_raise : Int32) (i_p0_sign : Int32)  (res : Int32 × Int32) (hm : m_Po_makeNormal fl f_p0_term i_p0_raise i_p0_sign = some res) : MtV l y_Po_makeNormal (.code y_Po_makeNormal b_Po_makeNormal 2 none :: CW) rm_Po_makeNormal D [(cI, .int), (cJ, .long), (cB, .byte)] [.ref q_p0] (ws_Po_makeNormal cI cJ cB q_p0 q_p0_term i_p0_raise i_p0_sign f_p0_term) (fun (w : va_W) => w = (ws_Po_makeNormal cI cJ cB q_p0 q_p0_term res.1 res.2 f_p0_term)) := by
  intro sz
  refine vz_start (Qc := fun A => va_Qv (fun (w : va_W) => w = (ws_Po_makeNormal cI cJ cB q_p0 q_p0_term res.1 res.2 f_p0_term)) (vz_B D A) A) (lv0 := [(0, .ref q_p0)]) (by decide +kernel) (Nat.le_of_ble_eq_true rfl) rfl ?_
  intro p e s m below meth c A ls C0 hl
  obtain ⟨hx, hb, hr, hml, hown, ht, hlocks, hin, hN, hK, hP, hD, hA, hS⟩ := C0
  exact w_Po_makeNormal_0 fl q_p0 q_p0_term f_p0_term res ⟨hx, hb, hr, hml, hown, ht, hlocks, hin, hN, hK, hA⟩ i_p0_raise i_p0_sign s.heap [] ls hm hP hD hS (lv_sub hl [0] rfl)
def ws_Ss_mostCircles (cI cJ cB : ClassId) (q_p0 : Nat) (q_p0_mate : Nat) (q_p0_states : Nat) (i_p0_crossings : Int32) (f_p0_states : Nat → Int32) : va_W := [(q_p0, .inr (9, [.ref q_p0_mate, .ref q_p0_states, .int i_p0_crossings])), (q_p0_states, .inl (cI, 630, .inl f_p0_states))]
def rm_Ss_mostCircles : Room := { frames := 0, cells := 0, slots := 0, locals := 0 }
def B_Ss_mostCircles_27 (fl : Nat) (f_p0_states : Nat → Int32) (kb_4 : Int32 → Int32 → Option (Int32)) (x1 : Int32) (x2 : Int32) : Option (Int32) := kb_4 x1 (x2 + 1)
def B_Ss_mostCircles_4 (fl : Nat) (f_p0_states : Nat → Int32) : Nat → Int32 → Int32 → Option (Int32)
  | 0, _, _ => none
  | nn + 1, x1, x2 => (if (630 : Int32) ≤ x2 then (some x1) else (if ¬ (x2 < 0 ∨ 630 ≤ Int32.toNatClampNeg x2) then (if (f_p0_states (Int32.toNatClampNeg x2)) = (0 : Int32) then B_Ss_mostCircles_27 fl f_p0_states (B_Ss_mostCircles_4 fl f_p0_states nn) x1 x2 else (if ¬ (21 : Int32) = 0 then B_Ss_mostCircles_27 fl f_p0_states (B_Ss_mostCircles_4 fl f_p0_states nn) (x2 / (21 : Int32)) x2 else none)) else none))
def B_Ss_mostCircles_0 (fl : Nat) (f_p0_states : Nat → Int32) : Option (Int32) := B_Ss_mostCircles_4 fl f_p0_states fl 0 0
def m_Ss_mostCircles (fl : Nat) (f_p0_states : Nat → Int32) : Option (Int32) := B_Ss_mostCircles_0 fl f_p0_states
set_option maxHeartbeats 4000000 in
set_option maxRecDepth 100000 in
theorem w_Ss_mostCircles_27 {p : Program} {l : Launch} {e : Env} {s : State} {m : MethodId} {args : Array Value} {below : List Frame} {meth : Method} {c : Code} {D : va_G} {cI cJ cB : ClassId} {A : Nat → Prop} (fl : Nat) (q_p0 : Nat) (q_p0_mate : Nat) (q_p0_states : Nat) (f_p0_states : Nat → Int32) (i_p0_crossings : Int32) (res : Int32) (C0 : vz_Cx p s m meth c b_Ss_mostCircles 3 (some .int) "LinkEngine$StateSum" "mostCircles" D [(cI, .int), (cJ, .long), (cB, .byte)] A args) (kb_4 : Int32 → Int32 → Option (Int32)) (hk_4 : ∀ (x1 : Int32) (x2 : Int32) (H : Heap) (locs : List Loc) (ls : Array Slot), kb_4 x1 x2 = some res → va_P D classes (ws_Ss_mostCircles cI cJ cB q_p0 q_p0_mate q_p0_states i_p0_crossings f_p0_states) H → va_D A (ws_Ss_mostCircles cI cJ cB q_p0 q_p0_mate q_p0_states i_p0_crossings f_p0_states) → va_S A s.heap H locs → lv_has ls 3 [(0, .ref q_p0), (1, .int x1), (2, .int x2)] → W p l e rm_Ss_mostCircles s m args below meth c H locs 0 0 (MQ below (va_Qi (fun (r : Int32) (w : va_W) => r = res ∧ w = (ws_Ss_mostCircles cI cJ cB q_p0 q_p0_mate q_p0_states i_p0_crossings f_p0_states)) (vz_B D A) A) args s 0 0 A) (F0 m 4 ls [])) : ∀ (x1 : Int32) (x2 : Int32) (H : Heap) (locs : List Loc) (ls : Array Slot), B_Ss_mostCircles_27 fl f_p0_states kb_4 x1 x2 = some res → va_P D classes (ws_Ss_mostCircles cI cJ cB q_p0 q_p0_mate q_p0_states i_p0_crossings f_p0_states) H → va_D A (ws_Ss_mostCircles cI cJ cB q_p0 q_p0_mate q_p0_states i_p0_crossings f_p0_states) → va_S A s.heap H locs → lv_has ls 3 [(0, .ref q_p0), (1, .int x1), (2, .int x2)] → W p l e rm_Ss_mostCircles s m args below meth c H locs 0 0 (MQ below (va_Qi (fun (r : Int32) (w : va_W) => r = res ∧ w = (ws_Ss_mostCircles cI cJ cB q_p0 q_p0_mate q_p0_states i_p0_crossings f_p0_states)) (vz_B D A) A) args s 0 0 A) (F0 m 27 ls []) := by
  obtain ⟨hx, hb, hr, hml, hown, ht, hlocks, hin, hN, hK, hA⟩ := id C0
  intro x1 x2 H locs ls hm hP hD hS hl
  unfold B_Ss_mostCircles_27 at hm
  refine lv_iinc (v := (x2 + 1)) (lv' := [(2, .int (x2 + 1)), (0, .ref q_p0), (1, .int x1)]) hx hb d_Ss_mostCircles_27 hl (k := 2) rfl rfl (by decide) rfl (fun ls hl => ?_)
  refine lv_goto (tgt := 4) hx hb d_Ss_mostCircles_30 (by decide) ?_
  exact hk_4 x1 (x2 + 1) _ _ _ hm hP hD hS (lv_sub hl [1, 2, 0] rfl)
set_option maxHeartbeats 4000000 in
set_option maxRecDepth 100000 in
theorem w_Ss_mostCircles_4 {p : Program} {l : Launch} {e : Env} {s : State} {m : MethodId} {args : Array Value} {below : List Frame} {meth : Method} {c : Code} {D : va_G} {cI cJ cB : ClassId} {A : Nat → Prop} (fl : Nat) (q_p0 : Nat) (q_p0_mate : Nat) (q_p0_states : Nat) (f_p0_states : Nat → Int32) (i_p0_crossings : Int32) (res : Int32) (C0 : vz_Cx p s m meth c b_Ss_mostCircles 3 (some .int) "LinkEngine$StateSum" "mostCircles" D [(cI, .int), (cJ, .long), (cB, .byte)] A args) : ∀ (nn : Nat), ∀ (x1 : Int32) (x2 : Int32) (H : Heap) (locs : List Loc) (ls : Array Slot), B_Ss_mostCircles_4 fl f_p0_states nn x1 x2 = some res → va_P D classes (ws_Ss_mostCircles cI cJ cB q_p0 q_p0_mate q_p0_states i_p0_crossings f_p0_states) H → va_D A (ws_Ss_mostCircles cI cJ cB q_p0 q_p0_mate q_p0_states i_p0_crossings f_p0_states) → va_S A s.heap H locs → lv_has ls 3 [(0, .ref q_p0), (1, .int x1), (2, .int x2)] → W p l e rm_Ss_mostCircles s m args below meth c H locs 0 0 (MQ below (va_Qi (fun (r : Int32) (w : va_W) => r = res ∧ w = (ws_Ss_mostCircles cI cJ cB q_p0 q_p0_mate q_p0_states i_p0_crossings f_p0_states)) (vz_B D A) A) args s 0 0 A) (F0 m 4 ls []) := by
  obtain ⟨hx, hb, hr, hml, hown, ht, hlocks, hin, hN, hK, hA⟩ := id C0
  intro nn
  induction nn with
  | zero =>
    intro x1 x2 H locs ls hm hP hD hS hl
    rw [B_Ss_mostCircles_4] at hm
    cases hm
  | succ nn ih =>
    intro x1 x2 H locs ls hm hP hD hS hl
    rw [B_Ss_mostCircles_4] at hm
    refine lv_iload_n hx hb d_Ss_mostCircles_4 rfl (lv_at hl 2 rfl) ?_
    refine lv_aload_n hx hb d_Ss_mostCircles_5 rfl (lv_at hl 0 rfl) ?_
    refine va_get (D := D) (ci := 9) (v := .ref q_p0_states) (C := R_Ss) (T := F_Ss) (N := 3) hx hb ht i_Ss hown hK hP 0 rfl rfl 1 (Nat.le_of_ble_eq_true rfl) (ht _ m_24) (fun _ h9 => h9) rfl d_Ss_mostCircles_6 ?_
    refine va_alen (v := 630) hx hb hK hP 1 0 rfl rfl rfl d_Ss_mostCircles_9 ?_
    refine lv_icmp_ge (tgt := 33) hx hb d_Ss_mostCircles_10 (by decide) (fun hc => ?_) (fun hc => ?_)
    · rw [if_pos hc] at hm
      refine lv_iload_n hx hb d_Ss_mostCircles_33 rfl (lv_at hl 1 rfl) ?_
      obtain rfl := Option.some.inj hm
      exact vz_iret hx hb hr rfl hlocks hP hD hS (Nat.le_refl _) (Nat.le_refl _) d_Ss_mostCircles_34 ⟨rfl, rfl⟩
    · rw [if_neg hc] at hm
      refine lv_aload_n hx hb d_Ss_mostCircles_13 rfl (lv_at hl 0 rfl) ?_
      refine va_get (D := D) (ci := 9) (v := .ref q_p0_states) (C := R_Ss) (T := F_Ss) (N := 3) hx hb ht i_Ss hown hK hP 0 rfl rfl 1 (Nat.le_of_ble_eq_true rfl) (ht _ m_24) (fun _ h9 => h9) rfl d_Ss_mostCircles_14 ?_
      refine lv_iload_n hx hb d_Ss_mostCircles_17 rfl (lv_at hl 2 rfl) ?_
      obtain ⟨hg, hm⟩ := vz_guard hm
      refine va_iald hx hb hK hP 1 0 rfl rfl hg d_Ss_mostCircles_18 ?_
      refine lv_if_eq (tgt := 27) hx hb d_Ss_mostCircles_19 (by decide) (fun hc => ?_) (fun hc => ?_)
      · rw [if_pos hc] at hm
        exact w_Ss_mostCircles_27 fl q_p0 q_p0_mate q_p0_states f_p0_states i_p0_crossings res C0 (B_Ss_mostCircles_4 fl f_p0_states nn) ih x1 x2 _ _ _ hm hP hD hS (lv_sub hl [0, 1, 2] rfl)
      · rw [if_neg hc] at hm
        refine lv_iload_n hx hb d_Ss_mostCircles_22 rfl (lv_at hl 2 rfl) ?_
        refine lv_bipush (v := 21) hx hb d_Ss_mostCircles_23 (by decide +kernel) ?_
        obtain ⟨hg, hm⟩ := vz_guard hm
        refine lv_idiv hx hb d_Ss_mostCircles_25 hg ?_
        refine lv_istore_n (lv' := [(1, .int (x2 / (21 : Int32))), (0, .ref q_p0), (2, .int x2)]) hx hb d_Ss_mostCircles_26 rfl hl (by decide) rfl (fun ls hl => ?_)
        exact w_Ss_mostCircles_27 fl q_p0 q_p0_mate q_p0_states f_p0_states i_p0_crossings res C0 (B_Ss_mostCircles_4 fl f_p0_states nn) ih (x2 / (21 : Int32)) x2 _ _ _ hm hP hD hS (lv_sub hl [1, 0, 2] rfl)
set_option maxHeartbeats 4000000 in
set_option maxRecDepth 100000 in
theorem w_Ss_mostCircles_0 {p : Program} {l : Launch} {e : Env} {s : State} {m : MethodId} {args : Array Value} {below : List Frame} {meth : Method} {c : Code} {D : va_G} {cI cJ cB : ClassId} {A : Nat → Prop} (fl : Nat) (q_p0 : Nat) (q_p0_mate : Nat) (q_p0_states : Nat) (f_p0_states : Nat → Int32) (i_p0_crossings : Int32) (res : Int32) (C0 : vz_Cx p s m meth c b_Ss_mostCircles 3 (some .int) "LinkEngine$StateSum" "mostCircles" D [(cI, .int), (cJ, .long), (cB, .byte)] A args) : ∀ (H : Heap) (locs : List Loc) (ls : Array Slot), B_Ss_mostCircles_0 fl f_p0_states = some res → va_P D classes (ws_Ss_mostCircles cI cJ cB q_p0 q_p0_mate q_p0_states i_p0_crossings f_p0_states) H → va_D A (ws_Ss_mostCircles cI cJ cB q_p0 q_p0_mate q_p0_states i_p0_crossings f_p0_states) → va_S A s.heap H locs → lv_has ls 3 [(0, .ref q_p0)] → W p l e rm_Ss_mostCircles s m args below meth c H locs 0 0 (MQ below (va_Qi (fun (r : Int32) (w : va_W) => r = res ∧ w = (ws_Ss_mostCircles cI cJ cB q_p0 q_p0_mate q_p0_states i_p0_crossings f_p0_states)) (vz_B D A) A) args s 0 0 A) (F0 m 0 ls []) := by
  obtain ⟨hx, hb, hr, hml, hown, ht, hlocks, hin, hN, hK, hA⟩ := id C0
  intro H locs ls hm hP hD hS hl
  unfold B_Ss_mostCircles_0 at hm
  refine lv_iconst (v := 0) hx hb d_Ss_mostCircles_0 (by decide) ?_
  refine lv_istore_n (lv' := [(1, .int 0), (0, .ref q_p0)]) hx hb d_Ss_mostCircles_1 rfl hl (by decide) rfl (fun ls hl => ?_)
  refine lv_iconst (v := 0) hx hb d_Ss_mostCircles_2 (by decide) ?_
  refine lv_istore_n (lv' := [(2, .int 0), (1, .int 0), (0, .ref q_p0)]) hx hb d_Ss_mostCircles_3 rfl hl (by decide) rfl (fun ls hl => ?_)
  exact w_Ss_mostCircles_4 fl q_p0 q_p0_mate q_p0_states f_p0_states i_p0_crossings res C0 fl 0 0 _ _ _ hm hP hD hS (lv_sub hl [2, 1, 0] rfl)
set_option maxHeartbeats 4000000 in
set_option maxRecDepth 100000 in
theorem k_Ss_mostCircles (l : Launch) (D : va_G) (cI cJ cB : ClassId) (fl : Nat) (q_p0 : Nat) (q_p0_mate : Nat) (q_p0_states : Nat) (f_p0_states : Nat → Int32) (i_p0_crossings : Int32)  (res : Int32) (hm : m_Ss_mostCircles fl f_p0_states = some res) : MtI l y_Ss_mostCircles (.code y_Ss_mostCircles b_Ss_mostCircles 3 (some .int) :: CW) rm_Ss_mostCircles D [(cI, .int), (cJ, .long), (cB, .byte)] [.ref q_p0] (ws_Ss_mostCircles cI cJ cB q_p0 q_p0_mate q_p0_states i_p0_crossings f_p0_states) (fun (r : Int32) (w : va_W) => r = res ∧ w = (ws_Ss_mostCircles cI cJ cB q_p0 q_p0_mate q_p0_states i_p0_crossings f_p0_states)) := by
  intro sz
  refine vz_start (Qc := fun A => va_Qi (fun (r : Int32) (w : va_W) => r = res ∧ w = (ws_Ss_mostCircles cI cJ cB q_p0 q_p0_mate q_p0_states i_p0_crossings f_p0_states)) (vz_B D A) A) (lv0 := [(0, .ref q_p0)]) (by decide +kernel) (Nat.le_of_ble_eq_true rfl) rfl ?_
  intro p e s m below meth c A ls C0 hl
  obtain ⟨hx, hb, hr, hml, hown, ht, hlocks, hin, hN, hK, hP, hD, hA, hS⟩ := C0
  exact w_Ss_mostCircles_0 fl q_p0 q_p0_mate q_p0_states f_p0_states i_p0_crossings res ⟨hx, hb, hr, hml, hown, ht, hlocks, hin, hN, hK, hA⟩  s.heap [] ls hm hP hD hS (lv_sub hl [0] rfl)
def ws_Po_timesCircle (cI cJ cB : ClassId) (q_p0 : Nat) (q_p0_term : Nat) (i_p0_raise : Int32) (i_p0_sign : Int32) (f_p0_term : Nat → Int64) : va_W := [(q_p0, .inr (8, [.ref q_p0_term, .int i_p0_raise, .int i_p0_sign])), (q_p0_term, .inl (cJ, 161, .inr (.inl f_p0_term)))]
def rm_Po_timesCircle : Room := { frames := 0, cells := 0, slots := 0, locals := 0 }
def B_Po_timesCircle_8 (fl : Nat) : Nat → Int32 → Int64 → Int32 → (Nat → Int64) → Option ((Nat → Int64))
  | 0, _, _, _, _ => none
  | nn + 1, x1, x2, x4, f_p0_term => (if (x1 + (2 : Int32)) < x4 then (some f_p0_term) else (if (80 : Int32) < (x1 + (4 : Int32)) then (some f_p0_term) else (if ¬ ((x4 + (80 : Int32)) < 0 ∨ 161 ≤ Int32.toNatClampNeg (x4 + (80 : Int32))) then (if ¬ (((x4 + (2 : Int32)) + (80 : Int32)) < 0 ∨ 161 ≤ Int32.toNatClampNeg ((x4 + (2 : Int32)) + (80 : Int32))) then (if ¬ ((x4 + (80 : Int32)) < 0 ∨ 161 ≤ Int32.toNatClampNeg (x4 + (80 : Int32))) then B_Po_timesCircle_8 fl nn x1 (f_p0_term (Int32.toNatClampNeg (x4 + (80 : Int32)))) (x4 + 2) (vp_updL f_p0_term (Int32.toNatClampNeg (x4 + (80 : Int32))) ((-x2) - (f_p0_term (Int32.toNatClampNeg ((x4 + (2 : Int32)) + (80 : Int32)))))) else none) else none) else none)))
def B_Po_timesCircle_0 (fl : Nat) (x1 : Int32) (f_p0_term : Nat → Int64) : Option ((Nat → Int64)) := B_Po_timesCircle_8 fl fl x1 0 ((-x1) - (2 : Int32)) f_p0_term
def m_Po_timesCircle (fl : Nat) (x1 : Int32) (f_p0_term : Nat → Int64) : Option ((Nat → Int64)) := B_Po_timesCircle_0 fl  x1 f_p0_term
set_option maxHeartbeats 4000000 in
set_option maxRecDepth 100000 in
theorem w_Po_timesCircle_8 {p : Program} {l : Launch} {e : Env} {s : State} {m : MethodId} {args : Array Value} {below : List Frame} {meth : Method} {c : Code} {D : va_G} {cI cJ cB : ClassId} {A : Nat → Prop} (fl : Nat) (q_p0 : Nat) (q_p0_term : Nat) (i_p0_raise : Int32) (i_p0_sign : Int32) (res : (Nat → Int64)) (C0 : vz_Cx p s m meth c b_Po_timesCircle 7 none "LinkEngine$Polynomial" "timesCircle" D [(cI, .int), (cJ, .long), (cB, .byte)] A args) : ∀ (nn : Nat), ∀ (x1 : Int32) (x2 : Int64) (x4 : Int32) (f_p0_term : Nat → Int64) (H : Heap) (locs : List Loc) (ls : Array Slot), B_Po_timesCircle_8 fl nn x1 x2 x4 f_p0_term = some res → va_P D classes (ws_Po_timesCircle cI cJ cB q_p0 q_p0_term i_p0_raise i_p0_sign f_p0_term) H → va_D A (ws_Po_timesCircle cI cJ cB q_p0 q_p0_term i_p0_raise i_p0_sign f_p0_term) → va_S A s.heap H locs → lv_has ls 7 [(0, .ref q_p0), (1, .int x1), (2, .long x2), (4, .int x4)] → W p l e rm_Po_timesCircle s m args below meth c H locs 0 0 (MQ below (va_Qv (fun (w : va_W) => w = (ws_Po_timesCircle cI cJ cB q_p0 q_p0_term i_p0_raise i_p0_sign res)) (vz_B D A) A) args s 0 0 A) (F0 m 8 ls []) := by
  obtain ⟨hx, hb, hr, hml, hown, ht, hlocks, hin, hN, hK, hA⟩ := id C0
  intro nn
  induction nn with
  | zero =>
    intro x1 x2 x4 f_p0_term H locs ls hm hP hD hS hl
    rw [B_Po_timesCircle_8] at hm
    cases hm
  | succ nn ih =>
    intro x1 x2 x4 f_p0_term H locs ls hm hP hD hS hl
    rw [B_Po_timesCircle_8] at hm
    refine lv_iload hx hb d_Po_timesCircle_8 (lv_at hl 3 rfl) ?_
    refine lv_iload_n hx hb d_Po_timesCircle_10 rfl (lv_at hl 1 rfl) ?_
    refine lv_iconst (v := 2) hx hb d_Po_timesCircle_11 (by decide) ?_
    refine lv_iadd hx hb d_Po_timesCircle_12 ?_
    refine lv_icmp_gt (tgt := 70) hx hb d_Po_timesCircle_13 (by decide) (fun hc => ?_) (fun hc => ?_)
    · rw [if_pos hc] at hm
      obtain rfl := Option.some.inj hm
      exact vz_vret hx hb hr hlocks hP hD hS (Nat.le_refl _) (Nat.le_refl _) d_Po_timesCircle_70 rfl
    · rw [if_neg hc] at hm
      refine lv_iload_n hx hb d_Po_timesCircle_16 rfl (lv_at hl 1 rfl) ?_
      refine lv_iconst (v := 4) hx hb d_Po_timesCircle_17 (by decide) ?_
      refine lv_iadd hx hb d_Po_timesCircle_18 ?_
      refine lv_bipush (v := 80) hx hb d_Po_timesCircle_19 (by decide +kernel) ?_
      refine lv_icmp_gt (tgt := 70) hx hb d_Po_timesCircle_21 (by decide) (fun hc => ?_) (fun hc => ?_)
      · rw [if_pos hc] at hm
        obtain rfl := Option.some.inj hm
        exact vz_vret hx hb hr hlocks hP hD hS (Nat.le_refl _) (Nat.le_refl _) d_Po_timesCircle_70 rfl
      · rw [if_neg hc] at hm
        refine lv_aload_n hx hb d_Po_timesCircle_24 rfl (lv_at hl 0 rfl) ?_
        refine va_get (D := D) (ci := 8) (v := .ref q_p0_term) (C := R_Po) (T := F_Po) (N := 3) hx hb ht i_Po hown hK hP 0 rfl rfl 0 (Nat.le_of_ble_eq_true rfl) (ht _ m_29) (fun _ h9 => h9) rfl d_Po_timesCircle_25 ?_
        refine lv_iload hx hb d_Po_timesCircle_28 (lv_at hl 3 rfl) ?_
        refine lv_bipush (v := 80) hx hb d_Po_timesCircle_30 (by decide +kernel) ?_
        refine lv_iadd hx hb d_Po_timesCircle_32 ?_
        obtain ⟨hg, hm⟩ := vz_guard hm
        refine va_lald hx hb hK hP 1 1 rfl rfl hg d_Po_timesCircle_33 ?_
        refine lv_lstore (lv' := [(5, .long (f_p0_term (Int32.toNatClampNeg (x4 + (80 : Int32))))), (0, .ref q_p0), (1, .int x1), (2, .long x2), (4, .int x4)]) hx hb d_Po_timesCircle_34 hl (by decide) rfl (fun ls hl => ?_)
        refine lv_aload_n hx hb d_Po_timesCircle_36 rfl (lv_at hl 1 rfl) ?_
        refine va_get (D := D) (ci := 8) (v := .ref q_p0_term) (C := R_Po) (T := F_Po) (N := 3) hx hb ht i_Po hown hK hP 0 rfl rfl 0 (Nat.le_of_ble_eq_true rfl) (ht _ m_29) (fun _ h9 => h9) rfl d_Po_timesCircle_37 ?_
        refine lv_iload hx hb d_Po_timesCircle_40 (lv_at hl 4 rfl) ?_
        refine lv_bipush (v := 80) hx hb d_Po_timesCircle_42 (by decide +kernel) ?_
        refine lv_iadd hx hb d_Po_timesCircle_44 ?_
        refine lv_lload_n hx hb d_Po_timesCircle_45 rfl (lv_at hl 3 rfl) ?_
        refine lv_lneg hx hb d_Po_timesCircle_46 ?_
        refine lv_aload_n hx hb d_Po_timesCircle_47 rfl (lv_at hl 1 rfl) ?_
        refine va_get (D := D) (ci := 8) (v := .ref q_p0_term) (C := R_Po) (T := F_Po) (N := 3) hx hb ht i_Po hown hK hP 0 rfl rfl 0 (Nat.le_of_ble_eq_true rfl) (ht _ m_29) (fun _ h9 => h9) rfl d_Po_timesCircle_48 ?_
        refine lv_iload hx hb d_Po_timesCircle_51 (lv_at hl 4 rfl) ?_
        refine lv_iconst (v := 2) hx hb d_Po_timesCircle_53 (by decide) ?_
        refine lv_iadd hx hb d_Po_timesCircle_54 ?_
        refine lv_bipush (v := 80) hx hb d_Po_timesCircle_55 (by decide +kernel) ?_
        refine lv_iadd hx hb d_Po_timesCircle_57 ?_
        obtain ⟨hg, hm⟩ := vz_guard hm
        refine va_lald hx hb hK hP 1 1 rfl rfl hg d_Po_timesCircle_58 ?_
        refine lv_lsub hx hb d_Po_timesCircle_59 ?_
        obtain ⟨hg, hm⟩ := vz_guard hm
        refine va_last hx hb hK hP hD hS 1 1 rfl rfl hg d_Po_timesCircle_60 (fun H locs hP hD hS => ?_)
        have hP : va_P D classes (ws_Po_timesCircle cI cJ cB q_p0 q_p0_term i_p0_raise i_p0_sign (vp_updL f_p0_term (Int32.toNatClampNeg (x4 + (80 : Int32))) ((-x2) - (f_p0_term (Int32.toNatClampNeg ((x4 + (2 : Int32)) + (80 : Int32))))))) H := hP
        have hD : va_D A (ws_Po_timesCircle cI cJ cB q_p0 q_p0_term i_p0_raise i_p0_sign (vp_updL f_p0_term (Int32.toNatClampNeg (x4 + (80 : Int32))) ((-x2) - (f_p0_term (Int32.toNatClampNeg ((x4 + (2 : Int32)) + (80 : Int32))))))) := hD
        refine lv_lload hx hb d_Po_timesCircle_61 (lv_at hl 0 rfl) ?_
        refine lv_lstore_n (lv' := [(2, .long (f_p0_term (Int32.toNatClampNeg (x4 + (80 : Int32))))), (5, .long (f_p0_term (Int32.toNatClampNeg (x4 + (80 : Int32))))), (0, .ref q_p0), (1, .int x1), (4, .int x4)]) hx hb d_Po_timesCircle_63 rfl hl (by decide) rfl (fun ls hl => ?_)
        refine lv_iinc (v := (x4 + 2)) (lv' := [(4, .int (x4 + 2)), (2, .long (f_p0_term (Int32.toNatClampNeg (x4 + (80 : Int32))))), (5, .long (f_p0_term (Int32.toNatClampNeg (x4 + (80 : Int32))))), (0, .ref q_p0), (1, .int x1)]) hx hb d_Po_timesCircle_64 hl (k := 4) rfl rfl (by decide) rfl (fun ls hl => ?_)
        refine lv_goto (tgt := 8) hx hb d_Po_timesCircle_67 (by decide) ?_
        exact ih x1 (f_p0_term (Int32.toNatClampNeg (x4 + (80 : Int32)))) (x4 + 2) (vp_updL f_p0_term (Int32.toNatClampNeg (x4 + (80 : Int32))) ((-x2) - (f_p0_term (Int32.toNatClampNeg ((x4 + (2 : Int32)) + (80 : Int32)))))) _ _ _ hm hP hD hS (lv_sub hl [3, 4, 1, 0] rfl)
set_option maxHeartbeats 4000000 in
set_option maxRecDepth 100000 in
theorem w_Po_timesCircle_0 {p : Program} {l : Launch} {e : Env} {s : State} {m : MethodId} {args : Array Value} {below : List Frame} {meth : Method} {c : Code} {D : va_G} {cI cJ cB : ClassId} {A : Nat → Prop} (fl : Nat) (q_p0 : Nat) (q_p0_term : Nat) (i_p0_raise : Int32) (i_p0_sign : Int32) (res : (Nat → Int64)) (C0 : vz_Cx p s m meth c b_Po_timesCircle 7 none "LinkEngine$Polynomial" "timesCircle" D [(cI, .int), (cJ, .long), (cB, .byte)] A args) : ∀ (x1 : Int32) (f_p0_term : Nat → Int64) (H : Heap) (locs : List Loc) (ls : Array Slot), B_Po_timesCircle_0 fl x1 f_p0_term = some res → va_P D classes (ws_Po_timesCircle cI cJ cB q_p0 q_p0_term i_p0_raise i_p0_sign f_p0_term) H → va_D A (ws_Po_timesCircle cI cJ cB q_p0 q_p0_term i_p0_raise i_p0_sign f_p0_term) → va_S A s.heap H locs → lv_has ls 7 [(0, .ref q_p0), (1, .int x1)] → W p l e rm_Po_timesCircle s m args below meth c H locs 0 0 (MQ below (va_Qv (fun (w : va_W) => w = (ws_Po_timesCircle cI cJ cB q_p0 q_p0_term i_p0_raise i_p0_sign res)) (vz_B D A) A) args s 0 0 A) (F0 m 0 ls []) := by
  obtain ⟨hx, hb, hr, hml, hown, ht, hlocks, hin, hN, hK, hA⟩ := id C0
  intro x1 f_p0_term H locs ls hm hP hD hS hl
  unfold B_Po_timesCircle_0 at hm
  refine lv_lconst (v := 0) hx hb d_Po_timesCircle_0 (by decide) ?_
  refine lv_lstore_n (lv' := [(2, .long 0), (0, .ref q_p0), (1, .int x1)]) hx hb d_Po_timesCircle_1 rfl hl (by decide) rfl (fun ls hl => ?_)
  refine lv_iload_n hx hb d_Po_timesCircle_2 rfl (lv_at hl 2 rfl) ?_
  refine lv_ineg hx hb d_Po_timesCircle_3 ?_
  refine lv_iconst (v := 2) hx hb d_Po_timesCircle_4 (by decide) ?_
  refine lv_isub hx hb d_Po_timesCircle_5 ?_
  refine lv_istore (lv' := [(4, .int ((-x1) - (2 : Int32))), (2, .long 0), (0, .ref q_p0), (1, .int x1)]) hx hb d_Po_timesCircle_6 hl (by decide) rfl (fun ls hl => ?_)
  exact w_Po_timesCircle_8 fl q_p0 q_p0_term i_p0_raise i_p0_sign res C0 fl x1 0 ((-x1) - (2 : Int32)) f_p0_term _ _ _ hm hP hD hS (lv_sub hl [2, 3, 1, 0] rfl)
set_option maxHeartbeats 4000000 in
set_option maxRecDepth 100000 in
theorem k_Po_timesCircle (l : Launch) (D : va_G) (cI cJ cB : ClassId) (fl : Nat) (q_p0 : Nat) (q_p0_term : Nat) (i_p0_raise : Int32) (i_p0_sign : Int32) (f_p0_term : Nat → Int64) (x1 : Int32) (res : (Nat → Int64)) (hm : m_Po_timesCircle fl x1 f_p0_term = some res) : MtV l y_Po_timesCircle (.code y_Po_timesCircle b_Po_timesCircle 7 none :: CW) rm_Po_timesCircle D [(cI, .int), (cJ, .long), (cB, .byte)] [.ref q_p0, .int x1] (ws_Po_timesCircle cI cJ cB q_p0 q_p0_term i_p0_raise i_p0_sign f_p0_term) (fun (w : va_W) => w = (ws_Po_timesCircle cI cJ cB q_p0 q_p0_term i_p0_raise i_p0_sign res)) := by
  intro sz
  refine vz_start (Qc := fun A => va_Qv (fun (w : va_W) => w = (ws_Po_timesCircle cI cJ cB q_p0 q_p0_term i_p0_raise i_p0_sign res)) (vz_B D A) A) (lv0 := [(0, .ref q_p0), (1, .int x1)]) (by decide +kernel) (Nat.le_of_ble_eq_true rfl) rfl ?_
  intro p e s m below meth c A ls C0 hl
  obtain ⟨hx, hb, hr, hml, hown, ht, hlocks, hin, hN, hK, hP, hD, hA, hS⟩ := C0
  exact w_Po_timesCircle_0 fl q_p0 q_p0_term i_p0_raise i_p0_sign res ⟨hx, hb, hr, hml, hown, ht, hlocks, hin, hN, hK, hA⟩ x1 f_p0_term s.heap [] ls hm hP hD hS (lv_sub hl [0, 1] rfl)
def ws_Po_timesFrame (cI cJ cB : ClassId) (q_p0 : Nat) (q_p0_term : Nat) (i_p0_raise : Int32) (i_p0_sign : Int32) : va_W := [(q_p0, .inr (8, [.ref q_p0_term, .int i_p0_raise, .int i_p0_sign]))]
def rm_Po_timesFrame : Room := { frames := 0, cells := 0, slots := 0, locals := 0 }
def B_Po_timesFrame_0 (fl : Nat) (x1 : Int32) (i_p0_raise : Int32) (i_p0_sign : Int32) : Option (Int32 × Int32) := (if ¬ (x1 &&& (1 : Int32)) = (1 : Int32) then (some ((i_p0_raise + ((3 : Int32) * x1)), i_p0_sign)) else (some ((i_p0_raise + ((3 : Int32) * x1)), (-i_p0_sign))))
def m_Po_timesFrame (fl : Nat) (x1 : Int32) (i_p0_raise : Int32) (i_p0_sign : Int32) : Option (Int32 × Int32) := B_Po_timesFrame_0 fl  x1 i_p0_raise i_p0_sign
set_option maxHeartbeats 4000000 in
set_option maxRecDepth 100000 in
theorem w_Po_timesFrame_0 {p : Program} {l : Launch} {e : Env} {s : State} {m : MethodId} {args : Array Value} {below : List Frame} {meth : Method} {c : Code} {D : va_G} {cI cJ cB : ClassId} {A : Nat → Prop} (fl : Nat) (q_p0 : Nat) (q_p0_term : Nat)  (res : Int32 × Int32) (C0 : vz_Cx p s m meth c b_Po_timesFrame 2 none "LinkEngine$Polynomial" "timesFrame" D [(cI, .int), (cJ, .long), (cB, .byte)] A args) : ∀ (x1 : Int32) (i_p0_raise : Int32) (i_p0_sign : Int32) (H : Heap) (locs : List Loc) (ls : Array Slot), B_Po_timesFrame_0 fl x1 i_p0_raise i_p0_sign = some res → va_P D classes (ws_Po_timesFrame cI cJ cB q_p0 q_p0_term i_p0_raise i_p0_sign) H → va_D A (ws_Po_timesFrame cI cJ cB q_p0 q_p0_term i_p0_raise i_p0_sign) → va_S A s.heap H locs → lv_has ls 2 [(0, .ref q_p0), (1, .int x1)] → W p l e rm_Po_timesFrame s m args below meth c H locs 0 0 (MQ below (va_Qv (fun (w : va_W) => w = (ws_Po_timesFrame cI cJ cB q_p0 q_p0_term res.1 res.2)) (vz_B D A) A) args s 0 0 A) (F0 m 0 ls []) := by
  obtain ⟨hx, hb, hr, hml, hown, ht, hlocks, hin, hN, hK, hA⟩ := id C0
  intro x1 i_p0_raise i_p0_sign H locs ls hm hP hD hS hl
  unfold B_Po_timesFrame_0 at hm
  refine lv_aload_n hx hb d_Po_timesFrame_0 rfl (lv_at hl 0 rfl) ?_
  refine lv_dup hx hb d_Po_timesFrame_1 rfl ?_
  refine va_get (D := D) (ci := 8) (v := .int i_p0_raise) (C := R_Po) (T := F_Po) (N := 3) hx hb ht i_Po hown hK hP 0 rfl rfl 1 (Nat.le_of_ble_eq_true rfl) (ht _ m_367) (fun _ h9 => h9) rfl d_Po_timesFrame_2 ?_
  refine lv_iconst (v := 3) hx hb d_Po_timesFrame_5 (by decide) ?_
  refine lv_iload_n hx hb d_Po_timesFrame_6 rfl (lv_at hl 1 rfl) ?_
  refine lv_imul hx hb d_Po_timesFrame_7 ?_
  refine lv_iadd hx hb d_Po_timesFrame_8 ?_
  refine va_put (D := D) (ci := 8) (v := .int (i_p0_raise + ((3 : Int32) * x1))) (ty := .int) (C := R_Po) (T := F_Po) (N := 3) hx hb ht i_Po t_Po t_Po_ok n_Po hown hK hP hD hS 0 rfl rfl 1 (Nat.le_of_ble_eq_true rfl) (ht _ m_367) (fun _ h9 => h9) rfl (by decide +kernel) rfl rfl (Nat.le_of_ble_eq_true rfl) d_Po_timesFrame_9 (fun H locs hP hD hS => ?_)
  have hP : va_P D classes (ws_Po_timesFrame cI cJ cB q_p0 q_p0_term (i_p0_raise + ((3 : Int32) * x1)) i_p0_sign) H := hP
  have hD : va_D A (ws_Po_timesFrame cI cJ cB q_p0 q_p0_term (i_p0_raise + ((3 : Int32) * x1)) i_p0_sign) := hD
  refine lv_iload_n hx hb d_Po_timesFrame_12 rfl (lv_at hl 1 rfl) ?_
  refine lv_iconst (v := 1) hx hb d_Po_timesFrame_13 (by decide) ?_
  refine lv_iand hx hb d_Po_timesFrame_14 ?_
  refine lv_iconst (v := 1) hx hb d_Po_timesFrame_15 (by decide) ?_
  refine lv_icmp_ne (tgt := 28) hx hb d_Po_timesFrame_16 (by decide) (fun hc => ?_) (fun hc => ?_)
  · rw [if_pos hc] at hm
    obtain rfl := Option.some.inj hm
    exact vz_vret hx hb hr hlocks hP hD hS (Nat.le_refl _) (Nat.le_refl _) d_Po_timesFrame_28 rfl
  · rw [if_neg (fun q => q hc)] at hm
    refine lv_aload_n hx hb d_Po_timesFrame_19 rfl (lv_at hl 0 rfl) ?_
    refine lv_aload_n hx hb d_Po_timesFrame_20 rfl (lv_at hl 0 rfl) ?_
    refine va_get (D := D) (ci := 8) (v := .int i_p0_sign) (C := R_Po) (T := F_Po) (N := 3) hx hb ht i_Po hown hK hP 0 rfl rfl 2 (Nat.le_of_ble_eq_true rfl) (ht _ m_30) (fun _ h9 => h9) rfl d_Po_timesFrame_21 ?_
    refine lv_ineg hx hb d_Po_timesFrame_24 ?_
    refine va_put (D := D) (ci := 8) (v := .int (-i_p0_sign)) (ty := .int) (C := R_Po) (T := F_Po) (N := 3) hx hb ht i_Po t_Po t_Po_ok n_Po hown hK hP hD hS 0 rfl rfl 2 (Nat.le_of_ble_eq_true rfl) (ht _ m_30) (fun _ h9 => h9) rfl (by decide +kernel) rfl rfl (Nat.le_of_ble_eq_true rfl) d_Po_timesFrame_25 (fun H locs hP hD hS => ?_)
    have hP : va_P D classes (ws_Po_timesFrame cI cJ cB q_p0 q_p0_term (i_p0_raise + ((3 : Int32) * x1)) (-i_p0_sign)) H := hP
    have hD : va_D A (ws_Po_timesFrame cI cJ cB q_p0 q_p0_term (i_p0_raise + ((3 : Int32) * x1)) (-i_p0_sign)) := hD
    obtain rfl := Option.some.inj hm
    exact vz_vret hx hb hr hlocks hP hD hS (Nat.le_refl _) (Nat.le_refl _) d_Po_timesFrame_28 rfl
set_option maxHeartbeats 4000000 in
set_option maxRecDepth 100000 in
theorem k_Po_timesFrame (l : Launch) (D : va_G) (cI cJ cB : ClassId) (fl : Nat) (q_p0 : Nat) (q_p0_term : Nat) (i_p0_raise : Int32) (i_p0_sign : Int32) (x1 : Int32) (res : Int32 × Int32) (hm : m_Po_timesFrame fl x1 i_p0_raise i_p0_sign = some res) : MtV l y_Po_timesFrame (.code y_Po_timesFrame b_Po_timesFrame 2 none :: CW) rm_Po_timesFrame D [(cI, .int), (cJ, .long), (cB, .byte)] [.ref q_p0, .int x1] (ws_Po_timesFrame cI cJ cB q_p0 q_p0_term i_p0_raise i_p0_sign) (fun (w : va_W) => w = (ws_Po_timesFrame cI cJ cB q_p0 q_p0_term res.1 res.2)) := by
  intro sz
  refine vz_start (Qc := fun A => va_Qv (fun (w : va_W) => w = (ws_Po_timesFrame cI cJ cB q_p0 q_p0_term res.1 res.2)) (vz_B D A) A) (lv0 := [(0, .ref q_p0), (1, .int x1)]) (by decide +kernel) (Nat.le_of_ble_eq_true rfl) rfl ?_
  intro p e s m below meth c A ls C0 hl
  obtain ⟨hx, hb, hr, hml, hown, ht, hlocks, hin, hN, hK, hP, hD, hA, hS⟩ := C0
  exact w_Po_timesFrame_0 fl q_p0 q_p0_term  res ⟨hx, hb, hr, hml, hown, ht, hlocks, hin, hN, hK, hA⟩ x1 i_p0_raise i_p0_sign s.heap [] ls hm hP hD hS (lv_sub hl [0, 1] rfl)
def ws_Po_lowest (cI cJ cB : ClassId) (q_p0 : Nat) (q_p0_term : Nat) (i_p0_raise : Int32) (i_p0_sign : Int32) : va_W := [(q_p0, .inr (8, [.ref q_p0_term, .int i_p0_raise, .int i_p0_sign]))]
def rm_Po_lowest : Room := { frames := 0, cells := 0, slots := 0, locals := 0 }
def B_Po_lowest_0 (fl : Nat) (i_p0_raise : Int32) : Option (Int32) := (some (i_p0_raise - (80 : Int32)))
def m_Po_lowest (fl : Nat) (i_p0_raise : Int32) : Option (Int32) := B_Po_lowest_0 fl i_p0_raise
set_option maxHeartbeats 4000000 in
set_option maxRecDepth 100000 in
theorem w_Po_lowest_0 {p : Program} {l : Launch} {e : Env} {s : State} {m : MethodId} {args : Array Value} {below : List Frame} {meth : Method} {c : Code} {D : va_G} {cI cJ cB : ClassId} {A : Nat → Prop} (fl : Nat) (q_p0 : Nat) (q_p0_term : Nat) (i_p0_raise : Int32) (i_p0_sign : Int32) (res : Int32) (C0 : vz_Cx p s m meth c b_Po_lowest 1 (some .int) "LinkEngine$Polynomial" "lowest" D [(cI, .int), (cJ, .long), (cB, .byte)] A args) : ∀ (H : Heap) (locs : List Loc) (ls : Array Slot), B_Po_lowest_0 fl i_p0_raise = some res → va_P D classes (ws_Po_lowest cI cJ cB q_p0 q_p0_term i_p0_raise i_p0_sign) H → va_D A (ws_Po_lowest cI cJ cB q_p0 q_p0_term i_p0_raise i_p0_sign) → va_S A s.heap H locs → lv_has ls 1 [(0, .ref q_p0)] → W p l e rm_Po_lowest s m args below meth c H locs 0 0 (MQ below (va_Qi (fun (r : Int32) (w : va_W) => r = res ∧ w = (ws_Po_lowest cI cJ cB q_p0 q_p0_term i_p0_raise i_p0_sign)) (vz_B D A) A) args s 0 0 A) (F0 m 0 ls []) := by
  obtain ⟨hx, hb, hr, hml, hown, ht, hlocks, hin, hN, hK, hA⟩ := id C0
  intro H locs ls hm hP hD hS hl
  unfold B_Po_lowest_0 at hm
  refine lv_aload_n hx hb d_Po_lowest_0 rfl (lv_at hl 0 rfl) ?_
  refine va_get (D := D) (ci := 8) (v := .int i_p0_raise) (C := R_Po) (T := F_Po) (N := 3) hx hb ht i_Po hown hK hP 0 rfl rfl 1 (Nat.le_of_ble_eq_true rfl) (ht _ m_367) (fun _ h9 => h9) rfl d_Po_lowest_1 ?_
  refine lv_bipush (v := 80) hx hb d_Po_lowest_4 (by decide +kernel) ?_
  refine lv_isub hx hb d_Po_lowest_6 ?_
  obtain rfl := Option.some.inj hm
  exact vz_iret hx hb hr rfl hlocks hP hD hS (Nat.le_refl _) (Nat.le_refl _) d_Po_lowest_7 ⟨rfl, rfl⟩
set_option maxHeartbeats 4000000 in
set_option maxRecDepth 100000 in
theorem k_Po_lowest (l : Launch) (D : va_G) (cI cJ cB : ClassId) (fl : Nat) (q_p0 : Nat) (q_p0_term : Nat) (i_p0_raise : Int32) (i_p0_sign : Int32)  (res : Int32) (hm : m_Po_lowest fl i_p0_raise = some res) : MtI l y_Po_lowest (.code y_Po_lowest b_Po_lowest 1 (some .int) :: CW) rm_Po_lowest D [(cI, .int), (cJ, .long), (cB, .byte)] [.ref q_p0] (ws_Po_lowest cI cJ cB q_p0 q_p0_term i_p0_raise i_p0_sign) (fun (r : Int32) (w : va_W) => r = res ∧ w = (ws_Po_lowest cI cJ cB q_p0 q_p0_term i_p0_raise i_p0_sign)) := by
  intro sz
  refine vz_start (Qc := fun A => va_Qi (fun (r : Int32) (w : va_W) => r = res ∧ w = (ws_Po_lowest cI cJ cB q_p0 q_p0_term i_p0_raise i_p0_sign)) (vz_B D A) A) (lv0 := [(0, .ref q_p0)]) (by decide +kernel) (Nat.le_of_ble_eq_true rfl) rfl ?_
  intro p e s m below meth c A ls C0 hl
  obtain ⟨hx, hb, hr, hml, hown, ht, hlocks, hin, hN, hK, hP, hD, hA, hS⟩ := C0
  exact w_Po_lowest_0 fl q_p0 q_p0_term i_p0_raise i_p0_sign res ⟨hx, hb, hr, hml, hown, ht, hlocks, hin, hN, hK, hA⟩  s.heap [] ls hm hP hD hS (lv_sub hl [0] rfl)
def ws_Po_highest (cI cJ cB : ClassId) (q_p0 : Nat) (q_p0_term : Nat) (i_p0_raise : Int32) (i_p0_sign : Int32) : va_W := [(q_p0, .inr (8, [.ref q_p0_term, .int i_p0_raise, .int i_p0_sign]))]
def rm_Po_highest : Room := { frames := 0, cells := 0, slots := 0, locals := 0 }
def B_Po_highest_0 (fl : Nat) (i_p0_raise : Int32) : Option (Int32) := (some (i_p0_raise + (80 : Int32)))
def m_Po_highest (fl : Nat) (i_p0_raise : Int32) : Option (Int32) := B_Po_highest_0 fl i_p0_raise
set_option maxHeartbeats 4000000 in
set_option maxRecDepth 100000 in
theorem w_Po_highest_0 {p : Program} {l : Launch} {e : Env} {s : State} {m : MethodId} {args : Array Value} {below : List Frame} {meth : Method} {c : Code} {D : va_G} {cI cJ cB : ClassId} {A : Nat → Prop} (fl : Nat) (q_p0 : Nat) (q_p0_term : Nat) (i_p0_raise : Int32) (i_p0_sign : Int32) (res : Int32) (C0 : vz_Cx p s m meth c b_Po_highest 1 (some .int) "LinkEngine$Polynomial" "highest" D [(cI, .int), (cJ, .long), (cB, .byte)] A args) : ∀ (H : Heap) (locs : List Loc) (ls : Array Slot), B_Po_highest_0 fl i_p0_raise = some res → va_P D classes (ws_Po_highest cI cJ cB q_p0 q_p0_term i_p0_raise i_p0_sign) H → va_D A (ws_Po_highest cI cJ cB q_p0 q_p0_term i_p0_raise i_p0_sign) → va_S A s.heap H locs → lv_has ls 1 [(0, .ref q_p0)] → W p l e rm_Po_highest s m args below meth c H locs 0 0 (MQ below (va_Qi (fun (r : Int32) (w : va_W) => r = res ∧ w = (ws_Po_highest cI cJ cB q_p0 q_p0_term i_p0_raise i_p0_sign)) (vz_B D A) A) args s 0 0 A) (F0 m 0 ls []) := by
  obtain ⟨hx, hb, hr, hml, hown, ht, hlocks, hin, hN, hK, hA⟩ := id C0
  intro H locs ls hm hP hD hS hl
  unfold B_Po_highest_0 at hm
  refine lv_aload_n hx hb d_Po_highest_0 rfl (lv_at hl 0 rfl) ?_
  refine va_get (D := D) (ci := 8) (v := .int i_p0_raise) (C := R_Po) (T := F_Po) (N := 3) hx hb ht i_Po hown hK hP 0 rfl rfl 1 (Nat.le_of_ble_eq_true rfl) (ht _ m_367) (fun _ h9 => h9) rfl d_Po_highest_1 ?_
  refine lv_bipush (v := 80) hx hb d_Po_highest_4 (by decide +kernel) ?_
  refine lv_iadd hx hb d_Po_highest_6 ?_
  obtain rfl := Option.some.inj hm
  exact vz_iret hx hb hr rfl hlocks hP hD hS (Nat.le_refl _) (Nat.le_refl _) d_Po_highest_7 ⟨rfl, rfl⟩
set_option maxHeartbeats 4000000 in
set_option maxRecDepth 100000 in
theorem k_Po_highest (l : Launch) (D : va_G) (cI cJ cB : ClassId) (fl : Nat) (q_p0 : Nat) (q_p0_term : Nat) (i_p0_raise : Int32) (i_p0_sign : Int32)  (res : Int32) (hm : m_Po_highest fl i_p0_raise = some res) : MtI l y_Po_highest (.code y_Po_highest b_Po_highest 1 (some .int) :: CW) rm_Po_highest D [(cI, .int), (cJ, .long), (cB, .byte)] [.ref q_p0] (ws_Po_highest cI cJ cB q_p0 q_p0_term i_p0_raise i_p0_sign) (fun (r : Int32) (w : va_W) => r = res ∧ w = (ws_Po_highest cI cJ cB q_p0 q_p0_term i_p0_raise i_p0_sign)) := by
  intro sz
  refine vz_start (Qc := fun A => va_Qi (fun (r : Int32) (w : va_W) => r = res ∧ w = (ws_Po_highest cI cJ cB q_p0 q_p0_term i_p0_raise i_p0_sign)) (vz_B D A) A) (lv0 := [(0, .ref q_p0)]) (by decide +kernel) (Nat.le_of_ble_eq_true rfl) rfl ?_
  intro p e s m below meth c A ls C0 hl
  obtain ⟨hx, hb, hr, hml, hown, ht, hlocks, hin, hN, hK, hP, hD, hA, hS⟩ := C0
  exact w_Po_highest_0 fl q_p0 q_p0_term i_p0_raise i_p0_sign res ⟨hx, hb, hr, hml, hown, ht, hlocks, hin, hN, hK, hA⟩  s.heap [] ls hm hP hD hS (lv_sub hl [0] rfl)
def ws_Po_coefficient (cI cJ cB : ClassId) (q_p0 : Nat) (q_p0_term : Nat) (i_p0_raise : Int32) (i_p0_sign : Int32) (f_p0_term : Nat → Int64) : va_W := [(q_p0, .inr (8, [.ref q_p0_term, .int i_p0_raise, .int i_p0_sign])), (q_p0_term, .inl (cJ, 161, .inr (.inl f_p0_term)))]
def rm_Po_coefficient : Room := { frames := 1, cells := 0, slots := 0, locals := 20 }
def B_Po_coefficient_0 (fl : Nat) (i_p0_raise : Int32) (i_p0_sign : Int32) (f_p0_term : Nat → Int64) (x1 : Int32) : Option (Int64) := ((m_Po_lowest fl i_p0_raise).bind fun o0 => (if x1 < o0 then (some 0) else ((m_Po_highest fl i_p0_raise).bind fun o1 => (if x1 ≤ o1 then (if ¬ (((x1 - i_p0_raise) + (80 : Int32)) < 0 ∨ 161 ≤ Int32.toNatClampNeg ((x1 - i_p0_raise) + (80 : Int32))) then (some ((Int32.toInt64 i_p0_sign) * (f_p0_term (Int32.toNatClampNeg ((x1 - i_p0_raise) + (80 : Int32)))))) else none) else (some 0)))))
def m_Po_coefficient (fl : Nat) (i_p0_raise : Int32) (i_p0_sign : Int32) (f_p0_term : Nat → Int64) (x1 : Int32) : Option (Int64) := B_Po_coefficient_0 fl i_p0_raise i_p0_sign f_p0_term x1
set_option maxHeartbeats 4000000 in
set_option maxRecDepth 100000 in
theorem w_Po_coefficient_0 {p : Program} {l : Launch} {e : Env} {s : State} {m : MethodId} {args : Array Value} {below : List Frame} {meth : Method} {c : Code} {D : va_G} {cI cJ cB : ClassId} {A : Nat → Prop} (fl : Nat) (q_p0 : Nat) (q_p0_term : Nat) (i_p0_raise : Int32) (i_p0_sign : Int32) (f_p0_term : Nat → Int64) (res : Int64) (C0 : vz_Cx p s m meth c b_Po_coefficient 2 (some .long) "LinkEngine$Polynomial" "coefficient" D [(cI, .int), (cJ, .long), (cB, .byte)] A args) : ∀ (x1 : Int32) (H : Heap) (locs : List Loc) (ls : Array Slot), B_Po_coefficient_0 fl i_p0_raise i_p0_sign f_p0_term x1 = some res → va_P D classes (ws_Po_coefficient cI cJ cB q_p0 q_p0_term i_p0_raise i_p0_sign f_p0_term) H → va_D A (ws_Po_coefficient cI cJ cB q_p0 q_p0_term i_p0_raise i_p0_sign f_p0_term) → va_S A s.heap H locs → lv_has ls 2 [(0, .ref q_p0), (1, .int x1)] → W p l e rm_Po_coefficient s m args below meth c H locs 0 0 (MQ below (va_Ql (fun (r : Int64) (w : va_W) => r = res ∧ w = (ws_Po_coefficient cI cJ cB q_p0 q_p0_term i_p0_raise i_p0_sign f_p0_term)) (vz_B D A) A) args s 0 0 A) (F0 m 0 ls []) := by
  obtain ⟨hx, hb, hr, hml, hown, ht, hlocks, hin, hN, hK, hA⟩ := id C0
  intro x1 H locs ls hm hP hD hS hl
  unfold B_Po_coefficient_0 at hm
  refine lv_iload_n hx hb d_Po_coefficient_0 rfl (lv_at hl 1 rfl) ?_
  refine lv_aload_n hx hb d_Po_coefficient_1 rfl (lv_at hl 0 rfl) ?_
  obtain ⟨o0, ho0, hm⟩ := vz_bind hm
  try dsimp only at hm
  refine vz_callVi (n := 0) (As := []) (rest := [.int x1]) (wc := (ws_Po_lowest cI cJ cB q_p0 q_p0_term i_p0_raise i_p0_sign)) (wr := [(q_p0_term, .inl (cJ, 161, .inr (.inl f_p0_term)))]) (k1 := 0) (n1 := 0) hx hb hml hown ht hN hK hP hD hS hA (k_Po_lowest l D cI cJ cB fl q_p0 q_p0_term i_p0_raise i_p0_sign o0 ho0) m_374 m_93 m_371 m_372 m_373 (hc := (rfl : classes[8]? = some (R_Po, F_Po, 3))) 0 rfl (by decide +kernel) ⟨Nat.le_of_ble_eq_true rfl, Nat.le_of_ble_eq_true rfl⟩ [0] [1] rfl rfl (by decide) (by decide) (by decide) rfl hl.1 rfl (Nat.le_of_ble_eq_true rfl) rfl rfl ⟨Nat.zero_le _, Nat.zero_le _⟩ d_Po_coefficient_2 (fun r1 w1 H locs hw hP hD hS => ?_)
  obtain ⟨hr1, rfl⟩ := hw
  have hr1 := hr1.symm
  subst hr1
  have hP : va_P D classes (ws_Po_coefficient cI cJ cB q_p0 q_p0_term i_p0_raise i_p0_sign f_p0_term) H := hP.sub [1, 0] rfl
  have hD : va_D A (ws_Po_coefficient cI cJ cB q_p0 q_p0_term i_p0_raise i_p0_sign f_p0_term) := hD.sub [1, 0] (by decide) rfl
  refine lv_icmp_lt (tgt := 16) hx hb d_Po_coefficient_5 (by decide) (fun hc => ?_) (fun hc => ?_)
  · rw [if_pos hc] at hm
    refine lv_lconst (v := 0) hx hb d_Po_coefficient_16 (by decide) ?_
    obtain rfl := Option.some.inj hm
    exact vz_lret hx hb hr hlocks hP hD hS (Nat.le_refl _) (Nat.le_refl _) d_Po_coefficient_17 ⟨rfl, rfl⟩
  · rw [if_neg hc] at hm
    refine lv_iload_n hx hb d_Po_coefficient_8 rfl (lv_at hl 1 rfl) ?_
    refine lv_aload_n hx hb d_Po_coefficient_9 rfl (lv_at hl 0 rfl) ?_
    obtain ⟨o1, ho1, hm⟩ := vz_bind hm
    try dsimp only at hm
    refine vz_callVi (n := 0) (As := []) (rest := [.int x1]) (wc := (ws_Po_highest cI cJ cB q_p0 q_p0_term i_p0_raise i_p0_sign)) (wr := [(q_p0_term, .inl (cJ, 161, .inr (.inl f_p0_term)))]) (k1 := 0) (n1 := 0) hx hb hml hown ht hN hK hP hD hS hA (k_Po_highest l D cI cJ cB fl q_p0 q_p0_term i_p0_raise i_p0_sign o1 ho1) m_378 m_93 m_375 m_376 m_377 (hc := (rfl : classes[8]? = some (R_Po, F_Po, 3))) 0 rfl (by decide +kernel) ⟨Nat.le_of_ble_eq_true rfl, Nat.le_of_ble_eq_true rfl⟩ [0] [1] rfl rfl (by decide) (by decide) (by decide) rfl hl.1 rfl (Nat.le_of_ble_eq_true rfl) rfl rfl ⟨Nat.zero_le _, Nat.zero_le _⟩ d_Po_coefficient_10 (fun r1 w1 H locs hw hP hD hS => ?_)
    obtain ⟨hr1, rfl⟩ := hw
    have hr1 := hr1.symm
    subst hr1
    have hP : va_P D classes (ws_Po_coefficient cI cJ cB q_p0 q_p0_term i_p0_raise i_p0_sign f_p0_term) H := hP.sub [1, 0] rfl
    have hD : va_D A (ws_Po_coefficient cI cJ cB q_p0 q_p0_term i_p0_raise i_p0_sign f_p0_term) := hD.sub [1, 0] (by decide) rfl
    refine lv_icmp_le (tgt := 18) hx hb d_Po_coefficient_13 (by decide) (fun hc => ?_) (fun hc => ?_)
    · rw [if_pos hc] at hm
      refine lv_aload_n hx hb d_Po_coefficient_18 rfl (lv_at hl 0 rfl) ?_
      refine va_get (D := D) (ci := 8) (v := .int i_p0_sign) (C := R_Po) (T := F_Po) (N := 3) hx hb ht i_Po hown hK hP 0 rfl rfl 2 (Nat.le_of_ble_eq_true rfl) (ht _ m_30) (fun _ h9 => h9) rfl d_Po_coefficient_19 ?_
      refine lv_i2l hx hb d_Po_coefficient_22 rfl ?_
      refine lv_aload_n hx hb d_Po_coefficient_23 rfl (lv_at hl 0 rfl) ?_
      refine va_get (D := D) (ci := 8) (v := .ref q_p0_term) (C := R_Po) (T := F_Po) (N := 3) hx hb ht i_Po hown hK hP 0 rfl rfl 0 (Nat.le_of_ble_eq_true rfl) (ht _ m_29) (fun _ h9 => h9) rfl d_Po_coefficient_24 ?_
      refine lv_iload_n hx hb d_Po_coefficient_27 rfl (lv_at hl 1 rfl) ?_
      refine lv_aload_n hx hb d_Po_coefficient_28 rfl (lv_at hl 0 rfl) ?_
      refine va_get (D := D) (ci := 8) (v := .int i_p0_raise) (C := R_Po) (T := F_Po) (N := 3) hx hb ht i_Po hown hK hP 0 rfl rfl 1 (Nat.le_of_ble_eq_true rfl) (ht _ m_367) (fun _ h9 => h9) rfl d_Po_coefficient_29 ?_
      refine lv_isub hx hb d_Po_coefficient_32 ?_
      refine lv_bipush (v := 80) hx hb d_Po_coefficient_33 (by decide +kernel) ?_
      refine lv_iadd hx hb d_Po_coefficient_35 ?_
      obtain ⟨hg, hm⟩ := vz_guard hm
      refine va_lald hx hb hK hP 1 1 rfl rfl hg d_Po_coefficient_36 ?_
      refine lv_lmul hx hb d_Po_coefficient_37 ?_
      obtain rfl := Option.some.inj hm
      exact vz_lret hx hb hr hlocks hP hD hS (Nat.le_refl _) (Nat.le_refl _) d_Po_coefficient_38 ⟨rfl, rfl⟩
    · rw [if_neg hc] at hm
      refine lv_lconst (v := 0) hx hb d_Po_coefficient_16 (by decide) ?_
      obtain rfl := Option.some.inj hm
      exact vz_lret hx hb hr hlocks hP hD hS (Nat.le_refl _) (Nat.le_refl _) d_Po_coefficient_17 ⟨rfl, rfl⟩
set_option maxHeartbeats 4000000 in
set_option maxRecDepth 100000 in
theorem k_Po_coefficient (l : Launch) (D : va_G) (cI cJ cB : ClassId) (fl : Nat) (q_p0 : Nat) (q_p0_term : Nat) (i_p0_raise : Int32) (i_p0_sign : Int32) (f_p0_term : Nat → Int64) (x1 : Int32) (res : Int64) (hm : m_Po_coefficient fl i_p0_raise i_p0_sign f_p0_term x1 = some res) : MtL l y_Po_coefficient (.code y_Po_coefficient b_Po_coefficient 2 (some .long) :: CW) rm_Po_coefficient D [(cI, .int), (cJ, .long), (cB, .byte)] [.ref q_p0, .int x1] (ws_Po_coefficient cI cJ cB q_p0 q_p0_term i_p0_raise i_p0_sign f_p0_term) (fun (r : Int64) (w : va_W) => r = res ∧ w = (ws_Po_coefficient cI cJ cB q_p0 q_p0_term i_p0_raise i_p0_sign f_p0_term)) := by
  intro sz
  refine vz_start (Qc := fun A => va_Ql (fun (r : Int64) (w : va_W) => r = res ∧ w = (ws_Po_coefficient cI cJ cB q_p0 q_p0_term i_p0_raise i_p0_sign f_p0_term)) (vz_B D A) A) (lv0 := [(0, .ref q_p0), (1, .int x1)]) (by decide +kernel) (Nat.le_of_ble_eq_true rfl) rfl ?_
  intro p e s m below meth c A ls C0 hl
  obtain ⟨hx, hb, hr, hml, hown, ht, hlocks, hin, hN, hK, hP, hD, hA, hS⟩ := C0
  exact w_Po_coefficient_0 fl q_p0 q_p0_term i_p0_raise i_p0_sign f_p0_term res ⟨hx, hb, hr, hml, hown, ht, hlocks, hin, hN, hK, hA⟩ x1 s.heap [] ls hm hP hD hS (lv_sub hl [0, 1] rfl)
def ws_Po_countTerms (cI cJ cB : ClassId) (q_p0 : Nat) (q_p0_term : Nat) (i_p0_raise : Int32) (i_p0_sign : Int32) (f_p0_term : Nat → Int64) : va_W := [(q_p0, .inr (8, [.ref q_p0_term, .int i_p0_raise, .int i_p0_sign])), (q_p0_term, .inl (cJ, 161, .inr (.inl f_p0_term)))]
def rm_Po_countTerms : Room := { frames := 0, cells := 0, slots := 0, locals := 0 }
def B_Po_countTerms_30 (fl : Nat) (f_p0_term : Nat → Int64) (kb_4 : Int32 → Int32 → Option (Int32)) (s0 : Int32) (s1 : Int32) (x1 : Int32) (x2 : Int32) : Option (Int32) := kb_4 (s1 + s0) (x2 + 1)
def B_Po_countTerms_4 (fl : Nat) (f_p0_term : Nat → Int64) : Nat → Int32 → Int32 → Option (Int32)
  | 0, _, _ => none
  | nn + 1, x1, x2 => (if (161 : Int32) ≤ x2 then (some x1) else (if ¬ (x2 < 0 ∨ 161 ≤ Int32.toNatClampNeg x2) then (if (lg_cmp (f_p0_term (Int32.toNatClampNeg x2)) 0) = (0 : Int32) then B_Po_countTerms_30 fl f_p0_term (B_Po_countTerms_4 fl f_p0_term nn) 0 x1 x1 x2 else B_Po_countTerms_30 fl f_p0_term (B_Po_countTerms_4 fl f_p0_term nn) 1 x1 x1 x2) else none))
def B_Po_countTerms_0 (fl : Nat) (f_p0_term : Nat → Int64) : Option (Int32) := B_Po_countTerms_4 fl f_p0_term fl 0 0
def m_Po_countTerms (fl : Nat) (f_p0_term : Nat → Int64) : Option (Int32) := B_Po_countTerms_0 fl f_p0_term
set_option maxHeartbeats 4000000 in
set_option maxRecDepth 100000 in
theorem w_Po_countTerms_30 {p : Program} {l : Launch} {e : Env} {s : State} {m : MethodId} {args : Array Value} {below : List Frame} {meth : Method} {c : Code} {D : va_G} {cI cJ cB : ClassId} {A : Nat → Prop} (fl : Nat) (q_p0 : Nat) (q_p0_term : Nat) (f_p0_term : Nat → Int64) (i_p0_raise : Int32) (i_p0_sign : Int32) (res : Int32) (C0 : vz_Cx p s m meth c b_Po_countTerms 3 (some .int) "LinkEngine$Polynomial" "countTerms" D [(cI, .int), (cJ, .long), (cB, .byte)] A args) (kb_4 : Int32 → Int32 → Option (Int32)) (hk_4 : ∀ (x1 : Int32) (x2 : Int32) (H : Heap) (locs : List Loc) (ls : Array Slot), kb_4 x1 x2 = some res → va_P D classes (ws_Po_countTerms cI cJ cB q_p0 q_p0_term i_p0_raise i_p0_sign f_p0_term) H → va_D A (ws_Po_countTerms cI cJ cB q_p0 q_p0_term i_p0_raise i_p0_sign f_p0_term) → va_S A s.heap H locs → lv_has ls 3 [(0, .ref q_p0), (1, .int x1), (2, .int x2)] → W p l e rm_Po_countTerms s m args below meth c H locs 0 0 (MQ below (va_Qi (fun (r : Int32) (w : va_W) => r = res ∧ w = (ws_Po_countTerms cI cJ cB q_p0 q_p0_term i_p0_raise i_p0_sign f_p0_term)) (vz_B D A) A) args s 0 0 A) (F0 m 4 ls [])) : ∀ (s0 : Int32) (s1 : Int32) (x1 : Int32) (x2 : Int32) (H : Heap) (locs : List Loc) (ls : Array Slot), B_Po_countTerms_30 fl f_p0_term kb_4 s0 s1 x1 x2 = some res → va_P D classes (ws_Po_countTerms cI cJ cB q_p0 q_p0_term i_p0_raise i_p0_sign f_p0_term) H → va_D A (ws_Po_countTerms cI cJ cB q_p0 q_p0_term i_p0_raise i_p0_sign f_p0_term) → va_S A s.heap H locs → lv_has ls 3 [(0, .ref q_p0), (1, .int x1), (2, .int x2)] → W p l e rm_Po_countTerms s m args below meth c H locs 0 0 (MQ below (va_Qi (fun (r : Int32) (w : va_W) => r = res ∧ w = (ws_Po_countTerms cI cJ cB q_p0 q_p0_term i_p0_raise i_p0_sign f_p0_term)) (vz_B D A) A) args s 0 0 A) (F0 m 30 ls [.int s0, .int s1]) := by
  obtain ⟨hx, hb, hr, hml, hown, ht, hlocks, hin, hN, hK, hA⟩ := id C0
  intro s0 s1 x1 x2 H locs ls hm hP hD hS hl
  unfold B_Po_countTerms_30 at hm
  refine lv_iadd hx hb d_Po_countTerms_30 ?_
  refine lv_istore_n (lv' := [(1, .int (s1 + s0)), (0, .ref q_p0), (2, .int x2)]) hx hb d_Po_countTerms_31 rfl hl (by decide) rfl (fun ls hl => ?_)
  refine lv_iinc (v := (x2 + 1)) (lv' := [(2, .int (x2 + 1)), (1, .int (s1 + s0)), (0, .ref q_p0)]) hx hb d_Po_countTerms_32 hl (k := 2) rfl rfl (by decide) rfl (fun ls hl => ?_)
  refine lv_goto (tgt := 4) hx hb d_Po_countTerms_35 (by decide) ?_
  exact hk_4 (s1 + s0) (x2 + 1) _ _ _ hm hP hD hS (lv_sub hl [2, 1, 0] rfl)
set_option maxHeartbeats 4000000 in
set_option maxRecDepth 100000 in
theorem w_Po_countTerms_4 {p : Program} {l : Launch} {e : Env} {s : State} {m : MethodId} {args : Array Value} {below : List Frame} {meth : Method} {c : Code} {D : va_G} {cI cJ cB : ClassId} {A : Nat → Prop} (fl : Nat) (q_p0 : Nat) (q_p0_term : Nat) (f_p0_term : Nat → Int64) (i_p0_raise : Int32) (i_p0_sign : Int32) (res : Int32) (C0 : vz_Cx p s m meth c b_Po_countTerms 3 (some .int) "LinkEngine$Polynomial" "countTerms" D [(cI, .int), (cJ, .long), (cB, .byte)] A args) : ∀ (nn : Nat), ∀ (x1 : Int32) (x2 : Int32) (H : Heap) (locs : List Loc) (ls : Array Slot), B_Po_countTerms_4 fl f_p0_term nn x1 x2 = some res → va_P D classes (ws_Po_countTerms cI cJ cB q_p0 q_p0_term i_p0_raise i_p0_sign f_p0_term) H → va_D A (ws_Po_countTerms cI cJ cB q_p0 q_p0_term i_p0_raise i_p0_sign f_p0_term) → va_S A s.heap H locs → lv_has ls 3 [(0, .ref q_p0), (1, .int x1), (2, .int x2)] → W p l e rm_Po_countTerms s m args below meth c H locs 0 0 (MQ below (va_Qi (fun (r : Int32) (w : va_W) => r = res ∧ w = (ws_Po_countTerms cI cJ cB q_p0 q_p0_term i_p0_raise i_p0_sign f_p0_term)) (vz_B D A) A) args s 0 0 A) (F0 m 4 ls []) := by
  obtain ⟨hx, hb, hr, hml, hown, ht, hlocks, hin, hN, hK, hA⟩ := id C0
  intro nn
  induction nn with
  | zero =>
    intro x1 x2 H locs ls hm hP hD hS hl
    rw [B_Po_countTerms_4] at hm
    cases hm
  | succ nn ih =>
    intro x1 x2 H locs ls hm hP hD hS hl
    rw [B_Po_countTerms_4] at hm
    refine lv_iload_n hx hb d_Po_countTerms_4 rfl (lv_at hl 2 rfl) ?_
    refine lv_aload_n hx hb d_Po_countTerms_5 rfl (lv_at hl 0 rfl) ?_
    refine va_get (D := D) (ci := 8) (v := .ref q_p0_term) (C := R_Po) (T := F_Po) (N := 3) hx hb ht i_Po hown hK hP 0 rfl rfl 0 (Nat.le_of_ble_eq_true rfl) (ht _ m_29) (fun _ h9 => h9) rfl d_Po_countTerms_6 ?_
    refine va_alen (v := 161) hx hb hK hP 1 1 rfl rfl rfl d_Po_countTerms_9 ?_
    refine lv_icmp_ge (tgt := 38) hx hb d_Po_countTerms_10 (by decide) (fun hc => ?_) (fun hc => ?_)
    · rw [if_pos hc] at hm
      refine lv_iload_n hx hb d_Po_countTerms_38 rfl (lv_at hl 1 rfl) ?_
      obtain rfl := Option.some.inj hm
      exact vz_iret hx hb hr rfl hlocks hP hD hS (Nat.le_refl _) (Nat.le_refl _) d_Po_countTerms_39 ⟨rfl, rfl⟩
    · rw [if_neg hc] at hm
      refine lv_iload_n hx hb d_Po_countTerms_13 rfl (lv_at hl 1 rfl) ?_
      refine lv_aload_n hx hb d_Po_countTerms_14 rfl (lv_at hl 0 rfl) ?_
      refine va_get (D := D) (ci := 8) (v := .ref q_p0_term) (C := R_Po) (T := F_Po) (N := 3) hx hb ht i_Po hown hK hP 0 rfl rfl 0 (Nat.le_of_ble_eq_true rfl) (ht _ m_29) (fun _ h9 => h9) rfl d_Po_countTerms_15 ?_
      refine lv_iload_n hx hb d_Po_countTerms_18 rfl (lv_at hl 2 rfl) ?_
      obtain ⟨hg, hm⟩ := vz_guard hm
      refine va_lald hx hb hK hP 1 1 rfl rfl hg d_Po_countTerms_19 ?_
      refine lv_lconst (v := 0) hx hb d_Po_countTerms_20 (by decide) ?_
      refine W.lcmp hx hb d_Po_countTerms_21 ?_
      refine lv_if_eq (tgt := 29) hx hb d_Po_countTerms_22 (by decide) (fun hc => ?_) (fun hc => ?_)
      · rw [if_pos hc] at hm
        refine lv_iconst (v := 0) hx hb d_Po_countTerms_29 (by decide) ?_
        exact w_Po_countTerms_30 fl q_p0 q_p0_term f_p0_term i_p0_raise i_p0_sign res C0 (B_Po_countTerms_4 fl f_p0_term nn) ih 0 x1 x1 x2 _ _ _ hm hP hD hS (lv_sub hl [0, 1, 2] rfl)
      · rw [if_neg hc] at hm
        refine lv_iconst (v := 1) hx hb d_Po_countTerms_25 (by decide) ?_
        refine lv_goto (tgt := 30) hx hb d_Po_countTerms_26 (by decide) ?_
        exact w_Po_countTerms_30 fl q_p0 q_p0_term f_p0_term i_p0_raise i_p0_sign res C0 (B_Po_countTerms_4 fl f_p0_term nn) ih 1 x1 x1 x2 _ _ _ hm hP hD hS (lv_sub hl [0, 1, 2] rfl)
set_option maxHeartbeats 4000000 in
set_option maxRecDepth 100000 in
theorem w_Po_countTerms_0 {p : Program} {l : Launch} {e : Env} {s : State} {m : MethodId} {args : Array Value} {below : List Frame} {meth : Method} {c : Code} {D : va_G} {cI cJ cB : ClassId} {A : Nat → Prop} (fl : Nat) (q_p0 : Nat) (q_p0_term : Nat) (f_p0_term : Nat → Int64) (i_p0_raise : Int32) (i_p0_sign : Int32) (res : Int32) (C0 : vz_Cx p s m meth c b_Po_countTerms 3 (some .int) "LinkEngine$Polynomial" "countTerms" D [(cI, .int), (cJ, .long), (cB, .byte)] A args) : ∀ (H : Heap) (locs : List Loc) (ls : Array Slot), B_Po_countTerms_0 fl f_p0_term = some res → va_P D classes (ws_Po_countTerms cI cJ cB q_p0 q_p0_term i_p0_raise i_p0_sign f_p0_term) H → va_D A (ws_Po_countTerms cI cJ cB q_p0 q_p0_term i_p0_raise i_p0_sign f_p0_term) → va_S A s.heap H locs → lv_has ls 3 [(0, .ref q_p0)] → W p l e rm_Po_countTerms s m args below meth c H locs 0 0 (MQ below (va_Qi (fun (r : Int32) (w : va_W) => r = res ∧ w = (ws_Po_countTerms cI cJ cB q_p0 q_p0_term i_p0_raise i_p0_sign f_p0_term)) (vz_B D A) A) args s 0 0 A) (F0 m 0 ls []) := by
  obtain ⟨hx, hb, hr, hml, hown, ht, hlocks, hin, hN, hK, hA⟩ := id C0
  intro H locs ls hm hP hD hS hl
  unfold B_Po_countTerms_0 at hm
  refine lv_iconst (v := 0) hx hb d_Po_countTerms_0 (by decide) ?_
  refine lv_istore_n (lv' := [(1, .int 0), (0, .ref q_p0)]) hx hb d_Po_countTerms_1 rfl hl (by decide) rfl (fun ls hl => ?_)
  refine lv_iconst (v := 0) hx hb d_Po_countTerms_2 (by decide) ?_
  refine lv_istore_n (lv' := [(2, .int 0), (1, .int 0), (0, .ref q_p0)]) hx hb d_Po_countTerms_3 rfl hl (by decide) rfl (fun ls hl => ?_)
  exact w_Po_countTerms_4 fl q_p0 q_p0_term f_p0_term i_p0_raise i_p0_sign res C0 fl 0 0 _ _ _ hm hP hD hS (lv_sub hl [2, 1, 0] rfl)
set_option maxHeartbeats 4000000 in
set_option maxRecDepth 100000 in
theorem k_Po_countTerms (l : Launch) (D : va_G) (cI cJ cB : ClassId) (fl : Nat) (q_p0 : Nat) (q_p0_term : Nat) (f_p0_term : Nat → Int64) (i_p0_raise : Int32) (i_p0_sign : Int32)  (res : Int32) (hm : m_Po_countTerms fl f_p0_term = some res) : MtI l y_Po_countTerms (.code y_Po_countTerms b_Po_countTerms 3 (some .int) :: CW) rm_Po_countTerms D [(cI, .int), (cJ, .long), (cB, .byte)] [.ref q_p0] (ws_Po_countTerms cI cJ cB q_p0 q_p0_term i_p0_raise i_p0_sign f_p0_term) (fun (r : Int32) (w : va_W) => r = res ∧ w = (ws_Po_countTerms cI cJ cB q_p0 q_p0_term i_p0_raise i_p0_sign f_p0_term)) := by
  intro sz
  refine vz_start (Qc := fun A => va_Qi (fun (r : Int32) (w : va_W) => r = res ∧ w = (ws_Po_countTerms cI cJ cB q_p0 q_p0_term i_p0_raise i_p0_sign f_p0_term)) (vz_B D A) A) (lv0 := [(0, .ref q_p0)]) (by decide +kernel) (Nat.le_of_ble_eq_true rfl) rfl ?_
  intro p e s m below meth c A ls C0 hl
  obtain ⟨hx, hb, hr, hml, hown, ht, hlocks, hin, hN, hK, hP, hD, hA, hS⟩ := C0
  exact w_Po_countTerms_0 fl q_p0 q_p0_term f_p0_term i_p0_raise i_p0_sign res ⟨hx, hb, hr, hml, hown, ht, hlocks, hin, hN, hK, hA⟩  s.heap [] ls hm hP hD hS (lv_sub hl [0] rfl)
def ws_Mo_slideEdge (cI cJ cB : ClassId) (q_p1 : Nat) (q_p1_key : Nat) (q_p1_name : Nat) (q_p1_from : Nat) (q_p1_to : Nat) (q_p1_edgeAt : Nat) (q_p1_componentOf : Nat) (q_p1_arcOf : Nat) (q_p1_pieceOf : Nat) (q_p1_faceOf : Nat) (q_p1_faceStart : Nat) (q_p1_faceSize : Nat) (q_p1_scratch : Nat) (q_p2 : Nat) (q_p2_sign : Nat) (q_p2_label : Nat) (q_p2_shape : Nat) (q_p0 : Nat) (i_p1_edges : Int32) (i_p1_components : Int32) (i_p1_pieces : Int32) (i_p1_faces : Int32) (i_p1_brokenRule : Int32) (i_p1_culprit : Int32) (f_p1_edgeAt : Nat → Int32) (f_p1_from : Nat → Int32) (f_p1_name : Nat → Int32) (f_p1_to : Nat → Int32) (i_p2_count : Int32) (i_p2_circles : Int32) (i_p2_shapeIsKnown : Int32) (f_p2_label : Nat → Int32) : va_W := [(q_p1, .inr (5, [.ref q_p1_key, .ref q_p1_name, .ref q_p1_from, .ref q_p1_to, .ref q_p1_edgeAt, .ref q_p1_componentOf, .ref q_p1_arcOf, .ref q_p1_pieceOf, .ref q_p1_faceOf, .ref q_p1_faceStart, .ref q_p1_faceSize, .ref q_p1_scratch, .int i_p1_edges, .int i_p1_components, .int i_p1_pieces, .int i_p1_faces, .int i_p1_brokenRule, .int i_p1_culprit])), (q_p1_edgeAt, .inl (cI, 80, .inl f_p1_edgeAt)), (q_p1_from, .inl (cI, 40, .inl f_p1_from)), (q_p1_name, .inl (cI, 40, .inl f_p1_name)), (q_p1_to, .inl (cI, 40, .inl f_p1_to)), (q_p2, .inr (4, [.ref q_p2_sign, .ref q_p2_label, .ref q_p2_shape, .int i_p2_count, .int i_p2_circles, .int i_p2_shapeIsKnown])), (q_p2_label, .inl (cI, 80, .inl f_p2_label))]
def rm_Mo_slideEdge : Room := { frames := 0, cells := 0, slots := 0, locals := 0 }
def B_Mo_slideEdge_0 (fl : Nat) (f_p1_edgeAt : Nat → Int32) (f_p1_from : Nat → Int32) (f_p1_name : Nat → Int32) (f_p1_to : Nat → Int32) (x3 : Int32) (f_p2_label : Nat → Int32) : Option ((Nat → Int32)) := (if ¬ (x3 < 0 ∨ 40 ≤ Int32.toNatClampNeg x3) then (if ¬ (x3 < 0 ∨ 40 ≤ Int32.toNatClampNeg x3) then (if ¬ (((f_p1_from (Int32.toNatClampNeg x3)) ^^^ (2 : Int32)) < 0 ∨ 80 ≤ Int32.toNatClampNeg ((f_p1_from (Int32.toNatClampNeg x3)) ^^^ (2 : Int32))) then (if ¬ ((f_p1_edgeAt (Int32.toNatClampNeg ((f_p1_from (Int32.toNatClampNeg x3)) ^^^ (2 : Int32)))) < 0 ∨ 40 ≤ Int32.toNatClampNeg (f_p1_edgeAt (Int32.toNatClampNeg ((f_p1_from (Int32.toNatClampNeg x3)) ^^^ (2 : Int32))))) then (if ¬ (((f_p1_to (Int32.toNatClampNeg x3)) ^^^ (2 : Int32)) < 0 ∨ 80 ≤ Int32.toNatClampNeg ((f_p1_to (Int32.toNatClampNeg x3)) ^^^ (2 : Int32))) then (if ¬ ((f_p1_edgeAt (Int32.toNatClampNeg ((f_p1_to (Int32.toNatClampNeg x3)) ^^^ (2 : Int32)))) < 0 ∨ 40 ≤ Int32.toNatClampNeg (f_p1_edgeAt (Int32.toNatClampNeg ((f_p1_to (Int32.toNatClampNeg x3)) ^^^ (2 : Int32))))) then (if ¬ (x3 < 0 ∨ 40 ≤ Int32.toNatClampNeg x3) then (if ¬ (((f_p1_from (Int32.toNatClampNeg x3)) ^^^ (2 : Int32)) < 0 ∨ 80 ≤ Int32.toNatClampNeg ((f_p1_from (Int32.toNatClampNeg x3)) ^^^ (2 : Int32))) then (if ¬ ((f_p1_from (Int32.toNatClampNeg x3)) < 0 ∨ 80 ≤ Int32.toNatClampNeg (f_p1_from (Int32.toNatClampNeg x3))) then (if ¬ ((f_p1_to (Int32.toNatClampNeg x3)) < 0 ∨ 80 ≤ Int32.toNatClampNeg (f_p1_to (Int32.toNatClampNeg x3))) then (if ¬ (x3 < 0 ∨ 40 ≤ Int32.toNatClampNeg x3) then (if ¬ (((f_p1_to (Int32.toNatClampNeg x3)) ^^^ (2 : Int32)) < 0 ∨ 80 ≤ Int32.toNatClampNeg ((f_p1_to (Int32.toNatClampNeg x3)) ^^^ (2 : Int32))) then (some (upd (upd (upd (upd f_p2_label (Int32.toNatClampNeg ((f_p1_from (Int32.toNatClampNeg x3)) ^^^ (2 : Int32))) (f_p1_name (Int32.toNatClampNeg x3))) (Int32.toNatClampNeg (f_p1_from (Int32.toNatClampNeg x3))) (f_p1_name (Int32.toNatClampNeg (f_p1_edgeAt (Int32.toNatClampNeg ((f_p1_to (Int32.toNatClampNeg x3)) ^^^ (2 : Int32))))))) (Int32.toNatClampNeg (f_p1_to (Int32.toNatClampNeg x3))) (f_p1_name (Int32.toNatClampNeg (f_p1_edgeAt (Int32.toNatClampNeg ((f_p1_from (Int32.toNatClampNeg x3)) ^^^ (2 : Int32))))))) (Int32.toNatClampNeg ((f_p1_to (Int32.toNatClampNeg x3)) ^^^ (2 : Int32))) (f_p1_name (Int32.toNatClampNeg x3)))) else none) else none) else none) else none) else none) else none) else none) else none) else none) else none) else none) else none)
def m_Mo_slideEdge (fl : Nat) (f_p1_edgeAt : Nat → Int32) (f_p1_from : Nat → Int32) (f_p1_name : Nat → Int32) (f_p1_to : Nat → Int32) (x3 : Int32) (f_p2_label : Nat → Int32) : Option ((Nat → Int32)) := B_Mo_slideEdge_0 fl f_p1_edgeAt f_p1_from f_p1_name f_p1_to x3 f_p2_label
set_option maxHeartbeats 4000000 in
set_option maxRecDepth 100000 in
theorem w_Mo_slideEdge_0 {p : Program} {l : Launch} {e : Env} {s : State} {m : MethodId} {args : Array Value} {below : List Frame} {meth : Method} {c : Code} {D : va_G} {cI cJ cB : ClassId} {A : Nat → Prop} (fl : Nat) (q_p1 : Nat) (q_p1_key : Nat) (q_p1_name : Nat) (q_p1_from : Nat) (q_p1_to : Nat) (q_p1_edgeAt : Nat) (q_p1_componentOf : Nat) (q_p1_arcOf : Nat) (q_p1_pieceOf : Nat) (q_p1_faceOf : Nat) (q_p1_faceStart : Nat) (q_p1_faceSize : Nat) (q_p1_scratch : Nat) (q_p2 : Nat) (q_p2_sign : Nat) (q_p2_label : Nat) (q_p2_shape : Nat) (q_p0 : Nat) (f_p1_edgeAt : Nat → Int32) (f_p1_from : Nat → Int32) (f_p1_name : Nat → Int32) (f_p1_to : Nat → Int32) (i_p1_edges : Int32) (i_p1_components : Int32) (i_p1_pieces : Int32) (i_p1_faces : Int32) (i_p1_brokenRule : Int32) (i_p1_culprit : Int32) (i_p2_count : Int32) (i_p2_circles : Int32) (i_p2_shapeIsKnown : Int32) (res : (Nat → Int32)) (C0 : vz_Cx p s m meth c b_Mo_slideEdge 8 none "LinkEngine$Moves" "slideEdge" D [(cI, .int), (cJ, .long), (cB, .byte)] A args) : ∀ (x3 : Int32) (f_p2_label : Nat → Int32) (H : Heap) (locs : List Loc) (ls : Array Slot), B_Mo_slideEdge_0 fl f_p1_edgeAt f_p1_from f_p1_name f_p1_to x3 f_p2_label = some res → va_P D classes (ws_Mo_slideEdge cI cJ cB q_p1 q_p1_key q_p1_name q_p1_from q_p1_to q_p1_edgeAt q_p1_componentOf q_p1_arcOf q_p1_pieceOf q_p1_faceOf q_p1_faceStart q_p1_faceSize q_p1_scratch q_p2 q_p2_sign q_p2_label q_p2_shape q_p0 i_p1_edges i_p1_components i_p1_pieces i_p1_faces i_p1_brokenRule i_p1_culprit f_p1_edgeAt f_p1_from f_p1_name f_p1_to i_p2_count i_p2_circles i_p2_shapeIsKnown f_p2_label) H → va_D A (ws_Mo_slideEdge cI cJ cB q_p1 q_p1_key q_p1_name q_p1_from q_p1_to q_p1_edgeAt q_p1_componentOf q_p1_arcOf q_p1_pieceOf q_p1_faceOf q_p1_faceStart q_p1_faceSize q_p1_scratch q_p2 q_p2_sign q_p2_label q_p2_shape q_p0 i_p1_edges i_p1_components i_p1_pieces i_p1_faces i_p1_brokenRule i_p1_culprit f_p1_edgeAt f_p1_from f_p1_name f_p1_to i_p2_count i_p2_circles i_p2_shapeIsKnown f_p2_label) → va_S A s.heap H locs → lv_has ls 8 [(0, .ref q_p0), (1, .ref q_p1), (2, .ref q_p2), (3, .int x3)] → W p l e rm_Mo_slideEdge s m args below meth c H locs 0 0 (MQ below (va_Qv (fun (w : va_W) => w = (ws_Mo_slideEdge cI cJ cB q_p1 q_p1_key q_p1_name q_p1_from q_p1_to q_p1_edgeAt q_p1_componentOf q_p1_arcOf q_p1_pieceOf q_p1_faceOf q_p1_faceStart q_p1_faceSize q_p1_scratch q_p2 q_p2_sign q_p2_label q_p2_shape q_p0 i_p1_edges i_p1_components i_p1_pieces i_p1_faces i_p1_brokenRule i_p1_culprit f_p1_edgeAt f_p1_from f_p1_name f_p1_to i_p2_count i_p2_circles i_p2_shapeIsKnown res)) (vz_B D A) A) args s 0 0 A) (F0 m 0 ls []) := by
  obtain ⟨hx, hb, hr, hml, hown, ht, hlocks, hin, hN, hK, hA⟩ := id C0
  intro x3 f_p2_label H locs ls hm hP hD hS hl
  unfold B_Mo_slideEdge_0 at hm
  refine lv_aload_n hx hb d_Mo_slideEdge_0 rfl (lv_at hl 1 rfl) ?_
  refine va_getN (D := D) (ci := 5) (v := .ref q_p1_from) (C := R_Sh) (T := F_Sh) (N := 18) hx hb ht i_Sh hown hK hP 0 rfl rfl 2 (Nat.le_of_ble_eq_true rfl) (va_Nw.use rfl (hN _ n_29)) (fun _ h9 => h9) rfl d_Mo_slideEdge_1 ?_
  refine lv_iload_n hx hb d_Mo_slideEdge_4 rfl (lv_at hl 3 rfl) ?_
  obtain ⟨hg, hm⟩ := vz_guard hm
  refine va_iald hx hb hK hP 2 0 rfl rfl hg d_Mo_slideEdge_5 ?_
  refine lv_istore (lv' := [(4, .int (f_p1_from (Int32.toNatClampNeg x3))), (0, .ref q_p0), (1, .ref q_p1), (2, .ref q_p2), (3, .int x3)]) hx hb d_Mo_slideEdge_6 hl (by decide) rfl (fun ls hl => ?_)
  refine lv_aload_n hx hb d_Mo_slideEdge_8 rfl (lv_at hl 2 rfl) ?_
  refine va_getN (D := D) (ci := 5) (v := .ref q_p1_to) (C := R_Sh) (T := F_Sh) (N := 18) hx hb ht i_Sh hown hK hP 0 rfl rfl 3 (Nat.le_of_ble_eq_true rfl) (va_Nw.use rfl (hN _ n_30)) (fun _ h9 => h9) rfl d_Mo_slideEdge_9 ?_
  refine lv_iload_n hx hb d_Mo_slideEdge_12 rfl (lv_at hl 4 rfl) ?_
  obtain ⟨hg, hm⟩ := vz_guard hm
  refine va_iald hx hb hK hP 4 0 rfl rfl hg d_Mo_slideEdge_13 ?_
  refine lv_istore (lv' := [(5, .int (f_p1_to (Int32.toNatClampNeg x3))), (4, .int (f_p1_from (Int32.toNatClampNeg x3))), (0, .ref q_p0), (1, .ref q_p1), (2, .ref q_p2), (3, .int x3)]) hx hb d_Mo_slideEdge_14 hl (by decide) rfl (fun ls hl => ?_)
  refine lv_aload_n hx hb d_Mo_slideEdge_16 rfl (lv_at hl 3 rfl) ?_
  refine va_getN (D := D) (ci := 5) (v := .ref q_p1_name) (C := R_Sh) (T := F_Sh) (N := 18) hx hb ht i_Sh hown hK hP 0 rfl rfl 1 (Nat.le_of_ble_eq_true rfl) (va_Nw.use rfl (hN _ n_31)) (fun _ h9 => h9) rfl d_Mo_slideEdge_17 ?_
  refine lv_aload_n hx hb d_Mo_slideEdge_20 rfl (lv_at hl 3 rfl) ?_
  refine va_getN (D := D) (ci := 5) (v := .ref q_p1_edgeAt) (C := R_Sh) (T := F_Sh) (N := 18) hx hb ht i_Sh hown hK hP 0 rfl rfl 4 (Nat.le_of_ble_eq_true rfl) (va_Nw.use rfl (hN _ n_32)) (fun _ h9 => h9) rfl d_Mo_slideEdge_21 ?_
  refine lv_iload hx hb d_Mo_slideEdge_24 (lv_at hl 1 rfl) ?_
  refine lv_iconst (v := 2) hx hb d_Mo_slideEdge_26 (by decide) ?_
  refine lv_ixor hx hb d_Mo_slideEdge_27 ?_
  obtain ⟨hg, hm⟩ := vz_guard hm
  refine va_iald hx hb hK hP 1 0 rfl rfl hg d_Mo_slideEdge_28 ?_
  obtain ⟨hg, hm⟩ := vz_guard hm
  refine va_iald hx hb hK hP 3 0 rfl rfl hg d_Mo_slideEdge_29 ?_
  refine lv_istore (lv' := [(6, .int (f_p1_name (Int32.toNatClampNeg (f_p1_edgeAt (Int32.toNatClampNeg ((f_p1_from (Int32.toNatClampNeg x3)) ^^^ (2 : Int32))))))), (5, .int (f_p1_to (Int32.toNatClampNeg x3))), (4, .int (f_p1_from (Int32.toNatClampNeg x3))), (0, .ref q_p0), (1, .ref q_p1), (2, .ref q_p2), (3, .int x3)]) hx hb d_Mo_slideEdge_30 hl (by decide) rfl (fun ls hl => ?_)
  refine lv_aload_n hx hb d_Mo_slideEdge_32 rfl (lv_at hl 4 rfl) ?_
  refine va_getN (D := D) (ci := 5) (v := .ref q_p1_name) (C := R_Sh) (T := F_Sh) (N := 18) hx hb ht i_Sh hown hK hP 0 rfl rfl 1 (Nat.le_of_ble_eq_true rfl) (va_Nw.use rfl (hN _ n_31)) (fun _ h9 => h9) rfl d_Mo_slideEdge_33 ?_
  refine lv_aload_n hx hb d_Mo_slideEdge_36 rfl (lv_at hl 4 rfl) ?_
  refine va_getN (D := D) (ci := 5) (v := .ref q_p1_edgeAt) (C := R_Sh) (T := F_Sh) (N := 18) hx hb ht i_Sh hown hK hP 0 rfl rfl 4 (Nat.le_of_ble_eq_true rfl) (va_Nw.use rfl (hN _ n_32)) (fun _ h9 => h9) rfl d_Mo_slideEdge_37 ?_
  refine lv_iload hx hb d_Mo_slideEdge_40 (lv_at hl 1 rfl) ?_
  refine lv_iconst (v := 2) hx hb d_Mo_slideEdge_42 (by decide) ?_
  refine lv_ixor hx hb d_Mo_slideEdge_43 ?_
  obtain ⟨hg, hm⟩ := vz_guard hm
  refine va_iald hx hb hK hP 1 0 rfl rfl hg d_Mo_slideEdge_44 ?_
  obtain ⟨hg, hm⟩ := vz_guard hm
  refine va_iald hx hb hK hP 3 0 rfl rfl hg d_Mo_slideEdge_45 ?_
  refine lv_istore (lv' := [(7, .int (f_p1_name (Int32.toNatClampNeg (f_p1_edgeAt (Int32.toNatClampNeg ((f_p1_to (Int32.toNatClampNeg x3)) ^^^ (2 : Int32))))))), (6, .int (f_p1_name (Int32.toNatClampNeg (f_p1_edgeAt (Int32.toNatClampNeg ((f_p1_from (Int32.toNatClampNeg x3)) ^^^ (2 : Int32))))))), (5, .int (f_p1_to (Int32.toNatClampNeg x3))), (4, .int (f_p1_from (Int32.toNatClampNeg x3))), (0, .ref q_p0), (1, .ref q_p1), (2, .ref q_p2), (3, .int x3)]) hx hb d_Mo_slideEdge_46 hl (by decide) rfl (fun ls hl => ?_)
  refine lv_aload_n hx hb d_Mo_slideEdge_48 rfl (lv_at hl 6 rfl) ?_
  refine va_getN (D := D) (ci := 4) (v := .ref q_p2_label) (C := R_Di) (T := F_Di) (N := 6) hx hb ht i_Di hown hK hP 5 rfl rfl 1 (Nat.le_of_ble_eq_true rfl) (va_Nw.use rfl (hN _ n_33)) (fun _ h9 => h9) rfl d_Mo_slideEdge_49 ?_
  refine lv_iload hx hb d_Mo_slideEdge_52 (lv_at hl 3 rfl) ?_
  refine lv_iconst (v := 2) hx hb d_Mo_slideEdge_54 (by decide) ?_
  refine lv_ixor hx hb d_Mo_slideEdge_55 ?_
  refine lv_aload_n hx hb d_Mo_slideEdge_56 rfl (lv_at hl 5 rfl) ?_
  refine va_getN (D := D) (ci := 5) (v := .ref q_p1_name) (C := R_Sh) (T := F_Sh) (N := 18) hx hb ht i_Sh hown hK hP 0 rfl rfl 1 (Nat.le_of_ble_eq_true rfl) (va_Nw.use rfl (hN _ n_31)) (fun _ h9 => h9) rfl d_Mo_slideEdge_57 ?_
  refine lv_iload_n hx hb d_Mo_slideEdge_60 rfl (lv_at hl 7 rfl) ?_
  obtain ⟨hg, hm⟩ := vz_guard hm
  refine va_iald hx hb hK hP 3 0 rfl rfl hg d_Mo_slideEdge_61 ?_
  obtain ⟨hg, hm⟩ := vz_guard hm
  refine va_iast hx hb hK hP hD hS 6 0 rfl rfl hg d_Mo_slideEdge_62 (fun H locs hP hD hS => ?_)
  have hP : va_P D classes (ws_Mo_slideEdge cI cJ cB q_p1 q_p1_key q_p1_name q_p1_from q_p1_to q_p1_edgeAt q_p1_componentOf q_p1_arcOf q_p1_pieceOf q_p1_faceOf q_p1_faceStart q_p1_faceSize q_p1_scratch q_p2 q_p2_sign q_p2_label q_p2_shape q_p0 i_p1_edges i_p1_components i_p1_pieces i_p1_faces i_p1_brokenRule i_p1_culprit f_p1_edgeAt f_p1_from f_p1_name f_p1_to i_p2_count i_p2_circles i_p2_shapeIsKnown (upd f_p2_label (Int32.toNatClampNeg ((f_p1_from (Int32.toNatClampNeg x3)) ^^^ (2 : Int32))) (f_p1_name (Int32.toNatClampNeg x3)))) H := hP
  have hD : va_D A (ws_Mo_slideEdge cI cJ cB q_p1 q_p1_key q_p1_name q_p1_from q_p1_to q_p1_edgeAt q_p1_componentOf q_p1_arcOf q_p1_pieceOf q_p1_faceOf q_p1_faceStart q_p1_faceSize q_p1_scratch q_p2 q_p2_sign q_p2_label q_p2_shape q_p0 i_p1_edges i_p1_components i_p1_pieces i_p1_faces i_p1_brokenRule i_p1_culprit f_p1_edgeAt f_p1_from f_p1_name f_p1_to i_p2_count i_p2_circles i_p2_shapeIsKnown (upd f_p2_label (Int32.toNatClampNeg ((f_p1_from (Int32.toNatClampNeg x3)) ^^^ (2 : Int32))) (f_p1_name (Int32.toNatClampNeg x3)))) := hD
  refine lv_aload_n hx hb d_Mo_slideEdge_63 rfl (lv_at hl 6 rfl) ?_
  refine va_getN (D := D) (ci := 4) (v := .ref q_p2_label) (C := R_Di) (T := F_Di) (N := 6) hx hb ht i_Di hown hK hP 5 rfl rfl 1 (Nat.le_of_ble_eq_true rfl) (va_Nw.use rfl (hN _ n_33)) (fun _ h9 => h9) rfl d_Mo_slideEdge_64 ?_
  refine lv_iload hx hb d_Mo_slideEdge_67 (lv_at hl 3 rfl) ?_
  refine lv_iload hx hb d_Mo_slideEdge_69 (lv_at hl 0 rfl) ?_
  obtain ⟨hg, hm⟩ := vz_guard hm
  refine va_iast hx hb hK hP hD hS 6 0 rfl rfl hg d_Mo_slideEdge_71 (fun H locs hP hD hS => ?_)
  have hP : va_P D classes (ws_Mo_slideEdge cI cJ cB q_p1 q_p1_key q_p1_name q_p1_from q_p1_to q_p1_edgeAt q_p1_componentOf q_p1_arcOf q_p1_pieceOf q_p1_faceOf q_p1_faceStart q_p1_faceSize q_p1_scratch q_p2 q_p2_sign q_p2_label q_p2_shape q_p0 i_p1_edges i_p1_components i_p1_pieces i_p1_faces i_p1_brokenRule i_p1_culprit f_p1_edgeAt f_p1_from f_p1_name f_p1_to i_p2_count i_p2_circles i_p2_shapeIsKnown (upd (upd f_p2_label (Int32.toNatClampNeg ((f_p1_from (Int32.toNatClampNeg x3)) ^^^ (2 : Int32))) (f_p1_name (Int32.toNatClampNeg x3))) (Int32.toNatClampNeg (f_p1_from (Int32.toNatClampNeg x3))) (f_p1_name (Int32.toNatClampNeg (f_p1_edgeAt (Int32.toNatClampNeg ((f_p1_to (Int32.toNatClampNeg x3)) ^^^ (2 : Int32)))))))) H := hP
  have hD : va_D A (ws_Mo_slideEdge cI cJ cB q_p1 q_p1_key q_p1_name q_p1_from q_p1_to q_p1_edgeAt q_p1_componentOf q_p1_arcOf q_p1_pieceOf q_p1_faceOf q_p1_faceStart q_p1_faceSize q_p1_scratch q_p2 q_p2_sign q_p2_label q_p2_shape q_p0 i_p1_edges i_p1_components i_p1_pieces i_p1_faces i_p1_brokenRule i_p1_culprit f_p1_edgeAt f_p1_from f_p1_name f_p1_to i_p2_count i_p2_circles i_p2_shapeIsKnown (upd (upd f_p2_label (Int32.toNatClampNeg ((f_p1_from (Int32.toNatClampNeg x3)) ^^^ (2 : Int32))) (f_p1_name (Int32.toNatClampNeg x3))) (Int32.toNatClampNeg (f_p1_from (Int32.toNatClampNeg x3))) (f_p1_name (Int32.toNatClampNeg (f_p1_edgeAt (Int32.toNatClampNeg ((f_p1_to (Int32.toNatClampNeg x3)) ^^^ (2 : Int32)))))))) := hD
  refine lv_aload_n hx hb d_Mo_slideEdge_72 rfl (lv_at hl 6 rfl) ?_
  refine va_getN (D := D) (ci := 4) (v := .ref q_p2_label) (C := R_Di) (T := F_Di) (N := 6) hx hb ht i_Di hown hK hP 5 rfl rfl 1 (Nat.le_of_ble_eq_true rfl) (va_Nw.use rfl (hN _ n_33)) (fun _ h9 => h9) rfl d_Mo_slideEdge_73 ?_
  refine lv_iload hx hb d_Mo_slideEdge_76 (lv_at hl 2 rfl) ?_
  refine lv_iload hx hb d_Mo_slideEdge_78 (lv_at hl 1 rfl) ?_
  obtain ⟨hg, hm⟩ := vz_guard hm
  refine va_iast hx hb hK hP hD hS 6 0 rfl rfl hg d_Mo_slideEdge_80 (fun H locs hP hD hS => ?_)
  have hP : va_P D classes (ws_Mo_slideEdge cI cJ cB q_p1 q_p1_key q_p1_name q_p1_from q_p1_to q_p1_edgeAt q_p1_componentOf q_p1_arcOf q_p1_pieceOf q_p1_faceOf q_p1_faceStart q_p1_faceSize q_p1_scratch q_p2 q_p2_sign q_p2_label q_p2_shape q_p0 i_p1_edges i_p1_components i_p1_pieces i_p1_faces i_p1_brokenRule i_p1_culprit f_p1_edgeAt f_p1_from f_p1_name f_p1_to i_p2_count i_p2_circles i_p2_shapeIsKnown (upd (upd (upd f_p2_label (Int32.toNatClampNeg ((f_p1_from (Int32.toNatClampNeg x3)) ^^^ (2 : Int32))) (f_p1_name (Int32.toNatClampNeg x3))) (Int32.toNatClampNeg (f_p1_from (Int32.toNatClampNeg x3))) (f_p1_name (Int32.toNatClampNeg (f_p1_edgeAt (Int32.toNatClampNeg ((f_p1_to (Int32.toNatClampNeg x3)) ^^^ (2 : Int32))))))) (Int32.toNatClampNeg (f_p1_to (Int32.toNatClampNeg x3))) (f_p1_name (Int32.toNatClampNeg (f_p1_edgeAt (Int32.toNatClampNeg ((f_p1_from (Int32.toNatClampNeg x3)) ^^^ (2 : Int32)))))))) H := hP
  have hD : va_D A (ws_Mo_slideEdge cI cJ cB q_p1 q_p1_key q_p1_name q_p1_from q_p1_to q_p1_edgeAt q_p1_componentOf q_p1_arcOf q_p1_pieceOf q_p1_faceOf q_p1_faceStart q_p1_faceSize q_p1_scratch q_p2 q_p2_sign q_p2_label q_p2_shape q_p0 i_p1_edges i_p1_components i_p1_pieces i_p1_faces i_p1_brokenRule i_p1_culprit f_p1_edgeAt f_p1_from f_p1_name f_p1_to i_p2_count i_p2_circles i_p2_shapeIsKnown (upd (upd (upd f_p2_label (Int32.toNatClampNeg ((f_p1_from (Int32.toNatClampNeg x3)) ^^^ (2 : Int32))) (f_p1_name (Int32.toNatClampNeg x3))) (Int32.toNatClampNeg (f_p1_from (Int32.toNatClampNeg x3))) (f_p1_name (Int32.toNatClampNeg (f_p1_edgeAt (Int32.toNatClampNeg ((f_p1_to (Int32.toNatClampNeg x3)) ^^^ (2 : Int32))))))) (Int32.toNatClampNeg (f_p1_to (Int32.toNatClampNeg x3))) (f_p1_name (Int32.toNatClampNeg (f_p1_edgeAt (Int32.toNatClampNeg ((f_p1_from (Int32.toNatClampNeg x3)) ^^^ (2 : Int32)))))))) := hD
  refine lv_aload_n hx hb d_Mo_slideEdge_81 rfl (lv_at hl 6 rfl) ?_
  refine va_getN (D := D) (ci := 4) (v := .ref q_p2_label) (C := R_Di) (T := F_Di) (N := 6) hx hb ht i_Di hown hK hP 5 rfl rfl 1 (Nat.le_of_ble_eq_true rfl) (va_Nw.use rfl (hN _ n_33)) (fun _ h9 => h9) rfl d_Mo_slideEdge_82 ?_
  refine lv_iload hx hb d_Mo_slideEdge_85 (lv_at hl 2 rfl) ?_
  refine lv_iconst (v := 2) hx hb d_Mo_slideEdge_87 (by decide) ?_
  refine lv_ixor hx hb d_Mo_slideEdge_88 ?_
  refine lv_aload_n hx hb d_Mo_slideEdge_89 rfl (lv_at hl 5 rfl) ?_
  refine va_getN (D := D) (ci := 5) (v := .ref q_p1_name) (C := R_Sh) (T := F_Sh) (N := 18) hx hb ht i_Sh hown hK hP 0 rfl rfl 1 (Nat.le_of_ble_eq_true rfl) (va_Nw.use rfl (hN _ n_31)) (fun _ h9 => h9) rfl d_Mo_slideEdge_90 ?_
  refine lv_iload_n hx hb d_Mo_slideEdge_93 rfl (lv_at hl 7 rfl) ?_
  obtain ⟨hg, hm⟩ := vz_guard hm
  refine va_iald hx hb hK hP 3 0 rfl rfl hg d_Mo_slideEdge_94 ?_
  obtain ⟨hg, hm⟩ := vz_guard hm
  refine va_iast hx hb hK hP hD hS 6 0 rfl rfl hg d_Mo_slideEdge_95 (fun H locs hP hD hS => ?_)
  have hP : va_P D classes (ws_Mo_slideEdge cI cJ cB q_p1 q_p1_key q_p1_name q_p1_from q_p1_to q_p1_edgeAt q_p1_componentOf q_p1_arcOf q_p1_pieceOf q_p1_faceOf q_p1_faceStart q_p1_faceSize q_p1_scratch q_p2 q_p2_sign q_p2_label q_p2_shape q_p0 i_p1_edges i_p1_components i_p1_pieces i_p1_faces i_p1_brokenRule i_p1_culprit f_p1_edgeAt f_p1_from f_p1_name f_p1_to i_p2_count i_p2_circles i_p2_shapeIsKnown (upd (upd (upd (upd f_p2_label (Int32.toNatClampNeg ((f_p1_from (Int32.toNatClampNeg x3)) ^^^ (2 : Int32))) (f_p1_name (Int32.toNatClampNeg x3))) (Int32.toNatClampNeg (f_p1_from (Int32.toNatClampNeg x3))) (f_p1_name (Int32.toNatClampNeg (f_p1_edgeAt (Int32.toNatClampNeg ((f_p1_to (Int32.toNatClampNeg x3)) ^^^ (2 : Int32))))))) (Int32.toNatClampNeg (f_p1_to (Int32.toNatClampNeg x3))) (f_p1_name (Int32.toNatClampNeg (f_p1_edgeAt (Int32.toNatClampNeg ((f_p1_from (Int32.toNatClampNeg x3)) ^^^ (2 : Int32))))))) (Int32.toNatClampNeg ((f_p1_to (Int32.toNatClampNeg x3)) ^^^ (2 : Int32))) (f_p1_name (Int32.toNatClampNeg x3)))) H := hP
  have hD : va_D A (ws_Mo_slideEdge cI cJ cB q_p1 q_p1_key q_p1_name q_p1_from q_p1_to q_p1_edgeAt q_p1_componentOf q_p1_arcOf q_p1_pieceOf q_p1_faceOf q_p1_faceStart q_p1_faceSize q_p1_scratch q_p2 q_p2_sign q_p2_label q_p2_shape q_p0 i_p1_edges i_p1_components i_p1_pieces i_p1_faces i_p1_brokenRule i_p1_culprit f_p1_edgeAt f_p1_from f_p1_name f_p1_to i_p2_count i_p2_circles i_p2_shapeIsKnown (upd (upd (upd (upd f_p2_label (Int32.toNatClampNeg ((f_p1_from (Int32.toNatClampNeg x3)) ^^^ (2 : Int32))) (f_p1_name (Int32.toNatClampNeg x3))) (Int32.toNatClampNeg (f_p1_from (Int32.toNatClampNeg x3))) (f_p1_name (Int32.toNatClampNeg (f_p1_edgeAt (Int32.toNatClampNeg ((f_p1_to (Int32.toNatClampNeg x3)) ^^^ (2 : Int32))))))) (Int32.toNatClampNeg (f_p1_to (Int32.toNatClampNeg x3))) (f_p1_name (Int32.toNatClampNeg (f_p1_edgeAt (Int32.toNatClampNeg ((f_p1_from (Int32.toNatClampNeg x3)) ^^^ (2 : Int32))))))) (Int32.toNatClampNeg ((f_p1_to (Int32.toNatClampNeg x3)) ^^^ (2 : Int32))) (f_p1_name (Int32.toNatClampNeg x3)))) := hD
  obtain rfl := Option.some.inj hm
  exact vz_vret hx hb hr hlocks hP hD hS (Nat.le_refl _) (Nat.le_refl _) d_Mo_slideEdge_96 rfl
set_option maxHeartbeats 4000000 in
set_option maxRecDepth 100000 in
theorem k_Mo_slideEdge (l : Launch) (D : va_G) (cI cJ cB : ClassId) (fl : Nat) (q_p1 : Nat) (q_p1_key : Nat) (q_p1_name : Nat) (q_p1_from : Nat) (q_p1_to : Nat) (q_p1_edgeAt : Nat) (q_p1_componentOf : Nat) (q_p1_arcOf : Nat) (q_p1_pieceOf : Nat) (q_p1_faceOf : Nat) (q_p1_faceStart : Nat) (q_p1_faceSize : Nat) (q_p1_scratch : Nat) (q_p2 : Nat) (q_p2_sign : Nat) (q_p2_label : Nat) (q_p2_shape : Nat) (q_p0 : Nat) (f_p1_edgeAt : Nat → Int32) (f_p1_from : Nat → Int32) (f_p1_name : Nat → Int32) (f_p1_to : Nat → Int32) (i_p1_edges : Int32) (i_p1_components : Int32) (i_p1_pieces : Int32) (i_p1_faces : Int32) (i_p1_brokenRule : Int32) (i_p1_culprit : Int32) (i_p2_count : Int32) (i_p2_circles : Int32) (i_p2_shapeIsKnown : Int32) (f_p2_label : Nat → Int32) (x3 : Int32) (res : (Nat → Int32)) (hm : m_Mo_slideEdge fl f_p1_edgeAt f_p1_from f_p1_name f_p1_to x3 f_p2_label = some res) : MtV l y_Mo_slideEdge (.code y_Mo_slideEdge b_Mo_slideEdge 8 none :: CW) rm_Mo_slideEdge D [(cI, .int), (cJ, .long), (cB, .byte)] [.ref q_p0, .ref q_p1, .ref q_p2, .int x3] (ws_Mo_slideEdge cI cJ cB q_p1 q_p1_key q_p1_name q_p1_from q_p1_to q_p1_edgeAt q_p1_componentOf q_p1_arcOf q_p1_pieceOf q_p1_faceOf q_p1_faceStart q_p1_faceSize q_p1_scratch q_p2 q_p2_sign q_p2_label q_p2_shape q_p0 i_p1_edges i_p1_components i_p1_pieces i_p1_faces i_p1_brokenRule i_p1_culprit f_p1_edgeAt f_p1_from f_p1_name f_p1_to i_p2_count i_p2_circles i_p2_shapeIsKnown f_p2_label) (fun (w : va_W) => w = (ws_Mo_slideEdge cI cJ cB q_p1 q_p1_key q_p1_name q_p1_from q_p1_to q_p1_edgeAt q_p1_componentOf q_p1_arcOf q_p1_pieceOf q_p1_faceOf q_p1_faceStart q_p1_faceSize q_p1_scratch q_p2 q_p2_sign q_p2_label q_p2_shape q_p0 i_p1_edges i_p1_components i_p1_pieces i_p1_faces i_p1_brokenRule i_p1_culprit f_p1_edgeAt f_p1_from f_p1_name f_p1_to i_p2_count i_p2_circles i_p2_shapeIsKnown res)) := by
  intro sz
  refine vz_start (Qc := fun A => va_Qv (fun (w : va_W) => w = (ws_Mo_slideEdge cI cJ cB q_p1 q_p1_key q_p1_name q_p1_from q_p1_to q_p1_edgeAt q_p1_componentOf q_p1_arcOf q_p1_pieceOf q_p1_faceOf q_p1_faceStart q_p1_faceSize q_p1_scratch q_p2 q_p2_sign q_p2_label q_p2_shape q_p0 i_p1_edges i_p1_components i_p1_pieces i_p1_faces i_p1_brokenRule i_p1_culprit f_p1_edgeAt f_p1_from f_p1_name f_p1_to i_p2_count i_p2_circles i_p2_shapeIsKnown res)) (vz_B D A) A) (lv0 := [(0, .ref q_p0), (1, .ref q_p1), (2, .ref q_p2), (3, .int x3)]) (by decide +kernel) (Nat.le_of_ble_eq_true rfl) rfl ?_
  intro p e s m below meth c A ls C0 hl
  obtain ⟨hx, hb, hr, hml, hown, ht, hlocks, hin, hN, hK, hP, hD, hA, hS⟩ := C0
  exact w_Mo_slideEdge_0 fl q_p1 q_p1_key q_p1_name q_p1_from q_p1_to q_p1_edgeAt q_p1_componentOf q_p1_arcOf q_p1_pieceOf q_p1_faceOf q_p1_faceStart q_p1_faceSize q_p1_scratch q_p2 q_p2_sign q_p2_label q_p2_shape q_p0 f_p1_edgeAt f_p1_from f_p1_name f_p1_to i_p1_edges i_p1_components i_p1_pieces i_p1_faces i_p1_brokenRule i_p1_culprit i_p2_count i_p2_circles i_p2_shapeIsKnown res ⟨hx, hb, hr, hml, hown, ht, hlocks, hin, hN, hK, hA⟩ x3 f_p2_label s.heap [] ls hm hP hD hS (lv_sub hl [0, 1, 2, 3] rfl)
def ws_Sh_findFree (cI cJ cB : ClassId) (q_p0 : Nat) (q_p0_key : Nat) (q_p0_name : Nat) (q_p0_from : Nat) (q_p0_to : Nat) (q_p0_edgeAt : Nat) (q_p0_componentOf : Nat) (q_p0_arcOf : Nat) (q_p0_pieceOf : Nat) (q_p0_faceOf : Nat) (q_p0_faceStart : Nat) (q_p0_faceSize : Nat) (q_p0_scratch : Nat) (q_p1 : Nat) (i_p0_edges : Int32) (i_p0_components : Int32) (i_p0_pieces : Int32) (i_p0_faces : Int32) (i_p0_brokenRule : Int32) (i_p0_culprit : Int32) (f_p0_name : Nat → Int32) (f_p1 : Nat → Int32) : va_W := [(q_p0, .inr (5, [.ref q_p0_key, .ref q_p0_name, .ref q_p0_from, .ref q_p0_to, .ref q_p0_edgeAt, .ref q_p0_componentOf, .ref q_p0_arcOf, .ref q_p0_pieceOf, .ref q_p0_faceOf, .ref q_p0_faceStart, .ref q_p0_faceSize, .ref q_p0_scratch, .int i_p0_edges, .int i_p0_components, .int i_p0_pieces, .int i_p0_faces, .int i_p0_brokenRule, .int i_p0_culprit])), (q_p0_name, .inl (cI, 40, .inl f_p0_name)), (q_p1, .inl (cI, 4, .inl f_p1))]
def rm_Sh_findFree : Room := { frames := 0, cells := 0, slots := 0, locals := 0 }
def B_Sh_findFree_56 (fl : Nat) (i_p0_edges : Int32) (f_p0_name : Nat → Int32) (kb_7 : Int32 → Int32 → Int32 → (Nat → Int32) → Option ((Nat → Int32))) (x2 : Int32) (x3 : Int32) (x4 : Int32) (f_p1 : Nat → Int32) : Option ((Nat → Int32)) := kb_7 x2 x3 (x4 + 1) f_p1
def B_Sh_findFree_48 (fl : Nat) (i_p0_edges : Int32) (f_p0_name : Nat → Int32) (kb_7 : Int32 → Int32 → Int32 → (Nat → Int32) → Option ((Nat → Int32))) (x2 : Int32) (x3 : Int32) (x4 : Int32) (f_p1 : Nat → Int32) : Option ((Nat → Int32)) := (if ¬ (x3 < 0 ∨ 4 ≤ Int32.toNatClampNeg x3) then B_Sh_findFree_56 fl i_p0_edges f_p0_name kb_7 x2 (x3 + 1) x4 (upd f_p1 (Int32.toNatClampNeg x3) x4) else none)
def B_Sh_findFree_7 (fl : Nat) (i_p0_edges : Int32) (f_p0_name : Nat → Int32) : Nat → Int32 → Int32 → Int32 → (Nat → Int32) → Option ((Nat → Int32))
  | 0, _, _, _, _ => none
  | nn + 1, x2, x3, x4, f_p1 => (if (4 : Int32) ≤ x3 then (some f_p1) else (if ((40 : Int32) + (4 : Int32)) < x4 then (some f_p1) else (if i_p0_edges ≤ x2 then B_Sh_findFree_48 fl i_p0_edges f_p0_name (B_Sh_findFree_7 fl i_p0_edges f_p0_name nn) x2 x3 x4 f_p1 else (if ¬ (x2 < 0 ∨ 40 ≤ Int32.toNatClampNeg x2) then (if ¬ (f_p0_name (Int32.toNatClampNeg x2)) = x4 then B_Sh_findFree_48 fl i_p0_edges f_p0_name (B_Sh_findFree_7 fl i_p0_edges f_p0_name nn) x2 x3 x4 f_p1 else B_Sh_findFree_56 fl i_p0_edges f_p0_name (B_Sh_findFree_7 fl i_p0_edges f_p0_name nn) (x2 + 1) x3 x4 f_p1) else none))))
def B_Sh_findFree_0 (fl : Nat) (i_p0_edges : Int32) (f_p0_name : Nat → Int32) (f_p1 : Nat → Int32) : Option ((Nat → Int32)) := B_Sh_findFree_7 fl i_p0_edges f_p0_name fl 0 0 1 f_p1
def m_Sh_findFree (fl : Nat) (i_p0_edges : Int32) (f_p0_name : Nat → Int32) (f_p1 : Nat → Int32) : Option ((Nat → Int32)) := B_Sh_findFree_0 fl i_p0_edges f_p0_name f_p1
set_option maxHeartbeats 4000000 in
set_option maxRecDepth 100000 in
theorem w_Sh_findFree_56 {p : Program} {l : Launch} {e : Env} {s : State} {m : MethodId} {args : Array Value} {below : List Frame} {meth : Method} {c : Code} {D : va_G} {cI cJ cB : ClassId} {A : Nat → Prop} (fl : Nat) (q_p0 : Nat) (q_p0_key : Nat) (q_p0_name : Nat) (q_p0_from : Nat) (q_p0_to : Nat) (q_p0_edgeAt : Nat) (q_p0_componentOf : Nat) (q_p0_arcOf : Nat) (q_p0_pieceOf : Nat) (q_p0_faceOf : Nat) (q_p0_faceStart : Nat) (q_p0_faceSize : Nat) (q_p0_scratch : Nat) (q_p1 : Nat) (i_p0_edges : Int32) (f_p0_name : Nat → Int32) (i_p0_components : Int32) (i_p0_pieces : Int32) (i_p0_faces : Int32) (i_p0_brokenRule : Int32) (i_p0_culprit : Int32) (res : (Nat → Int32)) (C0 : vz_Cx p s m meth c b_Sh_findFree 5 none "LinkEngine$Shape" "findFree" D [(cI, .int), (cJ, .long), (cB, .byte)] A args) (kb_7 : Int32 → Int32 → Int32 → (Nat → Int32) → Option ((Nat → Int32))) (hk_7 : ∀ (x2 : Int32) (x3 : Int32) (x4 : Int32) (f_p1 : Nat → Int32) (H : Heap) (locs : List Loc) (ls : Array Slot), kb_7 x2 x3 x4 f_p1 = some res → va_P D classes (ws_Sh_findFree cI cJ cB q_p0 q_p0_key q_p0_name q_p0_from q_p0_to q_p0_edgeAt q_p0_componentOf q_p0_arcOf q_p0_pieceOf q_p0_faceOf q_p0_faceStart q_p0_faceSize q_p0_scratch q_p1 i_p0_edges i_p0_components i_p0_pieces i_p0_faces i_p0_brokenRule i_p0_culprit f_p0_name f_p1) H → va_D A (ws_Sh_findFree cI cJ cB q_p0 q_p0_key q_p0_name q_p0_from q_p0_to q_p0_edgeAt q_p0_componentOf q_p0_arcOf q_p0_pieceOf q_p0_faceOf q_p0_faceStart q_p0_faceSize q_p0_scratch q_p1 i_p0_edges i_p0_components i_p0_pieces i_p0_faces i_p0_brokenRule i_p0_culprit f_p0_name f_p1) → va_S A s.heap H locs → lv_has ls 5 [(0, .ref q_p0), (1, .ref q_p1), (2, .int x2), (3, .int x3), (4, .int x4)] → W p l e rm_Sh_findFree s m args below meth c H locs 0 0 (MQ below (va_Qv (fun (w : va_W) => w = (ws_Sh_findFree cI cJ cB q_p0 q_p0_key q_p0_name q_p0_from q_p0_to q_p0_edgeAt q_p0_componentOf q_p0_arcOf q_p0_pieceOf q_p0_faceOf q_p0_faceStart q_p0_faceSize q_p0_scratch q_p1 i_p0_edges i_p0_components i_p0_pieces i_p0_faces i_p0_brokenRule i_p0_culprit f_p0_name res)) (vz_B D A) A) args s 0 0 A) (F0 m 7 ls [])) : ∀ (x2 : Int32) (x3 : Int32) (x4 : Int32) (f_p1 : Nat → Int32) (H : Heap) (locs : List Loc) (ls : Array Slot), B_Sh_findFree_56 fl i_p0_edges f_p0_name kb_7 x2 x3 x4 f_p1 = some res → va_P D classes (ws_Sh_findFree cI cJ cB q_p0 q_p0_key q_p0_name q_p0_from q_p0_to q_p0_edgeAt q_p0_componentOf q_p0_arcOf q_p0_pieceOf q_p0_faceOf q_p0_faceStart q_p0_faceSize q_p0_scratch q_p1 i_p0_edges i_p0_components i_p0_pieces i_p0_faces i_p0_brokenRule i_p0_culprit f_p0_name f_p1) H → va_D A (ws_Sh_findFree cI cJ cB q_p0 q_p0_key q_p0_name q_p0_from q_p0_to q_p0_edgeAt q_p0_componentOf q_p0_arcOf q_p0_pieceOf q_p0_faceOf q_p0_faceStart q_p0_faceSize q_p0_scratch q_p1 i_p0_edges i_p0_components i_p0_pieces i_p0_faces i_p0_brokenRule i_p0_culprit f_p0_name f_p1) → va_S A s.heap H locs → lv_has ls 5 [(0, .ref q_p0), (1, .ref q_p1), (2, .int x2), (3, .int x3), (4, .int x4)] → W p l e rm_Sh_findFree s m args below meth c H locs 0 0 (MQ below (va_Qv (fun (w : va_W) => w = (ws_Sh_findFree cI cJ cB q_p0 q_p0_key q_p0_name q_p0_from q_p0_to q_p0_edgeAt q_p0_componentOf q_p0_arcOf q_p0_pieceOf q_p0_faceOf q_p0_faceStart q_p0_faceSize q_p0_scratch q_p1 i_p0_edges i_p0_components i_p0_pieces i_p0_faces i_p0_brokenRule i_p0_culprit f_p0_name res)) (vz_B D A) A) args s 0 0 A) (F0 m 56 ls []) := by
  obtain ⟨hx, hb, hr, hml, hown, ht, hlocks, hin, hN, hK, hA⟩ := id C0
  intro x2 x3 x4 f_p1 H locs ls hm hP hD hS hl
  unfold B_Sh_findFree_56 at hm
  refine lv_iinc (v := (x4 + 1)) (lv' := [(4, .int (x4 + 1)), (0, .ref q_p0), (1, .ref q_p1), (2, .int x2), (3, .int x3)]) hx hb d_Sh_findFree_56 hl (k := 4) rfl rfl (by decide) rfl (fun ls hl => ?_)
  refine lv_goto (tgt := 7) hx hb d_Sh_findFree_59 (by decide) ?_
  exact hk_7 x2 x3 (x4 + 1) f_p1 _ _ _ hm hP hD hS (lv_sub hl [1, 2, 3, 4, 0] rfl)
set_option maxHeartbeats 4000000 in
set_option maxRecDepth 100000 in
theorem w_Sh_findFree_48 {p : Program} {l : Launch} {e : Env} {s : State} {m : MethodId} {args : Array Value} {below : List Frame} {meth : Method} {c : Code} {D : va_G} {cI cJ cB : ClassId} {A : Nat → Prop} (fl : Nat) (q_p0 : Nat) (q_p0_key : Nat) (q_p0_name : Nat) (q_p0_from : Nat) (q_p0_to : Nat) (q_p0_edgeAt : Nat) (q_p0_componentOf : Nat) (q_p0_arcOf : Nat) (q_p0_pieceOf : Nat) (q_p0_faceOf : Nat) (q_p0_faceStart : Nat) (q_p0_faceSize : Nat) (q_p0_scratch : Nat) (q_p1 : Nat) (i_p0_edges : Int32) (f_p0_name : Nat → Int32) (i_p0_components : Int32) (i_p0_pieces : Int32) (i_p0_faces : Int32) (i_p0_brokenRule : Int32) (i_p0_culprit : Int32) (res : (Nat → Int32)) (C0 : vz_Cx p s m meth c b_Sh_findFree 5 none "LinkEngine$Shape" "findFree" D [(cI, .int), (cJ, .long), (cB, .byte)] A args) (kb_7 : Int32 → Int32 → Int32 → (Nat → Int32) → Option ((Nat → Int32))) (hk_7 : ∀ (x2 : Int32) (x3 : Int32) (x4 : Int32) (f_p1 : Nat → Int32) (H : Heap) (locs : List Loc) (ls : Array Slot), kb_7 x2 x3 x4 f_p1 = some res → va_P D classes (ws_Sh_findFree cI cJ cB q_p0 q_p0_key q_p0_name q_p0_from q_p0_to q_p0_edgeAt q_p0_componentOf q_p0_arcOf q_p0_pieceOf q_p0_faceOf q_p0_faceStart q_p0_faceSize q_p0_scratch q_p1 i_p0_edges i_p0_components i_p0_pieces i_p0_faces i_p0_brokenRule i_p0_culprit f_p0_name f_p1) H → va_D A (ws_Sh_findFree cI cJ cB q_p0 q_p0_key q_p0_name q_p0_from q_p0_to q_p0_edgeAt q_p0_componentOf q_p0_arcOf q_p0_pieceOf q_p0_faceOf q_p0_faceStart q_p0_faceSize q_p0_scratch q_p1 i_p0_edges i_p0_components i_p0_pieces i_p0_faces i_p0_brokenRule i_p0_culprit f_p0_name f_p1) → va_S A s.heap H locs → lv_has ls 5 [(0, .ref q_p0), (1, .ref q_p1), (2, .int x2), (3, .int x3), (4, .int x4)] → W p l e rm_Sh_findFree s m args below meth c H locs 0 0 (MQ below (va_Qv (fun (w : va_W) => w = (ws_Sh_findFree cI cJ cB q_p0 q_p0_key q_p0_name q_p0_from q_p0_to q_p0_edgeAt q_p0_componentOf q_p0_arcOf q_p0_pieceOf q_p0_faceOf q_p0_faceStart q_p0_faceSize q_p0_scratch q_p1 i_p0_edges i_p0_components i_p0_pieces i_p0_faces i_p0_brokenRule i_p0_culprit f_p0_name res)) (vz_B D A) A) args s 0 0 A) (F0 m 7 ls [])) : ∀ (x2 : Int32) (x3 : Int32) (x4 : Int32) (f_p1 : Nat → Int32) (H : Heap) (locs : List Loc) (ls : Array Slot), B_Sh_findFree_48 fl i_p0_edges f_p0_name kb_7 x2 x3 x4 f_p1 = some res → va_P D classes (ws_Sh_findFree cI cJ cB q_p0 q_p0_key q_p0_name q_p0_from q_p0_to q_p0_edgeAt q_p0_componentOf q_p0_arcOf q_p0_pieceOf q_p0_faceOf q_p0_faceStart q_p0_faceSize q_p0_scratch q_p1 i_p0_edges i_p0_components i_p0_pieces i_p0_faces i_p0_brokenRule i_p0_culprit f_p0_name f_p1) H → va_D A (ws_Sh_findFree cI cJ cB q_p0 q_p0_key q_p0_name q_p0_from q_p0_to q_p0_edgeAt q_p0_componentOf q_p0_arcOf q_p0_pieceOf q_p0_faceOf q_p0_faceStart q_p0_faceSize q_p0_scratch q_p1 i_p0_edges i_p0_components i_p0_pieces i_p0_faces i_p0_brokenRule i_p0_culprit f_p0_name f_p1) → va_S A s.heap H locs → lv_has ls 5 [(0, .ref q_p0), (1, .ref q_p1), (2, .int x2), (3, .int x3), (4, .int x4)] → W p l e rm_Sh_findFree s m args below meth c H locs 0 0 (MQ below (va_Qv (fun (w : va_W) => w = (ws_Sh_findFree cI cJ cB q_p0 q_p0_key q_p0_name q_p0_from q_p0_to q_p0_edgeAt q_p0_componentOf q_p0_arcOf q_p0_pieceOf q_p0_faceOf q_p0_faceStart q_p0_faceSize q_p0_scratch q_p1 i_p0_edges i_p0_components i_p0_pieces i_p0_faces i_p0_brokenRule i_p0_culprit f_p0_name res)) (vz_B D A) A) args s 0 0 A) (F0 m 48 ls []) := by
  obtain ⟨hx, hb, hr, hml, hown, ht, hlocks, hin, hN, hK, hA⟩ := id C0
  intro x2 x3 x4 f_p1 H locs ls hm hP hD hS hl
  unfold B_Sh_findFree_48 at hm
  refine lv_aload_n hx hb d_Sh_findFree_48 rfl (lv_at hl 1 rfl) ?_
  refine lv_iload_n hx hb d_Sh_findFree_49 rfl (lv_at hl 3 rfl) ?_
  refine lv_iload hx hb d_Sh_findFree_50 (lv_at hl 4 rfl) ?_
  obtain ⟨hg, hm⟩ := vz_guard hm
  refine va_iast hx hb hK hP hD hS 2 0 rfl rfl hg d_Sh_findFree_52 (fun H locs hP hD hS => ?_)
  have hP : va_P D classes (ws_Sh_findFree cI cJ cB q_p0 q_p0_key q_p0_name q_p0_from q_p0_to q_p0_edgeAt q_p0_componentOf q_p0_arcOf q_p0_pieceOf q_p0_faceOf q_p0_faceStart q_p0_faceSize q_p0_scratch q_p1 i_p0_edges i_p0_components i_p0_pieces i_p0_faces i_p0_brokenRule i_p0_culprit f_p0_name (upd f_p1 (Int32.toNatClampNeg x3) x4)) H := hP
  have hD : va_D A (ws_Sh_findFree cI cJ cB q_p0 q_p0_key q_p0_name q_p0_from q_p0_to q_p0_edgeAt q_p0_componentOf q_p0_arcOf q_p0_pieceOf q_p0_faceOf q_p0_faceStart q_p0_faceSize q_p0_scratch q_p1 i_p0_edges i_p0_components i_p0_pieces i_p0_faces i_p0_brokenRule i_p0_culprit f_p0_name (upd f_p1 (Int32.toNatClampNeg x3) x4)) := hD
  refine lv_iinc (v := (x3 + 1)) (lv' := [(3, .int (x3 + 1)), (0, .ref q_p0), (1, .ref q_p1), (2, .int x2), (4, .int x4)]) hx hb d_Sh_findFree_53 hl (k := 3) rfl rfl (by decide) rfl (fun ls hl => ?_)
  exact w_Sh_findFree_56 fl q_p0 q_p0_key q_p0_name q_p0_from q_p0_to q_p0_edgeAt q_p0_componentOf q_p0_arcOf q_p0_pieceOf q_p0_faceOf q_p0_faceStart q_p0_faceSize q_p0_scratch q_p1 i_p0_edges f_p0_name i_p0_components i_p0_pieces i_p0_faces i_p0_brokenRule i_p0_culprit res C0 kb_7 hk_7 x2 (x3 + 1) x4 (upd f_p1 (Int32.toNatClampNeg x3) x4) _ _ _ hm hP hD hS (lv_sub hl [1, 2, 3, 0, 4] rfl)
set_option maxHeartbeats 4000000 in
set_option maxRecDepth 100000 in
theorem w_Sh_findFree_7 {p : Program} {l : Launch} {e : Env} {s : State} {m : MethodId} {args : Array Value} {below : List Frame} {meth : Method} {c : Code} {D : va_G} {cI cJ cB : ClassId} {A : Nat → Prop} (fl : Nat) (q_p0 : Nat) (q_p0_key : Nat) (q_p0_name : Nat) (q_p0_from : Nat) (q_p0_to : Nat) (q_p0_edgeAt : Nat) (q_p0_componentOf : Nat) (q_p0_arcOf : Nat) (q_p0_pieceOf : Nat) (q_p0_faceOf : Nat) (q_p0_faceStart : Nat) (q_p0_faceSize : Nat) (q_p0_scratch : Nat) (q_p1 : Nat) (i_p0_edges : Int32) (f_p0_name : Nat → Int32) (i_p0_components : Int32) (i_p0_pieces : Int32) (i_p0_faces : Int32) (i_p0_brokenRule : Int32) (i_p0_culprit : Int32) (res : (Nat → Int32)) (C0 : vz_Cx p s m meth c b_Sh_findFree 5 none "LinkEngine$Shape" "findFree" D [(cI, .int), (cJ, .long), (cB, .byte)] A args) : ∀ (nn : Nat), ∀ (x2 : Int32) (x3 : Int32) (x4 : Int32) (f_p1 : Nat → Int32) (H : Heap) (locs : List Loc) (ls : Array Slot), B_Sh_findFree_7 fl i_p0_edges f_p0_name nn x2 x3 x4 f_p1 = some res → va_P D classes (ws_Sh_findFree cI cJ cB q_p0 q_p0_key q_p0_name q_p0_from q_p0_to q_p0_edgeAt q_p0_componentOf q_p0_arcOf q_p0_pieceOf q_p0_faceOf q_p0_faceStart q_p0_faceSize q_p0_scratch q_p1 i_p0_edges i_p0_components i_p0_pieces i_p0_faces i_p0_brokenRule i_p0_culprit f_p0_name f_p1) H → va_D A (ws_Sh_findFree cI cJ cB q_p0 q_p0_key q_p0_name q_p0_from q_p0_to q_p0_edgeAt q_p0_componentOf q_p0_arcOf q_p0_pieceOf q_p0_faceOf q_p0_faceStart q_p0_faceSize q_p0_scratch q_p1 i_p0_edges i_p0_components i_p0_pieces i_p0_faces i_p0_brokenRule i_p0_culprit f_p0_name f_p1) → va_S A s.heap H locs → lv_has ls 5 [(0, .ref q_p0), (1, .ref q_p1), (2, .int x2), (3, .int x3), (4, .int x4)] → W p l e rm_Sh_findFree s m args below meth c H locs 0 0 (MQ below (va_Qv (fun (w : va_W) => w = (ws_Sh_findFree cI cJ cB q_p0 q_p0_key q_p0_name q_p0_from q_p0_to q_p0_edgeAt q_p0_componentOf q_p0_arcOf q_p0_pieceOf q_p0_faceOf q_p0_faceStart q_p0_faceSize q_p0_scratch q_p1 i_p0_edges i_p0_components i_p0_pieces i_p0_faces i_p0_brokenRule i_p0_culprit f_p0_name res)) (vz_B D A) A) args s 0 0 A) (F0 m 7 ls []) := by
  obtain ⟨hx, hb, hr, hml, hown, ht, hlocks, hin, hN, hK, hA⟩ := id C0
  intro nn
  induction nn with
  | zero =>
    intro x2 x3 x4 f_p1 H locs ls hm hP hD hS hl
    rw [B_Sh_findFree_7] at hm
    cases hm
  | succ nn ih =>
    intro x2 x3 x4 f_p1 H locs ls hm hP hD hS hl
    rw [B_Sh_findFree_7] at hm
    refine lv_iload_n hx hb d_Sh_findFree_7 rfl (lv_at hl 3 rfl) ?_
    refine lv_aload_n hx hb d_Sh_findFree_8 rfl (lv_at hl 1 rfl) ?_
    refine va_alen (v := 4) hx hb hK hP 2 0 rfl rfl rfl d_Sh_findFree_9 ?_
    refine lv_icmp_ge (tgt := 62) hx hb d_Sh_findFree_10 (by decide) (fun hc => ?_) (fun hc => ?_)
    · rw [if_pos hc] at hm
      obtain rfl := Option.some.inj hm
      exact vz_vret hx hb hr hlocks hP hD hS (Nat.le_refl _) (Nat.le_refl _) d_Sh_findFree_62 rfl
    · rw [if_neg hc] at hm
      refine lv_iload hx hb d_Sh_findFree_13 (lv_at hl 4 rfl) ?_
      refine lv_bipush (v := 40) hx hb d_Sh_findFree_15 (by decide +kernel) ?_
      refine lv_aload_n hx hb d_Sh_findFree_17 rfl (lv_at hl 1 rfl) ?_
      refine va_alen (v := 4) hx hb hK hP 2 0 rfl rfl rfl d_Sh_findFree_18 ?_
      refine lv_iadd hx hb d_Sh_findFree_19 ?_
      refine lv_icmp_gt (tgt := 62) hx hb d_Sh_findFree_20 (by decide) (fun hc => ?_) (fun hc => ?_)
      · rw [if_pos hc] at hm
        obtain rfl := Option.some.inj hm
        exact vz_vret hx hb hr hlocks hP hD hS (Nat.le_refl _) (Nat.le_refl _) d_Sh_findFree_62 rfl
      · rw [if_neg hc] at hm
        refine lv_iload_n hx hb d_Sh_findFree_23 rfl (lv_at hl 2 rfl) ?_
        refine lv_aload_n hx hb d_Sh_findFree_24 rfl (lv_at hl 0 rfl) ?_
        refine va_get (D := D) (ci := 5) (v := .int i_p0_edges) (C := R_Sh) (T := F_Sh) (N := 18) hx hb ht i_Sh hown hK hP 0 rfl rfl 12 (Nat.le_of_ble_eq_true rfl) (ht _ m_219) (fun _ h9 => h9) rfl d_Sh_findFree_25 ?_
        refine lv_icmp_ge (tgt := 48) hx hb d_Sh_findFree_28 (by decide) (fun hc => ?_) (fun hc => ?_)
        · rw [if_pos hc] at hm
          exact w_Sh_findFree_48 fl q_p0 q_p0_key q_p0_name q_p0_from q_p0_to q_p0_edgeAt q_p0_componentOf q_p0_arcOf q_p0_pieceOf q_p0_faceOf q_p0_faceStart q_p0_faceSize q_p0_scratch q_p1 i_p0_edges f_p0_name i_p0_components i_p0_pieces i_p0_faces i_p0_brokenRule i_p0_culprit res C0 (B_Sh_findFree_7 fl i_p0_edges f_p0_name nn) ih x2 x3 x4 f_p1 _ _ _ hm hP hD hS (lv_sub hl [0, 1, 2, 3, 4] rfl)
        · rw [if_neg hc] at hm
          refine lv_aload_n hx hb d_Sh_findFree_31 rfl (lv_at hl 0 rfl) ?_
          refine va_get (D := D) (ci := 5) (v := .ref q_p0_name) (C := R_Sh) (T := F_Sh) (N := 18) hx hb ht i_Sh hown hK hP 0 rfl rfl 1 (Nat.le_of_ble_eq_true rfl) (ht _ m_33) (fun _ h9 => h9) rfl d_Sh_findFree_32 ?_
          refine lv_iload_n hx hb d_Sh_findFree_35 rfl (lv_at hl 2 rfl) ?_
          obtain ⟨hg, hm⟩ := vz_guard hm
          refine va_iald hx hb hK hP 1 0 rfl rfl hg d_Sh_findFree_36 ?_
          refine lv_iload hx hb d_Sh_findFree_37 (lv_at hl 4 rfl) ?_
          refine lv_icmp_ne (tgt := 48) hx hb d_Sh_findFree_39 (by decide) (fun hc => ?_) (fun hc => ?_)
          · rw [if_pos hc] at hm
            exact w_Sh_findFree_48 fl q_p0 q_p0_key q_p0_name q_p0_from q_p0_to q_p0_edgeAt q_p0_componentOf q_p0_arcOf q_p0_pieceOf q_p0_faceOf q_p0_faceStart q_p0_faceSize q_p0_scratch q_p1 i_p0_edges f_p0_name i_p0_components i_p0_pieces i_p0_faces i_p0_brokenRule i_p0_culprit res C0 (B_Sh_findFree_7 fl i_p0_edges f_p0_name nn) ih x2 x3 x4 f_p1 _ _ _ hm hP hD hS (lv_sub hl [0, 1, 2, 3, 4] rfl)
          · rw [if_neg (fun q => q hc)] at hm
            refine lv_iinc (v := (x2 + 1)) (lv' := [(2, .int (x2 + 1)), (0, .ref q_p0), (1, .ref q_p1), (3, .int x3), (4, .int x4)]) hx hb d_Sh_findFree_42 hl (k := 2) rfl rfl (by decide) rfl (fun ls hl => ?_)
            refine lv_goto (tgt := 56) hx hb d_Sh_findFree_45 (by decide) ?_
            exact w_Sh_findFree_56 fl q_p0 q_p0_key q_p0_name q_p0_from q_p0_to q_p0_edgeAt q_p0_componentOf q_p0_arcOf q_p0_pieceOf q_p0_faceOf q_p0_faceStart q_p0_faceSize q_p0_scratch q_p1 i_p0_edges f_p0_name i_p0_components i_p0_pieces i_p0_faces i_p0_brokenRule i_p0_culprit res C0 (B_Sh_findFree_7 fl i_p0_edges f_p0_name nn) ih (x2 + 1) x3 x4 f_p1 _ _ _ hm hP hD hS (lv_sub hl [1, 2, 0, 3, 4] rfl)
set_option maxHeartbeats 4000000 in
set_option maxRecDepth 100000 in
theorem w_Sh_findFree_0 {p : Program} {l : Launch} {e : Env} {s : State} {m : MethodId} {args : Array Value} {below : List Frame} {meth : Method} {c : Code} {D : va_G} {cI cJ cB : ClassId} {A : Nat → Prop} (fl : Nat) (q_p0 : Nat) (q_p0_key : Nat) (q_p0_name : Nat) (q_p0_from : Nat) (q_p0_to : Nat) (q_p0_edgeAt : Nat) (q_p0_componentOf : Nat) (q_p0_arcOf : Nat) (q_p0_pieceOf : Nat) (q_p0_faceOf : Nat) (q_p0_faceStart : Nat) (q_p0_faceSize : Nat) (q_p0_scratch : Nat) (q_p1 : Nat) (i_p0_edges : Int32) (f_p0_name : Nat → Int32) (i_p0_components : Int32) (i_p0_pieces : Int32) (i_p0_faces : Int32) (i_p0_brokenRule : Int32) (i_p0_culprit : Int32) (res : (Nat → Int32)) (C0 : vz_Cx p s m meth c b_Sh_findFree 5 none "LinkEngine$Shape" "findFree" D [(cI, .int), (cJ, .long), (cB, .byte)] A args) : ∀ (f_p1 : Nat → Int32) (H : Heap) (locs : List Loc) (ls : Array Slot), B_Sh_findFree_0 fl i_p0_edges f_p0_name f_p1 = some res → va_P D classes (ws_Sh_findFree cI cJ cB q_p0 q_p0_key q_p0_name q_p0_from q_p0_to q_p0_edgeAt q_p0_componentOf q_p0_arcOf q_p0_pieceOf q_p0_faceOf q_p0_faceStart q_p0_faceSize q_p0_scratch q_p1 i_p0_edges i_p0_components i_p0_pieces i_p0_faces i_p0_brokenRule i_p0_culprit f_p0_name f_p1) H → va_D A (ws_Sh_findFree cI cJ cB q_p0 q_p0_key q_p0_name q_p0_from q_p0_to q_p0_edgeAt q_p0_componentOf q_p0_arcOf q_p0_pieceOf q_p0_faceOf q_p0_faceStart q_p0_faceSize q_p0_scratch q_p1 i_p0_edges i_p0_components i_p0_pieces i_p0_faces i_p0_brokenRule i_p0_culprit f_p0_name f_p1) → va_S A s.heap H locs → lv_has ls 5 [(0, .ref q_p0), (1, .ref q_p1)] → W p l e rm_Sh_findFree s m args below meth c H locs 0 0 (MQ below (va_Qv (fun (w : va_W) => w = (ws_Sh_findFree cI cJ cB q_p0 q_p0_key q_p0_name q_p0_from q_p0_to q_p0_edgeAt q_p0_componentOf q_p0_arcOf q_p0_pieceOf q_p0_faceOf q_p0_faceStart q_p0_faceSize q_p0_scratch q_p1 i_p0_edges i_p0_components i_p0_pieces i_p0_faces i_p0_brokenRule i_p0_culprit f_p0_name res)) (vz_B D A) A) args s 0 0 A) (F0 m 0 ls []) := by
  obtain ⟨hx, hb, hr, hml, hown, ht, hlocks, hin, hN, hK, hA⟩ := id C0
  intro f_p1 H locs ls hm hP hD hS hl
  unfold B_Sh_findFree_0 at hm
  refine lv_iconst (v := 0) hx hb d_Sh_findFree_0 (by decide) ?_
  refine lv_istore_n (lv' := [(2, .int 0), (0, .ref q_p0), (1, .ref q_p1)]) hx hb d_Sh_findFree_1 rfl hl (by decide) rfl (fun ls hl => ?_)
  refine lv_iconst (v := 0) hx hb d_Sh_findFree_2 (by decide) ?_
  refine lv_istore_n (lv' := [(3, .int 0), (2, .int 0), (0, .ref q_p0), (1, .ref q_p1)]) hx hb d_Sh_findFree_3 rfl hl (by decide) rfl (fun ls hl => ?_)
  refine lv_iconst (v := 1) hx hb d_Sh_findFree_4 (by decide) ?_
  refine lv_istore (lv' := [(4, .int 1), (3, .int 0), (2, .int 0), (0, .ref q_p0), (1, .ref q_p1)]) hx hb d_Sh_findFree_5 hl (by decide) rfl (fun ls hl => ?_)
  exact w_Sh_findFree_7 fl q_p0 q_p0_key q_p0_name q_p0_from q_p0_to q_p0_edgeAt q_p0_componentOf q_p0_arcOf q_p0_pieceOf q_p0_faceOf q_p0_faceStart q_p0_faceSize q_p0_scratch q_p1 i_p0_edges f_p0_name i_p0_components i_p0_pieces i_p0_faces i_p0_brokenRule i_p0_culprit res C0 fl 0 0 1 f_p1 _ _ _ hm hP hD hS (lv_sub hl [3, 4, 2, 1, 0] rfl)
set_option maxHeartbeats 4000000 in
set_option maxRecDepth 100000 in
theorem k_Sh_findFree (l : Launch) (D : va_G) (cI cJ cB : ClassId) (fl : Nat) (q_p0 : Nat) (q_p0_key : Nat) (q_p0_name : Nat) (q_p0_from : Nat) (q_p0_to : Nat) (q_p0_edgeAt : Nat) (q_p0_componentOf : Nat) (q_p0_arcOf : Nat) (q_p0_pieceOf : Nat) (q_p0_faceOf : Nat) (q_p0_faceStart : Nat) (q_p0_faceSize : Nat) (q_p0_scratch : Nat) (q_p1 : Nat) (i_p0_edges : Int32) (f_p0_name : Nat → Int32) (i_p0_components : Int32) (i_p0_pieces : Int32) (i_p0_faces : Int32) (i_p0_brokenRule : Int32) (i_p0_culprit : Int32) (f_p1 : Nat → Int32)  (res : (Nat → Int32)) (hm : m_Sh_findFree fl i_p0_edges f_p0_name f_p1 = some res) : MtV l y_Sh_findFree (.code y_Sh_findFree b_Sh_findFree 5 none :: CW) rm_Sh_findFree D [(cI, .int), (cJ, .long), (cB, .byte)] [.ref q_p0, .ref q_p1] (ws_Sh_findFree cI cJ cB q_p0 q_p0_key q_p0_name q_p0_from q_p0_to q_p0_edgeAt q_p0_componentOf q_p0_arcOf q_p0_pieceOf q_p0_faceOf q_p0_faceStart q_p0_faceSize q_p0_scratch q_p1 i_p0_edges i_p0_components i_p0_pieces i_p0_faces i_p0_brokenRule i_p0_culprit f_p0_name f_p1) (fun (w : va_W) => w = (ws_Sh_findFree cI cJ cB q_p0 q_p0_key q_p0_name q_p0_from q_p0_to q_p0_edgeAt q_p0_componentOf q_p0_arcOf q_p0_pieceOf q_p0_faceOf q_p0_faceStart q_p0_faceSize q_p0_scratch q_p1 i_p0_edges i_p0_components i_p0_pieces i_p0_faces i_p0_brokenRule i_p0_culprit f_p0_name res)) := by
  intro sz
  refine vz_start (Qc := fun A => va_Qv (fun (w : va_W) => w = (ws_Sh_findFree cI cJ cB q_p0 q_p0_key q_p0_name q_p0_from q_p0_to q_p0_edgeAt q_p0_componentOf q_p0_arcOf q_p0_pieceOf q_p0_faceOf q_p0_faceStart q_p0_faceSize q_p0_scratch q_p1 i_p0_edges i_p0_components i_p0_pieces i_p0_faces i_p0_brokenRule i_p0_culprit f_p0_name res)) (vz_B D A) A) (lv0 := [(0, .ref q_p0), (1, .ref q_p1)]) (by decide +kernel) (Nat.le_of_ble_eq_true rfl) rfl ?_
  intro p e s m below meth c A ls C0 hl
  obtain ⟨hx, hb, hr, hml, hown, ht, hlocks, hin, hN, hK, hP, hD, hA, hS⟩ := C0
  exact w_Sh_findFree_0 fl q_p0 q_p0_key q_p0_name q_p0_from q_p0_to q_p0_edgeAt q_p0_componentOf q_p0_arcOf q_p0_pieceOf q_p0_faceOf q_p0_faceStart q_p0_faceSize q_p0_scratch q_p1 i_p0_edges f_p0_name i_p0_components i_p0_pieces i_p0_faces i_p0_brokenRule i_p0_culprit res ⟨hx, hb, hr, hml, hown, ht, hlocks, hin, hN, hK, hA⟩ f_p1 s.heap [] ls hm hP hD hS (lv_sub hl [0, 1] rfl)
def ws_Sh_edgeNamed (cI cJ cB : ClassId) (q_p0 : Nat) (q_p0_key : Nat) (q_p0_name : Nat) (q_p0_from : Nat) (q_p0_to : Nat) (q_p0_edgeAt : Nat) (q_p0_componentOf : Nat) (q_p0_arcOf : Nat) (q_p0_pieceOf : Nat) (q_p0_faceOf : Nat) (q_p0_faceStart : Nat) (q_p0_faceSize : Nat) (q_p0_scratch : Nat) (i_p0_edges : Int32) (i_p0_components : Int32) (i_p0_pieces : Int32) (i_p0_faces : Int32) (i_p0_brokenRule : Int32) (i_p0_culprit : Int32) (f_p0_name : Nat → Int32) : va_W := [(q_p0, .inr (5, [.ref q_p0_key, .ref q_p0_name, .ref q_p0_from, .ref q_p0_to, .ref q_p0_edgeAt, .ref q_p0_componentOf, .ref q_p0_arcOf, .ref q_p0_pieceOf, .ref q_p0_faceOf, .ref q_p0_faceStart, .ref q_p0_faceSize, .ref q_p0_scratch, .int i_p0_edges, .int i_p0_components, .int i_p0_pieces, .int i_p0_faces, .int i_p0_brokenRule, .int i_p0_culprit])), (q_p0_name, .inl (cI, 40, .inl f_p0_name))]
def rm_Sh_edgeNamed : Room := { frames := 0, cells := 0, slots := 0, locals := 0 }
def B_Sh_edgeNamed_2 (fl : Nat) (i_p0_edges : Int32) (f_p0_name : Nat → Int32) : Nat → Int32 → Int32 → Option (Int32)
  | 0, _, _ => none
  | nn + 1, x1, x2 => (if i_p0_edges ≤ x2 then (some (-1)) else (if ¬ (x2 < 0 ∨ 40 ≤ Int32.toNatClampNeg x2) then (if ¬ (f_p0_name (Int32.toNatClampNeg x2)) = x1 then B_Sh_edgeNamed_2 fl i_p0_edges f_p0_name nn x1 (x2 + 1) else (some x2)) else none))
def B_Sh_edgeNamed_0 (fl : Nat) (i_p0_edges : Int32) (f_p0_name : Nat → Int32) (x1 : Int32) : Option (Int32) := B_Sh_edgeNamed_2 fl i_p0_edges f_p0_name fl x1 0
def m_Sh_edgeNamed (fl : Nat) (i_p0_edges : Int32) (f_p0_name : Nat → Int32) (x1 : Int32) : Option (Int32) := B_Sh_edgeNamed_0 fl i_p0_edges f_p0_name x1
set_option maxHeartbeats 4000000 in
set_option maxRecDepth 100000 in
theorem w_Sh_edgeNamed_2 {p : Program} {l : Launch} {e : Env} {s : State} {m : MethodId} {args : Array Value} {below : List Frame} {meth : Method} {c : Code} {D : va_G} {cI cJ cB : ClassId} {A : Nat → Prop} (fl : Nat) (q_p0 : Nat) (q_p0_key : Nat) (q_p0_name : Nat) (q_p0_from : Nat) (q_p0_to : Nat) (q_p0_edgeAt : Nat) (q_p0_componentOf : Nat) (q_p0_arcOf : Nat) (q_p0_pieceOf : Nat) (q_p0_faceOf : Nat) (q_p0_faceStart : Nat) (q_p0_faceSize : Nat) (q_p0_scratch : Nat) (i_p0_edges : Int32) (f_p0_name : Nat → Int32) (i_p0_components : Int32) (i_p0_pieces : Int32) (i_p0_faces : Int32) (i_p0_brokenRule : Int32) (i_p0_culprit : Int32) (res : Int32) (C0 : vz_Cx p s m meth c b_Sh_edgeNamed 3 (some .int) "LinkEngine$Shape" "edgeNamed" D [(cI, .int), (cJ, .long), (cB, .byte)] A args) : ∀ (nn : Nat), ∀ (x1 : Int32) (x2 : Int32) (H : Heap) (locs : List Loc) (ls : Array Slot), B_Sh_edgeNamed_2 fl i_p0_edges f_p0_name nn x1 x2 = some res → va_P D classes (ws_Sh_edgeNamed cI cJ cB q_p0 q_p0_key q_p0_name q_p0_from q_p0_to q_p0_edgeAt q_p0_componentOf q_p0_arcOf q_p0_pieceOf q_p0_faceOf q_p0_faceStart q_p0_faceSize q_p0_scratch i_p0_edges i_p0_components i_p0_pieces i_p0_faces i_p0_brokenRule i_p0_culprit f_p0_name) H → va_D A (ws_Sh_edgeNamed cI cJ cB q_p0 q_p0_key q_p0_name q_p0_from q_p0_to q_p0_edgeAt q_p0_componentOf q_p0_arcOf q_p0_pieceOf q_p0_faceOf q_p0_faceStart q_p0_faceSize q_p0_scratch i_p0_edges i_p0_components i_p0_pieces i_p0_faces i_p0_brokenRule i_p0_culprit f_p0_name) → va_S A s.heap H locs → lv_has ls 3 [(0, .ref q_p0), (1, .int x1), (2, .int x2)] → W p l e rm_Sh_edgeNamed s m args below meth c H locs 0 0 (MQ below (va_Qi (fun (r : Int32) (w : va_W) => r = res ∧ w = (ws_Sh_edgeNamed cI cJ cB q_p0 q_p0_key q_p0_name q_p0_from q_p0_to q_p0_edgeAt q_p0_componentOf q_p0_arcOf q_p0_pieceOf q_p0_faceOf q_p0_faceStart q_p0_faceSize q_p0_scratch i_p0_edges i_p0_components i_p0_pieces i_p0_faces i_p0_brokenRule i_p0_culprit f_p0_name)) (vz_B D A) A) args s 0 0 A) (F0 m 2 ls []) := by
  obtain ⟨hx, hb, hr, hml, hown, ht, hlocks, hin, hN, hK, hA⟩ := id C0
  intro nn
  induction nn with
  | zero =>
    intro x1 x2 H locs ls hm hP hD hS hl
    rw [B_Sh_edgeNamed_2] at hm
    cases hm
  | succ nn ih =>
    intro x1 x2 H locs ls hm hP hD hS hl
    rw [B_Sh_edgeNamed_2] at hm
    refine lv_iload_n hx hb d_Sh_edgeNamed_2 rfl (lv_at hl 2 rfl) ?_
    refine lv_aload_n hx hb d_Sh_edgeNamed_3 rfl (lv_at hl 0 rfl) ?_
    refine va_get (D := D) (ci := 5) (v := .int i_p0_edges) (C := R_Sh) (T := F_Sh) (N := 18) hx hb ht i_Sh hown hK hP 0 rfl rfl 12 (Nat.le_of_ble_eq_true rfl) (ht _ m_219) (fun _ h9 => h9) rfl d_Sh_edgeNamed_4 ?_
    refine lv_icmp_ge (tgt := 28) hx hb d_Sh_edgeNamed_7 (by decide) (fun hc => ?_) (fun hc => ?_)
    · rw [if_pos hc] at hm
      refine lv_iconst (v := (-1)) hx hb d_Sh_edgeNamed_28 (by decide) ?_
      obtain rfl := Option.some.inj hm
      exact vz_iret hx hb hr rfl hlocks hP hD hS (Nat.le_refl _) (Nat.le_refl _) d_Sh_edgeNamed_29 ⟨rfl, rfl⟩
    · rw [if_neg hc] at hm
      refine lv_aload_n hx hb d_Sh_edgeNamed_10 rfl (lv_at hl 0 rfl) ?_
      refine va_get (D := D) (ci := 5) (v := .ref q_p0_name) (C := R_Sh) (T := F_Sh) (N := 18) hx hb ht i_Sh hown hK hP 0 rfl rfl 1 (Nat.le_of_ble_eq_true rfl) (ht _ m_33) (fun _ h9 => h9) rfl d_Sh_edgeNamed_11 ?_
      refine lv_iload_n hx hb d_Sh_edgeNamed_14 rfl (lv_at hl 2 rfl) ?_
      obtain ⟨hg, hm⟩ := vz_guard hm
      refine va_iald hx hb hK hP 1 0 rfl rfl hg d_Sh_edgeNamed_15 ?_
      refine lv_iload_n hx hb d_Sh_edgeNamed_16 rfl (lv_at hl 1 rfl) ?_
      refine lv_icmp_ne (tgt := 22) hx hb d_Sh_edgeNamed_17 (by decide) (fun hc => ?_) (fun hc => ?_)
      · rw [if_pos hc] at hm
        refine lv_iinc (v := (x2 + 1)) (lv' := [(2, .int (x2 + 1)), (0, .ref q_p0), (1, .int x1)]) hx hb d_Sh_edgeNamed_22 hl (k := 2) rfl rfl (by decide) rfl (fun ls hl => ?_)
        refine lv_goto (tgt := 2) hx hb d_Sh_edgeNamed_25 (by decide) ?_
        exact ih x1 (x2 + 1) _ _ _ hm hP hD hS (lv_sub hl [1, 2, 0] rfl)
      · rw [if_neg (fun q => q hc)] at hm
        refine lv_iload_n hx hb d_Sh_edgeNamed_20 rfl (lv_at hl 2 rfl) ?_
        obtain rfl := Option.some.inj hm
        exact vz_iret hx hb hr rfl hlocks hP hD hS (Nat.le_refl _) (Nat.le_refl _) d_Sh_edgeNamed_21 ⟨rfl, rfl⟩
set_option maxHeartbeats 4000000 in
set_option maxRecDepth 100000 in
theorem w_Sh_edgeNamed_0 {p : Program} {l : Launch} {e : Env} {s : State} {m : MethodId} {args : Array Value} {below : List Frame} {meth : Method} {c : Code} {D : va_G} {cI cJ cB : ClassId} {A : Nat → Prop} (fl : Nat) (q_p0 : Nat) (q_p0_key : Nat) (q_p0_name : Nat) (q_p0_from : Nat) (q_p0_to : Nat) (q_p0_edgeAt : Nat) (q_p0_componentOf : Nat) (q_p0_arcOf : Nat) (q_p0_pieceOf : Nat) (q_p0_faceOf : Nat) (q_p0_faceStart : Nat) (q_p0_faceSize : Nat) (q_p0_scratch : Nat) (i_p0_edges : Int32) (f_p0_name : Nat → Int32) (i_p0_components : Int32) (i_p0_pieces : Int32) (i_p0_faces : Int32) (i_p0_brokenRule : Int32) (i_p0_culprit : Int32) (res : Int32) (C0 : vz_Cx p s m meth c b_Sh_edgeNamed 3 (some .int) "LinkEngine$Shape" "edgeNamed" D [(cI, .int), (cJ, .long), (cB, .byte)] A args) : ∀ (x1 : Int32) (H : Heap) (locs : List Loc) (ls : Array Slot), B_Sh_edgeNamed_0 fl i_p0_edges f_p0_name x1 = some res → va_P D classes (ws_Sh_edgeNamed cI cJ cB q_p0 q_p0_key q_p0_name q_p0_from q_p0_to q_p0_edgeAt q_p0_componentOf q_p0_arcOf q_p0_pieceOf q_p0_faceOf q_p0_faceStart q_p0_faceSize q_p0_scratch i_p0_edges i_p0_components i_p0_pieces i_p0_faces i_p0_brokenRule i_p0_culprit f_p0_name) H → va_D A (ws_Sh_edgeNamed cI cJ cB q_p0 q_p0_key q_p0_name q_p0_from q_p0_to q_p0_edgeAt q_p0_componentOf q_p0_arcOf q_p0_pieceOf q_p0_faceOf q_p0_faceStart q_p0_faceSize q_p0_scratch i_p0_edges i_p0_components i_p0_pieces i_p0_faces i_p0_brokenRule i_p0_culprit f_p0_name) → va_S A s.heap H locs → lv_has ls 3 [(0, .ref q_p0), (1, .int x1)] → W p l e rm_Sh_edgeNamed s m args below meth c H locs 0 0 (MQ below (va_Qi (fun (r : Int32) (w : va_W) => r = res ∧ w = (ws_Sh_edgeNamed cI cJ cB q_p0 q_p0_key q_p0_name q_p0_from q_p0_to q_p0_edgeAt q_p0_componentOf q_p0_arcOf q_p0_pieceOf q_p0_faceOf q_p0_faceStart q_p0_faceSize q_p0_scratch i_p0_edges i_p0_components i_p0_pieces i_p0_faces i_p0_brokenRule i_p0_culprit f_p0_name)) (vz_B D A) A) args s 0 0 A) (F0 m 0 ls []) := by
  obtain ⟨hx, hb, hr, hml, hown, ht, hlocks, hin, hN, hK, hA⟩ := id C0
  intro x1 H locs ls hm hP hD hS hl
  unfold B_Sh_edgeNamed_0 at hm
  refine lv_iconst (v := 0) hx hb d_Sh_edgeNamed_0 (by decide) ?_
  refine lv_istore_n (lv' := [(2, .int 0), (0, .ref q_p0), (1, .int x1)]) hx hb d_Sh_edgeNamed_1 rfl hl (by decide) rfl (fun ls hl => ?_)
  exact w_Sh_edgeNamed_2 fl q_p0 q_p0_key q_p0_name q_p0_from q_p0_to q_p0_edgeAt q_p0_componentOf q_p0_arcOf q_p0_pieceOf q_p0_faceOf q_p0_faceStart q_p0_faceSize q_p0_scratch i_p0_edges f_p0_name i_p0_components i_p0_pieces i_p0_faces i_p0_brokenRule i_p0_culprit res C0 fl x1 0 _ _ _ hm hP hD hS (lv_sub hl [1, 2, 0] rfl)
set_option maxHeartbeats 4000000 in
set_option maxRecDepth 100000 in
theorem k_Sh_edgeNamed (l : Launch) (D : va_G) (cI cJ cB : ClassId) (fl : Nat) (q_p0 : Nat) (q_p0_key : Nat) (q_p0_name : Nat) (q_p0_from : Nat) (q_p0_to : Nat) (q_p0_edgeAt : Nat) (q_p0_componentOf : Nat) (q_p0_arcOf : Nat) (q_p0_pieceOf : Nat) (q_p0_faceOf : Nat) (q_p0_faceStart : Nat) (q_p0_faceSize : Nat) (q_p0_scratch : Nat) (i_p0_edges : Int32) (f_p0_name : Nat → Int32) (i_p0_components : Int32) (i_p0_pieces : Int32) (i_p0_faces : Int32) (i_p0_brokenRule : Int32) (i_p0_culprit : Int32) (x1 : Int32) (res : Int32) (hm : m_Sh_edgeNamed fl i_p0_edges f_p0_name x1 = some res) : MtI l y_Sh_edgeNamed (.code y_Sh_edgeNamed b_Sh_edgeNamed 3 (some .int) :: CW) rm_Sh_edgeNamed D [(cI, .int), (cJ, .long), (cB, .byte)] [.ref q_p0, .int x1] (ws_Sh_edgeNamed cI cJ cB q_p0 q_p0_key q_p0_name q_p0_from q_p0_to q_p0_edgeAt q_p0_componentOf q_p0_arcOf q_p0_pieceOf q_p0_faceOf q_p0_faceStart q_p0_faceSize q_p0_scratch i_p0_edges i_p0_components i_p0_pieces i_p0_faces i_p0_brokenRule i_p0_culprit f_p0_name) (fun (r : Int32) (w : va_W) => r = res ∧ w = (ws_Sh_edgeNamed cI cJ cB q_p0 q_p0_key q_p0_name q_p0_from q_p0_to q_p0_edgeAt q_p0_componentOf q_p0_arcOf q_p0_pieceOf q_p0_faceOf q_p0_faceStart q_p0_faceSize q_p0_scratch i_p0_edges i_p0_components i_p0_pieces i_p0_faces i_p0_brokenRule i_p0_culprit f_p0_name)) := by
  intro sz
  refine vz_start (Qc := fun A => va_Qi (fun (r : Int32) (w : va_W) => r = res ∧ w = (ws_Sh_edgeNamed cI cJ cB q_p0 q_p0_key q_p0_name q_p0_from q_p0_to q_p0_edgeAt q_p0_componentOf q_p0_arcOf q_p0_pieceOf q_p0_faceOf q_p0_faceStart q_p0_faceSize q_p0_scratch i_p0_edges i_p0_components i_p0_pieces i_p0_faces i_p0_brokenRule i_p0_culprit f_p0_name)) (vz_B D A) A) (lv0 := [(0, .ref q_p0), (1, .int x1)]) (by decide +kernel) (Nat.le_of_ble_eq_true rfl) rfl ?_
  intro p e s m below meth c A ls C0 hl
  obtain ⟨hx, hb, hr, hml, hown, ht, hlocks, hin, hN, hK, hP, hD, hA, hS⟩ := C0
  exact w_Sh_edgeNamed_0 fl q_p0 q_p0_key q_p0_name q_p0_from q_p0_to q_p0_edgeAt q_p0_componentOf q_p0_arcOf q_p0_pieceOf q_p0_faceOf q_p0_faceStart q_p0_faceSize q_p0_scratch i_p0_edges f_p0_name i_p0_components i_p0_pieces i_p0_faces i_p0_brokenRule i_p0_culprit res ⟨hx, hb, hr, hml, hown, ht, hlocks, hin, hN, hK, hA⟩ x1 s.heap [] ls hm hP hD hS (lv_sub hl [0, 1] rfl)
