def ws_Li_open (cI cJ cB : ClassId) (q_p0 : Nat) (q_p0_kind : Nat) (q_p0_start : Nat) (q_p0_value : Nat) (i_p0_count : Int32) (i_p0_done : Int32) (f_p0_kind : Nat → Int32) (f_p0_start : Nat → Int32) : va_W := [(q_p0, .inr (1, [.ref q_p0_kind, .ref q_p0_start, .ref q_p0_value, .int i_p0_count, .int i_p0_done])), (q_p0_kind, .inl (cI, 64, .inl f_p0_kind)), (q_p0_start, .inl (cI, 65, .inl f_p0_start))]
def rm_Li_open : Room := { frames := 0, cells := 0, slots := 0, locals := 0 }
def B_Li_open_0 (fl : Nat) (x1 : Int32) (i_p0_count : Int32) (f_p0_kind : Nat → Int32) (f_p0_start : Nat → Int32) : Option (Int32 × (Nat → Int32) × (Nat → Int32)) := (if (64 : Int32) ≤ i_p0_count then (some (i_p0_count, f_p0_kind, f_p0_start)) else (if ¬ (i_p0_count < 0 ∨ 64 ≤ Int32.toNatClampNeg i_p0_count) then (if ¬ (i_p0_count < 0 ∨ 65 ≤ Int32.toNatClampNeg i_p0_count) then (if ¬ ((i_p0_count + (1 : Int32)) < 0 ∨ 65 ≤ Int32.toNatClampNeg (i_p0_count + (1 : Int32))) then (some ((i_p0_count + (1 : Int32)), (upd f_p0_kind (Int32.toNatClampNeg i_p0_count) x1), (upd f_p0_start (Int32.toNatClampNeg (i_p0_count + (1 : Int32))) (f_p0_start (Int32.toNatClampNeg i_p0_count))))) else none) else none) else none))
def m_Li_open (fl : Nat) (x1 : Int32) (i_p0_count : Int32) (f_p0_kind : Nat → Int32) (f_p0_start : Nat → Int32) : Option (Int32 × (Nat → Int32) × (Nat → Int32)) := B_Li_open_0 fl  x1 i_p0_count f_p0_kind f_p0_start
set_option maxHeartbeats 4000000 in
set_option maxRecDepth 100000 in
theorem w_Li_open_0 {p : Program} {l : Launch} {e : Env} {s : State} {m : MethodId} {args : Array Value} {below : List Frame} {meth : Method} {c : Code} {D : va_G} {cI cJ cB : ClassId} {sa : Nat → Nat × Nat} {A : Nat → Prop} (fl : Nat) (q_p0 : Nat) (q_p0_kind : Nat) (q_p0_start : Nat) (q_p0_value : Nat) (i_p0_done : Int32) (res : Int32 × (Nat → Int32) × (Nat → Int32)) (C0 : vz_Cx p s m meth c b_Li_open 2 none "LinkEngine$Lines" "open" D [(cI, .int), (cJ, .long), (cB, .byte)] sa A args) : ∀ (x1 : Int32) (i_p0_count : Int32) (f_p0_kind : Nat → Int32) (f_p0_start : Nat → Int32) (H : Heap) (locs : List Loc) (ls : Array Slot), B_Li_open_0 fl x1 i_p0_count f_p0_kind f_p0_start = some res → va_P D classes (ws_Li_open cI cJ cB q_p0 q_p0_kind q_p0_start q_p0_value i_p0_count i_p0_done f_p0_kind f_p0_start) H → va_D A (ws_Li_open cI cJ cB q_p0 q_p0_kind q_p0_start q_p0_value i_p0_count i_p0_done f_p0_kind f_p0_start) → va_S A s.heap H locs → lv_has ls 2 [(0, .ref q_p0), (1, .int x1)] → W p l e rm_Li_open s m args below meth c H locs 0 0 (MQ below (va_Qv (fun (w : va_W) => w = (ws_Li_open cI cJ cB q_p0 q_p0_kind q_p0_start q_p0_value res.1 i_p0_done res.2.1 res.2.2)) (vz_B D A) A) args s 0 0 A) (F0 m 0 ls []) := by
  obtain ⟨hx, hb, hr, hml, hown, ht, hlocks, hin, hN, hK, hA, hZ⟩ := id C0
  intro x1 i_p0_count f_p0_kind f_p0_start H locs ls hm hP hD hS hl
  unfold B_Li_open_0 at hm
  refine lv_aload_n hx hb d_Li_open_0 rfl (lv_at hl 0 rfl) ?_
  refine va_get (D := D) (ci := 1) (v := .int i_p0_count) (C := R_Li) (T := F_Li) (N := 5) hx hb ht i_Li hown hK hP 0 rfl rfl 3 (Nat.le_of_ble_eq_true rfl) (ht _ m_174) (fun _ h9 => h9) rfl d_Li_open_1 ?_
  refine lv_bipush (v := 64) hx hb d_Li_open_4 (by decide +kernel) ?_
  refine lv_icmp_ge (tgt := 49) hx hb d_Li_open_6 (by decide) (fun hc => ?_) (fun hc => ?_)
  · rw [if_pos hc] at hm
    obtain rfl := Option.some.inj hm
    exact vz_vret hx hb hr hlocks hP hD hS (Nat.le_refl _) (Nat.le_refl _) d_Li_open_49 rfl
  · rw [if_neg hc] at hm
    refine lv_aload_n hx hb d_Li_open_9 rfl (lv_at hl 0 rfl) ?_
    refine va_get (D := D) (ci := 1) (v := .ref q_p0_kind) (C := R_Li) (T := F_Li) (N := 5) hx hb ht i_Li hown hK hP 0 rfl rfl 0 (Nat.le_of_ble_eq_true rfl) (ht _ m_4) (fun _ h9 => h9) rfl d_Li_open_10 ?_
    refine lv_aload_n hx hb d_Li_open_13 rfl (lv_at hl 0 rfl) ?_
    refine va_get (D := D) (ci := 1) (v := .int i_p0_count) (C := R_Li) (T := F_Li) (N := 5) hx hb ht i_Li hown hK hP 0 rfl rfl 3 (Nat.le_of_ble_eq_true rfl) (ht _ m_174) (fun _ h9 => h9) rfl d_Li_open_14 ?_
    refine lv_iload_n hx hb d_Li_open_17 rfl (lv_at hl 1 rfl) ?_
    obtain ⟨hg, hm⟩ := vz_guard hm
    refine va_iast hx hb hK hP hD hS 1 0 rfl rfl hg d_Li_open_18 (fun H locs hP hD hS => ?_)
    have hP : va_P D classes (ws_Li_open cI cJ cB q_p0 q_p0_kind q_p0_start q_p0_value i_p0_count i_p0_done (upd f_p0_kind (Int32.toNatClampNeg i_p0_count) x1) f_p0_start) H := hP
    have hD : va_D A (ws_Li_open cI cJ cB q_p0 q_p0_kind q_p0_start q_p0_value i_p0_count i_p0_done (upd f_p0_kind (Int32.toNatClampNeg i_p0_count) x1) f_p0_start) := hD
    refine lv_aload_n hx hb d_Li_open_19 rfl (lv_at hl 0 rfl) ?_
    refine va_get (D := D) (ci := 1) (v := .ref q_p0_start) (C := R_Li) (T := F_Li) (N := 5) hx hb ht i_Li hown hK hP 0 rfl rfl 1 (Nat.le_of_ble_eq_true rfl) (ht _ m_5) (fun _ h9 => h9) rfl d_Li_open_20 ?_
    refine lv_aload_n hx hb d_Li_open_23 rfl (lv_at hl 0 rfl) ?_
    refine va_get (D := D) (ci := 1) (v := .int i_p0_count) (C := R_Li) (T := F_Li) (N := 5) hx hb ht i_Li hown hK hP 0 rfl rfl 3 (Nat.le_of_ble_eq_true rfl) (ht _ m_174) (fun _ h9 => h9) rfl d_Li_open_24 ?_
    refine lv_iconst (v := 1) hx hb d_Li_open_27 (by decide) ?_
    refine lv_iadd hx hb d_Li_open_28 ?_
    refine lv_aload_n hx hb d_Li_open_29 rfl (lv_at hl 0 rfl) ?_
    refine va_get (D := D) (ci := 1) (v := .ref q_p0_start) (C := R_Li) (T := F_Li) (N := 5) hx hb ht i_Li hown hK hP 0 rfl rfl 1 (Nat.le_of_ble_eq_true rfl) (ht _ m_5) (fun _ h9 => h9) rfl d_Li_open_30 ?_
    refine lv_aload_n hx hb d_Li_open_33 rfl (lv_at hl 0 rfl) ?_
    refine va_get (D := D) (ci := 1) (v := .int i_p0_count) (C := R_Li) (T := F_Li) (N := 5) hx hb ht i_Li hown hK hP 0 rfl rfl 3 (Nat.le_of_ble_eq_true rfl) (ht _ m_174) (fun _ h9 => h9) rfl d_Li_open_34 ?_
    obtain ⟨hg, hm⟩ := vz_guard hm
    refine va_iald hx hb hK hP 2 0 rfl rfl hg d_Li_open_37 ?_
    obtain ⟨hg, hm⟩ := vz_guard hm
    refine va_iast hx hb hK hP hD hS 2 0 rfl rfl hg d_Li_open_38 (fun H locs hP hD hS => ?_)
    have hP : va_P D classes (ws_Li_open cI cJ cB q_p0 q_p0_kind q_p0_start q_p0_value i_p0_count i_p0_done (upd f_p0_kind (Int32.toNatClampNeg i_p0_count) x1) (upd f_p0_start (Int32.toNatClampNeg (i_p0_count + (1 : Int32))) (f_p0_start (Int32.toNatClampNeg i_p0_count)))) H := hP
    have hD : va_D A (ws_Li_open cI cJ cB q_p0 q_p0_kind q_p0_start q_p0_value i_p0_count i_p0_done (upd f_p0_kind (Int32.toNatClampNeg i_p0_count) x1) (upd f_p0_start (Int32.toNatClampNeg (i_p0_count + (1 : Int32))) (f_p0_start (Int32.toNatClampNeg i_p0_count)))) := hD
    refine lv_aload_n hx hb d_Li_open_39 rfl (lv_at hl 0 rfl) ?_
    refine lv_dup hx hb d_Li_open_40 rfl ?_
    refine va_get (D := D) (ci := 1) (v := .int i_p0_count) (C := R_Li) (T := F_Li) (N := 5) hx hb ht i_Li hown hK hP 0 rfl rfl 3 (Nat.le_of_ble_eq_true rfl) (ht _ m_174) (fun _ h9 => h9) rfl d_Li_open_41 ?_
    refine lv_iconst (v := 1) hx hb d_Li_open_44 (by decide) ?_
    refine lv_iadd hx hb d_Li_open_45 ?_
    refine va_put (D := D) (ci := 1) (v := .int (i_p0_count + (1 : Int32))) (ty := .int) (C := R_Li) (T := F_Li) (N := 5) hx hb ht i_Li t_Li t_Li_ok n_Li hown hK hP hD hS 0 rfl rfl 3 (Nat.le_of_ble_eq_true rfl) (ht _ m_174) (fun _ h9 => h9) rfl (by decide +kernel) rfl rfl (Nat.le_of_ble_eq_true rfl) d_Li_open_46 (fun H locs hP hD hS => ?_)
    have hP : va_P D classes (ws_Li_open cI cJ cB q_p0 q_p0_kind q_p0_start q_p0_value (i_p0_count + (1 : Int32)) i_p0_done (upd f_p0_kind (Int32.toNatClampNeg i_p0_count) x1) (upd f_p0_start (Int32.toNatClampNeg (i_p0_count + (1 : Int32))) (f_p0_start (Int32.toNatClampNeg i_p0_count)))) H := hP
    have hD : va_D A (ws_Li_open cI cJ cB q_p0 q_p0_kind q_p0_start q_p0_value (i_p0_count + (1 : Int32)) i_p0_done (upd f_p0_kind (Int32.toNatClampNeg i_p0_count) x1) (upd f_p0_start (Int32.toNatClampNeg (i_p0_count + (1 : Int32))) (f_p0_start (Int32.toNatClampNeg i_p0_count)))) := hD
    obtain rfl := Option.some.inj hm
    exact vz_vret hx hb hr hlocks hP hD hS (Nat.le_refl _) (Nat.le_refl _) d_Li_open_49 rfl
set_option maxHeartbeats 4000000 in
set_option maxRecDepth 100000 in
theorem k_Li_open (l : Launch) (D : va_G) (cI cJ cB : ClassId) (sa : Nat → Nat × Nat) (fl : Nat) (q_p0 : Nat) (q_p0_kind : Nat) (q_p0_start : Nat) (q_p0_value : Nat) (i_p0_done : Int32) (i_p0_count : Int32) (f_p0_kind : Nat → Int32) (f_p0_start : Nat → Int32) (x1 : Int32) (res : Int32 × (Nat → Int32) × (Nat → Int32)) (hm : m_Li_open fl x1 i_p0_count f_p0_kind f_p0_start = some res) : MtV l y_Li_open (.code y_Li_open b_Li_open 2 none :: CW) rm_Li_open D [(cI, .int), (cJ, .long), (cB, .byte)] sa [.ref q_p0, .int x1] (ws_Li_open cI cJ cB q_p0 q_p0_kind q_p0_start q_p0_value i_p0_count i_p0_done f_p0_kind f_p0_start) (fun (w : va_W) => w = (ws_Li_open cI cJ cB q_p0 q_p0_kind q_p0_start q_p0_value res.1 i_p0_done res.2.1 res.2.2)) := by
  intro sz
  refine vz_start (Qc := fun A => va_Qv (fun (w : va_W) => w = (ws_Li_open cI cJ cB q_p0 q_p0_kind q_p0_start q_p0_value res.1 i_p0_done res.2.1 res.2.2)) (vz_B D A) A) (lv0 := [(0, .ref q_p0), (1, .int x1)]) (by decide +kernel) (Nat.le_of_ble_eq_true rfl) rfl ?_
  intro p e s m below meth c A ls C0 hl
  obtain ⟨hx, hb, hr, hml, hown, ht, hlocks, hin, hN, hK, hP, hD, hA, hS, hZ⟩ := C0
  exact w_Li_open_0 fl q_p0 q_p0_kind q_p0_start q_p0_value i_p0_done res ⟨hx, hb, hr, hml, hown, ht, hlocks, hin, hN, hK, hA, hZ⟩ x1 i_p0_count f_p0_kind f_p0_start s.heap [] ls hm hP hD hS (lv_sub hl [0, 1] rfl)
def ws_Li_kindOfLast (cI cJ cB : ClassId) (q_p0 : Nat) (q_p0_kind : Nat) (q_p0_start : Nat) (q_p0_value : Nat) (i_p0_count : Int32) (i_p0_done : Int32) (f_p0_kind : Nat → Int32) : va_W := [(q_p0, .inr (1, [.ref q_p0_kind, .ref q_p0_start, .ref q_p0_value, .int i_p0_count, .int i_p0_done])), (q_p0_kind, .inl (cI, 64, .inl f_p0_kind))]
def rm_Li_kindOfLast : Room := { frames := 0, cells := 0, slots := 0, locals := 0 }
def B_Li_kindOfLast_0 (fl : Nat) (i_p0_count : Int32) (f_p0_kind : Nat → Int32) : Option (Int32) := (if i_p0_count ≤ (0 : Int32) then (some 0) else (if ¬ ((i_p0_count - (1 : Int32)) < 0 ∨ 64 ≤ Int32.toNatClampNeg (i_p0_count - (1 : Int32))) then (some (f_p0_kind (Int32.toNatClampNeg (i_p0_count - (1 : Int32))))) else none))
def m_Li_kindOfLast (fl : Nat) (i_p0_count : Int32) (f_p0_kind : Nat → Int32) : Option (Int32) := B_Li_kindOfLast_0 fl i_p0_count f_p0_kind
set_option maxHeartbeats 4000000 in
set_option maxRecDepth 100000 in
theorem w_Li_kindOfLast_0 {p : Program} {l : Launch} {e : Env} {s : State} {m : MethodId} {args : Array Value} {below : List Frame} {meth : Method} {c : Code} {D : va_G} {cI cJ cB : ClassId} {sa : Nat → Nat × Nat} {A : Nat → Prop} (fl : Nat) (q_p0 : Nat) (q_p0_kind : Nat) (q_p0_start : Nat) (q_p0_value : Nat) (i_p0_count : Int32) (f_p0_kind : Nat → Int32) (i_p0_done : Int32) (res : Int32) (C0 : vz_Cx p s m meth c b_Li_kindOfLast 1 (some .int) "LinkEngine$Lines" "kindOfLast" D [(cI, .int), (cJ, .long), (cB, .byte)] sa A args) : ∀ (H : Heap) (locs : List Loc) (ls : Array Slot), B_Li_kindOfLast_0 fl i_p0_count f_p0_kind = some res → va_P D classes (ws_Li_kindOfLast cI cJ cB q_p0 q_p0_kind q_p0_start q_p0_value i_p0_count i_p0_done f_p0_kind) H → va_D A (ws_Li_kindOfLast cI cJ cB q_p0 q_p0_kind q_p0_start q_p0_value i_p0_count i_p0_done f_p0_kind) → va_S A s.heap H locs → lv_has ls 1 [(0, .ref q_p0)] → W p l e rm_Li_kindOfLast s m args below meth c H locs 0 0 (MQ below (va_Qi (fun (r : Int32) (w : va_W) => r = res ∧ w = (ws_Li_kindOfLast cI cJ cB q_p0 q_p0_kind q_p0_start q_p0_value i_p0_count i_p0_done f_p0_kind)) (vz_B D A) A) args s 0 0 A) (F0 m 0 ls []) := by
  obtain ⟨hx, hb, hr, hml, hown, ht, hlocks, hin, hN, hK, hA, hZ⟩ := id C0
  intro H locs ls hm hP hD hS hl
  unfold B_Li_kindOfLast_0 at hm
  refine lv_aload_n hx hb d_Li_kindOfLast_0 rfl (lv_at hl 0 rfl) ?_
  refine va_get (D := D) (ci := 1) (v := .int i_p0_count) (C := R_Li) (T := F_Li) (N := 5) hx hb ht i_Li hown hK hP 0 rfl rfl 3 (Nat.le_of_ble_eq_true rfl) (ht _ m_174) (fun _ h9 => h9) rfl d_Li_kindOfLast_1 ?_
  refine lv_if_le (tgt := 21) hx hb d_Li_kindOfLast_4 (by decide) (fun hc => ?_) (fun hc => ?_)
  · rw [if_pos hc] at hm
    refine lv_iconst (v := 0) hx hb d_Li_kindOfLast_21 (by decide) ?_
    obtain rfl := Option.some.inj hm
    exact vz_iret hx hb hr rfl hlocks hP hD hS (Nat.le_refl _) (Nat.le_refl _) d_Li_kindOfLast_22 ⟨rfl, rfl⟩
  · rw [if_neg hc] at hm
    refine lv_aload_n hx hb d_Li_kindOfLast_7 rfl (lv_at hl 0 rfl) ?_
    refine va_get (D := D) (ci := 1) (v := .ref q_p0_kind) (C := R_Li) (T := F_Li) (N := 5) hx hb ht i_Li hown hK hP 0 rfl rfl 0 (Nat.le_of_ble_eq_true rfl) (ht _ m_4) (fun _ h9 => h9) rfl d_Li_kindOfLast_8 ?_
    refine lv_aload_n hx hb d_Li_kindOfLast_11 rfl (lv_at hl 0 rfl) ?_
    refine va_get (D := D) (ci := 1) (v := .int i_p0_count) (C := R_Li) (T := F_Li) (N := 5) hx hb ht i_Li hown hK hP 0 rfl rfl 3 (Nat.le_of_ble_eq_true rfl) (ht _ m_174) (fun _ h9 => h9) rfl d_Li_kindOfLast_12 ?_
    refine lv_iconst (v := 1) hx hb d_Li_kindOfLast_15 (by decide) ?_
    refine lv_isub hx hb d_Li_kindOfLast_16 ?_
    obtain ⟨hg, hm⟩ := vz_guard hm
    refine va_iald hx hb hK hP 1 0 rfl rfl hg d_Li_kindOfLast_17 ?_
    refine lv_goto (tgt := 22) hx hb d_Li_kindOfLast_18 (by decide) ?_
    obtain rfl := Option.some.inj hm
    exact vz_iret hx hb hr rfl hlocks hP hD hS (Nat.le_refl _) (Nat.le_refl _) d_Li_kindOfLast_22 ⟨rfl, rfl⟩
set_option maxHeartbeats 4000000 in
set_option maxRecDepth 100000 in
theorem k_Li_kindOfLast (l : Launch) (D : va_G) (cI cJ cB : ClassId) (sa : Nat → Nat × Nat) (fl : Nat) (q_p0 : Nat) (q_p0_kind : Nat) (q_p0_start : Nat) (q_p0_value : Nat) (i_p0_count : Int32) (f_p0_kind : Nat → Int32) (i_p0_done : Int32)  (res : Int32) (hm : m_Li_kindOfLast fl i_p0_count f_p0_kind = some res) : MtI l y_Li_kindOfLast (.code y_Li_kindOfLast b_Li_kindOfLast 1 (some .int) :: CW) rm_Li_kindOfLast D [(cI, .int), (cJ, .long), (cB, .byte)] sa [.ref q_p0] (ws_Li_kindOfLast cI cJ cB q_p0 q_p0_kind q_p0_start q_p0_value i_p0_count i_p0_done f_p0_kind) (fun (r : Int32) (w : va_W) => r = res ∧ w = (ws_Li_kindOfLast cI cJ cB q_p0 q_p0_kind q_p0_start q_p0_value i_p0_count i_p0_done f_p0_kind)) := by
  intro sz
  refine vz_start (Qc := fun A => va_Qi (fun (r : Int32) (w : va_W) => r = res ∧ w = (ws_Li_kindOfLast cI cJ cB q_p0 q_p0_kind q_p0_start q_p0_value i_p0_count i_p0_done f_p0_kind)) (vz_B D A) A) (lv0 := [(0, .ref q_p0)]) (by decide +kernel) (Nat.le_of_ble_eq_true rfl) rfl ?_
  intro p e s m below meth c A ls C0 hl
  obtain ⟨hx, hb, hr, hml, hown, ht, hlocks, hin, hN, hK, hP, hD, hA, hS, hZ⟩ := C0
  exact w_Li_kindOfLast_0 fl q_p0 q_p0_kind q_p0_start q_p0_value i_p0_count f_p0_kind i_p0_done res ⟨hx, hb, hr, hml, hown, ht, hlocks, hin, hN, hK, hA, hZ⟩  s.heap [] ls hm hP hD hS (lv_sub hl [0] rfl)
def ws_Rd_isMark (cI cJ cB : ClassId) (q_p0 : Nat) (q_p0_text : Nat) (q_p0_lines : Nat) (i_p0_size : Int32) (i_p0_behind : Int32) (i_p0_token : Int32) (i_p0_place : Int32) (i_p0_value : Int64) (i_p0_misshapen : Int32) (i_p0_faultFound : Int32) (i_p0_faultPlace : Int32) : va_W := [(q_p0, .inr (2, [.ref q_p0_text, .ref q_p0_lines, .int i_p0_size, .int i_p0_behind, .int i_p0_token, .int i_p0_place, .long i_p0_value, .int i_p0_misshapen, .int i_p0_faultFound, .int i_p0_faultPlace]))]
def rm_Rd_isMark : Room := { frames := 0, cells := 0, slots := 0, locals := 0 }
def B_Rd_isMark_0 (fl : Nat) (i_p0_token : Int32) (i_p0_value : Int64) (x1 : Int32) : Option (Int32) := (if ¬ i_p0_token = (4 : Int32) then (some 0) else (if ¬ (lg_cmp i_p0_value (Int32.toInt64 x1)) = (0 : Int32) then (some 0) else (some 1)))
def m_Rd_isMark (fl : Nat) (i_p0_token : Int32) (i_p0_value : Int64) (x1 : Int32) : Option (Int32) := B_Rd_isMark_0 fl i_p0_token i_p0_value x1
set_option maxHeartbeats 4000000 in
set_option maxRecDepth 100000 in
theorem w_Rd_isMark_0 {p : Program} {l : Launch} {e : Env} {s : State} {m : MethodId} {args : Array Value} {below : List Frame} {meth : Method} {c : Code} {D : va_G} {cI cJ cB : ClassId} {sa : Nat → Nat × Nat} {A : Nat → Prop} (fl : Nat) (q_p0 : Nat) (q_p0_text : Nat) (q_p0_lines : Nat) (i_p0_token : Int32) (i_p0_value : Int64) (i_p0_size : Int32) (i_p0_behind : Int32) (i_p0_place : Int32) (i_p0_misshapen : Int32) (i_p0_faultFound : Int32) (i_p0_faultPlace : Int32) (res : Int32) (C0 : vz_Cx p s m meth c b_Rd_isMark 2 (some .boolean) "LinkEngine$Reader" "isMark" D [(cI, .int), (cJ, .long), (cB, .byte)] sa A args) : ∀ (x1 : Int32) (H : Heap) (locs : List Loc) (ls : Array Slot), B_Rd_isMark_0 fl i_p0_token i_p0_value x1 = some res → va_P D classes (ws_Rd_isMark cI cJ cB q_p0 q_p0_text q_p0_lines i_p0_size i_p0_behind i_p0_token i_p0_place i_p0_value i_p0_misshapen i_p0_faultFound i_p0_faultPlace) H → va_D A (ws_Rd_isMark cI cJ cB q_p0 q_p0_text q_p0_lines i_p0_size i_p0_behind i_p0_token i_p0_place i_p0_value i_p0_misshapen i_p0_faultFound i_p0_faultPlace) → va_S A s.heap H locs → lv_has ls 2 [(0, .ref q_p0), (1, .int x1)] → W p l e rm_Rd_isMark s m args below meth c H locs 0 0 (MQ below (va_Qi (fun (r : Int32) (w : va_W) => r = res ∧ w = (ws_Rd_isMark cI cJ cB q_p0 q_p0_text q_p0_lines i_p0_size i_p0_behind i_p0_token i_p0_place i_p0_value i_p0_misshapen i_p0_faultFound i_p0_faultPlace)) (vz_B D A) A) args s 0 0 A) (F0 m 0 ls []) := by
  obtain ⟨hx, hb, hr, hml, hown, ht, hlocks, hin, hN, hK, hA, hZ⟩ := id C0
  intro x1 H locs ls hm hP hD hS hl
  unfold B_Rd_isMark_0 at hm
  refine lv_aload_n hx hb d_Rd_isMark_0 rfl (lv_at hl 0 rfl) ?_
  refine va_get (D := D) (ci := 2) (v := .int i_p0_token) (C := R_Rd) (T := F_Rd) (N := 10) hx hb ht i_Rd hown hK hP 0 rfl rfl 4 (Nat.le_of_ble_eq_true rfl) (ht _ m_362) (fun _ h9 => h9) rfl d_Rd_isMark_1 ?_
  refine lv_iconst (v := 4) hx hb d_Rd_isMark_4 (by decide) ?_
  refine lv_icmp_ne (tgt := 22) hx hb d_Rd_isMark_5 (by decide) (fun hc => ?_) (fun hc => ?_)
  · rw [if_pos hc] at hm
    refine lv_iconst (v := 0) hx hb d_Rd_isMark_22 (by decide) ?_
    obtain rfl := Option.some.inj hm
    exact vz_iret hx hb hr rfl hlocks hP hD hS (Nat.le_refl _) (Nat.le_refl _) d_Rd_isMark_23 ⟨rfl, rfl⟩
  · rw [if_neg (fun q => q hc)] at hm
    refine lv_aload_n hx hb d_Rd_isMark_8 rfl (lv_at hl 0 rfl) ?_
    refine va_get (D := D) (ci := 2) (v := .long i_p0_value) (C := R_Rd) (T := F_Rd) (N := 10) hx hb ht i_Rd hown hK hP 0 rfl rfl 6 (Nat.le_of_ble_eq_true rfl) (ht _ m_353) (fun _ h9 => h9) rfl d_Rd_isMark_9 ?_
    refine lv_iload_n hx hb d_Rd_isMark_12 rfl (lv_at hl 1 rfl) ?_
    refine lv_i2l hx hb d_Rd_isMark_13 rfl ?_
    refine W.lcmp hx hb d_Rd_isMark_14 ?_
    refine lv_if_ne (tgt := 22) hx hb d_Rd_isMark_15 (by decide) (fun hc => ?_) (fun hc => ?_)
    · rw [if_pos hc] at hm
      refine lv_iconst (v := 0) hx hb d_Rd_isMark_22 (by decide) ?_
      obtain rfl := Option.some.inj hm
      exact vz_iret hx hb hr rfl hlocks hP hD hS (Nat.le_refl _) (Nat.le_refl _) d_Rd_isMark_23 ⟨rfl, rfl⟩
    · rw [if_neg (fun q => q hc)] at hm
      refine lv_iconst (v := 1) hx hb d_Rd_isMark_18 (by decide) ?_
      refine lv_goto (tgt := 23) hx hb d_Rd_isMark_19 (by decide) ?_
      obtain rfl := Option.some.inj hm
      exact vz_iret hx hb hr rfl hlocks hP hD hS (Nat.le_refl _) (Nat.le_refl _) d_Rd_isMark_23 ⟨rfl, rfl⟩
set_option maxHeartbeats 4000000 in
set_option maxRecDepth 100000 in
theorem k_Rd_isMark (l : Launch) (D : va_G) (cI cJ cB : ClassId) (sa : Nat → Nat × Nat) (fl : Nat) (q_p0 : Nat) (q_p0_text : Nat) (q_p0_lines : Nat) (i_p0_token : Int32) (i_p0_value : Int64) (i_p0_size : Int32) (i_p0_behind : Int32) (i_p0_place : Int32) (i_p0_misshapen : Int32) (i_p0_faultFound : Int32) (i_p0_faultPlace : Int32) (x1 : Int32) (res : Int32) (hm : m_Rd_isMark fl i_p0_token i_p0_value x1 = some res) : MtI l y_Rd_isMark (.code y_Rd_isMark b_Rd_isMark 2 (some .boolean) :: CW) rm_Rd_isMark D [(cI, .int), (cJ, .long), (cB, .byte)] sa [.ref q_p0, .int x1] (ws_Rd_isMark cI cJ cB q_p0 q_p0_text q_p0_lines i_p0_size i_p0_behind i_p0_token i_p0_place i_p0_value i_p0_misshapen i_p0_faultFound i_p0_faultPlace) (fun (r : Int32) (w : va_W) => r = res ∧ w = (ws_Rd_isMark cI cJ cB q_p0 q_p0_text q_p0_lines i_p0_size i_p0_behind i_p0_token i_p0_place i_p0_value i_p0_misshapen i_p0_faultFound i_p0_faultPlace)) := by
  intro sz
  refine vz_start (Qc := fun A => va_Qi (fun (r : Int32) (w : va_W) => r = res ∧ w = (ws_Rd_isMark cI cJ cB q_p0 q_p0_text q_p0_lines i_p0_size i_p0_behind i_p0_token i_p0_place i_p0_value i_p0_misshapen i_p0_faultFound i_p0_faultPlace)) (vz_B D A) A) (lv0 := [(0, .ref q_p0), (1, .int x1)]) (by decide +kernel) (Nat.le_of_ble_eq_true rfl) rfl ?_
  intro p e s m below meth c A ls C0 hl
  obtain ⟨hx, hb, hr, hml, hown, ht, hlocks, hin, hN, hK, hP, hD, hA, hS, hZ⟩ := C0
  exact w_Rd_isMark_0 fl q_p0 q_p0_text q_p0_lines i_p0_token i_p0_value i_p0_size i_p0_behind i_p0_place i_p0_misshapen i_p0_faultFound i_p0_faultPlace res ⟨hx, hb, hr, hml, hown, ht, hlocks, hin, hN, hK, hA, hZ⟩ x1 s.heap [] ls hm hP hD hS (lv_sub hl [0, 1] rfl)
def ws_Li_add (cI cJ cB : ClassId) (q_p0 : Nat) (q_p0_kind : Nat) (q_p0_start : Nat) (q_p0_value : Nat) (i_p0_count : Int32) (i_p0_done : Int32) (f_p0_start : Nat → Int32) (f_p0_value : Nat → Int64) : va_W := [(q_p0, .inr (1, [.ref q_p0_kind, .ref q_p0_start, .ref q_p0_value, .int i_p0_count, .int i_p0_done])), (q_p0_start, .inl (cI, 65, .inl f_p0_start)), (q_p0_value, .inl (cJ, 4000, .inr (.inl f_p0_value)))]
def rm_Li_add : Room := { frames := 0, cells := 0, slots := 0, locals := 0 }
def B_Li_add_0 (fl : Nat) (i_p0_count : Int32) (x1 : Int64) (f_p0_start : Nat → Int32) (f_p0_value : Nat → Int64) : Option ((Nat → Int32) × (Nat → Int64)) := (if ¬ (i_p0_count < 0 ∨ 65 ≤ Int32.toNatClampNeg i_p0_count) then (if i_p0_count ≤ (0 : Int32) then (some (f_p0_start, f_p0_value)) else (if (4000 : Int32) ≤ (f_p0_start (Int32.toNatClampNeg i_p0_count)) then (some (f_p0_start, f_p0_value)) else (if ¬ ((f_p0_start (Int32.toNatClampNeg i_p0_count)) < 0 ∨ 4000 ≤ Int32.toNatClampNeg (f_p0_start (Int32.toNatClampNeg i_p0_count))) then (if ¬ (i_p0_count < 0 ∨ 65 ≤ Int32.toNatClampNeg i_p0_count) then (some ((upd f_p0_start (Int32.toNatClampNeg i_p0_count) ((f_p0_start (Int32.toNatClampNeg i_p0_count)) + (1 : Int32))), (vp_updL f_p0_value (Int32.toNatClampNeg (f_p0_start (Int32.toNatClampNeg i_p0_count))) x1))) else none) else none))) else none)
def m_Li_add (fl : Nat) (i_p0_count : Int32) (x1 : Int64) (f_p0_start : Nat → Int32) (f_p0_value : Nat → Int64) : Option ((Nat → Int32) × (Nat → Int64)) := B_Li_add_0 fl i_p0_count x1 f_p0_start f_p0_value
set_option maxHeartbeats 4000000 in
set_option maxRecDepth 100000 in
theorem w_Li_add_0 {p : Program} {l : Launch} {e : Env} {s : State} {m : MethodId} {args : Array Value} {below : List Frame} {meth : Method} {c : Code} {D : va_G} {cI cJ cB : ClassId} {sa : Nat → Nat × Nat} {A : Nat → Prop} (fl : Nat) (q_p0 : Nat) (q_p0_kind : Nat) (q_p0_start : Nat) (q_p0_value : Nat) (i_p0_count : Int32) (i_p0_done : Int32) (res : (Nat → Int32) × (Nat → Int64)) (C0 : vz_Cx p s m meth c b_Li_add 4 none "LinkEngine$Lines" "add" D [(cI, .int), (cJ, .long), (cB, .byte)] sa A args) : ∀ (x1 : Int64) (f_p0_start : Nat → Int32) (f_p0_value : Nat → Int64) (H : Heap) (locs : List Loc) (ls : Array Slot), B_Li_add_0 fl i_p0_count x1 f_p0_start f_p0_value = some res → va_P D classes (ws_Li_add cI cJ cB q_p0 q_p0_kind q_p0_start q_p0_value i_p0_count i_p0_done f_p0_start f_p0_value) H → va_D A (ws_Li_add cI cJ cB q_p0 q_p0_kind q_p0_start q_p0_value i_p0_count i_p0_done f_p0_start f_p0_value) → va_S A s.heap H locs → lv_has ls 4 [(0, .ref q_p0), (1, .long x1)] → W p l e rm_Li_add s m args below meth c H locs 0 0 (MQ below (va_Qv (fun (w : va_W) => w = (ws_Li_add cI cJ cB q_p0 q_p0_kind q_p0_start q_p0_value i_p0_count i_p0_done res.1 res.2)) (vz_B D A) A) args s 0 0 A) (F0 m 0 ls []) := by
  obtain ⟨hx, hb, hr, hml, hown, ht, hlocks, hin, hN, hK, hA, hZ⟩ := id C0
  intro x1 f_p0_start f_p0_value H locs ls hm hP hD hS hl
  unfold B_Li_add_0 at hm
  refine lv_aload_n hx hb d_Li_add_0 rfl (lv_at hl 0 rfl) ?_
  refine va_get (D := D) (ci := 1) (v := .ref q_p0_start) (C := R_Li) (T := F_Li) (N := 5) hx hb ht i_Li hown hK hP 0 rfl rfl 1 (Nat.le_of_ble_eq_true rfl) (ht _ m_5) (fun _ h9 => h9) rfl d_Li_add_1 ?_
  refine lv_aload_n hx hb d_Li_add_4 rfl (lv_at hl 0 rfl) ?_
  refine va_get (D := D) (ci := 1) (v := .int i_p0_count) (C := R_Li) (T := F_Li) (N := 5) hx hb ht i_Li hown hK hP 0 rfl rfl 3 (Nat.le_of_ble_eq_true rfl) (ht _ m_174) (fun _ h9 => h9) rfl d_Li_add_5 ?_
  obtain ⟨hg, hm⟩ := vz_guard hm
  refine va_iald hx hb hK hP 1 0 rfl rfl hg d_Li_add_8 ?_
  refine lv_istore_n (lv' := [(3, .int (f_p0_start (Int32.toNatClampNeg i_p0_count))), (0, .ref q_p0), (1, .long x1)]) hx hb d_Li_add_9 rfl hl (by decide) rfl (fun ls hl => ?_)
  refine lv_aload_n hx hb d_Li_add_10 rfl (lv_at hl 1 rfl) ?_
  refine va_get (D := D) (ci := 1) (v := .int i_p0_count) (C := R_Li) (T := F_Li) (N := 5) hx hb ht i_Li hown hK hP 0 rfl rfl 3 (Nat.le_of_ble_eq_true rfl) (ht _ m_174) (fun _ h9 => h9) rfl d_Li_add_11 ?_
  refine lv_if_le (tgt := 43) hx hb d_Li_add_14 (by decide) (fun hc => ?_) (fun hc => ?_)
  · rw [if_pos hc] at hm
    obtain rfl := Option.some.inj hm
    exact vz_vret hx hb hr hlocks hP hD hS (Nat.le_refl _) (Nat.le_refl _) d_Li_add_43 rfl
  · rw [if_neg hc] at hm
    refine lv_iload_n hx hb d_Li_add_17 rfl (lv_at hl 0 rfl) ?_
    refine lv_sipush (v := 4000) hx hb d_Li_add_18 (by decide +kernel) ?_
    refine lv_icmp_ge (tgt := 43) hx hb d_Li_add_21 (by decide) (fun hc => ?_) (fun hc => ?_)
    · rw [if_pos hc] at hm
      obtain rfl := Option.some.inj hm
      exact vz_vret hx hb hr hlocks hP hD hS (Nat.le_refl _) (Nat.le_refl _) d_Li_add_43 rfl
    · rw [if_neg hc] at hm
      refine lv_aload_n hx hb d_Li_add_24 rfl (lv_at hl 1 rfl) ?_
      refine va_get (D := D) (ci := 1) (v := .ref q_p0_value) (C := R_Li) (T := F_Li) (N := 5) hx hb ht i_Li hown hK hP 0 rfl rfl 2 (Nat.le_of_ble_eq_true rfl) (ht _ m_7) (fun _ h9 => h9) rfl d_Li_add_25 ?_
      refine lv_iload_n hx hb d_Li_add_28 rfl (lv_at hl 0 rfl) ?_
      refine lv_lload_n hx hb d_Li_add_29 rfl (lv_at hl 2 rfl) ?_
      obtain ⟨hg, hm⟩ := vz_guard hm
      refine va_last hx hb hK hP hD hS 2 1 rfl rfl hg d_Li_add_30 (fun H locs hP hD hS => ?_)
      have hP : va_P D classes (ws_Li_add cI cJ cB q_p0 q_p0_kind q_p0_start q_p0_value i_p0_count i_p0_done f_p0_start (vp_updL f_p0_value (Int32.toNatClampNeg (f_p0_start (Int32.toNatClampNeg i_p0_count))) x1)) H := hP
      have hD : va_D A (ws_Li_add cI cJ cB q_p0 q_p0_kind q_p0_start q_p0_value i_p0_count i_p0_done f_p0_start (vp_updL f_p0_value (Int32.toNatClampNeg (f_p0_start (Int32.toNatClampNeg i_p0_count))) x1)) := hD
      refine lv_aload_n hx hb d_Li_add_31 rfl (lv_at hl 1 rfl) ?_
      refine va_get (D := D) (ci := 1) (v := .ref q_p0_start) (C := R_Li) (T := F_Li) (N := 5) hx hb ht i_Li hown hK hP 0 rfl rfl 1 (Nat.le_of_ble_eq_true rfl) (ht _ m_5) (fun _ h9 => h9) rfl d_Li_add_32 ?_
      refine lv_aload_n hx hb d_Li_add_35 rfl (lv_at hl 1 rfl) ?_
      refine va_get (D := D) (ci := 1) (v := .int i_p0_count) (C := R_Li) (T := F_Li) (N := 5) hx hb ht i_Li hown hK hP 0 rfl rfl 3 (Nat.le_of_ble_eq_true rfl) (ht _ m_174) (fun _ h9 => h9) rfl d_Li_add_36 ?_
      refine lv_iload_n hx hb d_Li_add_39 rfl (lv_at hl 0 rfl) ?_
      refine lv_iconst (v := 1) hx hb d_Li_add_40 (by decide) ?_
      refine lv_iadd hx hb d_Li_add_41 ?_
      obtain ⟨hg, hm⟩ := vz_guard hm
      refine va_iast hx hb hK hP hD hS 1 0 rfl rfl hg d_Li_add_42 (fun H locs hP hD hS => ?_)
      have hP : va_P D classes (ws_Li_add cI cJ cB q_p0 q_p0_kind q_p0_start q_p0_value i_p0_count i_p0_done (upd f_p0_start (Int32.toNatClampNeg i_p0_count) ((f_p0_start (Int32.toNatClampNeg i_p0_count)) + (1 : Int32))) (vp_updL f_p0_value (Int32.toNatClampNeg (f_p0_start (Int32.toNatClampNeg i_p0_count))) x1)) H := hP
      have hD : va_D A (ws_Li_add cI cJ cB q_p0 q_p0_kind q_p0_start q_p0_value i_p0_count i_p0_done (upd f_p0_start (Int32.toNatClampNeg i_p0_count) ((f_p0_start (Int32.toNatClampNeg i_p0_count)) + (1 : Int32))) (vp_updL f_p0_value (Int32.toNatClampNeg (f_p0_start (Int32.toNatClampNeg i_p0_count))) x1)) := hD
      obtain rfl := Option.some.inj hm
      exact vz_vret hx hb hr hlocks hP hD hS (Nat.le_refl _) (Nat.le_refl _) d_Li_add_43 rfl
set_option maxHeartbeats 4000000 in
set_option maxRecDepth 100000 in
theorem k_Li_add (l : Launch) (D : va_G) (cI cJ cB : ClassId) (sa : Nat → Nat × Nat) (fl : Nat) (q_p0 : Nat) (q_p0_kind : Nat) (q_p0_start : Nat) (q_p0_value : Nat) (i_p0_count : Int32) (i_p0_done : Int32) (f_p0_start : Nat → Int32) (f_p0_value : Nat → Int64) (x1 : Int64) (res : (Nat → Int32) × (Nat → Int64)) (hm : m_Li_add fl i_p0_count x1 f_p0_start f_p0_value = some res) : MtV l y_Li_add (.code y_Li_add b_Li_add 4 none :: CW) rm_Li_add D [(cI, .int), (cJ, .long), (cB, .byte)] sa [.ref q_p0, .long x1] (ws_Li_add cI cJ cB q_p0 q_p0_kind q_p0_start q_p0_value i_p0_count i_p0_done f_p0_start f_p0_value) (fun (w : va_W) => w = (ws_Li_add cI cJ cB q_p0 q_p0_kind q_p0_start q_p0_value i_p0_count i_p0_done res.1 res.2)) := by
  intro sz
  refine vz_start (Qc := fun A => va_Qv (fun (w : va_W) => w = (ws_Li_add cI cJ cB q_p0 q_p0_kind q_p0_start q_p0_value i_p0_count i_p0_done res.1 res.2)) (vz_B D A) A) (lv0 := [(0, .ref q_p0), (1, .long x1)]) (by decide +kernel) (Nat.le_of_ble_eq_true rfl) rfl ?_
  intro p e s m below meth c A ls C0 hl
  obtain ⟨hx, hb, hr, hml, hown, ht, hlocks, hin, hN, hK, hP, hD, hA, hS, hZ⟩ := C0
  exact w_Li_add_0 fl q_p0 q_p0_kind q_p0_start q_p0_value i_p0_count i_p0_done res ⟨hx, hb, hr, hml, hown, ht, hlocks, hin, hN, hK, hA, hZ⟩ x1 f_p0_start f_p0_value s.heap [] ls hm hP hD hS (lv_sub hl [0, 1] rfl)
def ws_En_variableOf (cI cJ cB : ClassId)  : va_W := []
def rm_En_variableOf : Room := { frames := 0, cells := 0, slots := 0, locals := 0 }
def B_En_variableOf_0 (fl : Nat) (x0 : Int32) : Option (Nat) := (if ¬ x0 = (18 : Int32) then (some 23) else (some 22))
def m_En_variableOf (fl : Nat) (x0 : Int32) : Option (Nat) := B_En_variableOf_0 fl  x0
set_option maxHeartbeats 4000000 in
set_option maxRecDepth 100000 in
theorem w_En_variableOf_0 {p : Program} {l : Launch} {e : Env} {s : State} {m : MethodId} {args : Array Value} {below : List Frame} {meth : Method} {c : Code} {D : va_G} {cI cJ cB : ClassId} {sa : Nat → Nat × Nat} {A : Nat → Prop} (fl : Nat)   (res : Nat) (C0 : vz_Cx p s m meth c b_En_variableOf 1 (some (.object "java/lang/String")) "LinkEngine" "variableOf" D [(cI, .int), (cJ, .long), (cB, .byte)] sa A args) : ∀ (x0 : Int32) (H : Heap) (locs : List Loc) (ls : Array Slot), B_En_variableOf_0 fl x0 = some res → va_P D classes (ws_En_variableOf cI cJ cB ) H → va_D A (ws_En_variableOf cI cJ cB ) → va_S A s.heap H locs → lv_has ls 1 [(0, .int x0)] → W p l e rm_En_variableOf s m args below meth c H locs 0 0 (MQ below (va_Qr (fun (w : va_W) => w = (ws_En_variableOf cI cJ cB )) (vz_Br D A (sa res).1) A) args s 0 0 A) (F0 m 0 ls []) := by
  obtain ⟨hx, hb, hr, hml, hown, ht, hlocks, hin, hN, hK, hA, hZ⟩ := id C0
  intro x0 H locs ls hm hP hD hS hl
  unfold B_En_variableOf_0 at hm
  refine lv_iload_n hx hb d_En_variableOf_0 rfl (lv_at hl 0 rfl) ?_
  refine lv_bipush (v := 18) hx hb d_En_variableOf_1 (by decide +kernel) ?_
  refine lv_icmp_ne (tgt := 12) hx hb d_En_variableOf_3 (by decide) (fun hc => ?_) (fun hc => ?_)
  · rw [if_pos hc] at hm
    refine vz_ldcwS hx hb hown (hZ.2.1 23 ("LinkEngine", 401, "A") rfl) d_En_variableOf_12 ?_
    obtain rfl := Option.some.inj hm
    exact vz_aret hx hb hr hlocks hP hD hS (Nat.le_refl _) (Nat.le_refl _) d_En_variableOf_15 rfl
  · rw [if_neg (fun q => q hc)] at hm
    refine vz_ldcwS hx hb hown (hZ.2.1 22 ("LinkEngine", 399, "t") rfl) d_En_variableOf_6 ?_
    refine lv_goto (tgt := 15) hx hb d_En_variableOf_9 (by decide) ?_
    obtain rfl := Option.some.inj hm
    exact vz_aret hx hb hr hlocks hP hD hS (Nat.le_refl _) (Nat.le_refl _) d_En_variableOf_15 rfl
set_option maxHeartbeats 4000000 in
set_option maxRecDepth 100000 in
theorem k_En_variableOf (l : Launch) (D : va_G) (cI cJ cB : ClassId) (sa : Nat → Nat × Nat) (fl : Nat)   (x0 : Int32) (res : Nat) (hm : m_En_variableOf fl x0 = some res) : MtR l y_En_variableOf (.code y_En_variableOf b_En_variableOf 1 (some (.object "java/lang/String")) :: CW) rm_En_variableOf D [(cI, .int), (cJ, .long), (cB, .byte)] sa [.int x0] (ws_En_variableOf cI cJ cB ) (sa res).1 (fun (w : va_W) => w = (ws_En_variableOf cI cJ cB )) := by
  intro sz
  refine vz_start (Qc := fun A => va_Qr (fun (w : va_W) => w = (ws_En_variableOf cI cJ cB )) (vz_Br D A (sa res).1) A) (lv0 := [(0, .int x0)]) (by decide +kernel) (Nat.le_of_ble_eq_true rfl) rfl ?_
  intro p e s m below meth c A ls C0 hl
  obtain ⟨hx, hb, hr, hml, hown, ht, hlocks, hin, hN, hK, hP, hD, hA, hS, hZ⟩ := C0
  exact w_En_variableOf_0 fl   res ⟨hx, hb, hr, hml, hown, ht, hlocks, hin, hN, hK, hA, hZ⟩ x0 s.heap [] ls hm hP hD hS (lv_sub hl [0] rfl)
def ws_Li_waiting (cI cJ cB : ClassId) (q_p0 : Nat) (q_p0_kind : Nat) (q_p0_start : Nat) (q_p0_value : Nat) (i_p0_count : Int32) (i_p0_done : Int32) : va_W := [(q_p0, .inr (1, [.ref q_p0_kind, .ref q_p0_start, .ref q_p0_value, .int i_p0_count, .int i_p0_done]))]
def rm_Li_waiting : Room := { frames := 0, cells := 0, slots := 0, locals := 0 }
def B_Li_waiting_0 (fl : Nat) (i_p0_count : Int32) (i_p0_done : Int32) : Option (Int32) := (some (i_p0_count - i_p0_done))
def m_Li_waiting (fl : Nat) (i_p0_count : Int32) (i_p0_done : Int32) : Option (Int32) := B_Li_waiting_0 fl i_p0_count i_p0_done
set_option maxHeartbeats 4000000 in
set_option maxRecDepth 100000 in
theorem w_Li_waiting_0 {p : Program} {l : Launch} {e : Env} {s : State} {m : MethodId} {args : Array Value} {below : List Frame} {meth : Method} {c : Code} {D : va_G} {cI cJ cB : ClassId} {sa : Nat → Nat × Nat} {A : Nat → Prop} (fl : Nat) (q_p0 : Nat) (q_p0_kind : Nat) (q_p0_start : Nat) (q_p0_value : Nat) (i_p0_count : Int32) (i_p0_done : Int32) (res : Int32) (C0 : vz_Cx p s m meth c b_Li_waiting 1 (some .int) "LinkEngine$Lines" "waiting" D [(cI, .int), (cJ, .long), (cB, .byte)] sa A args) : ∀ (H : Heap) (locs : List Loc) (ls : Array Slot), B_Li_waiting_0 fl i_p0_count i_p0_done = some res → va_P D classes (ws_Li_waiting cI cJ cB q_p0 q_p0_kind q_p0_start q_p0_value i_p0_count i_p0_done) H → va_D A (ws_Li_waiting cI cJ cB q_p0 q_p0_kind q_p0_start q_p0_value i_p0_count i_p0_done) → va_S A s.heap H locs → lv_has ls 1 [(0, .ref q_p0)] → W p l e rm_Li_waiting s m args below meth c H locs 0 0 (MQ below (va_Qi (fun (r : Int32) (w : va_W) => r = res ∧ w = (ws_Li_waiting cI cJ cB q_p0 q_p0_kind q_p0_start q_p0_value i_p0_count i_p0_done)) (vz_B D A) A) args s 0 0 A) (F0 m 0 ls []) := by
  obtain ⟨hx, hb, hr, hml, hown, ht, hlocks, hin, hN, hK, hA, hZ⟩ := id C0
  intro H locs ls hm hP hD hS hl
  unfold B_Li_waiting_0 at hm
  refine lv_aload_n hx hb d_Li_waiting_0 rfl (lv_at hl 0 rfl) ?_
  refine va_get (D := D) (ci := 1) (v := .int i_p0_count) (C := R_Li) (T := F_Li) (N := 5) hx hb ht i_Li hown hK hP 0 rfl rfl 3 (Nat.le_of_ble_eq_true rfl) (ht _ m_174) (fun _ h9 => h9) rfl d_Li_waiting_1 ?_
  refine lv_aload_n hx hb d_Li_waiting_4 rfl (lv_at hl 0 rfl) ?_
  refine va_get (D := D) (ci := 1) (v := .int i_p0_done) (C := R_Li) (T := F_Li) (N := 5) hx hb ht i_Li hown hK hP 0 rfl rfl 4 (Nat.le_of_ble_eq_true rfl) (ht _ m_175) (fun _ h9 => h9) rfl d_Li_waiting_5 ?_
  refine lv_isub hx hb d_Li_waiting_8 ?_
  obtain rfl := Option.some.inj hm
  exact vz_iret hx hb hr rfl hlocks hP hD hS (Nat.le_refl _) (Nat.le_refl _) d_Li_waiting_9 ⟨rfl, rfl⟩
set_option maxHeartbeats 4000000 in
set_option maxRecDepth 100000 in
theorem k_Li_waiting (l : Launch) (D : va_G) (cI cJ cB : ClassId) (sa : Nat → Nat × Nat) (fl : Nat) (q_p0 : Nat) (q_p0_kind : Nat) (q_p0_start : Nat) (q_p0_value : Nat) (i_p0_count : Int32) (i_p0_done : Int32)  (res : Int32) (hm : m_Li_waiting fl i_p0_count i_p0_done = some res) : MtI l y_Li_waiting (.code y_Li_waiting b_Li_waiting 1 (some .int) :: CW) rm_Li_waiting D [(cI, .int), (cJ, .long), (cB, .byte)] sa [.ref q_p0] (ws_Li_waiting cI cJ cB q_p0 q_p0_kind q_p0_start q_p0_value i_p0_count i_p0_done) (fun (r : Int32) (w : va_W) => r = res ∧ w = (ws_Li_waiting cI cJ cB q_p0 q_p0_kind q_p0_start q_p0_value i_p0_count i_p0_done)) := by
  intro sz
  refine vz_start (Qc := fun A => va_Qi (fun (r : Int32) (w : va_W) => r = res ∧ w = (ws_Li_waiting cI cJ cB q_p0 q_p0_kind q_p0_start q_p0_value i_p0_count i_p0_done)) (vz_B D A) A) (lv0 := [(0, .ref q_p0)]) (by decide +kernel) (Nat.le_of_ble_eq_true rfl) rfl ?_
  intro p e s m below meth c A ls C0 hl
  obtain ⟨hx, hb, hr, hml, hown, ht, hlocks, hin, hN, hK, hP, hD, hA, hS, hZ⟩ := C0
  exact w_Li_waiting_0 fl q_p0 q_p0_kind q_p0_start q_p0_value i_p0_count i_p0_done res ⟨hx, hb, hr, hml, hown, ht, hlocks, hin, hN, hK, hA, hZ⟩  s.heap [] ls hm hP hD hS (lv_sub hl [0] rfl)
def ws_En_fault (cI cJ cB : ClassId) (q_p0 : Nat) (q_p0_reader : Nat) (q_p0_reader_text : Nat) (q_p0_reader_lines : Nat) (q_p0_paper : Nat) (q_p0_moves : Nat) (q_p0_stateSum : Nat) (q_p0_minor : Nat) (q_p0_polynomial : Nat) (q_p0_now : Nat) (q_p0_next : Nat) (q_p0_trial : Nat) (q_p0_latest : Nat) (q_p0_earlier : Nat) (q_p0_spare : Nat) (i_p0_onTape : Int32) (i_p0_hasRead : Int32) (i_p0_linesDone : Int32) (i_p0_sumsDone : Int32) (i_p0_reader_size : Int32) (i_p0_reader_behind : Int32) (i_p0_reader_token : Int32) (i_p0_reader_place : Int32) (i_p0_reader_value : Int64) (i_p0_reader_misshapen : Int32) (i_p0_reader_faultFound : Int32) (i_p0_reader_faultPlace : Int32) : va_W := [(q_p0, .inr (0, [.ref q_p0_reader, .ref q_p0_reader_text, .ref q_p0_reader_lines, .ref q_p0_paper, .ref q_p0_moves, .ref q_p0_stateSum, .ref q_p0_minor, .ref q_p0_polynomial, .ref q_p0_now, .ref q_p0_next, .ref q_p0_trial, .ref q_p0_latest, .ref q_p0_earlier, .ref q_p0_spare, .int i_p0_onTape, .int i_p0_hasRead, .int i_p0_linesDone, .int i_p0_sumsDone])), (q_p0_reader, .inr (2, [.ref q_p0_reader_text, .ref q_p0_reader_lines, .int i_p0_reader_size, .int i_p0_reader_behind, .int i_p0_reader_token, .int i_p0_reader_place, .long i_p0_reader_value, .int i_p0_reader_misshapen, .int i_p0_reader_faultFound, .int i_p0_reader_faultPlace]))]
def rm_En_fault : Room := { frames := 0, cells := 0, slots := 0, locals := 0 }
def B_En_fault_0 (fl : Nat) (i_p0_hasRead : Int32) (i_p0_reader_faultFound : Int32) (i_p0_reader_faultPlace : Int32) (x1 : Int32) : Option (Int32) := (if ¬ i_p0_hasRead = (0 : Int32) then (if x1 = 0 then (some i_p0_reader_faultFound) else (if x1 = 1 then (some i_p0_reader_faultPlace) else (some (-1)))) else (some (-1)))
def m_En_fault (fl : Nat) (i_p0_hasRead : Int32) (i_p0_reader_faultFound : Int32) (i_p0_reader_faultPlace : Int32) (x1 : Int32) : Option (Int32) := B_En_fault_0 fl i_p0_hasRead i_p0_reader_faultFound i_p0_reader_faultPlace x1
set_option maxHeartbeats 4000000 in
set_option maxRecDepth 100000 in
theorem w_En_fault_0 {p : Program} {l : Launch} {e : Env} {s : State} {m : MethodId} {args : Array Value} {below : List Frame} {meth : Method} {c : Code} {D : va_G} {cI cJ cB : ClassId} {sa : Nat → Nat × Nat} {A : Nat → Prop} (fl : Nat) (q_p0 : Nat) (q_p0_reader : Nat) (q_p0_reader_text : Nat) (q_p0_reader_lines : Nat) (q_p0_paper : Nat) (q_p0_moves : Nat) (q_p0_stateSum : Nat) (q_p0_minor : Nat) (q_p0_polynomial : Nat) (q_p0_now : Nat) (q_p0_next : Nat) (q_p0_trial : Nat) (q_p0_latest : Nat) (q_p0_earlier : Nat) (q_p0_spare : Nat) (i_p0_hasRead : Int32) (i_p0_reader_faultFound : Int32) (i_p0_reader_faultPlace : Int32) (i_p0_onTape : Int32) (i_p0_linesDone : Int32) (i_p0_sumsDone : Int32) (i_p0_reader_size : Int32) (i_p0_reader_behind : Int32) (i_p0_reader_token : Int32) (i_p0_reader_place : Int32) (i_p0_reader_value : Int64) (i_p0_reader_misshapen : Int32) (res : Int32) (C0 : vz_Cx p s m meth c b_En_fault 2 (some .int) "LinkEngine" "fault" D [(cI, .int), (cJ, .long), (cB, .byte)] sa A args) : ∀ (x1 : Int32) (H : Heap) (locs : List Loc) (ls : Array Slot), B_En_fault_0 fl i_p0_hasRead i_p0_reader_faultFound i_p0_reader_faultPlace x1 = some res → va_P D classes (ws_En_fault cI cJ cB q_p0 q_p0_reader q_p0_reader_text q_p0_reader_lines q_p0_paper q_p0_moves q_p0_stateSum q_p0_minor q_p0_polynomial q_p0_now q_p0_next q_p0_trial q_p0_latest q_p0_earlier q_p0_spare i_p0_onTape i_p0_hasRead i_p0_linesDone i_p0_sumsDone i_p0_reader_size i_p0_reader_behind i_p0_reader_token i_p0_reader_place i_p0_reader_value i_p0_reader_misshapen i_p0_reader_faultFound i_p0_reader_faultPlace) H → va_D A (ws_En_fault cI cJ cB q_p0 q_p0_reader q_p0_reader_text q_p0_reader_lines q_p0_paper q_p0_moves q_p0_stateSum q_p0_minor q_p0_polynomial q_p0_now q_p0_next q_p0_trial q_p0_latest q_p0_earlier q_p0_spare i_p0_onTape i_p0_hasRead i_p0_linesDone i_p0_sumsDone i_p0_reader_size i_p0_reader_behind i_p0_reader_token i_p0_reader_place i_p0_reader_value i_p0_reader_misshapen i_p0_reader_faultFound i_p0_reader_faultPlace) → va_S A s.heap H locs → lv_has ls 2 [(0, .ref q_p0), (1, .int x1)] → W p l e rm_En_fault s m args below meth c H locs 0 0 (MQ below (va_Qi (fun (r : Int32) (w : va_W) => r = res ∧ w = (ws_En_fault cI cJ cB q_p0 q_p0_reader q_p0_reader_text q_p0_reader_lines q_p0_paper q_p0_moves q_p0_stateSum q_p0_minor q_p0_polynomial q_p0_now q_p0_next q_p0_trial q_p0_latest q_p0_earlier q_p0_spare i_p0_onTape i_p0_hasRead i_p0_linesDone i_p0_sumsDone i_p0_reader_size i_p0_reader_behind i_p0_reader_token i_p0_reader_place i_p0_reader_value i_p0_reader_misshapen i_p0_reader_faultFound i_p0_reader_faultPlace)) (vz_B D A) A) args s 0 0 A) (F0 m 0 ls []) := by
  obtain ⟨hx, hb, hr, hml, hown, ht, hlocks, hin, hN, hK, hA, hZ⟩ := id C0
  intro x1 H locs ls hm hP hD hS hl
  unfold B_En_fault_0 at hm
  refine lv_aload_n hx hb d_En_fault_0 rfl (lv_at hl 0 rfl) ?_
  refine va_get (D := D) (ci := 0) (v := .int i_p0_hasRead) (C := R_En) (T := F_En) (N := 18) hx hb ht i_En hown hK hP 0 rfl rfl 15 (Nat.le_of_ble_eq_true rfl) (ht _ m_173) (fun _ h9 => h9) rfl d_En_fault_1 ?_
  refine lv_if_ne (tgt := 9) hx hb d_En_fault_4 (by decide) (fun hc => ?_) (fun hc => ?_)
  · rw [if_pos hc] at hm
    refine lv_iload_n hx hb d_En_fault_9 rfl (lv_at hl 1 rfl) ?_
    by_cases h_0 : x1 = 0
    · rw [if_pos h_0] at hm
      refine lv_lookup (off := 26) (tgt := 36) hx hb d_En_fault_10 (by decide) (by rw [h_0] <;> rfl) (by decide) ?_
      refine lv_aload_n hx hb d_En_fault_36 rfl (lv_at hl 0 rfl) ?_
      refine va_get (D := D) (ci := 0) (v := .ref q_p0_reader) (C := R_En) (T := F_En) (N := 18) hx hb ht i_En hown hK hP 0 rfl rfl 0 (Nat.le_of_ble_eq_true rfl) (ht _ m_64) (fun _ h9 => h9) rfl d_En_fault_37 ?_
      refine va_getN (D := D) (ci := 2) (v := .int i_p0_reader_faultFound) (C := R_Rd) (T := F_Rd) (N := 10) hx hb ht i_Rd hown hK hP 1 rfl rfl 8 (Nat.le_of_ble_eq_true rfl) (va_Nw.use rfl (hN _ n_14)) (fun _ h9 => h9) rfl d_En_fault_40 ?_
      obtain rfl := Option.some.inj hm
      exact vz_iret hx hb hr rfl hlocks hP hD hS (Nat.le_refl _) (Nat.le_refl _) d_En_fault_43 ⟨rfl, rfl⟩
    · rw [if_neg h_0] at hm
      by_cases h_1 : x1 = 1
      · rw [if_pos h_1] at hm
        refine lv_lookup (off := 34) (tgt := 44) hx hb d_En_fault_10 (by decide) (by rw [h_1] <;> rfl) (by decide) ?_
        refine lv_aload_n hx hb d_En_fault_44 rfl (lv_at hl 0 rfl) ?_
        refine va_get (D := D) (ci := 0) (v := .ref q_p0_reader) (C := R_En) (T := F_En) (N := 18) hx hb ht i_En hown hK hP 0 rfl rfl 0 (Nat.le_of_ble_eq_true rfl) (ht _ m_64) (fun _ h9 => h9) rfl d_En_fault_45 ?_
        refine va_getN (D := D) (ci := 2) (v := .int i_p0_reader_faultPlace) (C := R_Rd) (T := F_Rd) (N := 10) hx hb ht i_Rd hown hK hP 1 rfl rfl 9 (Nat.le_of_ble_eq_true rfl) (va_Nw.use rfl (hN _ n_27)) (fun _ h9 => h9) rfl d_En_fault_48 ?_
        obtain rfl := Option.some.inj hm
        exact vz_iret hx hb hr rfl hlocks hP hD hS (Nat.le_refl _) (Nat.le_refl _) d_En_fault_51 ⟨rfl, rfl⟩
      · rw [if_neg h_1] at hm
        refine lv_lookup (off := 42) (tgt := 52) hx hb d_En_fault_10 (by decide) (by
            show Op.lookupswitch.offset [(0, 26), (1, 34)] 42 (Int32.toInt x1) = 42
            rw [lv_osw h_0 (by decide), lv_osw h_1 (by decide)] <;> rfl) (by decide) ?_
        refine lv_iconst (v := (-1)) hx hb d_En_fault_52 (by decide) ?_
        obtain rfl := Option.some.inj hm
        exact vz_iret hx hb hr rfl hlocks hP hD hS (Nat.le_refl _) (Nat.le_refl _) d_En_fault_53 ⟨rfl, rfl⟩
  · rw [if_neg (fun q => q hc)] at hm
    refine lv_iconst (v := (-1)) hx hb d_En_fault_7 (by decide) ?_
    obtain rfl := Option.some.inj hm
    exact vz_iret hx hb hr rfl hlocks hP hD hS (Nat.le_refl _) (Nat.le_refl _) d_En_fault_8 ⟨rfl, rfl⟩
set_option maxHeartbeats 4000000 in
set_option maxRecDepth 100000 in
theorem k_En_fault (l : Launch) (D : va_G) (cI cJ cB : ClassId) (sa : Nat → Nat × Nat) (fl : Nat) (q_p0 : Nat) (q_p0_reader : Nat) (q_p0_reader_text : Nat) (q_p0_reader_lines : Nat) (q_p0_paper : Nat) (q_p0_moves : Nat) (q_p0_stateSum : Nat) (q_p0_minor : Nat) (q_p0_polynomial : Nat) (q_p0_now : Nat) (q_p0_next : Nat) (q_p0_trial : Nat) (q_p0_latest : Nat) (q_p0_earlier : Nat) (q_p0_spare : Nat) (i_p0_hasRead : Int32) (i_p0_reader_faultFound : Int32) (i_p0_reader_faultPlace : Int32) (i_p0_onTape : Int32) (i_p0_linesDone : Int32) (i_p0_sumsDone : Int32) (i_p0_reader_size : Int32) (i_p0_reader_behind : Int32) (i_p0_reader_token : Int32) (i_p0_reader_place : Int32) (i_p0_reader_value : Int64) (i_p0_reader_misshapen : Int32) (x1 : Int32) (res : Int32) (hm : m_En_fault fl i_p0_hasRead i_p0_reader_faultFound i_p0_reader_faultPlace x1 = some res) : MtI l y_En_fault (.code y_En_fault b_En_fault 2 (some .int) :: CW) rm_En_fault D [(cI, .int), (cJ, .long), (cB, .byte)] sa [.ref q_p0, .int x1] (ws_En_fault cI cJ cB q_p0 q_p0_reader q_p0_reader_text q_p0_reader_lines q_p0_paper q_p0_moves q_p0_stateSum q_p0_minor q_p0_polynomial q_p0_now q_p0_next q_p0_trial q_p0_latest q_p0_earlier q_p0_spare i_p0_onTape i_p0_hasRead i_p0_linesDone i_p0_sumsDone i_p0_reader_size i_p0_reader_behind i_p0_reader_token i_p0_reader_place i_p0_reader_value i_p0_reader_misshapen i_p0_reader_faultFound i_p0_reader_faultPlace) (fun (r : Int32) (w : va_W) => r = res ∧ w = (ws_En_fault cI cJ cB q_p0 q_p0_reader q_p0_reader_text q_p0_reader_lines q_p0_paper q_p0_moves q_p0_stateSum q_p0_minor q_p0_polynomial q_p0_now q_p0_next q_p0_trial q_p0_latest q_p0_earlier q_p0_spare i_p0_onTape i_p0_hasRead i_p0_linesDone i_p0_sumsDone i_p0_reader_size i_p0_reader_behind i_p0_reader_token i_p0_reader_place i_p0_reader_value i_p0_reader_misshapen i_p0_reader_faultFound i_p0_reader_faultPlace)) := by
  intro sz
  refine vz_start (Qc := fun A => va_Qi (fun (r : Int32) (w : va_W) => r = res ∧ w = (ws_En_fault cI cJ cB q_p0 q_p0_reader q_p0_reader_text q_p0_reader_lines q_p0_paper q_p0_moves q_p0_stateSum q_p0_minor q_p0_polynomial q_p0_now q_p0_next q_p0_trial q_p0_latest q_p0_earlier q_p0_spare i_p0_onTape i_p0_hasRead i_p0_linesDone i_p0_sumsDone i_p0_reader_size i_p0_reader_behind i_p0_reader_token i_p0_reader_place i_p0_reader_value i_p0_reader_misshapen i_p0_reader_faultFound i_p0_reader_faultPlace)) (vz_B D A) A) (lv0 := [(0, .ref q_p0), (1, .int x1)]) (by decide +kernel) (Nat.le_of_ble_eq_true rfl) rfl ?_
  intro p e s m below meth c A ls C0 hl
  obtain ⟨hx, hb, hr, hml, hown, ht, hlocks, hin, hN, hK, hP, hD, hA, hS, hZ⟩ := C0
  exact w_En_fault_0 fl q_p0 q_p0_reader q_p0_reader_text q_p0_reader_lines q_p0_paper q_p0_moves q_p0_stateSum q_p0_minor q_p0_polynomial q_p0_now q_p0_next q_p0_trial q_p0_latest q_p0_earlier q_p0_spare i_p0_hasRead i_p0_reader_faultFound i_p0_reader_faultPlace i_p0_onTape i_p0_linesDone i_p0_sumsDone i_p0_reader_size i_p0_reader_behind i_p0_reader_token i_p0_reader_place i_p0_reader_value i_p0_reader_misshapen res ⟨hx, hb, hr, hml, hown, ht, hlocks, hin, hN, hK, hA, hZ⟩ x1 s.heap [] ls hm hP hD hS (lv_sub hl [0, 1] rfl)
def ws_Li_kindOfNext (cI cJ cB : ClassId) (q_p0 : Nat) (q_p0_kind : Nat) (q_p0_start : Nat) (q_p0_value : Nat) (i_p0_count : Int32) (i_p0_done : Int32) (f_p0_kind : Nat → Int32) : va_W := [(q_p0, .inr (1, [.ref q_p0_kind, .ref q_p0_start, .ref q_p0_value, .int i_p0_count, .int i_p0_done])), (q_p0_kind, .inl (cI, 64, .inl f_p0_kind))]
def rm_Li_kindOfNext : Room := { frames := 0, cells := 0, slots := 0, locals := 0 }
def B_Li_kindOfNext_0 (fl : Nat) (i_p0_count : Int32) (i_p0_done : Int32) (f_p0_kind : Nat → Int32) : Option (Int32) := (if i_p0_count ≤ i_p0_done then (some 0) else (if ¬ (i_p0_done < 0 ∨ 64 ≤ Int32.toNatClampNeg i_p0_done) then (some (f_p0_kind (Int32.toNatClampNeg i_p0_done))) else none))
def m_Li_kindOfNext (fl : Nat) (i_p0_count : Int32) (i_p0_done : Int32) (f_p0_kind : Nat → Int32) : Option (Int32) := B_Li_kindOfNext_0 fl i_p0_count i_p0_done f_p0_kind
set_option maxHeartbeats 4000000 in
set_option maxRecDepth 100000 in
theorem w_Li_kindOfNext_0 {p : Program} {l : Launch} {e : Env} {s : State} {m : MethodId} {args : Array Value} {below : List Frame} {meth : Method} {c : Code} {D : va_G} {cI cJ cB : ClassId} {sa : Nat → Nat × Nat} {A : Nat → Prop} (fl : Nat) (q_p0 : Nat) (q_p0_kind : Nat) (q_p0_start : Nat) (q_p0_value : Nat) (i_p0_count : Int32) (i_p0_done : Int32) (f_p0_kind : Nat → Int32) (res : Int32) (C0 : vz_Cx p s m meth c b_Li_kindOfNext 1 (some .int) "LinkEngine$Lines" "kindOfNext" D [(cI, .int), (cJ, .long), (cB, .byte)] sa A args) : ∀ (H : Heap) (locs : List Loc) (ls : Array Slot), B_Li_kindOfNext_0 fl i_p0_count i_p0_done f_p0_kind = some res → va_P D classes (ws_Li_kindOfNext cI cJ cB q_p0 q_p0_kind q_p0_start q_p0_value i_p0_count i_p0_done f_p0_kind) H → va_D A (ws_Li_kindOfNext cI cJ cB q_p0 q_p0_kind q_p0_start q_p0_value i_p0_count i_p0_done f_p0_kind) → va_S A s.heap H locs → lv_has ls 1 [(0, .ref q_p0)] → W p l e rm_Li_kindOfNext s m args below meth c H locs 0 0 (MQ below (va_Qi (fun (r : Int32) (w : va_W) => r = res ∧ w = (ws_Li_kindOfNext cI cJ cB q_p0 q_p0_kind q_p0_start q_p0_value i_p0_count i_p0_done f_p0_kind)) (vz_B D A) A) args s 0 0 A) (F0 m 0 ls []) := by
  obtain ⟨hx, hb, hr, hml, hown, ht, hlocks, hin, hN, hK, hA, hZ⟩ := id C0
  intro H locs ls hm hP hD hS hl
  unfold B_Li_kindOfNext_0 at hm
  refine lv_aload_n hx hb d_Li_kindOfNext_0 rfl (lv_at hl 0 rfl) ?_
  refine va_get (D := D) (ci := 1) (v := .int i_p0_done) (C := R_Li) (T := F_Li) (N := 5) hx hb ht i_Li hown hK hP 0 rfl rfl 4 (Nat.le_of_ble_eq_true rfl) (ht _ m_175) (fun _ h9 => h9) rfl d_Li_kindOfNext_1 ?_
  refine lv_aload_n hx hb d_Li_kindOfNext_4 rfl (lv_at hl 0 rfl) ?_
  refine va_get (D := D) (ci := 1) (v := .int i_p0_count) (C := R_Li) (T := F_Li) (N := 5) hx hb ht i_Li hown hK hP 0 rfl rfl 3 (Nat.le_of_ble_eq_true rfl) (ht _ m_174) (fun _ h9 => h9) rfl d_Li_kindOfNext_5 ?_
  refine lv_icmp_ge (tgt := 23) hx hb d_Li_kindOfNext_8 (by decide) (fun hc => ?_) (fun hc => ?_)
  · rw [if_pos hc] at hm
    refine lv_iconst (v := 0) hx hb d_Li_kindOfNext_23 (by decide) ?_
    obtain rfl := Option.some.inj hm
    exact vz_iret hx hb hr rfl hlocks hP hD hS (Nat.le_refl _) (Nat.le_refl _) d_Li_kindOfNext_24 ⟨rfl, rfl⟩
  · rw [if_neg hc] at hm
    refine lv_aload_n hx hb d_Li_kindOfNext_11 rfl (lv_at hl 0 rfl) ?_
    refine va_get (D := D) (ci := 1) (v := .ref q_p0_kind) (C := R_Li) (T := F_Li) (N := 5) hx hb ht i_Li hown hK hP 0 rfl rfl 0 (Nat.le_of_ble_eq_true rfl) (ht _ m_4) (fun _ h9 => h9) rfl d_Li_kindOfNext_12 ?_
    refine lv_aload_n hx hb d_Li_kindOfNext_15 rfl (lv_at hl 0 rfl) ?_
    refine va_get (D := D) (ci := 1) (v := .int i_p0_done) (C := R_Li) (T := F_Li) (N := 5) hx hb ht i_Li hown hK hP 0 rfl rfl 4 (Nat.le_of_ble_eq_true rfl) (ht _ m_175) (fun _ h9 => h9) rfl d_Li_kindOfNext_16 ?_
    obtain ⟨hg, hm⟩ := vz_guard hm
    refine va_iald hx hb hK hP 1 0 rfl rfl hg d_Li_kindOfNext_19 ?_
    refine lv_goto (tgt := 24) hx hb d_Li_kindOfNext_20 (by decide) ?_
    obtain rfl := Option.some.inj hm
    exact vz_iret hx hb hr rfl hlocks hP hD hS (Nat.le_refl _) (Nat.le_refl _) d_Li_kindOfNext_24 ⟨rfl, rfl⟩
set_option maxHeartbeats 4000000 in
set_option maxRecDepth 100000 in
theorem k_Li_kindOfNext (l : Launch) (D : va_G) (cI cJ cB : ClassId) (sa : Nat → Nat × Nat) (fl : Nat) (q_p0 : Nat) (q_p0_kind : Nat) (q_p0_start : Nat) (q_p0_value : Nat) (i_p0_count : Int32) (i_p0_done : Int32) (f_p0_kind : Nat → Int32)  (res : Int32) (hm : m_Li_kindOfNext fl i_p0_count i_p0_done f_p0_kind = some res) : MtI l y_Li_kindOfNext (.code y_Li_kindOfNext b_Li_kindOfNext 1 (some .int) :: CW) rm_Li_kindOfNext D [(cI, .int), (cJ, .long), (cB, .byte)] sa [.ref q_p0] (ws_Li_kindOfNext cI cJ cB q_p0 q_p0_kind q_p0_start q_p0_value i_p0_count i_p0_done f_p0_kind) (fun (r : Int32) (w : va_W) => r = res ∧ w = (ws_Li_kindOfNext cI cJ cB q_p0 q_p0_kind q_p0_start q_p0_value i_p0_count i_p0_done f_p0_kind)) := by
  intro sz
  refine vz_start (Qc := fun A => va_Qi (fun (r : Int32) (w : va_W) => r = res ∧ w = (ws_Li_kindOfNext cI cJ cB q_p0 q_p0_kind q_p0_start q_p0_value i_p0_count i_p0_done f_p0_kind)) (vz_B D A) A) (lv0 := [(0, .ref q_p0)]) (by decide +kernel) (Nat.le_of_ble_eq_true rfl) rfl ?_
  intro p e s m below meth c A ls C0 hl
  obtain ⟨hx, hb, hr, hml, hown, ht, hlocks, hin, hN, hK, hP, hD, hA, hS, hZ⟩ := C0
  exact w_Li_kindOfNext_0 fl q_p0 q_p0_kind q_p0_start q_p0_value i_p0_count i_p0_done f_p0_kind res ⟨hx, hb, hr, hml, hown, ht, hlocks, hin, hN, hK, hA, hZ⟩  s.heap [] ls hm hP hD hS (lv_sub hl [0] rfl)
def ws_Di_clear (cI cJ cB : ClassId) (q_p0 : Nat) (q_p0_sign : Nat) (q_p0_label : Nat) (q_p0_shape : Nat) (i_p0_count : Int32) (i_p0_circles : Int32) (i_p0_shapeIsKnown : Int32) : va_W := [(q_p0, .inr (4, [.ref q_p0_sign, .ref q_p0_label, .ref q_p0_shape, .int i_p0_count, .int i_p0_circles, .int i_p0_shapeIsKnown]))]
def rm_Di_clear : Room := { frames := 0, cells := 0, slots := 0, locals := 0 }
def B_Di_clear_0 (fl : Nat) (i_p0_count : Int32) (i_p0_circles : Int32) (i_p0_shapeIsKnown : Int32) : Option (Int32 × Int32 × Int32) := (some (0, 0, 0))
def m_Di_clear (fl : Nat) (i_p0_count : Int32) (i_p0_circles : Int32) (i_p0_shapeIsKnown : Int32) : Option (Int32 × Int32 × Int32) := B_Di_clear_0 fl  i_p0_count i_p0_circles i_p0_shapeIsKnown
set_option maxHeartbeats 4000000 in
set_option maxRecDepth 100000 in
theorem w_Di_clear_0 {p : Program} {l : Launch} {e : Env} {s : State} {m : MethodId} {args : Array Value} {below : List Frame} {meth : Method} {c : Code} {D : va_G} {cI cJ cB : ClassId} {sa : Nat → Nat × Nat} {A : Nat → Prop} (fl : Nat) (q_p0 : Nat) (q_p0_sign : Nat) (q_p0_label : Nat) (q_p0_shape : Nat)  (res : Int32 × Int32 × Int32) (C0 : vz_Cx p s m meth c b_Di_clear 1 none "LinkEngine$Diagram" "clear" D [(cI, .int), (cJ, .long), (cB, .byte)] sa A args) : ∀ (i_p0_count : Int32) (i_p0_circles : Int32) (i_p0_shapeIsKnown : Int32) (H : Heap) (locs : List Loc) (ls : Array Slot), B_Di_clear_0 fl i_p0_count i_p0_circles i_p0_shapeIsKnown = some res → va_P D classes (ws_Di_clear cI cJ cB q_p0 q_p0_sign q_p0_label q_p0_shape i_p0_count i_p0_circles i_p0_shapeIsKnown) H → va_D A (ws_Di_clear cI cJ cB q_p0 q_p0_sign q_p0_label q_p0_shape i_p0_count i_p0_circles i_p0_shapeIsKnown) → va_S A s.heap H locs → lv_has ls 1 [(0, .ref q_p0)] → W p l e rm_Di_clear s m args below meth c H locs 0 0 (MQ below (va_Qv (fun (w : va_W) => w = (ws_Di_clear cI cJ cB q_p0 q_p0_sign q_p0_label q_p0_shape res.1 res.2.1 res.2.2)) (vz_B D A) A) args s 0 0 A) (F0 m 0 ls []) := by
  obtain ⟨hx, hb, hr, hml, hown, ht, hlocks, hin, hN, hK, hA, hZ⟩ := id C0
  intro i_p0_count i_p0_circles i_p0_shapeIsKnown H locs ls hm hP hD hS hl
  unfold B_Di_clear_0 at hm
  refine lv_aload_n hx hb d_Di_clear_0 rfl (lv_at hl 0 rfl) ?_
  refine lv_iconst (v := 0) hx hb d_Di_clear_1 (by decide) ?_
  refine va_put (D := D) (ci := 4) (v := .int 0) (ty := .int) (C := R_Di) (T := F_Di) (N := 6) hx hb ht i_Di t_Di t_Di_ok n_Di hown hK hP hD hS 0 rfl rfl 3 (Nat.le_of_ble_eq_true rfl) (ht _ m_238) (fun _ h9 => h9) rfl (by decide +kernel) rfl rfl (Nat.le_of_ble_eq_true rfl) d_Di_clear_2 (fun H locs hP hD hS => ?_)
  have hP : va_P D classes (ws_Di_clear cI cJ cB q_p0 q_p0_sign q_p0_label q_p0_shape 0 i_p0_circles i_p0_shapeIsKnown) H := hP
  have hD : va_D A (ws_Di_clear cI cJ cB q_p0 q_p0_sign q_p0_label q_p0_shape 0 i_p0_circles i_p0_shapeIsKnown) := hD
  refine lv_aload_n hx hb d_Di_clear_5 rfl (lv_at hl 0 rfl) ?_
  refine lv_iconst (v := 0) hx hb d_Di_clear_6 (by decide) ?_
  refine va_put (D := D) (ci := 4) (v := .int 0) (ty := .int) (C := R_Di) (T := F_Di) (N := 6) hx hb ht i_Di t_Di t_Di_ok n_Di hown hK hP hD hS 0 rfl rfl 4 (Nat.le_of_ble_eq_true rfl) (ht _ m_364) (fun _ h9 => h9) rfl (by decide +kernel) rfl rfl (Nat.le_of_ble_eq_true rfl) d_Di_clear_7 (fun H locs hP hD hS => ?_)
  have hP : va_P D classes (ws_Di_clear cI cJ cB q_p0 q_p0_sign q_p0_label q_p0_shape 0 0 i_p0_shapeIsKnown) H := hP
  have hD : va_D A (ws_Di_clear cI cJ cB q_p0 q_p0_sign q_p0_label q_p0_shape 0 0 i_p0_shapeIsKnown) := hD
  refine lv_aload_n hx hb d_Di_clear_10 rfl (lv_at hl 0 rfl) ?_
  refine lv_iconst (v := 0) hx hb d_Di_clear_11 (by decide) ?_
  refine va_put (D := D) (ci := 4) (v := .int 0) (ty := .boolean) (C := R_Di) (T := F_Di) (N := 6) hx hb ht i_Di t_Di t_Di_ok n_Di hown hK hP hD hS 0 rfl rfl 5 (Nat.le_of_ble_eq_true rfl) (ht _ m_229) (fun _ h9 => h9) rfl (by decide +kernel) rfl rfl (Nat.le_of_ble_eq_true rfl) d_Di_clear_12 (fun H locs hP hD hS => ?_)
  have hP : va_P D classes (ws_Di_clear cI cJ cB q_p0 q_p0_sign q_p0_label q_p0_shape 0 0 0) H := hP
  have hD : va_D A (ws_Di_clear cI cJ cB q_p0 q_p0_sign q_p0_label q_p0_shape 0 0 0) := hD
  obtain rfl := Option.some.inj hm
  exact vz_vret hx hb hr hlocks hP hD hS (Nat.le_refl _) (Nat.le_refl _) d_Di_clear_15 rfl
set_option maxHeartbeats 4000000 in
set_option maxRecDepth 100000 in
theorem k_Di_clear (l : Launch) (D : va_G) (cI cJ cB : ClassId) (sa : Nat → Nat × Nat) (fl : Nat) (q_p0 : Nat) (q_p0_sign : Nat) (q_p0_label : Nat) (q_p0_shape : Nat) (i_p0_count : Int32) (i_p0_circles : Int32) (i_p0_shapeIsKnown : Int32)  (res : Int32 × Int32 × Int32) (hm : m_Di_clear fl i_p0_count i_p0_circles i_p0_shapeIsKnown = some res) : MtV l y_Di_clear (.code y_Di_clear b_Di_clear 1 none :: CW) rm_Di_clear D [(cI, .int), (cJ, .long), (cB, .byte)] sa [.ref q_p0] (ws_Di_clear cI cJ cB q_p0 q_p0_sign q_p0_label q_p0_shape i_p0_count i_p0_circles i_p0_shapeIsKnown) (fun (w : va_W) => w = (ws_Di_clear cI cJ cB q_p0 q_p0_sign q_p0_label q_p0_shape res.1 res.2.1 res.2.2)) := by
  intro sz
  refine vz_start (Qc := fun A => va_Qv (fun (w : va_W) => w = (ws_Di_clear cI cJ cB q_p0 q_p0_sign q_p0_label q_p0_shape res.1 res.2.1 res.2.2)) (vz_B D A) A) (lv0 := [(0, .ref q_p0)]) (by decide +kernel) (Nat.le_of_ble_eq_true rfl) rfl ?_
  intro p e s m below meth c A ls C0 hl
  obtain ⟨hx, hb, hr, hml, hown, ht, hlocks, hin, hN, hK, hP, hD, hA, hS, hZ⟩ := C0
  exact w_Di_clear_0 fl q_p0 q_p0_sign q_p0_label q_p0_shape  res ⟨hx, hb, hr, hml, hown, ht, hlocks, hin, hN, hK, hA, hZ⟩ i_p0_count i_p0_circles i_p0_shapeIsKnown s.heap [] ls hm hP hD hS (lv_sub hl [0] rfl)
def ws_Li_numbers (cI cJ cB : ClassId) (q_p0 : Nat) (q_p0_kind : Nat) (q_p0_start : Nat) (q_p0_value : Nat) (i_p0_count : Int32) (i_p0_done : Int32) (f_p0_start : Nat → Int32) : va_W := [(q_p0, .inr (1, [.ref q_p0_kind, .ref q_p0_start, .ref q_p0_value, .int i_p0_count, .int i_p0_done])), (q_p0_start, .inl (cI, 65, .inl f_p0_start))]
def rm_Li_numbers : Room := { frames := 0, cells := 0, slots := 0, locals := 0 }
def B_Li_numbers_0 (fl : Nat) (i_p0_count : Int32) (i_p0_done : Int32) (f_p0_start : Nat → Int32) : Option (Int32) := (if i_p0_count ≤ i_p0_done then (some 0) else (if ¬ ((i_p0_done + (1 : Int32)) < 0 ∨ 65 ≤ Int32.toNatClampNeg (i_p0_done + (1 : Int32))) then (if ¬ (i_p0_done < 0 ∨ 65 ≤ Int32.toNatClampNeg i_p0_done) then (some ((f_p0_start (Int32.toNatClampNeg (i_p0_done + (1 : Int32)))) - (f_p0_start (Int32.toNatClampNeg i_p0_done)))) else none) else none))
def m_Li_numbers (fl : Nat) (i_p0_count : Int32) (i_p0_done : Int32) (f_p0_start : Nat → Int32) : Option (Int32) := B_Li_numbers_0 fl i_p0_count i_p0_done f_p0_start
set_option maxHeartbeats 4000000 in
set_option maxRecDepth 100000 in
theorem w_Li_numbers_0 {p : Program} {l : Launch} {e : Env} {s : State} {m : MethodId} {args : Array Value} {below : List Frame} {meth : Method} {c : Code} {D : va_G} {cI cJ cB : ClassId} {sa : Nat → Nat × Nat} {A : Nat → Prop} (fl : Nat) (q_p0 : Nat) (q_p0_kind : Nat) (q_p0_start : Nat) (q_p0_value : Nat) (i_p0_count : Int32) (i_p0_done : Int32) (f_p0_start : Nat → Int32) (res : Int32) (C0 : vz_Cx p s m meth c b_Li_numbers 1 (some .int) "LinkEngine$Lines" "numbers" D [(cI, .int), (cJ, .long), (cB, .byte)] sa A args) : ∀ (H : Heap) (locs : List Loc) (ls : Array Slot), B_Li_numbers_0 fl i_p0_count i_p0_done f_p0_start = some res → va_P D classes (ws_Li_numbers cI cJ cB q_p0 q_p0_kind q_p0_start q_p0_value i_p0_count i_p0_done f_p0_start) H → va_D A (ws_Li_numbers cI cJ cB q_p0 q_p0_kind q_p0_start q_p0_value i_p0_count i_p0_done f_p0_start) → va_S A s.heap H locs → lv_has ls 1 [(0, .ref q_p0)] → W p l e rm_Li_numbers s m args below meth c H locs 0 0 (MQ below (va_Qi (fun (r : Int32) (w : va_W) => r = res ∧ w = (ws_Li_numbers cI cJ cB q_p0 q_p0_kind q_p0_start q_p0_value i_p0_count i_p0_done f_p0_start)) (vz_B D A) A) args s 0 0 A) (F0 m 0 ls []) := by
  obtain ⟨hx, hb, hr, hml, hown, ht, hlocks, hin, hN, hK, hA, hZ⟩ := id C0
  intro H locs ls hm hP hD hS hl
  unfold B_Li_numbers_0 at hm
  refine lv_aload_n hx hb d_Li_numbers_0 rfl (lv_at hl 0 rfl) ?_
  refine va_get (D := D) (ci := 1) (v := .int i_p0_done) (C := R_Li) (T := F_Li) (N := 5) hx hb ht i_Li hown hK hP 0 rfl rfl 4 (Nat.le_of_ble_eq_true rfl) (ht _ m_175) (fun _ h9 => h9) rfl d_Li_numbers_1 ?_
  refine lv_aload_n hx hb d_Li_numbers_4 rfl (lv_at hl 0 rfl) ?_
  refine va_get (D := D) (ci := 1) (v := .int i_p0_count) (C := R_Li) (T := F_Li) (N := 5) hx hb ht i_Li hown hK hP 0 rfl rfl 3 (Nat.le_of_ble_eq_true rfl) (ht _ m_174) (fun _ h9 => h9) rfl d_Li_numbers_5 ?_
  refine lv_icmp_ge (tgt := 35) hx hb d_Li_numbers_8 (by decide) (fun hc => ?_) (fun hc => ?_)
  · rw [if_pos hc] at hm
    refine lv_iconst (v := 0) hx hb d_Li_numbers_35 (by decide) ?_
    obtain rfl := Option.some.inj hm
    exact vz_iret hx hb hr rfl hlocks hP hD hS (Nat.le_refl _) (Nat.le_refl _) d_Li_numbers_36 ⟨rfl, rfl⟩
  · rw [if_neg hc] at hm
    refine lv_aload_n hx hb d_Li_numbers_11 rfl (lv_at hl 0 rfl) ?_
    refine va_get (D := D) (ci := 1) (v := .ref q_p0_start) (C := R_Li) (T := F_Li) (N := 5) hx hb ht i_Li hown hK hP 0 rfl rfl 1 (Nat.le_of_ble_eq_true rfl) (ht _ m_5) (fun _ h9 => h9) rfl d_Li_numbers_12 ?_
    refine lv_aload_n hx hb d_Li_numbers_15 rfl (lv_at hl 0 rfl) ?_
    refine va_get (D := D) (ci := 1) (v := .int i_p0_done) (C := R_Li) (T := F_Li) (N := 5) hx hb ht i_Li hown hK hP 0 rfl rfl 4 (Nat.le_of_ble_eq_true rfl) (ht _ m_175) (fun _ h9 => h9) rfl d_Li_numbers_16 ?_
    refine lv_iconst (v := 1) hx hb d_Li_numbers_19 (by decide) ?_
    refine lv_iadd hx hb d_Li_numbers_20 ?_
    obtain ⟨hg, hm⟩ := vz_guard hm
    refine va_iald hx hb hK hP 1 0 rfl rfl hg d_Li_numbers_21 ?_
    refine lv_aload_n hx hb d_Li_numbers_22 rfl (lv_at hl 0 rfl) ?_
    refine va_get (D := D) (ci := 1) (v := .ref q_p0_start) (C := R_Li) (T := F_Li) (N := 5) hx hb ht i_Li hown hK hP 0 rfl rfl 1 (Nat.le_of_ble_eq_true rfl) (ht _ m_5) (fun _ h9 => h9) rfl d_Li_numbers_23 ?_
    refine lv_aload_n hx hb d_Li_numbers_26 rfl (lv_at hl 0 rfl) ?_
    refine va_get (D := D) (ci := 1) (v := .int i_p0_done) (C := R_Li) (T := F_Li) (N := 5) hx hb ht i_Li hown hK hP 0 rfl rfl 4 (Nat.le_of_ble_eq_true rfl) (ht _ m_175) (fun _ h9 => h9) rfl d_Li_numbers_27 ?_
    obtain ⟨hg, hm⟩ := vz_guard hm
    refine va_iald hx hb hK hP 1 0 rfl rfl hg d_Li_numbers_30 ?_
    refine lv_isub hx hb d_Li_numbers_31 ?_
    refine lv_goto (tgt := 36) hx hb d_Li_numbers_32 (by decide) ?_
    obtain rfl := Option.some.inj hm
    exact vz_iret hx hb hr rfl hlocks hP hD hS (Nat.le_refl _) (Nat.le_refl _) d_Li_numbers_36 ⟨rfl, rfl⟩
set_option maxHeartbeats 4000000 in
set_option maxRecDepth 100000 in
theorem k_Li_numbers (l : Launch) (D : va_G) (cI cJ cB : ClassId) (sa : Nat → Nat × Nat) (fl : Nat) (q_p0 : Nat) (q_p0_kind : Nat) (q_p0_start : Nat) (q_p0_value : Nat) (i_p0_count : Int32) (i_p0_done : Int32) (f_p0_start : Nat → Int32)  (res : Int32) (hm : m_Li_numbers fl i_p0_count i_p0_done f_p0_start = some res) : MtI l y_Li_numbers (.code y_Li_numbers b_Li_numbers 1 (some .int) :: CW) rm_Li_numbers D [(cI, .int), (cJ, .long), (cB, .byte)] sa [.ref q_p0] (ws_Li_numbers cI cJ cB q_p0 q_p0_kind q_p0_start q_p0_value i_p0_count i_p0_done f_p0_start) (fun (r : Int32) (w : va_W) => r = res ∧ w = (ws_Li_numbers cI cJ cB q_p0 q_p0_kind q_p0_start q_p0_value i_p0_count i_p0_done f_p0_start)) := by
  intro sz
  refine vz_start (Qc := fun A => va_Qi (fun (r : Int32) (w : va_W) => r = res ∧ w = (ws_Li_numbers cI cJ cB q_p0 q_p0_kind q_p0_start q_p0_value i_p0_count i_p0_done f_p0_start)) (vz_B D A) A) (lv0 := [(0, .ref q_p0)]) (by decide +kernel) (Nat.le_of_ble_eq_true rfl) rfl ?_
  intro p e s m below meth c A ls C0 hl
  obtain ⟨hx, hb, hr, hml, hown, ht, hlocks, hin, hN, hK, hP, hD, hA, hS, hZ⟩ := C0
  exact w_Li_numbers_0 fl q_p0 q_p0_kind q_p0_start q_p0_value i_p0_count i_p0_done f_p0_start res ⟨hx, hb, hr, hml, hown, ht, hlocks, hin, hN, hK, hA, hZ⟩  s.heap [] ls hm hP hD hS (lv_sub hl [0] rfl)
def ws_Li_longNumber (cI cJ cB : ClassId) (q_p0 : Nat) (q_p0_kind : Nat) (q_p0_start : Nat) (q_p0_value : Nat) (i_p0_count : Int32) (i_p0_done : Int32) (f_p0_start : Nat → Int32) (f_p0_value : Nat → Int64) : va_W := [(q_p0, .inr (1, [.ref q_p0_kind, .ref q_p0_start, .ref q_p0_value, .int i_p0_count, .int i_p0_done])), (q_p0_start, .inl (cI, 65, .inl f_p0_start)), (q_p0_value, .inl (cJ, 4000, .inr (.inl f_p0_value)))]
def rm_Li_longNumber : Room := { frames := 0, cells := 0, slots := 0, locals := 0 }
def B_Li_longNumber_0 (fl : Nat) (i_p0_count : Int32) (i_p0_done : Int32) (f_p0_start : Nat → Int32) (f_p0_value : Nat → Int64) (x1 : Int32) : Option (Int64) := (if i_p0_count ≤ i_p0_done then (some 0) else (if x1 < (0 : Int32) then (some 0) else (if ¬ ((i_p0_done + (1 : Int32)) < 0 ∨ 65 ≤ Int32.toNatClampNeg (i_p0_done + (1 : Int32))) then (if ¬ (i_p0_done < 0 ∨ 65 ≤ Int32.toNatClampNeg i_p0_done) then (if x1 < ((f_p0_start (Int32.toNatClampNeg (i_p0_done + (1 : Int32)))) - (f_p0_start (Int32.toNatClampNeg i_p0_done))) then (if ¬ (i_p0_done < 0 ∨ 65 ≤ Int32.toNatClampNeg i_p0_done) then (if ¬ (((f_p0_start (Int32.toNatClampNeg i_p0_done)) + x1) < 0 ∨ 4000 ≤ Int32.toNatClampNeg ((f_p0_start (Int32.toNatClampNeg i_p0_done)) + x1)) then (some (f_p0_value (Int32.toNatClampNeg ((f_p0_start (Int32.toNatClampNeg i_p0_done)) + x1)))) else none) else none) else (some 0)) else none) else none)))
def m_Li_longNumber (fl : Nat) (i_p0_count : Int32) (i_p0_done : Int32) (f_p0_start : Nat → Int32) (f_p0_value : Nat → Int64) (x1 : Int32) : Option (Int64) := B_Li_longNumber_0 fl i_p0_count i_p0_done f_p0_start f_p0_value x1
set_option maxHeartbeats 4000000 in
set_option maxRecDepth 100000 in
theorem w_Li_longNumber_0 {p : Program} {l : Launch} {e : Env} {s : State} {m : MethodId} {args : Array Value} {below : List Frame} {meth : Method} {c : Code} {D : va_G} {cI cJ cB : ClassId} {sa : Nat → Nat × Nat} {A : Nat → Prop} (fl : Nat) (q_p0 : Nat) (q_p0_kind : Nat) (q_p0_start : Nat) (q_p0_value : Nat) (i_p0_count : Int32) (i_p0_done : Int32) (f_p0_start : Nat → Int32) (f_p0_value : Nat → Int64) (res : Int64) (C0 : vz_Cx p s m meth c b_Li_longNumber 2 (some .long) "LinkEngine$Lines" "longNumber" D [(cI, .int), (cJ, .long), (cB, .byte)] sa A args) : ∀ (x1 : Int32) (H : Heap) (locs : List Loc) (ls : Array Slot), B_Li_longNumber_0 fl i_p0_count i_p0_done f_p0_start f_p0_value x1 = some res → va_P D classes (ws_Li_longNumber cI cJ cB q_p0 q_p0_kind q_p0_start q_p0_value i_p0_count i_p0_done f_p0_start f_p0_value) H → va_D A (ws_Li_longNumber cI cJ cB q_p0 q_p0_kind q_p0_start q_p0_value i_p0_count i_p0_done f_p0_start f_p0_value) → va_S A s.heap H locs → lv_has ls 2 [(0, .ref q_p0), (1, .int x1)] → W p l e rm_Li_longNumber s m args below meth c H locs 0 0 (MQ below (va_Ql (fun (r : Int64) (w : va_W) => r = res ∧ w = (ws_Li_longNumber cI cJ cB q_p0 q_p0_kind q_p0_start q_p0_value i_p0_count i_p0_done f_p0_start f_p0_value)) (vz_B D A) A) args s 0 0 A) (F0 m 0 ls []) := by
  obtain ⟨hx, hb, hr, hml, hown, ht, hlocks, hin, hN, hK, hA, hZ⟩ := id C0
  intro x1 H locs ls hm hP hD hS hl
  unfold B_Li_longNumber_0 at hm
  refine lv_aload_n hx hb d_Li_longNumber_0 rfl (lv_at hl 0 rfl) ?_
  refine va_get (D := D) (ci := 1) (v := .int i_p0_done) (C := R_Li) (T := F_Li) (N := 5) hx hb ht i_Li hown hK hP 0 rfl rfl 4 (Nat.le_of_ble_eq_true rfl) (ht _ m_175) (fun _ h9 => h9) rfl d_Li_longNumber_1 ?_
  refine lv_aload_n hx hb d_Li_longNumber_4 rfl (lv_at hl 0 rfl) ?_
  refine va_get (D := D) (ci := 1) (v := .int i_p0_count) (C := R_Li) (T := F_Li) (N := 5) hx hb ht i_Li hown hK hP 0 rfl rfl 3 (Nat.le_of_ble_eq_true rfl) (ht _ m_174) (fun _ h9 => h9) rfl d_Li_longNumber_5 ?_
  refine lv_icmp_ge (tgt := 40) hx hb d_Li_longNumber_8 (by decide) (fun hc => ?_) (fun hc => ?_)
  · rw [if_pos hc] at hm
    refine lv_lconst (v := 0) hx hb d_Li_longNumber_40 (by decide) ?_
    obtain rfl := Option.some.inj hm
    exact vz_lret hx hb hr hlocks hP hD hS (Nat.le_refl _) (Nat.le_refl _) d_Li_longNumber_41 ⟨rfl, rfl⟩
  · rw [if_neg hc] at hm
    refine lv_iload_n hx hb d_Li_longNumber_11 rfl (lv_at hl 1 rfl) ?_
    refine lv_if_lt (tgt := 40) hx hb d_Li_longNumber_12 (by decide) (fun hc => ?_) (fun hc => ?_)
    · rw [if_pos hc] at hm
      refine lv_lconst (v := 0) hx hb d_Li_longNumber_40 (by decide) ?_
      obtain rfl := Option.some.inj hm
      exact vz_lret hx hb hr hlocks hP hD hS (Nat.le_refl _) (Nat.le_refl _) d_Li_longNumber_41 ⟨rfl, rfl⟩
    · rw [if_neg hc] at hm
      refine lv_iload_n hx hb d_Li_longNumber_15 rfl (lv_at hl 1 rfl) ?_
      refine lv_aload_n hx hb d_Li_longNumber_16 rfl (lv_at hl 0 rfl) ?_
      refine va_get (D := D) (ci := 1) (v := .ref q_p0_start) (C := R_Li) (T := F_Li) (N := 5) hx hb ht i_Li hown hK hP 0 rfl rfl 1 (Nat.le_of_ble_eq_true rfl) (ht _ m_5) (fun _ h9 => h9) rfl d_Li_longNumber_17 ?_
      refine lv_aload_n hx hb d_Li_longNumber_20 rfl (lv_at hl 0 rfl) ?_
      refine va_get (D := D) (ci := 1) (v := .int i_p0_done) (C := R_Li) (T := F_Li) (N := 5) hx hb ht i_Li hown hK hP 0 rfl rfl 4 (Nat.le_of_ble_eq_true rfl) (ht _ m_175) (fun _ h9 => h9) rfl d_Li_longNumber_21 ?_
      refine lv_iconst (v := 1) hx hb d_Li_longNumber_24 (by decide) ?_
      refine lv_iadd hx hb d_Li_longNumber_25 ?_
      obtain ⟨hg, hm⟩ := vz_guard hm
      refine va_iald hx hb hK hP 1 0 rfl rfl hg d_Li_longNumber_26 ?_
      refine lv_aload_n hx hb d_Li_longNumber_27 rfl (lv_at hl 0 rfl) ?_
      refine va_get (D := D) (ci := 1) (v := .ref q_p0_start) (C := R_Li) (T := F_Li) (N := 5) hx hb ht i_Li hown hK hP 0 rfl rfl 1 (Nat.le_of_ble_eq_true rfl) (ht _ m_5) (fun _ h9 => h9) rfl d_Li_longNumber_28 ?_
      refine lv_aload_n hx hb d_Li_longNumber_31 rfl (lv_at hl 0 rfl) ?_
      refine va_get (D := D) (ci := 1) (v := .int i_p0_done) (C := R_Li) (T := F_Li) (N := 5) hx hb ht i_Li hown hK hP 0 rfl rfl 4 (Nat.le_of_ble_eq_true rfl) (ht _ m_175) (fun _ h9 => h9) rfl d_Li_longNumber_32 ?_
      obtain ⟨hg, hm⟩ := vz_guard hm
      refine va_iald hx hb hK hP 1 0 rfl rfl hg d_Li_longNumber_35 ?_
      refine lv_isub hx hb d_Li_longNumber_36 ?_
      refine lv_icmp_lt (tgt := 42) hx hb d_Li_longNumber_37 (by decide) (fun hc => ?_) (fun hc => ?_)
      · rw [if_pos hc] at hm
        refine lv_aload_n hx hb d_Li_longNumber_42 rfl (lv_at hl 0 rfl) ?_
        refine va_get (D := D) (ci := 1) (v := .ref q_p0_value) (C := R_Li) (T := F_Li) (N := 5) hx hb ht i_Li hown hK hP 0 rfl rfl 2 (Nat.le_of_ble_eq_true rfl) (ht _ m_7) (fun _ h9 => h9) rfl d_Li_longNumber_43 ?_
        refine lv_aload_n hx hb d_Li_longNumber_46 rfl (lv_at hl 0 rfl) ?_
        refine va_get (D := D) (ci := 1) (v := .ref q_p0_start) (C := R_Li) (T := F_Li) (N := 5) hx hb ht i_Li hown hK hP 0 rfl rfl 1 (Nat.le_of_ble_eq_true rfl) (ht _ m_5) (fun _ h9 => h9) rfl d_Li_longNumber_47 ?_
        refine lv_aload_n hx hb d_Li_longNumber_50 rfl (lv_at hl 0 rfl) ?_
        refine va_get (D := D) (ci := 1) (v := .int i_p0_done) (C := R_Li) (T := F_Li) (N := 5) hx hb ht i_Li hown hK hP 0 rfl rfl 4 (Nat.le_of_ble_eq_true rfl) (ht _ m_175) (fun _ h9 => h9) rfl d_Li_longNumber_51 ?_
        obtain ⟨hg, hm⟩ := vz_guard hm
        refine va_iald hx hb hK hP 1 0 rfl rfl hg d_Li_longNumber_54 ?_
        refine lv_iload_n hx hb d_Li_longNumber_55 rfl (lv_at hl 1 rfl) ?_
        refine lv_iadd hx hb d_Li_longNumber_56 ?_
        obtain ⟨hg, hm⟩ := vz_guard hm
        refine va_lald hx hb hK hP 2 1 rfl rfl hg d_Li_longNumber_57 ?_
        obtain rfl := Option.some.inj hm
        exact vz_lret hx hb hr hlocks hP hD hS (Nat.le_refl _) (Nat.le_refl _) d_Li_longNumber_58 ⟨rfl, rfl⟩
      · rw [if_neg hc] at hm
        refine lv_lconst (v := 0) hx hb d_Li_longNumber_40 (by decide) ?_
        obtain rfl := Option.some.inj hm
        exact vz_lret hx hb hr hlocks hP hD hS (Nat.le_refl _) (Nat.le_refl _) d_Li_longNumber_41 ⟨rfl, rfl⟩
set_option maxHeartbeats 4000000 in
set_option maxRecDepth 100000 in
theorem k_Li_longNumber (l : Launch) (D : va_G) (cI cJ cB : ClassId) (sa : Nat → Nat × Nat) (fl : Nat) (q_p0 : Nat) (q_p0_kind : Nat) (q_p0_start : Nat) (q_p0_value : Nat) (i_p0_count : Int32) (i_p0_done : Int32) (f_p0_start : Nat → Int32) (f_p0_value : Nat → Int64) (x1 : Int32) (res : Int64) (hm : m_Li_longNumber fl i_p0_count i_p0_done f_p0_start f_p0_value x1 = some res) : MtL l y_Li_longNumber (.code y_Li_longNumber b_Li_longNumber 2 (some .long) :: CW) rm_Li_longNumber D [(cI, .int), (cJ, .long), (cB, .byte)] sa [.ref q_p0, .int x1] (ws_Li_longNumber cI cJ cB q_p0 q_p0_kind q_p0_start q_p0_value i_p0_count i_p0_done f_p0_start f_p0_value) (fun (r : Int64) (w : va_W) => r = res ∧ w = (ws_Li_longNumber cI cJ cB q_p0 q_p0_kind q_p0_start q_p0_value i_p0_count i_p0_done f_p0_start f_p0_value)) := by
  intro sz
  refine vz_start (Qc := fun A => va_Ql (fun (r : Int64) (w : va_W) => r = res ∧ w = (ws_Li_longNumber cI cJ cB q_p0 q_p0_kind q_p0_start q_p0_value i_p0_count i_p0_done f_p0_start f_p0_value)) (vz_B D A) A) (lv0 := [(0, .ref q_p0), (1, .int x1)]) (by decide +kernel) (Nat.le_of_ble_eq_true rfl) rfl ?_
  intro p e s m below meth c A ls C0 hl
  obtain ⟨hx, hb, hr, hml, hown, ht, hlocks, hin, hN, hK, hP, hD, hA, hS, hZ⟩ := C0
  exact w_Li_longNumber_0 fl q_p0 q_p0_kind q_p0_start q_p0_value i_p0_count i_p0_done f_p0_start f_p0_value res ⟨hx, hb, hr, hml, hown, ht, hlocks, hin, hN, hK, hA, hZ⟩ x1 s.heap [] ls hm hP hD hS (lv_sub hl [0, 1] rfl)
def ws_Pa_put (cI cJ cB : ClassId) (q_p0 : Nat) (q_p0_bytes : Nat) (q_p0_digits : Nat) (i_p0_size : Int32) (i_p0_overflown : Int32) (f_p0_bytes : Nat → Int32) : va_W := [(q_p0, .inr (3, [.ref q_p0_bytes, .ref q_p0_digits, .int i_p0_size, .int i_p0_overflown])), (q_p0_bytes, .inl (cI, 4000, .inl f_p0_bytes))]
def rm_Pa_put : Room := { frames := 0, cells := 0, slots := 0, locals := 0 }
def B_Pa_put_0 (fl : Nat) (x1 : Int32) (i_p0_size : Int32) (i_p0_overflown : Int32) (f_p0_bytes : Nat → Int32) : Option (Int32 × Int32 × (Nat → Int32)) := (if (4000 : Int32) ≤ i_p0_size then (some (i_p0_size, 1, f_p0_bytes)) else (if ¬ (i_p0_size < 0 ∨ 4000 ≤ Int32.toNatClampNeg i_p0_size) then (some ((i_p0_size + (1 : Int32)), i_p0_overflown, (upd f_p0_bytes (Int32.toNatClampNeg i_p0_size) x1))) else none))
def m_Pa_put (fl : Nat) (x1 : Int32) (i_p0_size : Int32) (i_p0_overflown : Int32) (f_p0_bytes : Nat → Int32) : Option (Int32 × Int32 × (Nat → Int32)) := B_Pa_put_0 fl  x1 i_p0_size i_p0_overflown f_p0_bytes
set_option maxHeartbeats 4000000 in
set_option maxRecDepth 100000 in
theorem w_Pa_put_0 {p : Program} {l : Launch} {e : Env} {s : State} {m : MethodId} {args : Array Value} {below : List Frame} {meth : Method} {c : Code} {D : va_G} {cI cJ cB : ClassId} {sa : Nat → Nat × Nat} {A : Nat → Prop} (fl : Nat) (q_p0 : Nat) (q_p0_bytes : Nat) (q_p0_digits : Nat)  (res : Int32 × Int32 × (Nat → Int32)) (C0 : vz_Cx p s m meth c b_Pa_put 2 none "LinkEngine$Paper" "put" D [(cI, .int), (cJ, .long), (cB, .byte)] sa A args) : ∀ (x1 : Int32) (i_p0_size : Int32) (i_p0_overflown : Int32) (f_p0_bytes : Nat → Int32) (H : Heap) (locs : List Loc) (ls : Array Slot), B_Pa_put_0 fl x1 i_p0_size i_p0_overflown f_p0_bytes = some res → va_P D classes (ws_Pa_put cI cJ cB q_p0 q_p0_bytes q_p0_digits i_p0_size i_p0_overflown f_p0_bytes) H → va_D A (ws_Pa_put cI cJ cB q_p0 q_p0_bytes q_p0_digits i_p0_size i_p0_overflown f_p0_bytes) → va_S A s.heap H locs → lv_has ls 2 [(0, .ref q_p0), (1, .int x1)] → W p l e rm_Pa_put s m args below meth c H locs 0 0 (MQ below (va_Qv (fun (w : va_W) => w = (ws_Pa_put cI cJ cB q_p0 q_p0_bytes q_p0_digits res.1 res.2.1 res.2.2)) (vz_B D A) A) args s 0 0 A) (F0 m 0 ls []) := by
  obtain ⟨hx, hb, hr, hml, hown, ht, hlocks, hin, hN, hK, hA, hZ⟩ := id C0
  intro x1 i_p0_size i_p0_overflown f_p0_bytes H locs ls hm hP hD hS hl
  unfold B_Pa_put_0 at hm
  refine lv_aload_n hx hb d_Pa_put_0 rfl (lv_at hl 0 rfl) ?_
  refine va_get (D := D) (ci := 3) (v := .int i_p0_size) (C := R_Pa) (T := F_Pa) (N := 4) hx hb ht i_Pa hown hK hP 0 rfl rfl 2 (Nat.le_of_ble_eq_true rfl) (ht _ m_365) (fun _ h9 => h9) rfl d_Pa_put_1 ?_
  refine lv_sipush (v := 4000) hx hb d_Pa_put_4 (by decide +kernel) ?_
  refine lv_icmp_ge (tgt := 33) hx hb d_Pa_put_7 (by decide) (fun hc => ?_) (fun hc => ?_)
  · rw [if_pos hc] at hm
    refine lv_aload_n hx hb d_Pa_put_33 rfl (lv_at hl 0 rfl) ?_
    refine lv_iconst (v := 1) hx hb d_Pa_put_34 (by decide) ?_
    refine va_put (D := D) (ci := 3) (v := .int 1) (ty := .boolean) (C := R_Pa) (T := F_Pa) (N := 4) hx hb ht i_Pa t_Pa t_Pa_ok n_Pa hown hK hP hD hS 0 rfl rfl 3 (Nat.le_of_ble_eq_true rfl) (ht _ m_366) (fun _ h9 => h9) rfl (by decide +kernel) rfl rfl (Nat.le_of_ble_eq_true rfl) d_Pa_put_35 (fun H locs hP hD hS => ?_)
    have hP : va_P D classes (ws_Pa_put cI cJ cB q_p0 q_p0_bytes q_p0_digits i_p0_size 1 f_p0_bytes) H := hP
    have hD : va_D A (ws_Pa_put cI cJ cB q_p0 q_p0_bytes q_p0_digits i_p0_size 1 f_p0_bytes) := hD
    obtain rfl := Option.some.inj hm
    exact vz_vret hx hb hr hlocks hP hD hS (Nat.le_refl _) (Nat.le_refl _) d_Pa_put_38 rfl
  · rw [if_neg hc] at hm
    refine lv_aload_n hx hb d_Pa_put_10 rfl (lv_at hl 0 rfl) ?_
    refine va_get (D := D) (ci := 3) (v := .ref q_p0_bytes) (C := R_Pa) (T := F_Pa) (N := 4) hx hb ht i_Pa hown hK hP 0 rfl rfl 0 (Nat.le_of_ble_eq_true rfl) (ht _ m_18) (fun _ h9 => h9) rfl d_Pa_put_11 ?_
    refine lv_aload_n hx hb d_Pa_put_14 rfl (lv_at hl 0 rfl) ?_
    refine va_get (D := D) (ci := 3) (v := .int i_p0_size) (C := R_Pa) (T := F_Pa) (N := 4) hx hb ht i_Pa hown hK hP 0 rfl rfl 2 (Nat.le_of_ble_eq_true rfl) (ht _ m_365) (fun _ h9 => h9) rfl d_Pa_put_15 ?_
    refine lv_iload_n hx hb d_Pa_put_18 rfl (lv_at hl 1 rfl) ?_
    obtain ⟨hg, hm⟩ := vz_guard hm
    refine va_iast hx hb hK hP hD hS 1 0 rfl rfl hg d_Pa_put_19 (fun H locs hP hD hS => ?_)
    have hP : va_P D classes (ws_Pa_put cI cJ cB q_p0 q_p0_bytes q_p0_digits i_p0_size i_p0_overflown (upd f_p0_bytes (Int32.toNatClampNeg i_p0_size) x1)) H := hP
    have hD : va_D A (ws_Pa_put cI cJ cB q_p0 q_p0_bytes q_p0_digits i_p0_size i_p0_overflown (upd f_p0_bytes (Int32.toNatClampNeg i_p0_size) x1)) := hD
    refine lv_aload_n hx hb d_Pa_put_20 rfl (lv_at hl 0 rfl) ?_
    refine lv_dup hx hb d_Pa_put_21 rfl ?_
    refine va_get (D := D) (ci := 3) (v := .int i_p0_size) (C := R_Pa) (T := F_Pa) (N := 4) hx hb ht i_Pa hown hK hP 0 rfl rfl 2 (Nat.le_of_ble_eq_true rfl) (ht _ m_365) (fun _ h9 => h9) rfl d_Pa_put_22 ?_
    refine lv_iconst (v := 1) hx hb d_Pa_put_25 (by decide) ?_
    refine lv_iadd hx hb d_Pa_put_26 ?_
    refine va_put (D := D) (ci := 3) (v := .int (i_p0_size + (1 : Int32))) (ty := .int) (C := R_Pa) (T := F_Pa) (N := 4) hx hb ht i_Pa t_Pa t_Pa_ok n_Pa hown hK hP hD hS 0 rfl rfl 2 (Nat.le_of_ble_eq_true rfl) (ht _ m_365) (fun _ h9 => h9) rfl (by decide +kernel) rfl rfl (Nat.le_of_ble_eq_true rfl) d_Pa_put_27 (fun H locs hP hD hS => ?_)
    have hP : va_P D classes (ws_Pa_put cI cJ cB q_p0 q_p0_bytes q_p0_digits (i_p0_size + (1 : Int32)) i_p0_overflown (upd f_p0_bytes (Int32.toNatClampNeg i_p0_size) x1)) H := hP
    have hD : va_D A (ws_Pa_put cI cJ cB q_p0 q_p0_bytes q_p0_digits (i_p0_size + (1 : Int32)) i_p0_overflown (upd f_p0_bytes (Int32.toNatClampNeg i_p0_size) x1)) := hD
    refine lv_goto (tgt := 38) hx hb d_Pa_put_30 (by decide) ?_
    obtain rfl := Option.some.inj hm
    exact vz_vret hx hb hr hlocks hP hD hS (Nat.le_refl _) (Nat.le_refl _) d_Pa_put_38 rfl
set_option maxHeartbeats 4000000 in
set_option maxRecDepth 100000 in
theorem k_Pa_put (l : Launch) (D : va_G) (cI cJ cB : ClassId) (sa : Nat → Nat × Nat) (fl : Nat) (q_p0 : Nat) (q_p0_bytes : Nat) (q_p0_digits : Nat) (i_p0_size : Int32) (i_p0_overflown : Int32) (f_p0_bytes : Nat → Int32) (x1 : Int32) (res : Int32 × Int32 × (Nat → Int32)) (hm : m_Pa_put fl x1 i_p0_size i_p0_overflown f_p0_bytes = some res) : MtV l y_Pa_put (.code y_Pa_put b_Pa_put 2 none :: CW) rm_Pa_put D [(cI, .int), (cJ, .long), (cB, .byte)] sa [.ref q_p0, .int x1] (ws_Pa_put cI cJ cB q_p0 q_p0_bytes q_p0_digits i_p0_size i_p0_overflown f_p0_bytes) (fun (w : va_W) => w = (ws_Pa_put cI cJ cB q_p0 q_p0_bytes q_p0_digits res.1 res.2.1 res.2.2)) := by
  intro sz
  refine vz_start (Qc := fun A => va_Qv (fun (w : va_W) => w = (ws_Pa_put cI cJ cB q_p0 q_p0_bytes q_p0_digits res.1 res.2.1 res.2.2)) (vz_B D A) A) (lv0 := [(0, .ref q_p0), (1, .int x1)]) (by decide +kernel) (Nat.le_of_ble_eq_true rfl) rfl ?_
  intro p e s m below meth c A ls C0 hl
  obtain ⟨hx, hb, hr, hml, hown, ht, hlocks, hin, hN, hK, hP, hD, hA, hS, hZ⟩ := C0
  exact w_Pa_put_0 fl q_p0 q_p0_bytes q_p0_digits  res ⟨hx, hb, hr, hml, hown, ht, hlocks, hin, hN, hK, hA, hZ⟩ x1 i_p0_size i_p0_overflown f_p0_bytes s.heap [] ls hm hP hD hS (lv_sub hl [0, 1] rfl)
