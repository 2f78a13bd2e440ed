def ws_Pa_shrink (cI cJ cB : ClassId) (q_p0 : Nat) (q_p0_bytes : Nat) (q_p0_digits : Nat) (i_p0_size : Int32) (i_p0_overflown : Int32) : va_W := [(q_p0, .inr (3, [.ref q_p0_bytes, .ref q_p0_digits, .int i_p0_size, .int i_p0_overflown]))]
def rm_Pa_shrink : Room := { frames := 0, cells := 0, slots := 0, locals := 0 }
def B_Pa_shrink_0 (fl : Nat) (x1 : Int32) (i_p0_size : Int32) (i_p0_overflown : Int32) : Option (Int32 × Int32) := (some (x1, 0))
def m_Pa_shrink (fl : Nat) (x1 : Int32) (i_p0_size : Int32) (i_p0_overflown : Int32) : Option (Int32 × Int32) := B_Pa_shrink_0 fl  x1 i_p0_size i_p0_overflown
set_option maxHeartbeats 4000000 in
set_option maxRecDepth 100000 in
theorem w_Pa_shrink_0 {p : Program} {l : Launch} {e : Env} {s : State} {m : MethodId} {args : Array Value} {below : List Frame} {meth : Method} {c : Code} {D : va_G} {cI cJ cB : ClassId} {A : Nat → Prop} (fl : Nat) (q_p0 : Nat) (q_p0_bytes : Nat) (q_p0_digits : Nat)  (res : Int32 × Int32) (C0 : vz_Cx p s m meth c b_Pa_shrink 2 none "LinkEngine$Paper" "shrink" D [(cI, .int), (cJ, .long), (cB, .byte)] A args) : ∀ (x1 : Int32) (i_p0_size : Int32) (i_p0_overflown : Int32) (H : Heap) (locs : List Loc) (ls : Array Slot), B_Pa_shrink_0 fl x1 i_p0_size i_p0_overflown = some res → va_P D classes (ws_Pa_shrink cI cJ cB q_p0 q_p0_bytes q_p0_digits i_p0_size i_p0_overflown) H → va_D A (ws_Pa_shrink cI cJ cB q_p0 q_p0_bytes q_p0_digits i_p0_size i_p0_overflown) → va_S A s.heap H locs → lv_has ls 2 [(0, .ref q_p0), (1, .int x1)] → W p l e rm_Pa_shrink s m args below meth c H locs 0 0 (MQ below (va_Qv (fun (w : va_W) => w = (ws_Pa_shrink cI cJ cB q_p0 q_p0_bytes q_p0_digits res.1 res.2)) (vz_B D A) A) args s 0 0 A) (F0 m 0 ls []) := by
  obtain ⟨hx, hb, hr, hml, hown, ht, hlocks, hin, hN, hK, hA⟩ := id C0
  intro x1 i_p0_size i_p0_overflown H locs ls hm hP hD hS hl
  unfold B_Pa_shrink_0 at hm
  refine lv_aload_n hx hb d_Pa_shrink_0 rfl (lv_at hl 0 rfl) ?_
  refine lv_iload_n hx hb d_Pa_shrink_1 rfl (lv_at hl 1 rfl) ?_
  refine va_put (D := D) (ci := 3) (v := .int x1) (ty := .int) (C := R_Pa) (T := F_Pa) (N := 4) hx hb ht i_Pa t_Pa t_Pa_ok n_Pa hown hK hP hD hS 0 rfl rfl 2 (Nat.le_of_ble_eq_true rfl) (ht _ m_333) (fun _ h9 => h9) rfl (by decide +kernel) rfl rfl (Nat.le_of_ble_eq_true rfl) d_Pa_shrink_2 (fun H locs hP hD hS => ?_)
  have hP : va_P D classes (ws_Pa_shrink cI cJ cB q_p0 q_p0_bytes q_p0_digits x1 i_p0_overflown) H := hP
  have hD : va_D A (ws_Pa_shrink cI cJ cB q_p0 q_p0_bytes q_p0_digits x1 i_p0_overflown) := hD
  refine lv_aload_n hx hb d_Pa_shrink_5 rfl (lv_at hl 0 rfl) ?_
  refine lv_iconst (v := 0) hx hb d_Pa_shrink_6 (by decide) ?_
  refine va_put (D := D) (ci := 3) (v := .int 0) (ty := .boolean) (C := R_Pa) (T := F_Pa) (N := 4) hx hb ht i_Pa t_Pa t_Pa_ok n_Pa hown hK hP hD hS 0 rfl rfl 3 (Nat.le_of_ble_eq_true rfl) (ht _ m_334) (fun _ h9 => h9) rfl (by decide +kernel) rfl rfl (Nat.le_of_ble_eq_true rfl) d_Pa_shrink_7 (fun H locs hP hD hS => ?_)
  have hP : va_P D classes (ws_Pa_shrink cI cJ cB q_p0 q_p0_bytes q_p0_digits x1 0) H := hP
  have hD : va_D A (ws_Pa_shrink cI cJ cB q_p0 q_p0_bytes q_p0_digits x1 0) := hD
  obtain rfl := Option.some.inj hm
  exact vz_vret hx hb hr hlocks hP hD hS (Nat.le_refl _) (Nat.le_refl _) d_Pa_shrink_10 rfl
set_option maxHeartbeats 4000000 in
set_option maxRecDepth 100000 in
theorem k_Pa_shrink (l : Launch) (D : va_G) (cI cJ cB : ClassId) (fl : Nat) (q_p0 : Nat) (q_p0_bytes : Nat) (q_p0_digits : Nat) (i_p0_size : Int32) (i_p0_overflown : Int32) (x1 : Int32) (res : Int32 × Int32) (hm : m_Pa_shrink fl x1 i_p0_size i_p0_overflown = some res) : MtV l y_Pa_shrink (.code y_Pa_shrink b_Pa_shrink 2 none :: CW) rm_Pa_shrink D [(cI, .int), (cJ, .long), (cB, .byte)] [.ref q_p0, .int x1] (ws_Pa_shrink cI cJ cB q_p0 q_p0_bytes q_p0_digits i_p0_size i_p0_overflown) (fun (w : va_W) => w = (ws_Pa_shrink cI cJ cB q_p0 q_p0_bytes q_p0_digits res.1 res.2)) := by
  intro sz
  refine vz_start (Qc := fun A => va_Qv (fun (w : va_W) => w = (ws_Pa_shrink cI cJ cB q_p0 q_p0_bytes q_p0_digits res.1 res.2)) (vz_B D A) A) (lv0 := [(0, .ref q_p0), (1, .int x1)]) (by decide +kernel) (Nat.le_of_ble_eq_true rfl) rfl ?_
  intro p e s m below meth c A ls C0 hl
  obtain ⟨hx, hb, hr, hml, hown, ht, hlocks, hin, hN, hK, hP, hD, hA, hS⟩ := C0
  exact w_Pa_shrink_0 fl q_p0 q_p0_bytes q_p0_digits  res ⟨hx, hb, hr, hml, hown, ht, hlocks, hin, hN, hK, hA⟩ x1 i_p0_size i_p0_overflown s.heap [] ls hm hP hD hS (lv_sub hl [0, 1] rfl)
def ws_Li_leaveNext (cI cJ cB : ClassId) (q_p0 : Nat) (q_p0_kind : Nat) (q_p0_start : Nat) (q_p0_value : Nat) (i_p0_count : Int32) (i_p0_done : Int32) : va_W := [(q_p0, .inr (1, [.ref q_p0_kind, .ref q_p0_start, .ref q_p0_value, .int i_p0_count, .int i_p0_done]))]
def rm_Li_leaveNext : Room := { frames := 0, cells := 0, slots := 0, locals := 0 }
def B_Li_leaveNext_0 (fl : Nat) (i_p0_count : Int32) (i_p0_done : Int32) : Option (Int32) := (if i_p0_count ≤ i_p0_done then (some i_p0_done) else (some (i_p0_done + (1 : Int32))))
def m_Li_leaveNext (fl : Nat) (i_p0_count : Int32) (i_p0_done : Int32) : Option (Int32) := B_Li_leaveNext_0 fl i_p0_count i_p0_done
set_option maxHeartbeats 4000000 in
set_option maxRecDepth 100000 in
theorem w_Li_leaveNext_0 {p : Program} {l : Launch} {e : Env} {s : State} {m : MethodId} {args : Array Value} {below : List Frame} {meth : Method} {c : Code} {D : va_G} {cI cJ cB : ClassId} {A : Nat → Prop} (fl : Nat) (q_p0 : Nat) (q_p0_kind : Nat) (q_p0_start : Nat) (q_p0_value : Nat) (i_p0_count : Int32) (res : Int32) (C0 : vz_Cx p s m meth c b_Li_leaveNext 1 none "LinkEngine$Lines" "leaveNext" D [(cI, .int), (cJ, .long), (cB, .byte)] A args) : ∀ (i_p0_done : Int32) (H : Heap) (locs : List Loc) (ls : Array Slot), B_Li_leaveNext_0 fl i_p0_count i_p0_done = some res → va_P D classes (ws_Li_leaveNext cI cJ cB q_p0 q_p0_kind q_p0_start q_p0_value i_p0_count i_p0_done) H → va_D A (ws_Li_leaveNext cI cJ cB q_p0 q_p0_kind q_p0_start q_p0_value i_p0_count i_p0_done) → va_S A s.heap H locs → lv_has ls 1 [(0, .ref q_p0)] → W p l e rm_Li_leaveNext s m args below meth c H locs 0 0 (MQ below (va_Qv (fun (w : va_W) => w = (ws_Li_leaveNext cI cJ cB q_p0 q_p0_kind q_p0_start q_p0_value i_p0_count res)) (vz_B D A) A) args s 0 0 A) (F0 m 0 ls []) := by
  obtain ⟨hx, hb, hr, hml, hown, ht, hlocks, hin, hN, hK, hA⟩ := id C0
  intro i_p0_done H locs ls hm hP hD hS hl
  unfold B_Li_leaveNext_0 at hm
  refine lv_aload_n hx hb d_Li_leaveNext_0 rfl (lv_at hl 0 rfl) ?_
  refine va_get (D := D) (ci := 1) (v := .int i_p0_done) (C := R_Li) (T := F_Li) (N := 5) hx hb ht i_Li hown hK hP 0 rfl rfl 4 (Nat.le_of_ble_eq_true rfl) (ht _ m_175) (fun _ h9 => h9) rfl d_Li_leaveNext_1 ?_
  refine lv_aload_n hx hb d_Li_leaveNext_4 rfl (lv_at hl 0 rfl) ?_
  refine va_get (D := D) (ci := 1) (v := .int i_p0_count) (C := R_Li) (T := F_Li) (N := 5) hx hb ht i_Li hown hK hP 0 rfl rfl 3 (Nat.le_of_ble_eq_true rfl) (ht _ m_174) (fun _ h9 => h9) rfl d_Li_leaveNext_5 ?_
  refine lv_icmp_ge (tgt := 21) hx hb d_Li_leaveNext_8 (by decide) (fun hc => ?_) (fun hc => ?_)
  · rw [if_pos hc] at hm
    obtain rfl := Option.some.inj hm
    exact vz_vret hx hb hr hlocks hP hD hS (Nat.le_refl _) (Nat.le_refl _) d_Li_leaveNext_21 rfl
  · rw [if_neg hc] at hm
    refine lv_aload_n hx hb d_Li_leaveNext_11 rfl (lv_at hl 0 rfl) ?_
    refine lv_dup hx hb d_Li_leaveNext_12 rfl ?_
    refine va_get (D := D) (ci := 1) (v := .int i_p0_done) (C := R_Li) (T := F_Li) (N := 5) hx hb ht i_Li hown hK hP 0 rfl rfl 4 (Nat.le_of_ble_eq_true rfl) (ht _ m_175) (fun _ h9 => h9) rfl d_Li_leaveNext_13 ?_
    refine lv_iconst (v := 1) hx hb d_Li_leaveNext_16 (by decide) ?_
    refine lv_iadd hx hb d_Li_leaveNext_17 ?_
    refine va_put (D := D) (ci := 1) (v := .int (i_p0_done + (1 : Int32))) (ty := .int) (C := R_Li) (T := F_Li) (N := 5) hx hb ht i_Li t_Li t_Li_ok n_Li hown hK hP hD hS 0 rfl rfl 4 (Nat.le_of_ble_eq_true rfl) (ht _ m_175) (fun _ h9 => h9) rfl (by decide +kernel) rfl rfl (Nat.le_of_ble_eq_true rfl) d_Li_leaveNext_18 (fun H locs hP hD hS => ?_)
    have hP : va_P D classes (ws_Li_leaveNext cI cJ cB q_p0 q_p0_kind q_p0_start q_p0_value i_p0_count (i_p0_done + (1 : Int32))) H := hP
    have hD : va_D A (ws_Li_leaveNext cI cJ cB q_p0 q_p0_kind q_p0_start q_p0_value i_p0_count (i_p0_done + (1 : Int32))) := hD
    obtain rfl := Option.some.inj hm
    exact vz_vret hx hb hr hlocks hP hD hS (Nat.le_refl _) (Nat.le_refl _) d_Li_leaveNext_21 rfl
set_option maxHeartbeats 4000000 in
set_option maxRecDepth 100000 in
theorem k_Li_leaveNext (l : Launch) (D : va_G) (cI cJ cB : ClassId) (fl : Nat) (q_p0 : Nat) (q_p0_kind : Nat) (q_p0_start : Nat) (q_p0_value : Nat) (i_p0_count : Int32) (i_p0_done : Int32)  (res : Int32) (hm : m_Li_leaveNext fl i_p0_count i_p0_done = some res) : MtV l y_Li_leaveNext (.code y_Li_leaveNext b_Li_leaveNext 1 none :: CW) rm_Li_leaveNext D [(cI, .int), (cJ, .long), (cB, .byte)] [.ref q_p0] (ws_Li_leaveNext cI cJ cB q_p0 q_p0_kind q_p0_start q_p0_value i_p0_count i_p0_done) (fun (w : va_W) => w = (ws_Li_leaveNext cI cJ cB q_p0 q_p0_kind q_p0_start q_p0_value i_p0_count res)) := by
  intro sz
  refine vz_start (Qc := fun A => va_Qv (fun (w : va_W) => w = (ws_Li_leaveNext cI cJ cB q_p0 q_p0_kind q_p0_start q_p0_value i_p0_count res)) (vz_B D A) A) (lv0 := [(0, .ref q_p0)]) (by decide +kernel) (Nat.le_of_ble_eq_true rfl) rfl ?_
  intro p e s m below meth c A ls C0 hl
  obtain ⟨hx, hb, hr, hml, hown, ht, hlocks, hin, hN, hK, hP, hD, hA, hS⟩ := C0
  exact w_Li_leaveNext_0 fl q_p0 q_p0_kind q_p0_start q_p0_value i_p0_count res ⟨hx, hb, hr, hml, hown, ht, hlocks, hin, hN, hK, hA⟩ i_p0_done s.heap [] ls hm hP hD hS (lv_sub hl [0] rfl)
def ws_En_crossing (cI cJ cB : ClassId) (q_p0 : Nat) (q_p0_reader : Nat) (q_p0_tape : Nat) (q_p0_lines : Nat) (q_p0_paper : Nat) (q_p0_moves : Nat) (q_p0_stateSum : Nat) (q_p0_minor : Nat) (q_p0_polynomial : Nat) (q_p0_now : Nat) (q_p0_next : Nat) (q_p0_trial : Nat) (q_p0_latest : Nat) (q_p0_earlier : Nat) (q_p0_spare : Nat) (q_p0_now_sign : Nat) (q_p0_now_label : Nat) (q_p0_now_shape : Nat) (i_p0_onTape : Int32) (i_p0_hasRead : Int32) (i_p0_linesDone : Int32) (i_p0_sumsDone : Int32) (i_p0_now_count : Int32) (i_p0_now_circles : Int32) (i_p0_now_shapeIsKnown : Int32) (f_p0_now_label : Nat → Int32) (f_p0_now_sign : Nat → Int32) : va_W := [(q_p0, .inr (0, [.ref q_p0_reader, .ref q_p0_tape, .ref q_p0_lines, .ref q_p0_paper, .ref q_p0_moves, .ref q_p0_stateSum, .ref q_p0_minor, .ref q_p0_polynomial, .ref q_p0_now, .ref q_p0_next, .ref q_p0_trial, .ref q_p0_latest, .ref q_p0_earlier, .ref q_p0_spare, .int i_p0_onTape, .int i_p0_hasRead, .int i_p0_linesDone, .int i_p0_sumsDone])), (q_p0_now, .inr (4, [.ref q_p0_now_sign, .ref q_p0_now_label, .ref q_p0_now_shape, .int i_p0_now_count, .int i_p0_now_circles, .int i_p0_now_shapeIsKnown])), (q_p0_now_label, .inl (cI, 80, .inl f_p0_now_label)), (q_p0_now_sign, .inl (cI, 20, .inl f_p0_now_sign))]
def rm_En_crossing : Room := { frames := 0, cells := 0, slots := 0, locals := 0 }
def B_En_crossing_0 (fl : Nat) (i_p0_now_count : Int32) (f_p0_now_label : Nat → Int32) (f_p0_now_sign : Nat → Int32) (x1 : Int32) (x2 : Int32) : Option (Int32) := (if x1 < (0 : Int32) then (some 0) else (if i_p0_now_count ≤ x1 then (some 0) else (if x2 < (0 : Int32) then (some 0) else (if x2 ≤ (4 : Int32) then (if ¬ x2 = (4 : Int32) then (if ¬ ((((4 : Int32) * x1) + x2) < 0 ∨ 80 ≤ Int32.toNatClampNeg (((4 : Int32) * x1) + x2)) then (some (f_p0_now_label (Int32.toNatClampNeg (((4 : Int32) * x1) + x2)))) else none) else (if ¬ (x1 < 0 ∨ 20 ≤ Int32.toNatClampNeg x1) then (some (f_p0_now_sign (Int32.toNatClampNeg x1))) else none)) else (some 0)))))
def m_En_crossing (fl : Nat) (i_p0_now_count : Int32) (f_p0_now_label : Nat → Int32) (f_p0_now_sign : Nat → Int32) (x1 : Int32) (x2 : Int32) : Option (Int32) := B_En_crossing_0 fl i_p0_now_count f_p0_now_label f_p0_now_sign x1 x2
set_option maxHeartbeats 4000000 in
set_option maxRecDepth 100000 in
theorem w_En_crossing_0 {p : Program} {l : Launch} {e : Env} {s : State} {m : MethodId} {args : Array Value} {below : List Frame} {meth : Method} {c : Code} {D : va_G} {cI cJ cB : ClassId} {A : Nat → Prop} (fl : Nat) (q_p0 : Nat) (q_p0_reader : Nat) (q_p0_tape : Nat) (q_p0_lines : Nat) (q_p0_paper : Nat) (q_p0_moves : Nat) (q_p0_stateSum : Nat) (q_p0_minor : Nat) (q_p0_polynomial : Nat) (q_p0_now : Nat) (q_p0_next : Nat) (q_p0_trial : Nat) (q_p0_latest : Nat) (q_p0_earlier : Nat) (q_p0_spare : Nat) (q_p0_now_sign : Nat) (q_p0_now_label : Nat) (q_p0_now_shape : Nat) (i_p0_now_count : Int32) (f_p0_now_label : Nat → Int32) (f_p0_now_sign : Nat → Int32) (i_p0_onTape : Int32) (i_p0_hasRead : Int32) (i_p0_linesDone : Int32) (i_p0_sumsDone : Int32) (i_p0_now_circles : Int32) (i_p0_now_shapeIsKnown : Int32) (res : Int32) (C0 : vz_Cx p s m meth c b_En_crossing 3 (some .int) "LinkEngine" "crossing" D [(cI, .int), (cJ, .long), (cB, .byte)] A args) : ∀ (x1 : Int32) (x2 : Int32) (H : Heap) (locs : List Loc) (ls : Array Slot), B_En_crossing_0 fl i_p0_now_count f_p0_now_label f_p0_now_sign x1 x2 = some res → va_P D classes (ws_En_crossing cI cJ cB q_p0 q_p0_reader q_p0_tape q_p0_lines q_p0_paper q_p0_moves q_p0_stateSum q_p0_minor q_p0_polynomial q_p0_now q_p0_next q_p0_trial q_p0_latest q_p0_earlier q_p0_spare q_p0_now_sign q_p0_now_label q_p0_now_shape i_p0_onTape i_p0_hasRead i_p0_linesDone i_p0_sumsDone i_p0_now_count i_p0_now_circles i_p0_now_shapeIsKnown f_p0_now_label f_p0_now_sign) H → va_D A (ws_En_crossing cI cJ cB q_p0 q_p0_reader q_p0_tape q_p0_lines q_p0_paper q_p0_moves q_p0_stateSum q_p0_minor q_p0_polynomial q_p0_now q_p0_next q_p0_trial q_p0_latest q_p0_earlier q_p0_spare q_p0_now_sign q_p0_now_label q_p0_now_shape i_p0_onTape i_p0_hasRead i_p0_linesDone i_p0_sumsDone i_p0_now_count i_p0_now_circles i_p0_now_shapeIsKnown f_p0_now_label f_p0_now_sign) → va_S A s.heap H locs → lv_has ls 3 [(0, .ref q_p0), (1, .int x1), (2, .int x2)] → W p l e rm_En_crossing s m args below meth c H locs 0 0 (MQ below (va_Qi (fun (r : Int32) (w : va_W) => r = res ∧ w = (ws_En_crossing cI cJ cB q_p0 q_p0_reader q_p0_tape q_p0_lines q_p0_paper q_p0_moves q_p0_stateSum q_p0_minor q_p0_polynomial q_p0_now q_p0_next q_p0_trial q_p0_latest q_p0_earlier q_p0_spare q_p0_now_sign q_p0_now_label q_p0_now_shape i_p0_onTape i_p0_hasRead i_p0_linesDone i_p0_sumsDone i_p0_now_count i_p0_now_circles i_p0_now_shapeIsKnown f_p0_now_label f_p0_now_sign)) (vz_B D A) A) args s 0 0 A) (F0 m 0 ls []) := by
  obtain ⟨hx, hb, hr, hml, hown, ht, hlocks, hin, hN, hK, hA⟩ := id C0
  intro x1 x2 H locs ls hm hP hD hS hl
  unfold B_En_crossing_0 at hm
  refine lv_iload_n hx hb d_En_crossing_0 rfl (lv_at hl 1 rfl) ?_
  refine lv_if_lt (tgt := 24) hx hb d_En_crossing_1 (by decide) (fun hc => ?_) (fun hc => ?_)
  · rw [if_pos hc] at hm
    refine lv_iconst (v := 0) hx hb d_En_crossing_24 (by decide) ?_
    obtain rfl := Option.some.inj hm
    exact vz_iret hx hb hr rfl hlocks hP hD hS (Nat.le_refl _) (Nat.le_refl _) d_En_crossing_25 ⟨rfl, rfl⟩
  · rw [if_neg hc] at hm
    refine lv_iload_n hx hb d_En_crossing_4 rfl (lv_at hl 1 rfl) ?_
    refine lv_aload_n hx hb d_En_crossing_5 rfl (lv_at hl 0 rfl) ?_
    refine va_get (D := D) (ci := 0) (v := .ref q_p0_now) (C := R_En) (T := F_En) (N := 18) hx hb ht i_En hown hK hP 0 rfl rfl 8 (Nat.le_of_ble_eq_true rfl) (ht _ m_102) (fun _ h9 => h9) rfl d_En_crossing_6 ?_
    refine va_getN (D := D) (ci := 4) (v := .int i_p0_now_count) (C := R_Di) (T := F_Di) (N := 6) hx hb ht i_Di hown hK hP 1 rfl rfl 3 (Nat.le_of_ble_eq_true rfl) (va_Nw.use rfl (hN _ n_15)) (fun _ h9 => h9) rfl d_En_crossing_9 ?_
    refine lv_icmp_ge (tgt := 24) hx hb d_En_crossing_12 (by decide) (fun hc => ?_) (fun hc => ?_)
    · rw [if_pos hc] at hm
      refine lv_iconst (v := 0) hx hb d_En_crossing_24 (by decide) ?_
      obtain rfl := Option.some.inj hm
      exact vz_iret hx hb hr rfl hlocks hP hD hS (Nat.le_refl _) (Nat.le_refl _) d_En_crossing_25 ⟨rfl, rfl⟩
    · rw [if_neg hc] at hm
      refine lv_iload_n hx hb d_En_crossing_15 rfl (lv_at hl 2 rfl) ?_
      refine lv_if_lt (tgt := 24) hx hb d_En_crossing_16 (by decide) (fun hc => ?_) (fun hc => ?_)
      · rw [if_pos hc] at hm
        refine lv_iconst (v := 0) hx hb d_En_crossing_24 (by decide) ?_
        obtain rfl := Option.some.inj hm
        exact vz_iret hx hb hr rfl hlocks hP hD hS (Nat.le_refl _) (Nat.le_refl _) d_En_crossing_25 ⟨rfl, rfl⟩
      · rw [if_neg hc] at hm
        refine lv_iload_n hx hb d_En_crossing_19 rfl (lv_at hl 2 rfl) ?_
        refine lv_iconst (v := 4) hx hb d_En_crossing_20 (by decide) ?_
        refine lv_icmp_le (tgt := 26) hx hb d_En_crossing_21 (by decide) (fun hc => ?_) (fun hc => ?_)
        · rw [if_pos hc] at hm
          refine lv_iload_n hx hb d_En_crossing_26 rfl (lv_at hl 2 rfl) ?_
          refine lv_iconst (v := 4) hx hb d_En_crossing_27 (by decide) ?_
          refine lv_icmp_ne (tgt := 43) hx hb d_En_crossing_28 (by decide) (fun hc => ?_) (fun hc => ?_)
          · rw [if_pos hc] at hm
            refine lv_aload_n hx hb d_En_crossing_43 rfl (lv_at hl 0 rfl) ?_
            refine va_get (D := D) (ci := 0) (v := .ref q_p0_now) (C := R_En) (T := F_En) (N := 18) hx hb ht i_En hown hK hP 0 rfl rfl 8 (Nat.le_of_ble_eq_true rfl) (ht _ m_102) (fun _ h9 => h9) rfl d_En_crossing_44 ?_
            refine va_getN (D := D) (ci := 4) (v := .ref q_p0_now_label) (C := R_Di) (T := F_Di) (N := 6) hx hb ht i_Di hown hK hP 1 rfl rfl 1 (Nat.le_of_ble_eq_true rfl) (va_Nw.use rfl (hN _ n_41)) (fun _ h9 => h9) rfl d_En_crossing_47 ?_
            refine lv_iconst (v := 4) hx hb d_En_crossing_50 (by decide) ?_
            refine lv_iload_n hx hb d_En_crossing_51 rfl (lv_at hl 1 rfl) ?_
            refine lv_imul hx hb d_En_crossing_52 ?_
            refine lv_iload_n hx hb d_En_crossing_53 rfl (lv_at hl 2 rfl) ?_
            refine lv_iadd hx hb d_En_crossing_54 ?_
            obtain ⟨hg, hm⟩ := vz_guard hm
            refine va_iald hx hb hK hP 2 0 rfl rfl hg d_En_crossing_55 ?_
            obtain rfl := Option.some.inj hm
            exact vz_iret hx hb hr rfl hlocks hP hD hS (Nat.le_refl _) (Nat.le_refl _) d_En_crossing_56 ⟨rfl, rfl⟩
          · rw [if_neg (fun q => q hc)] at hm
            refine lv_aload_n hx hb d_En_crossing_31 rfl (lv_at hl 0 rfl) ?_
            refine va_get (D := D) (ci := 0) (v := .ref q_p0_now) (C := R_En) (T := F_En) (N := 18) hx hb ht i_En hown hK hP 0 rfl rfl 8 (Nat.le_of_ble_eq_true rfl) (ht _ m_102) (fun _ h9 => h9) rfl d_En_crossing_32 ?_
            refine va_getN (D := D) (ci := 4) (v := .ref q_p0_now_sign) (C := R_Di) (T := F_Di) (N := 6) hx hb ht i_Di hown hK hP 1 rfl rfl 0 (Nat.le_of_ble_eq_true rfl) (va_Nw.use rfl (hN _ n_42)) (fun _ h9 => h9) rfl d_En_crossing_35 ?_
            refine lv_iload_n hx hb d_En_crossing_38 rfl (lv_at hl 1 rfl) ?_
            obtain ⟨hg, hm⟩ := vz_guard hm
            refine va_iald hx hb hK hP 3 0 rfl rfl hg d_En_crossing_39 ?_
            refine lv_goto (tgt := 56) hx hb d_En_crossing_40 (by decide) ?_
            obtain rfl := Option.some.inj hm
            exact vz_iret hx hb hr rfl hlocks hP hD hS (Nat.le_refl _) (Nat.le_refl _) d_En_crossing_56 ⟨rfl, rfl⟩
        · rw [if_neg hc] at hm
          refine lv_iconst (v := 0) hx hb d_En_crossing_24 (by decide) ?_
          obtain rfl := Option.some.inj hm
          exact vz_iret hx hb hr rfl hlocks hP hD hS (Nat.le_refl _) (Nat.le_refl _) d_En_crossing_25 ⟨rfl, rfl⟩
set_option maxHeartbeats 4000000 in
set_option maxRecDepth 100000 in
theorem k_En_crossing (l : Launch) (D : va_G) (cI cJ cB : ClassId) (fl : Nat) (q_p0 : Nat) (q_p0_reader : Nat) (q_p0_tape : Nat) (q_p0_lines : Nat) (q_p0_paper : Nat) (q_p0_moves : Nat) (q_p0_stateSum : Nat) (q_p0_minor : Nat) (q_p0_polynomial : Nat) (q_p0_now : Nat) (q_p0_next : Nat) (q_p0_trial : Nat) (q_p0_latest : Nat) (q_p0_earlier : Nat) (q_p0_spare : Nat) (q_p0_now_sign : Nat) (q_p0_now_label : Nat) (q_p0_now_shape : Nat) (i_p0_now_count : Int32) (f_p0_now_label : Nat → Int32) (f_p0_now_sign : Nat → Int32) (i_p0_onTape : Int32) (i_p0_hasRead : Int32) (i_p0_linesDone : Int32) (i_p0_sumsDone : Int32) (i_p0_now_circles : Int32) (i_p0_now_shapeIsKnown : Int32) (x1 : Int32) (x2 : Int32) (res : Int32) (hm : m_En_crossing fl i_p0_now_count f_p0_now_label f_p0_now_sign x1 x2 = some res) : MtI l y_En_crossing (.code y_En_crossing b_En_crossing 3 (some .int) :: CW) rm_En_crossing D [(cI, .int), (cJ, .long), (cB, .byte)] [.ref q_p0, .int x1, .int x2] (ws_En_crossing cI cJ cB q_p0 q_p0_reader q_p0_tape q_p0_lines q_p0_paper q_p0_moves q_p0_stateSum q_p0_minor q_p0_polynomial q_p0_now q_p0_next q_p0_trial q_p0_latest q_p0_earlier q_p0_spare q_p0_now_sign q_p0_now_label q_p0_now_shape i_p0_onTape i_p0_hasRead i_p0_linesDone i_p0_sumsDone i_p0_now_count i_p0_now_circles i_p0_now_shapeIsKnown f_p0_now_label f_p0_now_sign) (fun (r : Int32) (w : va_W) => r = res ∧ w = (ws_En_crossing cI cJ cB q_p0 q_p0_reader q_p0_tape q_p0_lines q_p0_paper q_p0_moves q_p0_stateSum q_p0_minor q_p0_polynomial q_p0_now q_p0_next q_p0_trial q_p0_latest q_p0_earlier q_p0_spare q_p0_now_sign q_p0_now_label q_p0_now_shape i_p0_onTape i_p0_hasRead i_p0_linesDone i_p0_sumsDone i_p0_now_count i_p0_now_circles i_p0_now_shapeIsKnown f_p0_now_label f_p0_now_sign)) := by
  intro sz
  refine vz_start (Qc := fun A => va_Qi (fun (r : Int32) (w : va_W) => r = res ∧ w = (ws_En_crossing cI cJ cB q_p0 q_p0_reader q_p0_tape q_p0_lines q_p0_paper q_p0_moves q_p0_stateSum q_p0_minor q_p0_polynomial q_p0_now q_p0_next q_p0_trial q_p0_latest q_p0_earlier q_p0_spare q_p0_now_sign q_p0_now_label q_p0_now_shape i_p0_onTape i_p0_hasRead i_p0_linesDone i_p0_sumsDone i_p0_now_count i_p0_now_circles i_p0_now_shapeIsKnown f_p0_now_label f_p0_now_sign)) (vz_B D A) A) (lv0 := [(0, .ref q_p0), (1, .int x1), (2, .int x2)]) (by decide +kernel) (Nat.le_of_ble_eq_true rfl) rfl ?_
  intro p e s m below meth c A ls C0 hl
  obtain ⟨hx, hb, hr, hml, hown, ht, hlocks, hin, hN, hK, hP, hD, hA, hS⟩ := C0
  exact w_En_crossing_0 fl q_p0 q_p0_reader q_p0_tape q_p0_lines q_p0_paper q_p0_moves q_p0_stateSum q_p0_minor q_p0_polynomial q_p0_now q_p0_next q_p0_trial q_p0_latest q_p0_earlier q_p0_spare q_p0_now_sign q_p0_now_label q_p0_now_shape i_p0_now_count f_p0_now_label f_p0_now_sign i_p0_onTape i_p0_hasRead i_p0_linesDone i_p0_sumsDone i_p0_now_circles i_p0_now_shapeIsKnown res ⟨hx, hb, hr, hml, hown, ht, hlocks, hin, hN, hK, hA⟩ x1 x2 s.heap [] ls hm hP hD hS (lv_sub hl [0, 1, 2] rfl)
def ws_En_printed (cI cJ cB : ClassId) (q_p0 : Nat) (q_p0_reader : Nat) (q_p0_tape : Nat) (q_p0_lines : Nat) (q_p0_paper : Nat) (q_p0_moves : Nat) (q_p0_stateSum : Nat) (q_p0_minor : Nat) (q_p0_polynomial : Nat) (q_p0_now : Nat) (q_p0_next : Nat) (q_p0_trial : Nat) (q_p0_latest : Nat) (q_p0_earlier : Nat) (q_p0_spare : Nat) (q_p0_paper_bytes : Nat) (q_p0_paper_digits : Nat) (i_p0_onTape : Int32) (i_p0_hasRead : Int32) (i_p0_linesDone : Int32) (i_p0_sumsDone : Int32) (i_p0_paper_size : Int32) (i_p0_paper_overflown : Int32) (f_p0_paper_bytes : Nat → Int32) : va_W := [(q_p0, .inr (0, [.ref q_p0_reader, .ref q_p0_tape, .ref q_p0_lines, .ref q_p0_paper, .ref q_p0_moves, .ref q_p0_stateSum, .ref q_p0_minor, .ref q_p0_polynomial, .ref q_p0_now, .ref q_p0_next, .ref q_p0_trial, .ref q_p0_latest, .ref q_p0_earlier, .ref q_p0_spare, .int i_p0_onTape, .int i_p0_hasRead, .int i_p0_linesDone, .int i_p0_sumsDone])), (q_p0_paper, .inr (3, [.ref q_p0_paper_bytes, .ref q_p0_paper_digits, .int i_p0_paper_size, .int i_p0_paper_overflown])), (q_p0_paper_bytes, .inl (cI, 4000, .inl f_p0_paper_bytes))]
def rm_En_printed : Room := { frames := 0, cells := 0, slots := 0, locals := 0 }
def B_En_printed_0 (fl : Nat) (i_p0_paper_size : Int32) (f_p0_paper_bytes : Nat → Int32) (x1 : Int32) : Option (Int32) := (if x1 < (0 : Int32) then (some (-1)) else (if i_p0_paper_size ≤ x1 then (some (-1)) else (if ¬ (x1 < 0 ∨ 4000 ≤ Int32.toNatClampNeg x1) then (some (f_p0_paper_bytes (Int32.toNatClampNeg x1))) else none)))
def m_En_printed (fl : Nat) (i_p0_paper_size : Int32) (f_p0_paper_bytes : Nat → Int32) (x1 : Int32) : Option (Int32) := B_En_printed_0 fl i_p0_paper_size f_p0_paper_bytes x1
set_option maxHeartbeats 4000000 in
set_option maxRecDepth 100000 in
theorem w_En_printed_0 {p : Program} {l : Launch} {e : Env} {s : State} {m : MethodId} {args : Array Value} {below : List Frame} {meth : Method} {c : Code} {D : va_G} {cI cJ cB : ClassId} {A : Nat → Prop} (fl : Nat) (q_p0 : Nat) (q_p0_reader : Nat) (q_p0_tape : Nat) (q_p0_lines : Nat) (q_p0_paper : Nat) (q_p0_moves : Nat) (q_p0_stateSum : Nat) (q_p0_minor : Nat) (q_p0_polynomial : Nat) (q_p0_now : Nat) (q_p0_next : Nat) (q_p0_trial : Nat) (q_p0_latest : Nat) (q_p0_earlier : Nat) (q_p0_spare : Nat) (q_p0_paper_bytes : Nat) (q_p0_paper_digits : Nat) (i_p0_paper_size : Int32) (f_p0_paper_bytes : Nat → Int32) (i_p0_onTape : Int32) (i_p0_hasRead : Int32) (i_p0_linesDone : Int32) (i_p0_sumsDone : Int32) (i_p0_paper_overflown : Int32) (res : Int32) (C0 : vz_Cx p s m meth c b_En_printed 2 (some .int) "LinkEngine" "printed" D [(cI, .int), (cJ, .long), (cB, .byte)] A args) : ∀ (x1 : Int32) (H : Heap) (locs : List Loc) (ls : Array Slot), B_En_printed_0 fl i_p0_paper_size f_p0_paper_bytes x1 = some res → va_P D classes (ws_En_printed cI cJ cB q_p0 q_p0_reader q_p0_tape q_p0_lines q_p0_paper q_p0_moves q_p0_stateSum q_p0_minor q_p0_polynomial q_p0_now q_p0_next q_p0_trial q_p0_latest q_p0_earlier q_p0_spare q_p0_paper_bytes q_p0_paper_digits i_p0_onTape i_p0_hasRead i_p0_linesDone i_p0_sumsDone i_p0_paper_size i_p0_paper_overflown f_p0_paper_bytes) H → va_D A (ws_En_printed cI cJ cB q_p0 q_p0_reader q_p0_tape q_p0_lines q_p0_paper q_p0_moves q_p0_stateSum q_p0_minor q_p0_polynomial q_p0_now q_p0_next q_p0_trial q_p0_latest q_p0_earlier q_p0_spare q_p0_paper_bytes q_p0_paper_digits i_p0_onTape i_p0_hasRead i_p0_linesDone i_p0_sumsDone i_p0_paper_size i_p0_paper_overflown f_p0_paper_bytes) → va_S A s.heap H locs → lv_has ls 2 [(0, .ref q_p0), (1, .int x1)] → W p l e rm_En_printed s m args below meth c H locs 0 0 (MQ below (va_Qi (fun (r : Int32) (w : va_W) => r = res ∧ w = (ws_En_printed cI cJ cB q_p0 q_p0_reader q_p0_tape q_p0_lines q_p0_paper q_p0_moves q_p0_stateSum q_p0_minor q_p0_polynomial q_p0_now q_p0_next q_p0_trial q_p0_latest q_p0_earlier q_p0_spare q_p0_paper_bytes q_p0_paper_digits i_p0_onTape i_p0_hasRead i_p0_linesDone i_p0_sumsDone i_p0_paper_size i_p0_paper_overflown f_p0_paper_bytes)) (vz_B D A) A) args s 0 0 A) (F0 m 0 ls []) := by
  obtain ⟨hx, hb, hr, hml, hown, ht, hlocks, hin, hN, hK, hA⟩ := id C0
  intro x1 H locs ls hm hP hD hS hl
  unfold B_En_printed_0 at hm
  refine lv_iload_n hx hb d_En_printed_0 rfl (lv_at hl 1 rfl) ?_
  refine lv_if_lt (tgt := 27) hx hb d_En_printed_1 (by decide) (fun hc => ?_) (fun hc => ?_)
  · rw [if_pos hc] at hm
    refine lv_iconst (v := (-1)) hx hb d_En_printed_27 (by decide) ?_
    obtain rfl := Option.some.inj hm
    exact vz_iret hx hb hr rfl hlocks hP hD hS (Nat.le_refl _) (Nat.le_refl _) d_En_printed_28 ⟨rfl, rfl⟩
  · rw [if_neg hc] at hm
    refine lv_iload_n hx hb d_En_printed_4 rfl (lv_at hl 1 rfl) ?_
    refine lv_aload_n hx hb d_En_printed_5 rfl (lv_at hl 0 rfl) ?_
    refine va_get (D := D) (ci := 0) (v := .ref q_p0_paper) (C := R_En) (T := F_En) (N := 18) hx hb ht i_En hown hK hP 0 rfl rfl 3 (Nat.le_of_ble_eq_true rfl) (ht _ m_72) (fun _ h9 => h9) rfl d_En_printed_6 ?_
    refine va_getN (D := D) (ci := 3) (v := .int i_p0_paper_size) (C := R_Pa) (T := F_Pa) (N := 4) hx hb ht i_Pa hown hK hP 1 rfl rfl 2 (Nat.le_of_ble_eq_true rfl) (va_Nw.use rfl (hN _ n_16)) (fun _ h9 => h9) rfl d_En_printed_9 ?_
    refine lv_icmp_ge (tgt := 27) hx hb d_En_printed_12 (by decide) (fun hc => ?_) (fun hc => ?_)
    · rw [if_pos hc] at hm
      refine lv_iconst (v := (-1)) hx hb d_En_printed_27 (by decide) ?_
      obtain rfl := Option.some.inj hm
      exact vz_iret hx hb hr rfl hlocks hP hD hS (Nat.le_refl _) (Nat.le_refl _) d_En_printed_28 ⟨rfl, rfl⟩
    · rw [if_neg hc] at hm
      refine lv_aload_n hx hb d_En_printed_15 rfl (lv_at hl 0 rfl) ?_
      refine va_get (D := D) (ci := 0) (v := .ref q_p0_paper) (C := R_En) (T := F_En) (N := 18) hx hb ht i_En hown hK hP 0 rfl rfl 3 (Nat.le_of_ble_eq_true rfl) (ht _ m_72) (fun _ h9 => h9) rfl d_En_printed_16 ?_
      refine va_getN (D := D) (ci := 3) (v := .ref q_p0_paper_bytes) (C := R_Pa) (T := F_Pa) (N := 4) hx hb ht i_Pa hown hK hP 1 rfl rfl 0 (Nat.le_of_ble_eq_true rfl) (va_Nw.use rfl (hN _ n_17)) (fun _ h9 => h9) rfl d_En_printed_19 ?_
      refine lv_iload_n hx hb d_En_printed_22 rfl (lv_at hl 1 rfl) ?_
      obtain ⟨hg, hm⟩ := vz_guard hm
      refine va_iald hx hb hK hP 2 0 rfl rfl hg d_En_printed_23 ?_
      refine lv_goto (tgt := 28) hx hb d_En_printed_24 (by decide) ?_
      obtain rfl := Option.some.inj hm
      exact vz_iret hx hb hr rfl hlocks hP hD hS (Nat.le_refl _) (Nat.le_refl _) d_En_printed_28 ⟨rfl, rfl⟩
set_option maxHeartbeats 4000000 in
set_option maxRecDepth 100000 in
theorem k_En_printed (l : Launch) (D : va_G) (cI cJ cB : ClassId) (fl : Nat) (q_p0 : Nat) (q_p0_reader : Nat) (q_p0_tape : Nat) (q_p0_lines : Nat) (q_p0_paper : Nat) (q_p0_moves : Nat) (q_p0_stateSum : Nat) (q_p0_minor : Nat) (q_p0_polynomial : Nat) (q_p0_now : Nat) (q_p0_next : Nat) (q_p0_trial : Nat) (q_p0_latest : Nat) (q_p0_earlier : Nat) (q_p0_spare : Nat) (q_p0_paper_bytes : Nat) (q_p0_paper_digits : Nat) (i_p0_paper_size : Int32) (f_p0_paper_bytes : Nat → Int32) (i_p0_onTape : Int32) (i_p0_hasRead : Int32) (i_p0_linesDone : Int32) (i_p0_sumsDone : Int32) (i_p0_paper_overflown : Int32) (x1 : Int32) (res : Int32) (hm : m_En_printed fl i_p0_paper_size f_p0_paper_bytes x1 = some res) : MtI l y_En_printed (.code y_En_printed b_En_printed 2 (some .int) :: CW) rm_En_printed D [(cI, .int), (cJ, .long), (cB, .byte)] [.ref q_p0, .int x1] (ws_En_printed cI cJ cB q_p0 q_p0_reader q_p0_tape q_p0_lines q_p0_paper q_p0_moves q_p0_stateSum q_p0_minor q_p0_polynomial q_p0_now q_p0_next q_p0_trial q_p0_latest q_p0_earlier q_p0_spare q_p0_paper_bytes q_p0_paper_digits i_p0_onTape i_p0_hasRead i_p0_linesDone i_p0_sumsDone i_p0_paper_size i_p0_paper_overflown f_p0_paper_bytes) (fun (r : Int32) (w : va_W) => r = res ∧ w = (ws_En_printed cI cJ cB q_p0 q_p0_reader q_p0_tape q_p0_lines q_p0_paper q_p0_moves q_p0_stateSum q_p0_minor q_p0_polynomial q_p0_now q_p0_next q_p0_trial q_p0_latest q_p0_earlier q_p0_spare q_p0_paper_bytes q_p0_paper_digits i_p0_onTape i_p0_hasRead i_p0_linesDone i_p0_sumsDone i_p0_paper_size i_p0_paper_overflown f_p0_paper_bytes)) := by
  intro sz
  refine vz_start (Qc := fun A => va_Qi (fun (r : Int32) (w : va_W) => r = res ∧ w = (ws_En_printed cI cJ cB q_p0 q_p0_reader q_p0_tape q_p0_lines q_p0_paper q_p0_moves q_p0_stateSum q_p0_minor q_p0_polynomial q_p0_now q_p0_next q_p0_trial q_p0_latest q_p0_earlier q_p0_spare q_p0_paper_bytes q_p0_paper_digits i_p0_onTape i_p0_hasRead i_p0_linesDone i_p0_sumsDone i_p0_paper_size i_p0_paper_overflown f_p0_paper_bytes)) (vz_B D A) A) (lv0 := [(0, .ref q_p0), (1, .int x1)]) (by decide +kernel) (Nat.le_of_ble_eq_true rfl) rfl ?_
  intro p e s m below meth c A ls C0 hl
  obtain ⟨hx, hb, hr, hml, hown, ht, hlocks, hin, hN, hK, hP, hD, hA, hS⟩ := C0
  exact w_En_printed_0 fl q_p0 q_p0_reader q_p0_tape q_p0_lines q_p0_paper q_p0_moves q_p0_stateSum q_p0_minor q_p0_polynomial q_p0_now q_p0_next q_p0_trial q_p0_latest q_p0_earlier q_p0_spare q_p0_paper_bytes q_p0_paper_digits i_p0_paper_size f_p0_paper_bytes i_p0_onTape i_p0_hasRead i_p0_linesDone i_p0_sumsDone i_p0_paper_overflown res ⟨hx, hb, hr, hml, hown, ht, hlocks, hin, hN, hK, hA⟩ x1 s.heap [] ls hm hP hD hS (lv_sub hl [0, 1] rfl)
def ws_En_wipe (cI cJ cB : ClassId) (q_p0 : Nat) (q_p0_reader : Nat) (q_p0_tape : Nat) (q_p0_lines : Nat) (q_p0_paper : Nat) (q_p0_moves : Nat) (q_p0_stateSum : Nat) (q_p0_minor : Nat) (q_p0_polynomial : Nat) (q_p0_now : Nat) (q_p0_next : Nat) (q_p0_trial : Nat) (q_p0_latest : Nat) (q_p0_earlier : Nat) (q_p0_spare : Nat) (q_p0_paper_bytes : Nat) (q_p0_paper_digits : Nat) (i_p0_onTape : Int32) (i_p0_hasRead : Int32) (i_p0_linesDone : Int32) (i_p0_sumsDone : Int32) (i_p0_paper_size : Int32) (i_p0_paper_overflown : Int32) (f_p0_paper_bytes : Nat → Int32) (f_p0_tape : Nat → Int32) : va_W := [(q_p0, .inr (0, [.ref q_p0_reader, .ref q_p0_tape, .ref q_p0_lines, .ref q_p0_paper, .ref q_p0_moves, .ref q_p0_stateSum, .ref q_p0_minor, .ref q_p0_polynomial, .ref q_p0_now, .ref q_p0_next, .ref q_p0_trial, .ref q_p0_latest, .ref q_p0_earlier, .ref q_p0_spare, .int i_p0_onTape, .int i_p0_hasRead, .int i_p0_linesDone, .int i_p0_sumsDone])), (q_p0_paper, .inr (3, [.ref q_p0_paper_bytes, .ref q_p0_paper_digits, .int i_p0_paper_size, .int i_p0_paper_overflown])), (q_p0_paper_bytes, .inl (cI, 4000, .inl f_p0_paper_bytes)), (q_p0_tape, .inl (cI, 4000, .inl f_p0_tape))]
def rm_En_wipe : Room := { frames := 1, cells := 0, slots := 0, locals := 64 }
def B_En_wipe_34 (fl : Nat) (f_p0_paper_bytes : Nat → Int32) (x1 : Int32) (x2 : Int32) (i_p0_onTape : Int32) (i_p0_paper_size : Int32) (f_p0_tape : Nat → Int32) : Option (Int32 × Int32 × Int32 × (Nat → Int32)) := (some (x2, i_p0_onTape, 0, f_p0_tape))
def B_En_wipe_0 (fl : Nat) (f_p0_paper_bytes : Nat → Int32) (x1 : Int32) (i_p0_onTape : Int32) (i_p0_paper_size : Int32) (f_p0_tape : Nat → Int32) : Option (Int32 × Int32 × Int32 × (Nat → Int32)) := (if x1 = (0 : Int32) then B_En_wipe_34 fl f_p0_paper_bytes x1 i_p0_paper_size i_p0_onTape i_p0_paper_size f_p0_tape else (if ¬ (0 : Int32) < 0 ∧ ¬ (0 : Int32) < 0 ∧ ¬ i_p0_paper_size < 0 ∧ Int32.toNatClampNeg 0 + Int32.toNatClampNeg i_p0_paper_size ≤ 4000 ∧ Int32.toNatClampNeg 0 + Int32.toNatClampNeg i_p0_paper_size ≤ 4000 then B_En_wipe_34 fl f_p0_paper_bytes x1 i_p0_paper_size i_p0_paper_size i_p0_paper_size (va_cpy f_p0_paper_bytes f_p0_tape (Int32.toNatClampNeg 0) (Int32.toNatClampNeg 0) (Int32.toNatClampNeg i_p0_paper_size)) else none))
def m_En_wipe (fl : Nat) (f_p0_paper_bytes : Nat → Int32) (x1 : Int32) (i_p0_onTape : Int32) (i_p0_paper_size : Int32) (f_p0_tape : Nat → Int32) : Option (Int32 × Int32 × Int32 × (Nat → Int32)) := B_En_wipe_0 fl f_p0_paper_bytes x1 i_p0_onTape i_p0_paper_size f_p0_tape
set_option maxHeartbeats 4000000 in
set_option maxRecDepth 100000 in
theorem w_En_wipe_34 {p : Program} {l : Launch} {e : Env} {s : State} {m : MethodId} {args : Array Value} {below : List Frame} {meth : Method} {c : Code} {D : va_G} {cI cJ cB : ClassId} {A : Nat → Prop} (fl : Nat) (q_p0 : Nat) (q_p0_reader : Nat) (q_p0_tape : Nat) (q_p0_lines : Nat) (q_p0_paper : Nat) (q_p0_moves : Nat) (q_p0_stateSum : Nat) (q_p0_minor : Nat) (q_p0_polynomial : Nat) (q_p0_now : Nat) (q_p0_next : Nat) (q_p0_trial : Nat) (q_p0_latest : Nat) (q_p0_earlier : Nat) (q_p0_spare : Nat) (q_p0_paper_bytes : Nat) (q_p0_paper_digits : Nat) (f_p0_paper_bytes : Nat → Int32) (i_p0_hasRead : Int32) (i_p0_linesDone : Int32) (i_p0_sumsDone : Int32) (i_p0_paper_overflown : Int32) (res : Int32 × Int32 × Int32 × (Nat → Int32)) (C0 : vz_Cx p s m meth c b_En_wipe 3 (some .int) "LinkEngine" "wipe" D [(cI, .int), (cJ, .long), (cB, .byte)] A args) : ∀ (x1 : Int32) (x2 : Int32) (i_p0_onTape : Int32) (i_p0_paper_size : Int32) (f_p0_tape : Nat → Int32) (H : Heap) (locs : List Loc) (ls : Array Slot), B_En_wipe_34 fl f_p0_paper_bytes x1 x2 i_p0_onTape i_p0_paper_size f_p0_tape = some res → va_P D classes (ws_En_wipe cI cJ cB q_p0 q_p0_reader q_p0_tape q_p0_lines q_p0_paper q_p0_moves q_p0_stateSum q_p0_minor q_p0_polynomial q_p0_now q_p0_next q_p0_trial q_p0_latest q_p0_earlier q_p0_spare q_p0_paper_bytes q_p0_paper_digits i_p0_onTape i_p0_hasRead i_p0_linesDone i_p0_sumsDone i_p0_paper_size i_p0_paper_overflown f_p0_paper_bytes f_p0_tape) H → va_D A (ws_En_wipe cI cJ cB q_p0 q_p0_reader q_p0_tape q_p0_lines q_p0_paper q_p0_moves q_p0_stateSum q_p0_minor q_p0_polynomial q_p0_now q_p0_next q_p0_trial q_p0_latest q_p0_earlier q_p0_spare q_p0_paper_bytes q_p0_paper_digits i_p0_onTape i_p0_hasRead i_p0_linesDone i_p0_sumsDone i_p0_paper_size i_p0_paper_overflown f_p0_paper_bytes f_p0_tape) → va_S A s.heap H locs → lv_has ls 3 [(0, .ref q_p0), (1, .int x1), (2, .int x2)] → W p l e rm_En_wipe s m args below meth c H locs 0 0 (MQ below (va_Qi (fun (r : Int32) (w : va_W) => r = res.1 ∧ w = (ws_En_wipe cI cJ cB q_p0 q_p0_reader q_p0_tape q_p0_lines q_p0_paper q_p0_moves q_p0_stateSum q_p0_minor q_p0_polynomial q_p0_now q_p0_next q_p0_trial q_p0_latest q_p0_earlier q_p0_spare q_p0_paper_bytes q_p0_paper_digits res.2.1 i_p0_hasRead i_p0_linesDone i_p0_sumsDone res.2.2.1 i_p0_paper_overflown f_p0_paper_bytes res.2.2.2)) (vz_B D A) A) args s 0 0 A) (F0 m 34 ls []) := by
  obtain ⟨hx, hb, hr, hml, hown, ht, hlocks, hin, hN, hK, hA⟩ := id C0
  intro x1 x2 i_p0_onTape i_p0_paper_size f_p0_tape H locs ls hm hP hD hS hl
  unfold B_En_wipe_34 at hm
  refine lv_aload_n hx hb d_En_wipe_34 rfl (lv_at hl 0 rfl) ?_
  refine va_get (D := D) (ci := 0) (v := .ref q_p0_paper) (C := R_En) (T := F_En) (N := 18) hx hb ht i_En hown hK hP 0 rfl rfl 3 (Nat.le_of_ble_eq_true rfl) (ht _ m_72) (fun _ h9 => h9) rfl d_En_wipe_35 ?_
  refine lv_iconst (v := 0) hx hb d_En_wipe_38 (by decide) ?_
  refine va_putN (D := D) (ci := 3) (v := .int 0) (ty := .int) (C := R_Pa) (T := F_Pa) (N := 4) hx hb ht i_Pa t_Pa t_Pa_ok n_Pa hown hK hP hD hS 1 rfl rfl 2 (Nat.le_of_ble_eq_true rfl) (va_Nw.use rfl (hN _ n_16)) (fun _ h9 => h9) rfl (by decide +kernel) rfl rfl (Nat.le_of_ble_eq_true rfl) d_En_wipe_39 (fun H locs hP hD hS => ?_)
  have hP : va_P D classes (ws_En_wipe cI cJ cB q_p0 q_p0_reader q_p0_tape q_p0_lines q_p0_paper q_p0_moves q_p0_stateSum q_p0_minor q_p0_polynomial q_p0_now q_p0_next q_p0_trial q_p0_latest q_p0_earlier q_p0_spare q_p0_paper_bytes q_p0_paper_digits i_p0_onTape i_p0_hasRead i_p0_linesDone i_p0_sumsDone 0 i_p0_paper_overflown f_p0_paper_bytes f_p0_tape) H := hP
  have hD : va_D A (ws_En_wipe cI cJ cB q_p0 q_p0_reader q_p0_tape q_p0_lines q_p0_paper q_p0_moves q_p0_stateSum q_p0_minor q_p0_polynomial q_p0_now q_p0_next q_p0_trial q_p0_latest q_p0_earlier q_p0_spare q_p0_paper_bytes q_p0_paper_digits i_p0_onTape i_p0_hasRead i_p0_linesDone i_p0_sumsDone 0 i_p0_paper_overflown f_p0_paper_bytes f_p0_tape) := hD
  refine lv_iload_n hx hb d_En_wipe_42 rfl (lv_at hl 2 rfl) ?_
  obtain rfl := Option.some.inj hm
  exact vz_iret hx hb hr rfl hlocks hP hD hS (Nat.le_refl _) (Nat.le_refl _) d_En_wipe_43 ⟨rfl, rfl⟩
set_option maxHeartbeats 4000000 in
set_option maxRecDepth 100000 in
theorem w_En_wipe_0 {p : Program} {l : Launch} {e : Env} {s : State} {m : MethodId} {args : Array Value} {below : List Frame} {meth : Method} {c : Code} {D : va_G} {cI cJ cB : ClassId} {A : Nat → Prop} (fl : Nat) (q_p0 : Nat) (q_p0_reader : Nat) (q_p0_tape : Nat) (q_p0_lines : Nat) (q_p0_paper : Nat) (q_p0_moves : Nat) (q_p0_stateSum : Nat) (q_p0_minor : Nat) (q_p0_polynomial : Nat) (q_p0_now : Nat) (q_p0_next : Nat) (q_p0_trial : Nat) (q_p0_latest : Nat) (q_p0_earlier : Nat) (q_p0_spare : Nat) (q_p0_paper_bytes : Nat) (q_p0_paper_digits : Nat) (f_p0_paper_bytes : Nat → Int32) (i_p0_hasRead : Int32) (i_p0_linesDone : Int32) (i_p0_sumsDone : Int32) (i_p0_paper_overflown : Int32) (res : Int32 × Int32 × Int32 × (Nat → Int32)) (C0 : vz_Cx p s m meth c b_En_wipe 3 (some .int) "LinkEngine" "wipe" D [(cI, .int), (cJ, .long), (cB, .byte)] A args) : ∀ (x1 : Int32) (i_p0_onTape : Int32) (i_p0_paper_size : Int32) (f_p0_tape : Nat → Int32) (H : Heap) (locs : List Loc) (ls : Array Slot), B_En_wipe_0 fl f_p0_paper_bytes x1 i_p0_onTape i_p0_paper_size f_p0_tape = some res → va_P D classes (ws_En_wipe cI cJ cB q_p0 q_p0_reader q_p0_tape q_p0_lines q_p0_paper q_p0_moves q_p0_stateSum q_p0_minor q_p0_polynomial q_p0_now q_p0_next q_p0_trial q_p0_latest q_p0_earlier q_p0_spare q_p0_paper_bytes q_p0_paper_digits i_p0_onTape i_p0_hasRead i_p0_linesDone i_p0_sumsDone i_p0_paper_size i_p0_paper_overflown f_p0_paper_bytes f_p0_tape) H → va_D A (ws_En_wipe cI cJ cB q_p0 q_p0_reader q_p0_tape q_p0_lines q_p0_paper q_p0_moves q_p0_stateSum q_p0_minor q_p0_polynomial q_p0_now q_p0_next q_p0_trial q_p0_latest q_p0_earlier q_p0_spare q_p0_paper_bytes q_p0_paper_digits i_p0_onTape i_p0_hasRead i_p0_linesDone i_p0_sumsDone i_p0_paper_size i_p0_paper_overflown f_p0_paper_bytes f_p0_tape) → va_S A s.heap H locs → lv_has ls 3 [(0, .ref q_p0), (1, .int x1)] → W p l e rm_En_wipe s m args below meth c H locs 0 0 (MQ below (va_Qi (fun (r : Int32) (w : va_W) => r = res.1 ∧ w = (ws_En_wipe cI cJ cB q_p0 q_p0_reader q_p0_tape q_p0_lines q_p0_paper q_p0_moves q_p0_stateSum q_p0_minor q_p0_polynomial q_p0_now q_p0_next q_p0_trial q_p0_latest q_p0_earlier q_p0_spare q_p0_paper_bytes q_p0_paper_digits res.2.1 i_p0_hasRead i_p0_linesDone i_p0_sumsDone res.2.2.1 i_p0_paper_overflown f_p0_paper_bytes res.2.2.2)) (vz_B D A) A) args s 0 0 A) (F0 m 0 ls []) := by
  obtain ⟨hx, hb, hr, hml, hown, ht, hlocks, hin, hN, hK, hA⟩ := id C0
  intro x1 i_p0_onTape i_p0_paper_size f_p0_tape H locs ls hm hP hD hS hl
  unfold B_En_wipe_0 at hm
  refine lv_aload_n hx hb d_En_wipe_0 rfl (lv_at hl 0 rfl) ?_
  refine va_get (D := D) (ci := 0) (v := .ref q_p0_paper) (C := R_En) (T := F_En) (N := 18) hx hb ht i_En hown hK hP 0 rfl rfl 3 (Nat.le_of_ble_eq_true rfl) (ht _ m_72) (fun _ h9 => h9) rfl d_En_wipe_1 ?_
  refine va_getN (D := D) (ci := 3) (v := .int i_p0_paper_size) (C := R_Pa) (T := F_Pa) (N := 4) hx hb ht i_Pa hown hK hP 1 rfl rfl 2 (Nat.le_of_ble_eq_true rfl) (va_Nw.use rfl (hN _ n_16)) (fun _ h9 => h9) rfl d_En_wipe_4 ?_
  refine lv_istore_n (lv' := [(2, .int i_p0_paper_size), (0, .ref q_p0), (1, .int x1)]) hx hb d_En_wipe_7 rfl hl (by decide) rfl (fun ls hl => ?_)
  refine lv_iload_n hx hb d_En_wipe_8 rfl (lv_at hl 2 rfl) ?_
  refine lv_if_eq (tgt := 34) hx hb d_En_wipe_9 (by decide) (fun hc => ?_) (fun hc => ?_)
  · rw [if_pos hc] at hm
    exact w_En_wipe_34 fl q_p0 q_p0_reader q_p0_tape q_p0_lines q_p0_paper q_p0_moves q_p0_stateSum q_p0_minor q_p0_polynomial q_p0_now q_p0_next q_p0_trial q_p0_latest q_p0_earlier q_p0_spare q_p0_paper_bytes q_p0_paper_digits f_p0_paper_bytes i_p0_hasRead i_p0_linesDone i_p0_sumsDone i_p0_paper_overflown res C0 x1 i_p0_paper_size i_p0_onTape i_p0_paper_size f_p0_tape _ _ _ hm hP hD hS (lv_sub hl [1, 2, 0] rfl)
  · rw [if_neg hc] at hm
    refine lv_aload_n hx hb d_En_wipe_12 rfl (lv_at hl 1 rfl) ?_
    refine va_get (D := D) (ci := 0) (v := .ref q_p0_paper) (C := R_En) (T := F_En) (N := 18) hx hb ht i_En hown hK hP 0 rfl rfl 3 (Nat.le_of_ble_eq_true rfl) (ht _ m_72) (fun _ h9 => h9) rfl d_En_wipe_13 ?_
    refine va_getN (D := D) (ci := 3) (v := .ref q_p0_paper_bytes) (C := R_Pa) (T := F_Pa) (N := 4) hx hb ht i_Pa hown hK hP 1 rfl rfl 0 (Nat.le_of_ble_eq_true rfl) (va_Nw.use rfl (hN _ n_17)) (fun _ h9 => h9) rfl d_En_wipe_16 ?_
    refine lv_iconst (v := 0) hx hb d_En_wipe_19 (by decide) ?_
    refine lv_aload_n hx hb d_En_wipe_20 rfl (lv_at hl 1 rfl) ?_
    refine va_get (D := D) (ci := 0) (v := .ref q_p0_tape) (C := R_En) (T := F_En) (N := 18) hx hb ht i_En hown hK hP 0 rfl rfl 1 (Nat.le_of_ble_eq_true rfl) (ht _ m_65) (fun _ h9 => h9) rfl d_En_wipe_21 ?_
    refine lv_iconst (v := 0) hx hb d_En_wipe_24 (by decide) ?_
    refine lv_iload_n hx hb d_En_wipe_25 rfl (lv_at hl 0 rfl) ?_
    obtain ⟨hg, hm⟩ := vz_guard hm
    refine va_copyi (ty := .int) hx hb (hml.trans hl.1.symm) hown (ht _ m_195) (ht _ m_196) (ht _ m_197) (ht _ m_198) hK hP hD hS 2 3 0 0 rfl rfl rfl rfl rfl hg.1 hg.2.1 hg.2.2.1 hg.2.2.2.1 hg.2.2.2.2 (fun i h => rfl) (Nat.le_of_ble_eq_true rfl) (Nat.le_of_ble_eq_true rfl) d_En_wipe_26 (fun H locs hP hD hS => ?_)
    have hP : va_P D classes (ws_En_wipe cI cJ cB q_p0 q_p0_reader q_p0_tape q_p0_lines q_p0_paper q_p0_moves q_p0_stateSum q_p0_minor q_p0_polynomial q_p0_now q_p0_next q_p0_trial q_p0_latest q_p0_earlier q_p0_spare q_p0_paper_bytes q_p0_paper_digits i_p0_onTape i_p0_hasRead i_p0_linesDone i_p0_sumsDone i_p0_paper_size i_p0_paper_overflown f_p0_paper_bytes (va_cpy f_p0_paper_bytes f_p0_tape (Int32.toNatClampNeg 0) (Int32.toNatClampNeg 0) (Int32.toNatClampNeg i_p0_paper_size))) H := hP
    have hD : va_D A (ws_En_wipe cI cJ cB q_p0 q_p0_reader q_p0_tape q_p0_lines q_p0_paper q_p0_moves q_p0_stateSum q_p0_minor q_p0_polynomial q_p0_now q_p0_next q_p0_trial q_p0_latest q_p0_earlier q_p0_spare q_p0_paper_bytes q_p0_paper_digits i_p0_onTape i_p0_hasRead i_p0_linesDone i_p0_sumsDone i_p0_paper_size i_p0_paper_overflown f_p0_paper_bytes (va_cpy f_p0_paper_bytes f_p0_tape (Int32.toNatClampNeg 0) (Int32.toNatClampNeg 0) (Int32.toNatClampNeg i_p0_paper_size))) := hD
    refine lv_aload_n hx hb d_En_wipe_29 rfl (lv_at hl 1 rfl) ?_
    refine lv_iload_n hx hb d_En_wipe_30 rfl (lv_at hl 0 rfl) ?_
    refine va_put (D := D) (ci := 0) (v := .int i_p0_paper_size) (ty := .int) (C := R_En) (T := F_En) (N := 18) hx hb ht i_En t_En t_En_ok n_En hown hK hP hD hS 0 rfl rfl 14 (Nat.le_of_ble_eq_true rfl) (ht _ m_167) (fun _ h9 => h9) rfl (by decide +kernel) rfl rfl (Nat.le_of_ble_eq_true rfl) d_En_wipe_31 (fun H locs hP hD hS => ?_)
    have hP : va_P D classes (ws_En_wipe cI cJ cB q_p0 q_p0_reader q_p0_tape q_p0_lines q_p0_paper q_p0_moves q_p0_stateSum q_p0_minor q_p0_polynomial q_p0_now q_p0_next q_p0_trial q_p0_latest q_p0_earlier q_p0_spare q_p0_paper_bytes q_p0_paper_digits i_p0_paper_size i_p0_hasRead i_p0_linesDone i_p0_sumsDone i_p0_paper_size i_p0_paper_overflown f_p0_paper_bytes (va_cpy f_p0_paper_bytes f_p0_tape (Int32.toNatClampNeg 0) (Int32.toNatClampNeg 0) (Int32.toNatClampNeg i_p0_paper_size))) H := hP
    have hD : va_D A (ws_En_wipe cI cJ cB q_p0 q_p0_reader q_p0_tape q_p0_lines q_p0_paper q_p0_moves q_p0_stateSum q_p0_minor q_p0_polynomial q_p0_now q_p0_next q_p0_trial q_p0_latest q_p0_earlier q_p0_spare q_p0_paper_bytes q_p0_paper_digits i_p0_paper_size i_p0_hasRead i_p0_linesDone i_p0_sumsDone i_p0_paper_size i_p0_paper_overflown f_p0_paper_bytes (va_cpy f_p0_paper_bytes f_p0_tape (Int32.toNatClampNeg 0) (Int32.toNatClampNeg 0) (Int32.toNatClampNeg i_p0_paper_size))) := hD
    exact w_En_wipe_34 fl q_p0 q_p0_reader q_p0_tape q_p0_lines q_p0_paper q_p0_moves q_p0_stateSum q_p0_minor q_p0_polynomial q_p0_now q_p0_next q_p0_trial q_p0_latest q_p0_earlier q_p0_spare q_p0_paper_bytes q_p0_paper_digits f_p0_paper_bytes i_p0_hasRead i_p0_linesDone i_p0_sumsDone i_p0_paper_overflown res C0 x1 i_p0_paper_size i_p0_paper_size i_p0_paper_size (va_cpy f_p0_paper_bytes f_p0_tape (Int32.toNatClampNeg 0) (Int32.toNatClampNeg 0) (Int32.toNatClampNeg i_p0_paper_size)) _ _ _ hm hP hD hS (lv_sub hl [1, 2, 0] rfl)
set_option maxHeartbeats 4000000 in
set_option maxRecDepth 100000 in
theorem k_En_wipe (l : Launch) (D : va_G) (cI cJ cB : ClassId) (fl : Nat) (q_p0 : Nat) (q_p0_reader : Nat) (q_p0_tape : Nat) (q_p0_lines : Nat) (q_p0_paper : Nat) (q_p0_moves : Nat) (q_p0_stateSum : Nat) (q_p0_minor : Nat) (q_p0_polynomial : Nat) (q_p0_now : Nat) (q_p0_next : Nat) (q_p0_trial : Nat) (q_p0_latest : Nat) (q_p0_earlier : Nat) (q_p0_spare : Nat) (q_p0_paper_bytes : Nat) (q_p0_paper_digits : Nat) (f_p0_paper_bytes : Nat → Int32) (i_p0_hasRead : Int32) (i_p0_linesDone : Int32) (i_p0_sumsDone : Int32) (i_p0_paper_overflown : Int32) (i_p0_onTape : Int32) (i_p0_paper_size : Int32) (f_p0_tape : Nat → Int32) (x1 : Int32) (res : Int32 × Int32 × Int32 × (Nat → Int32)) (hm : m_En_wipe fl f_p0_paper_bytes x1 i_p0_onTape i_p0_paper_size f_p0_tape = some res) : MtI l y_En_wipe (.code y_En_wipe b_En_wipe 3 (some .int) :: CW) rm_En_wipe D [(cI, .int), (cJ, .long), (cB, .byte)] [.ref q_p0, .int x1] (ws_En_wipe cI cJ cB q_p0 q_p0_reader q_p0_tape q_p0_lines q_p0_paper q_p0_moves q_p0_stateSum q_p0_minor q_p0_polynomial q_p0_now q_p0_next q_p0_trial q_p0_latest q_p0_earlier q_p0_spare q_p0_paper_bytes q_p0_paper_digits i_p0_onTape i_p0_hasRead i_p0_linesDone i_p0_sumsDone i_p0_paper_size i_p0_paper_overflown f_p0_paper_bytes f_p0_tape) (fun (r : Int32) (w : va_W) => r = res.1 ∧ w = (ws_En_wipe cI cJ cB q_p0 q_p0_reader q_p0_tape q_p0_lines q_p0_paper q_p0_moves q_p0_stateSum q_p0_minor q_p0_polynomial q_p0_now q_p0_next q_p0_trial q_p0_latest q_p0_earlier q_p0_spare q_p0_paper_bytes q_p0_paper_digits res.2.1 i_p0_hasRead i_p0_linesDone i_p0_sumsDone res.2.2.1 i_p0_paper_overflown f_p0_paper_bytes res.2.2.2)) := by
  intro sz
  refine vz_start (Qc := fun A => va_Qi (fun (r : Int32) (w : va_W) => r = res.1 ∧ w = (ws_En_wipe cI cJ cB q_p0 q_p0_reader q_p0_tape q_p0_lines q_p0_paper q_p0_moves q_p0_stateSum q_p0_minor q_p0_polynomial q_p0_now q_p0_next q_p0_trial q_p0_latest q_p0_earlier q_p0_spare q_p0_paper_bytes q_p0_paper_digits res.2.1 i_p0_hasRead i_p0_linesDone i_p0_sumsDone res.2.2.1 i_p0_paper_overflown f_p0_paper_bytes res.2.2.2)) (vz_B D A) A) (lv0 := [(0, .ref q_p0), (1, .int x1)]) (by decide +kernel) (Nat.le_of_ble_eq_true rfl) rfl ?_
  intro p e s m below meth c A ls C0 hl
  obtain ⟨hx, hb, hr, hml, hown, ht, hlocks, hin, hN, hK, hP, hD, hA, hS⟩ := C0
  exact w_En_wipe_0 fl q_p0 q_p0_reader q_p0_tape q_p0_lines q_p0_paper q_p0_moves q_p0_stateSum q_p0_minor q_p0_polynomial q_p0_now q_p0_next q_p0_trial q_p0_latest q_p0_earlier q_p0_spare q_p0_paper_bytes q_p0_paper_digits f_p0_paper_bytes i_p0_hasRead i_p0_linesDone i_p0_sumsDone i_p0_paper_overflown res ⟨hx, hb, hr, hml, hown, ht, hlocks, hin, hN, hK, hA⟩ x1 i_p0_onTape i_p0_paper_size f_p0_tape s.heap [] ls hm hP hD hS (lv_sub hl [0, 1] rfl)
def ws_Br_appendSwap (cI cJ cB : ClassId) (q_p0 : Nat) (q_p0_letter : Nat) (q_p0_image : Nat) (q_p0_end : Nat) (i_p0_strands : Int32) (i_p0_letters : Int32) (i_p0_turns : Int32) (i_p0_factors : Int32) (i_p0_formIsKnown : Int32) (f_p0_image : Nat → Int32) : va_W := [(q_p0, .inr (7, [.ref q_p0_letter, .ref q_p0_image, .ref q_p0_end, .int i_p0_strands, .int i_p0_letters, .int i_p0_turns, .int i_p0_factors, .int i_p0_formIsKnown])), (q_p0_image, .inl (cI, 168, .inl f_p0_image))]
def rm_Br_appendSwap : Room := { frames := 0, cells := 0, slots := 0, locals := 0 }
def B_Br_appendSwap_10 (fl : Nat) (i_p0_strands : Int32) : Nat → Int32 → Int32 → Int32 → Int32 → (Nat → Int32) → Option (Int32 × (Nat → Int32))
  | 0, _, _, _, _, _ => none
  | nn + 1, x1, x2, x3, i_p0_factors, f_p0_image => (if i_p0_strands ≤ x3 then (if ¬ ((x2 + x1) < 0 ∨ 168 ≤ Int32.toNatClampNeg (x2 + x1)) then (if ¬ (((x2 + x1) + (1 : Int32)) < 0 ∨ 168 ≤ Int32.toNatClampNeg ((x2 + x1) + (1 : Int32))) then (some ((i_p0_factors + (1 : Int32)), (upd (upd f_p0_image (Int32.toNatClampNeg (x2 + x1)) (x1 + (1 : Int32))) (Int32.toNatClampNeg ((x2 + x1) + (1 : Int32))) x1))) else none) else none) else (if ¬ ((x2 + x3) < 0 ∨ 168 ≤ Int32.toNatClampNeg (x2 + x3)) then B_Br_appendSwap_10 fl i_p0_strands nn x1 x2 (x3 + 1) i_p0_factors (upd f_p0_image (Int32.toNatClampNeg (x2 + x3)) x3) else none))
def B_Br_appendSwap_0 (fl : Nat) (i_p0_strands : Int32) (x1 : Int32) (i_p0_factors : Int32) (f_p0_image : Nat → Int32) : Option (Int32 × (Nat → Int32)) := B_Br_appendSwap_10 fl i_p0_strands fl x1 (i_p0_factors * (8 : Int32)) 0 i_p0_factors f_p0_image
def m_Br_appendSwap (fl : Nat) (i_p0_strands : Int32) (x1 : Int32) (i_p0_factors : Int32) (f_p0_image : Nat → Int32) : Option (Int32 × (Nat → Int32)) := B_Br_appendSwap_0 fl i_p0_strands x1 i_p0_factors f_p0_image
set_option maxHeartbeats 4000000 in
set_option maxRecDepth 100000 in
theorem w_Br_appendSwap_10 {p : Program} {l : Launch} {e : Env} {s : State} {m : MethodId} {args : Array Value} {below : List Frame} {meth : Method} {c : Code} {D : va_G} {cI cJ cB : ClassId} {A : Nat → Prop} (fl : Nat) (q_p0 : Nat) (q_p0_letter : Nat) (q_p0_image : Nat) (q_p0_end : Nat) (i_p0_strands : Int32) (i_p0_letters : Int32) (i_p0_turns : Int32) (i_p0_formIsKnown : Int32) (res : Int32 × (Nat → Int32)) (C0 : vz_Cx p s m meth c b_Br_appendSwap 4 none "LinkEngine$Braid" "appendSwap" D [(cI, .int), (cJ, .long), (cB, .byte)] A args) : ∀ (nn : Nat), ∀ (x1 : Int32) (x2 : Int32) (x3 : Int32) (i_p0_factors : Int32) (f_p0_image : Nat → Int32) (H : Heap) (locs : List Loc) (ls : Array Slot), B_Br_appendSwap_10 fl i_p0_strands nn x1 x2 x3 i_p0_factors f_p0_image = some res → va_P D classes (ws_Br_appendSwap cI cJ cB q_p0 q_p0_letter q_p0_image q_p0_end i_p0_strands i_p0_letters i_p0_turns i_p0_factors i_p0_formIsKnown f_p0_image) H → va_D A (ws_Br_appendSwap cI cJ cB q_p0 q_p0_letter q_p0_image q_p0_end i_p0_strands i_p0_letters i_p0_turns i_p0_factors i_p0_formIsKnown f_p0_image) → va_S A s.heap H locs → lv_has ls 4 [(0, .ref q_p0), (1, .int x1), (2, .int x2), (3, .int x3)] → W p l e rm_Br_appendSwap s m args below meth c H locs 0 0 (MQ below (va_Qv (fun (w : va_W) => w = (ws_Br_appendSwap cI cJ cB q_p0 q_p0_letter q_p0_image q_p0_end i_p0_strands i_p0_letters i_p0_turns res.1 i_p0_formIsKnown res.2)) (vz_B D A) A) args s 0 0 A) (F0 m 10 ls []) := by
  obtain ⟨hx, hb, hr, hml, hown, ht, hlocks, hin, hN, hK, hA⟩ := id C0
  intro nn
  induction nn with
  | zero =>
    intro x1 x2 x3 i_p0_factors f_p0_image H locs ls hm hP hD hS hl
    rw [B_Br_appendSwap_10] at hm
    cases hm
  | succ nn ih =>
    intro x1 x2 x3 i_p0_factors f_p0_image H locs ls hm hP hD hS hl
    rw [B_Br_appendSwap_10] at hm
    refine lv_iload_n hx hb d_Br_appendSwap_10 rfl (lv_at hl 3 rfl) ?_
    refine lv_aload_n hx hb d_Br_appendSwap_11 rfl (lv_at hl 0 rfl) ?_
    refine va_get (D := D) (ci := 7) (v := .int i_p0_strands) (C := R_Br) (T := F_Br) (N := 8) hx hb ht i_Br hown hK hP 0 rfl rfl 3 (Nat.le_of_ble_eq_true rfl) (ht _ m_48) (fun _ h9 => h9) rfl d_Br_appendSwap_12 ?_
    refine lv_icmp_ge (tgt := 33) hx hb d_Br_appendSwap_15 (by decide) (fun hc => ?_) (fun hc => ?_)
    · rw [if_pos hc] at hm
      refine lv_aload_n hx hb d_Br_appendSwap_33 rfl (lv_at hl 0 rfl) ?_
      refine va_get (D := D) (ci := 7) (v := .ref q_p0_image) (C := R_Br) (T := F_Br) (N := 8) hx hb ht i_Br hown hK hP 0 rfl rfl 1 (Nat.le_of_ble_eq_true rfl) (ht _ m_46) (fun _ h9 => h9) rfl d_Br_appendSwap_34 ?_
      refine lv_iload_n hx hb d_Br_appendSwap_37 rfl (lv_at hl 2 rfl) ?_
      refine lv_iload_n hx hb d_Br_appendSwap_38 rfl (lv_at hl 1 rfl) ?_
      refine lv_iadd hx hb d_Br_appendSwap_39 ?_
      refine lv_iload_n hx hb d_Br_appendSwap_40 rfl (lv_at hl 1 rfl) ?_
      refine lv_iconst (v := 1) hx hb d_Br_appendSwap_41 (by decide) ?_
      refine lv_iadd hx hb d_Br_appendSwap_42 ?_
      obtain ⟨hg, hm⟩ := vz_guard hm
      refine va_iast hx hb hK hP hD hS 1 0 rfl rfl hg d_Br_appendSwap_43 (fun H locs hP hD hS => ?_)
      have hP : va_P D classes (ws_Br_appendSwap cI cJ cB q_p0 q_p0_letter q_p0_image q_p0_end i_p0_strands i_p0_letters i_p0_turns i_p0_factors i_p0_formIsKnown (upd f_p0_image (Int32.toNatClampNeg (x2 + x1)) (x1 + (1 : Int32)))) H := hP
      have hD : va_D A (ws_Br_appendSwap cI cJ cB q_p0 q_p0_letter q_p0_image q_p0_end i_p0_strands i_p0_letters i_p0_turns i_p0_factors i_p0_formIsKnown (upd f_p0_image (Int32.toNatClampNeg (x2 + x1)) (x1 + (1 : Int32)))) := hD
      refine lv_aload_n hx hb d_Br_appendSwap_44 rfl (lv_at hl 0 rfl) ?_
      refine va_get (D := D) (ci := 7) (v := .ref q_p0_image) (C := R_Br) (T := F_Br) (N := 8) hx hb ht i_Br hown hK hP 0 rfl rfl 1 (Nat.le_of_ble_eq_true rfl) (ht _ m_46) (fun _ h9 => h9) rfl d_Br_appendSwap_45 ?_
      refine lv_iload_n hx hb d_Br_appendSwap_48 rfl (lv_at hl 2 rfl) ?_
      refine lv_iload_n hx hb d_Br_appendSwap_49 rfl (lv_at hl 1 rfl) ?_
      refine lv_iadd hx hb d_Br_appendSwap_50 ?_
      refine lv_iconst (v := 1) hx hb d_Br_appendSwap_51 (by decide) ?_
      refine lv_iadd hx hb d_Br_appendSwap_52 ?_
      refine lv_iload_n hx hb d_Br_appendSwap_53 rfl (lv_at hl 1 rfl) ?_
      obtain ⟨hg, hm⟩ := vz_guard hm
      refine va_iast hx hb hK hP hD hS 1 0 rfl rfl hg d_Br_appendSwap_54 (fun H locs hP hD hS => ?_)
      have hP : va_P D classes (ws_Br_appendSwap cI cJ cB q_p0 q_p0_letter q_p0_image q_p0_end i_p0_strands i_p0_letters i_p0_turns i_p0_factors i_p0_formIsKnown (upd (upd f_p0_image (Int32.toNatClampNeg (x2 + x1)) (x1 + (1 : Int32))) (Int32.toNatClampNeg ((x2 + x1) + (1 : Int32))) x1)) H := hP
      have hD : va_D A (ws_Br_appendSwap cI cJ cB q_p0 q_p0_letter q_p0_image q_p0_end i_p0_strands i_p0_letters i_p0_turns i_p0_factors i_p0_formIsKnown (upd (upd f_p0_image (Int32.toNatClampNeg (x2 + x1)) (x1 + (1 : Int32))) (Int32.toNatClampNeg ((x2 + x1) + (1 : Int32))) x1)) := hD
      refine lv_aload_n hx hb d_Br_appendSwap_55 rfl (lv_at hl 0 rfl) ?_
      refine lv_dup hx hb d_Br_appendSwap_56 rfl ?_
      refine va_get (D := D) (ci := 7) (v := .int i_p0_factors) (C := R_Br) (T := F_Br) (N := 8) hx hb ht i_Br hown hK hP 0 rfl rfl 6 (Nat.le_of_ble_eq_true rfl) (ht _ m_201) (fun _ h9 => h9) rfl d_Br_appendSwap_57 ?_
      refine lv_iconst (v := 1) hx hb d_Br_appendSwap_60 (by decide) ?_
      refine lv_iadd hx hb d_Br_appendSwap_61 ?_
      refine va_put (D := D) (ci := 7) (v := .int (i_p0_factors + (1 : Int32))) (ty := .int) (C := R_Br) (T := F_Br) (N := 8) hx hb ht i_Br t_Br t_Br_ok n_Br hown hK hP hD hS 0 rfl rfl 6 (Nat.le_of_ble_eq_true rfl) (ht _ m_201) (fun _ h9 => h9) rfl (by decide +kernel) rfl rfl (Nat.le_of_ble_eq_true rfl) d_Br_appendSwap_62 (fun H locs hP hD hS => ?_)
      have hP : va_P D classes (ws_Br_appendSwap cI cJ cB q_p0 q_p0_letter q_p0_image q_p0_end i_p0_strands i_p0_letters i_p0_turns (i_p0_factors + (1 : Int32)) i_p0_formIsKnown (upd (upd f_p0_image (Int32.toNatClampNeg (x2 + x1)) (x1 + (1 : Int32))) (Int32.toNatClampNeg ((x2 + x1) + (1 : Int32))) x1)) H := hP
      have hD : va_D A (ws_Br_appendSwap cI cJ cB q_p0 q_p0_letter q_p0_image q_p0_end i_p0_strands i_p0_letters i_p0_turns (i_p0_factors + (1 : Int32)) i_p0_formIsKnown (upd (upd f_p0_image (Int32.toNatClampNeg (x2 + x1)) (x1 + (1 : Int32))) (Int32.toNatClampNeg ((x2 + x1) + (1 : Int32))) x1)) := hD
      obtain rfl := Option.some.inj hm
      exact vz_vret hx hb hr hlocks hP hD hS (Nat.le_refl _) (Nat.le_refl _) d_Br_appendSwap_65 rfl
    · rw [if_neg hc] at hm
      refine lv_aload_n hx hb d_Br_appendSwap_18 rfl (lv_at hl 0 rfl) ?_
      refine va_get (D := D) (ci := 7) (v := .ref q_p0_image) (C := R_Br) (T := F_Br) (N := 8) hx hb ht i_Br hown hK hP 0 rfl rfl 1 (Nat.le_of_ble_eq_true rfl) (ht _ m_46) (fun _ h9 => h9) rfl d_Br_appendSwap_19 ?_
      refine lv_iload_n hx hb d_Br_appendSwap_22 rfl (lv_at hl 2 rfl) ?_
      refine lv_iload_n hx hb d_Br_appendSwap_23 rfl (lv_at hl 3 rfl) ?_
      refine lv_iadd hx hb d_Br_appendSwap_24 ?_
      refine lv_iload_n hx hb d_Br_appendSwap_25 rfl (lv_at hl 3 rfl) ?_
      obtain ⟨hg, hm⟩ := vz_guard hm
      refine va_iast hx hb hK hP hD hS 1 0 rfl rfl hg d_Br_appendSwap_26 (fun H locs hP hD hS => ?_)
      have hP : va_P D classes (ws_Br_appendSwap cI cJ cB q_p0 q_p0_letter q_p0_image q_p0_end i_p0_strands i_p0_letters i_p0_turns i_p0_factors i_p0_formIsKnown (upd f_p0_image (Int32.toNatClampNeg (x2 + x3)) x3)) H := hP
      have hD : va_D A (ws_Br_appendSwap cI cJ cB q_p0 q_p0_letter q_p0_image q_p0_end i_p0_strands i_p0_letters i_p0_turns i_p0_factors i_p0_formIsKnown (upd f_p0_image (Int32.toNatClampNeg (x2 + x3)) x3)) := hD
      refine lv_iinc (v := (x3 + 1)) (lv' := [(3, .int (x3 + 1)), (0, .ref q_p0), (1, .int x1), (2, .int x2)]) hx hb d_Br_appendSwap_27 hl (k := 3) rfl rfl (by decide) rfl (fun ls hl => ?_)
      refine lv_goto (tgt := 10) hx hb d_Br_appendSwap_30 (by decide) ?_
      exact ih x1 x2 (x3 + 1) i_p0_factors (upd f_p0_image (Int32.toNatClampNeg (x2 + x3)) x3) _ _ _ hm hP hD hS (lv_sub hl [1, 2, 3, 0] rfl)
set_option maxHeartbeats 4000000 in
set_option maxRecDepth 100000 in
theorem w_Br_appendSwap_0 {p : Program} {l : Launch} {e : Env} {s : State} {m : MethodId} {args : Array Value} {below : List Frame} {meth : Method} {c : Code} {D : va_G} {cI cJ cB : ClassId} {A : Nat → Prop} (fl : Nat) (q_p0 : Nat) (q_p0_letter : Nat) (q_p0_image : Nat) (q_p0_end : Nat) (i_p0_strands : Int32) (i_p0_letters : Int32) (i_p0_turns : Int32) (i_p0_formIsKnown : Int32) (res : Int32 × (Nat → Int32)) (C0 : vz_Cx p s m meth c b_Br_appendSwap 4 none "LinkEngine$Braid" "appendSwap" D [(cI, .int), (cJ, .long), (cB, .byte)] A args) : ∀ (x1 : Int32) (i_p0_factors : Int32) (f_p0_image : Nat → Int32) (H : Heap) (locs : List Loc) (ls : Array Slot), B_Br_appendSwap_0 fl i_p0_strands x1 i_p0_factors f_p0_image = some res → va_P D classes (ws_Br_appendSwap cI cJ cB q_p0 q_p0_letter q_p0_image q_p0_end i_p0_strands i_p0_letters i_p0_turns i_p0_factors i_p0_formIsKnown f_p0_image) H → va_D A (ws_Br_appendSwap cI cJ cB q_p0 q_p0_letter q_p0_image q_p0_end i_p0_strands i_p0_letters i_p0_turns i_p0_factors i_p0_formIsKnown f_p0_image) → va_S A s.heap H locs → lv_has ls 4 [(0, .ref q_p0), (1, .int x1)] → W p l e rm_Br_appendSwap s m args below meth c H locs 0 0 (MQ below (va_Qv (fun (w : va_W) => w = (ws_Br_appendSwap cI cJ cB q_p0 q_p0_letter q_p0_image q_p0_end i_p0_strands i_p0_letters i_p0_turns res.1 i_p0_formIsKnown res.2)) (vz_B D A) A) args s 0 0 A) (F0 m 0 ls []) := by
  obtain ⟨hx, hb, hr, hml, hown, ht, hlocks, hin, hN, hK, hA⟩ := id C0
  intro x1 i_p0_factors f_p0_image H locs ls hm hP hD hS hl
  unfold B_Br_appendSwap_0 at hm
  refine lv_aload_n hx hb d_Br_appendSwap_0 rfl (lv_at hl 0 rfl) ?_
  refine va_get (D := D) (ci := 7) (v := .int i_p0_factors) (C := R_Br) (T := F_Br) (N := 8) hx hb ht i_Br hown hK hP 0 rfl rfl 6 (Nat.le_of_ble_eq_true rfl) (ht _ m_201) (fun _ h9 => h9) rfl d_Br_appendSwap_1 ?_
  refine lv_bipush (v := 8) hx hb d_Br_appendSwap_4 (by decide +kernel) ?_
  refine lv_imul hx hb d_Br_appendSwap_6 ?_
  refine lv_istore_n (lv' := [(2, .int (i_p0_factors * (8 : Int32))), (0, .ref q_p0), (1, .int x1)]) hx hb d_Br_appendSwap_7 rfl hl (by decide) rfl (fun ls hl => ?_)
  refine lv_iconst (v := 0) hx hb d_Br_appendSwap_8 (by decide) ?_
  refine lv_istore_n (lv' := [(3, .int 0), (2, .int (i_p0_factors * (8 : Int32))), (0, .ref q_p0), (1, .int x1)]) hx hb d_Br_appendSwap_9 rfl hl (by decide) rfl (fun ls hl => ?_)
  exact w_Br_appendSwap_10 fl q_p0 q_p0_letter q_p0_image q_p0_end i_p0_strands i_p0_letters i_p0_turns i_p0_formIsKnown res C0 fl x1 (i_p0_factors * (8 : Int32)) 0 i_p0_factors f_p0_image _ _ _ hm hP hD hS (lv_sub hl [2, 3, 1, 0] rfl)
set_option maxHeartbeats 4000000 in
set_option maxRecDepth 100000 in
theorem k_Br_appendSwap (l : Launch) (D : va_G) (cI cJ cB : ClassId) (fl : Nat) (q_p0 : Nat) (q_p0_letter : Nat) (q_p0_image : Nat) (q_p0_end : Nat) (i_p0_strands : Int32) (i_p0_letters : Int32) (i_p0_turns : Int32) (i_p0_formIsKnown : Int32) (i_p0_factors : Int32) (f_p0_image : Nat → Int32) (x1 : Int32) (res : Int32 × (Nat → Int32)) (hm : m_Br_appendSwap fl i_p0_strands x1 i_p0_factors f_p0_image = some res) : MtV l y_Br_appendSwap (.code y_Br_appendSwap b_Br_appendSwap 4 none :: CW) rm_Br_appendSwap D [(cI, .int), (cJ, .long), (cB, .byte)] [.ref q_p0, .int x1] (ws_Br_appendSwap cI cJ cB q_p0 q_p0_letter q_p0_image q_p0_end i_p0_strands i_p0_letters i_p0_turns i_p0_factors i_p0_formIsKnown f_p0_image) (fun (w : va_W) => w = (ws_Br_appendSwap cI cJ cB q_p0 q_p0_letter q_p0_image q_p0_end i_p0_strands i_p0_letters i_p0_turns res.1 i_p0_formIsKnown res.2)) := by
  intro sz
  refine vz_start (Qc := fun A => va_Qv (fun (w : va_W) => w = (ws_Br_appendSwap cI cJ cB q_p0 q_p0_letter q_p0_image q_p0_end i_p0_strands i_p0_letters i_p0_turns res.1 i_p0_formIsKnown res.2)) (vz_B D A) A) (lv0 := [(0, .ref q_p0), (1, .int x1)]) (by decide +kernel) (Nat.le_of_ble_eq_true rfl) rfl ?_
  intro p e s m below meth c A ls C0 hl
  obtain ⟨hx, hb, hr, hml, hown, ht, hlocks, hin, hN, hK, hP, hD, hA, hS⟩ := C0
  exact w_Br_appendSwap_0 fl q_p0 q_p0_letter q_p0_image q_p0_end i_p0_strands i_p0_letters i_p0_turns i_p0_formIsKnown res ⟨hx, hb, hr, hml, hown, ht, hlocks, hin, hN, hK, hA⟩ x1 i_p0_factors f_p0_image s.heap [] ls hm hP hD hS (lv_sub hl [0, 1] rfl)
def ws_Br_conjugateByTurn (cI cJ cB : ClassId) (q_p0 : Nat) (q_p0_letter : Nat) (q_p0_image : Nat) (q_p0_end : Nat) (i_p0_strands : Int32) (i_p0_letters : Int32) (i_p0_turns : Int32) (i_p0_factors : Int32) (i_p0_formIsKnown : Int32) (f_p0_image : Nat → Int32) : va_W := [(q_p0, .inr (7, [.ref q_p0_letter, .ref q_p0_image, .ref q_p0_end, .int i_p0_strands, .int i_p0_letters, .int i_p0_turns, .int i_p0_factors, .int i_p0_formIsKnown])), (q_p0_image, .inl (cI, 168, .inl f_p0_image))]
def rm_Br_conjugateByTurn : Room := { frames := 0, cells := 0, slots := 0, locals := 0 }
def B_Br_conjugateByTurn_9 (fl : Nat) (i_p0_strands : Int32) : Nat → Int32 → Int32 → Int32 → (Nat → Int32) → Option ((Nat → Int32))
  | 0, _, _, _, _ => none
  | nn + 1, x1, x2, x3, f_p0_image => (if (x2 - x3) < x3 then (some f_p0_image) else (if ¬ ((x1 + x3) < 0 ∨ 168 ≤ Int32.toNatClampNeg (x1 + x3)) then (if ¬ (((x1 + x2) - x3) < 0 ∨ 168 ≤ Int32.toNatClampNeg ((x1 + x2) - x3)) then (if ¬ ((x1 + x3) < 0 ∨ 168 ≤ Int32.toNatClampNeg (x1 + x3)) then (if ¬ (((x1 + x2) - x3) < 0 ∨ 168 ≤ Int32.toNatClampNeg ((x1 + x2) - x3)) then B_Br_conjugateByTurn_9 fl i_p0_strands nn x1 x2 (x3 + 1) (upd (upd f_p0_image (Int32.toNatClampNeg (x1 + x3)) (x2 - (f_p0_image (Int32.toNatClampNeg ((x1 + x2) - x3))))) (Int32.toNatClampNeg ((x1 + x2) - x3)) (x2 - (f_p0_image (Int32.toNatClampNeg (x1 + x3))))) else none) else none) else none) else none))
def B_Br_conjugateByTurn_0 (fl : Nat) (i_p0_strands : Int32) (x1 : Int32) (f_p0_image : Nat → Int32) : Option ((Nat → Int32)) := B_Br_conjugateByTurn_9 fl i_p0_strands fl x1 (i_p0_strands - (1 : Int32)) 0 f_p0_image
def m_Br_conjugateByTurn (fl : Nat) (i_p0_strands : Int32) (x1 : Int32) (f_p0_image : Nat → Int32) : Option ((Nat → Int32)) := B_Br_conjugateByTurn_0 fl i_p0_strands x1 f_p0_image
set_option maxHeartbeats 4000000 in
set_option maxRecDepth 100000 in
theorem w_Br_conjugateByTurn_9 {p : Program} {l : Launch} {e : Env} {s : State} {m : MethodId} {args : Array Value} {below : List Frame} {meth : Method} {c : Code} {D : va_G} {cI cJ cB : ClassId} {A : Nat → Prop} (fl : Nat) (q_p0 : Nat) (q_p0_letter : Nat) (q_p0_image : Nat) (q_p0_end : Nat) (i_p0_strands : Int32) (i_p0_letters : Int32) (i_p0_turns : Int32) (i_p0_factors : Int32) (i_p0_formIsKnown : Int32) (res : (Nat → Int32)) (C0 : vz_Cx p s m meth c b_Br_conjugateByTurn 5 none "LinkEngine$Braid" "conjugateByTurn" D [(cI, .int), (cJ, .long), (cB, .byte)] A args) : ∀ (nn : Nat), ∀ (x1 : Int32) (x2 : Int32) (x3 : Int32) (f_p0_image : Nat → Int32) (H : Heap) (locs : List Loc) (ls : Array Slot), B_Br_conjugateByTurn_9 fl i_p0_strands nn x1 x2 x3 f_p0_image = some res → va_P D classes (ws_Br_conjugateByTurn cI cJ cB q_p0 q_p0_letter q_p0_image q_p0_end i_p0_strands i_p0_letters i_p0_turns i_p0_factors i_p0_formIsKnown f_p0_image) H → va_D A (ws_Br_conjugateByTurn cI cJ cB q_p0 q_p0_letter q_p0_image q_p0_end i_p0_strands i_p0_letters i_p0_turns i_p0_factors i_p0_formIsKnown f_p0_image) → va_S A s.heap H locs → lv_has ls 5 [(0, .ref q_p0), (1, .int x1), (2, .int x2), (3, .int x3)] → W p l e rm_Br_conjugateByTurn s m args below meth c H locs 0 0 (MQ below (va_Qv (fun (w : va_W) => w = (ws_Br_conjugateByTurn cI cJ cB q_p0 q_p0_letter q_p0_image q_p0_end i_p0_strands i_p0_letters i_p0_turns i_p0_factors i_p0_formIsKnown res)) (vz_B D A) A) args s 0 0 A) (F0 m 9 ls []) := by
  obtain ⟨hx, hb, hr, hml, hown, ht, hlocks, hin, hN, hK, hA⟩ := id C0
  intro nn
  induction nn with
  | zero =>
    intro x1 x2 x3 f_p0_image H locs ls hm hP hD hS hl
    rw [B_Br_conjugateByTurn_9] at hm
    cases hm
  | succ nn ih =>
    intro x1 x2 x3 f_p0_image H locs ls hm hP hD hS hl
    rw [B_Br_conjugateByTurn_9] at hm
    refine lv_iload_n hx hb d_Br_conjugateByTurn_9 rfl (lv_at hl 3 rfl) ?_
    refine lv_iload_n hx hb d_Br_conjugateByTurn_10 rfl (lv_at hl 2 rfl) ?_
    refine lv_iload_n hx hb d_Br_conjugateByTurn_11 rfl (lv_at hl 3 rfl) ?_
    refine lv_isub hx hb d_Br_conjugateByTurn_12 ?_
    refine lv_icmp_gt (tgt := 66) hx hb d_Br_conjugateByTurn_13 (by decide) (fun hc => ?_) (fun hc => ?_)
    · rw [if_pos hc] at hm
      obtain rfl := Option.some.inj hm
      exact vz_vret hx hb hr hlocks hP hD hS (Nat.le_refl _) (Nat.le_refl _) d_Br_conjugateByTurn_66 rfl
    · rw [if_neg hc] at hm
      refine lv_aload_n hx hb d_Br_conjugateByTurn_16 rfl (lv_at hl 0 rfl) ?_
      refine va_get (D := D) (ci := 7) (v := .ref q_p0_image) (C := R_Br) (T := F_Br) (N := 8) hx hb ht i_Br hown hK hP 0 rfl rfl 1 (Nat.le_of_ble_eq_true rfl) (ht _ m_46) (fun _ h9 => h9) rfl d_Br_conjugateByTurn_17 ?_
      refine lv_iload_n hx hb d_Br_conjugateByTurn_20 rfl (lv_at hl 1 rfl) ?_
      refine lv_iload_n hx hb d_Br_conjugateByTurn_21 rfl (lv_at hl 3 rfl) ?_
      refine lv_iadd hx hb d_Br_conjugateByTurn_22 ?_
      obtain ⟨hg, hm⟩ := vz_guard hm
      refine va_iald hx hb hK hP 1 0 rfl rfl hg d_Br_conjugateByTurn_23 ?_
      refine lv_istore (lv' := [(4, .int (f_p0_image (Int32.toNatClampNeg (x1 + x3)))), (0, .ref q_p0), (1, .int x1), (2, .int x2), (3, .int x3)]) hx hb d_Br_conjugateByTurn_24 hl (by decide) rfl (fun ls hl => ?_)
      refine lv_aload_n hx hb d_Br_conjugateByTurn_26 rfl (lv_at hl 1 rfl) ?_
      refine va_get (D := D) (ci := 7) (v := .ref q_p0_image) (C := R_Br) (T := F_Br) (N := 8) hx hb ht i_Br hown hK hP 0 rfl rfl 1 (Nat.le_of_ble_eq_true rfl) (ht _ m_46) (fun _ h9 => h9) rfl d_Br_conjugateByTurn_27 ?_
      refine lv_iload_n hx hb d_Br_conjugateByTurn_30 rfl (lv_at hl 2 rfl) ?_
      refine lv_iload_n hx hb d_Br_conjugateByTurn_31 rfl (lv_at hl 4 rfl) ?_
      refine lv_iadd hx hb d_Br_conjugateByTurn_32 ?_
      refine lv_iload_n hx hb d_Br_conjugateByTurn_33 rfl (lv_at hl 3 rfl) ?_
      refine lv_aload_n hx hb d_Br_conjugateByTurn_34 rfl (lv_at hl 1 rfl) ?_
      refine va_get (D := D) (ci := 7) (v := .ref q_p0_image) (C := R_Br) (T := F_Br) (N := 8) hx hb ht i_Br hown hK hP 0 rfl rfl 1 (Nat.le_of_ble_eq_true rfl) (ht _ m_46) (fun _ h9 => h9) rfl d_Br_conjugateByTurn_35 ?_
      refine lv_iload_n hx hb d_Br_conjugateByTurn_38 rfl (lv_at hl 2 rfl) ?_
      refine lv_iload_n hx hb d_Br_conjugateByTurn_39 rfl (lv_at hl 3 rfl) ?_
      refine lv_iadd hx hb d_Br_conjugateByTurn_40 ?_
      refine lv_iload_n hx hb d_Br_conjugateByTurn_41 rfl (lv_at hl 4 rfl) ?_
      refine lv_isub hx hb d_Br_conjugateByTurn_42 ?_
      obtain ⟨hg, hm⟩ := vz_guard hm
      refine va_iald hx hb hK hP 1 0 rfl rfl hg d_Br_conjugateByTurn_43 ?_
      refine lv_isub hx hb d_Br_conjugateByTurn_44 ?_
      obtain ⟨hg, hm⟩ := vz_guard hm
      refine va_iast hx hb hK hP hD hS 1 0 rfl rfl hg d_Br_conjugateByTurn_45 (fun H locs hP hD hS => ?_)
      have hP : va_P D classes (ws_Br_conjugateByTurn cI cJ cB q_p0 q_p0_letter q_p0_image q_p0_end i_p0_strands i_p0_letters i_p0_turns i_p0_factors i_p0_formIsKnown (upd f_p0_image (Int32.toNatClampNeg (x1 + x3)) (x2 - (f_p0_image (Int32.toNatClampNeg ((x1 + x2) - x3)))))) H := hP
      have hD : va_D A (ws_Br_conjugateByTurn cI cJ cB q_p0 q_p0_letter q_p0_image q_p0_end i_p0_strands i_p0_letters i_p0_turns i_p0_factors i_p0_formIsKnown (upd f_p0_image (Int32.toNatClampNeg (x1 + x3)) (x2 - (f_p0_image (Int32.toNatClampNeg ((x1 + x2) - x3)))))) := hD
      refine lv_aload_n hx hb d_Br_conjugateByTurn_46 rfl (lv_at hl 1 rfl) ?_
      refine va_get (D := D) (ci := 7) (v := .ref q_p0_image) (C := R_Br) (T := F_Br) (N := 8) hx hb ht i_Br hown hK hP 0 rfl rfl 1 (Nat.le_of_ble_eq_true rfl) (ht _ m_46) (fun _ h9 => h9) rfl d_Br_conjugateByTurn_47 ?_
      refine lv_iload_n hx hb d_Br_conjugateByTurn_50 rfl (lv_at hl 2 rfl) ?_
      refine lv_iload_n hx hb d_Br_conjugateByTurn_51 rfl (lv_at hl 3 rfl) ?_
      refine lv_iadd hx hb d_Br_conjugateByTurn_52 ?_
      refine lv_iload_n hx hb d_Br_conjugateByTurn_53 rfl (lv_at hl 4 rfl) ?_
      refine lv_isub hx hb d_Br_conjugateByTurn_54 ?_
      refine lv_iload_n hx hb d_Br_conjugateByTurn_55 rfl (lv_at hl 3 rfl) ?_
      refine lv_iload hx hb d_Br_conjugateByTurn_56 (lv_at hl 0 rfl) ?_
      refine lv_isub hx hb d_Br_conjugateByTurn_58 ?_
      obtain ⟨hg, hm⟩ := vz_guard hm
      refine va_iast hx hb hK hP hD hS 1 0 rfl rfl hg d_Br_conjugateByTurn_59 (fun H locs hP hD hS => ?_)
      have hP : va_P D classes (ws_Br_conjugateByTurn cI cJ cB q_p0 q_p0_letter q_p0_image q_p0_end i_p0_strands i_p0_letters i_p0_turns i_p0_factors i_p0_formIsKnown (upd (upd f_p0_image (Int32.toNatClampNeg (x1 + x3)) (x2 - (f_p0_image (Int32.toNatClampNeg ((x1 + x2) - x3))))) (Int32.toNatClampNeg ((x1 + x2) - x3)) (x2 - (f_p0_image (Int32.toNatClampNeg (x1 + x3)))))) H := hP
      have hD : va_D A (ws_Br_conjugateByTurn cI cJ cB q_p0 q_p0_letter q_p0_image q_p0_end i_p0_strands i_p0_letters i_p0_turns i_p0_factors i_p0_formIsKnown (upd (upd f_p0_image (Int32.toNatClampNeg (x1 + x3)) (x2 - (f_p0_image (Int32.toNatClampNeg ((x1 + x2) - x3))))) (Int32.toNatClampNeg ((x1 + x2) - x3)) (x2 - (f_p0_image (Int32.toNatClampNeg (x1 + x3)))))) := hD
      refine lv_iinc (v := (x3 + 1)) (lv' := [(3, .int (x3 + 1)), (4, .int (f_p0_image (Int32.toNatClampNeg (x1 + x3)))), (0, .ref q_p0), (1, .int x1), (2, .int x2)]) hx hb d_Br_conjugateByTurn_60 hl (k := 4) rfl rfl (by decide) rfl (fun ls hl => ?_)
      refine lv_goto (tgt := 9) hx hb d_Br_conjugateByTurn_63 (by decide) ?_
      exact ih x1 x2 (x3 + 1) (upd (upd f_p0_image (Int32.toNatClampNeg (x1 + x3)) (x2 - (f_p0_image (Int32.toNatClampNeg ((x1 + x2) - x3))))) (Int32.toNatClampNeg ((x1 + x2) - x3)) (x2 - (f_p0_image (Int32.toNatClampNeg (x1 + x3))))) _ _ _ hm hP hD hS (lv_sub hl [2, 3, 4, 0] rfl)
set_option maxHeartbeats 4000000 in
set_option maxRecDepth 100000 in
theorem w_Br_conjugateByTurn_0 {p : Program} {l : Launch} {e : Env} {s : State} {m : MethodId} {args : Array Value} {below : List Frame} {meth : Method} {c : Code} {D : va_G} {cI cJ cB : ClassId} {A : Nat → Prop} (fl : Nat) (q_p0 : Nat) (q_p0_letter : Nat) (q_p0_image : Nat) (q_p0_end : Nat) (i_p0_strands : Int32) (i_p0_letters : Int32) (i_p0_turns : Int32) (i_p0_factors : Int32) (i_p0_formIsKnown : Int32) (res : (Nat → Int32)) (C0 : vz_Cx p s m meth c b_Br_conjugateByTurn 5 none "LinkEngine$Braid" "conjugateByTurn" D [(cI, .int), (cJ, .long), (cB, .byte)] A args) : ∀ (x1 : Int32) (f_p0_image : Nat → Int32) (H : Heap) (locs : List Loc) (ls : Array Slot), B_Br_conjugateByTurn_0 fl i_p0_strands x1 f_p0_image = some res → va_P D classes (ws_Br_conjugateByTurn cI cJ cB q_p0 q_p0_letter q_p0_image q_p0_end i_p0_strands i_p0_letters i_p0_turns i_p0_factors i_p0_formIsKnown f_p0_image) H → va_D A (ws_Br_conjugateByTurn cI cJ cB q_p0 q_p0_letter q_p0_image q_p0_end i_p0_strands i_p0_letters i_p0_turns i_p0_factors i_p0_formIsKnown f_p0_image) → va_S A s.heap H locs → lv_has ls 5 [(0, .ref q_p0), (1, .int x1)] → W p l e rm_Br_conjugateByTurn s m args below meth c H locs 0 0 (MQ below (va_Qv (fun (w : va_W) => w = (ws_Br_conjugateByTurn cI cJ cB q_p0 q_p0_letter q_p0_image q_p0_end i_p0_strands i_p0_letters i_p0_turns i_p0_factors i_p0_formIsKnown res)) (vz_B D A) A) args s 0 0 A) (F0 m 0 ls []) := by
  obtain ⟨hx, hb, hr, hml, hown, ht, hlocks, hin, hN, hK, hA⟩ := id C0
  intro x1 f_p0_image H locs ls hm hP hD hS hl
  unfold B_Br_conjugateByTurn_0 at hm
  refine lv_aload_n hx hb d_Br_conjugateByTurn_0 rfl (lv_at hl 0 rfl) ?_
  refine va_get (D := D) (ci := 7) (v := .int i_p0_strands) (C := R_Br) (T := F_Br) (N := 8) hx hb ht i_Br hown hK hP 0 rfl rfl 3 (Nat.le_of_ble_eq_true rfl) (ht _ m_48) (fun _ h9 => h9) rfl d_Br_conjugateByTurn_1 ?_
  refine lv_iconst (v := 1) hx hb d_Br_conjugateByTurn_4 (by decide) ?_
  refine lv_isub hx hb d_Br_conjugateByTurn_5 ?_
  refine lv_istore_n (lv' := [(2, .int (i_p0_strands - (1 : Int32))), (0, .ref q_p0), (1, .int x1)]) hx hb d_Br_conjugateByTurn_6 rfl hl (by decide) rfl (fun ls hl => ?_)
  refine lv_iconst (v := 0) hx hb d_Br_conjugateByTurn_7 (by decide) ?_
  refine lv_istore_n (lv' := [(3, .int 0), (2, .int (i_p0_strands - (1 : Int32))), (0, .ref q_p0), (1, .int x1)]) hx hb d_Br_conjugateByTurn_8 rfl hl (by decide) rfl (fun ls hl => ?_)
  exact w_Br_conjugateByTurn_9 fl q_p0 q_p0_letter q_p0_image q_p0_end i_p0_strands i_p0_letters i_p0_turns i_p0_factors i_p0_formIsKnown res C0 fl x1 (i_p0_strands - (1 : Int32)) 0 f_p0_image _ _ _ hm hP hD hS (lv_sub hl [2, 3, 1, 0] rfl)
set_option maxHeartbeats 4000000 in
set_option maxRecDepth 100000 in
theorem k_Br_conjugateByTurn (l : Launch) (D : va_G) (cI cJ cB : ClassId) (fl : Nat) (q_p0 : Nat) (q_p0_letter : Nat) (q_p0_image : Nat) (q_p0_end : Nat) (i_p0_strands : Int32) (i_p0_letters : Int32) (i_p0_turns : Int32) (i_p0_factors : Int32) (i_p0_formIsKnown : Int32) (f_p0_image : Nat → Int32) (x1 : Int32) (res : (Nat → Int32)) (hm : m_Br_conjugateByTurn fl i_p0_strands x1 f_p0_image = some res) : MtV l y_Br_conjugateByTurn (.code y_Br_conjugateByTurn b_Br_conjugateByTurn 5 none :: CW) rm_Br_conjugateByTurn D [(cI, .int), (cJ, .long), (cB, .byte)] [.ref q_p0, .int x1] (ws_Br_conjugateByTurn cI cJ cB q_p0 q_p0_letter q_p0_image q_p0_end i_p0_strands i_p0_letters i_p0_turns i_p0_factors i_p0_formIsKnown f_p0_image) (fun (w : va_W) => w = (ws_Br_conjugateByTurn cI cJ cB q_p0 q_p0_letter q_p0_image q_p0_end i_p0_strands i_p0_letters i_p0_turns i_p0_factors i_p0_formIsKnown res)) := by
  intro sz
  refine vz_start (Qc := fun A => va_Qv (fun (w : va_W) => w = (ws_Br_conjugateByTurn cI cJ cB q_p0 q_p0_letter q_p0_image q_p0_end i_p0_strands i_p0_letters i_p0_turns i_p0_factors i_p0_formIsKnown res)) (vz_B D A) A) (lv0 := [(0, .ref q_p0), (1, .int x1)]) (by decide +kernel) (Nat.le_of_ble_eq_true rfl) rfl ?_
  intro p e s m below meth c A ls C0 hl
  obtain ⟨hx, hb, hr, hml, hown, ht, hlocks, hin, hN, hK, hP, hD, hA, hS⟩ := C0
  exact w_Br_conjugateByTurn_0 fl q_p0 q_p0_letter q_p0_image q_p0_end i_p0_strands i_p0_letters i_p0_turns i_p0_factors i_p0_formIsKnown res ⟨hx, hb, hr, hml, hown, ht, hlocks, hin, hN, hK, hA⟩ x1 f_p0_image s.heap [] ls hm hP hD hS (lv_sub hl [0, 1] rfl)
def ws_Br_moveSwap (cI cJ cB : ClassId) (q_p0 : Nat) (q_p0_letter : Nat) (q_p0_image : Nat) (q_p0_end : Nat) (i_p0_strands : Int32) (i_p0_letters : Int32) (i_p0_turns : Int32) (i_p0_factors : Int32) (i_p0_formIsKnown : Int32) (f_p0_end : Nat → Int32) (f_p0_image : Nat → Int32) : va_W := [(q_p0, .inr (7, [.ref q_p0_letter, .ref q_p0_image, .ref q_p0_end, .int i_p0_strands, .int i_p0_letters, .int i_p0_turns, .int i_p0_factors, .int i_p0_formIsKnown])), (q_p0_end, .inl (cI, 8, .inl f_p0_end)), (q_p0_image, .inl (cI, 168, .inl f_p0_image))]
def rm_Br_moveSwap : Room := { frames := 0, cells := 0, slots := 0, locals := 0 }
def B_Br_moveSwap_0 (fl : Nat) (x1 : Int32) (x2 : Int32) (x3 : Int32) (f_p0_end : Nat → Int32) (f_p0_image : Nat → Int32) : Option ((Nat → Int32) × (Nat → Int32)) := (if ¬ (x3 < 0 ∨ 8 ≤ Int32.toNatClampNeg x3) then (if ¬ ((x3 + (1 : Int32)) < 0 ∨ 8 ≤ Int32.toNatClampNeg (x3 + (1 : Int32))) then (if ¬ ((x1 + (f_p0_end (Int32.toNatClampNeg x3))) < 0 ∨ 168 ≤ Int32.toNatClampNeg (x1 + (f_p0_end (Int32.toNatClampNeg x3)))) then (if ¬ ((x1 + (f_p0_end (Int32.toNatClampNeg (x3 + (1 : Int32))))) < 0 ∨ 168 ≤ Int32.toNatClampNeg (x1 + (f_p0_end (Int32.toNatClampNeg (x3 + (1 : Int32)))))) then (if ¬ (x3 < 0 ∨ 8 ≤ Int32.toNatClampNeg x3) then (if ¬ ((x3 + (1 : Int32)) < 0 ∨ 8 ≤ Int32.toNatClampNeg (x3 + (1 : Int32))) then (if ¬ ((x2 + x3) < 0 ∨ 168 ≤ Int32.toNatClampNeg (x2 + x3)) then (if ¬ (((x2 + x3) + (1 : Int32)) < 0 ∨ 168 ≤ Int32.toNatClampNeg ((x2 + x3) + (1 : Int32))) then (if ¬ ((x2 + x3) < 0 ∨ 168 ≤ Int32.toNatClampNeg (x2 + x3)) then (if ¬ (((x2 + x3) + (1 : Int32)) < 0 ∨ 168 ≤ Int32.toNatClampNeg ((x2 + x3) + (1 : Int32))) then (some ((upd (upd f_p0_end (Int32.toNatClampNeg x3) (f_p0_end (Int32.toNatClampNeg (x3 + (1 : Int32))))) (Int32.toNatClampNeg (x3 + (1 : Int32))) (f_p0_end (Int32.toNatClampNeg x3))), (upd (upd (upd (upd f_p0_image (Int32.toNatClampNeg (x1 + (f_p0_end (Int32.toNatClampNeg x3)))) (x3 + (1 : Int32))) (Int32.toNatClampNeg (x1 + (f_p0_end (Int32.toNatClampNeg (x3 + (1 : Int32)))))) x3) (Int32.toNatClampNeg (x2 + x3)) ((upd (upd f_p0_image (Int32.toNatClampNeg (x1 + (f_p0_end (Int32.toNatClampNeg x3)))) (x3 + (1 : Int32))) (Int32.toNatClampNeg (x1 + (f_p0_end (Int32.toNatClampNeg (x3 + (1 : Int32)))))) x3) (Int32.toNatClampNeg ((x2 + x3) + (1 : Int32))))) (Int32.toNatClampNeg ((x2 + x3) + (1 : Int32))) ((upd (upd f_p0_image (Int32.toNatClampNeg (x1 + (f_p0_end (Int32.toNatClampNeg x3)))) (x3 + (1 : Int32))) (Int32.toNatClampNeg (x1 + (f_p0_end (Int32.toNatClampNeg (x3 + (1 : Int32)))))) x3) (Int32.toNatClampNeg (x2 + x3)))))) else none) else none) else none) else none) else none) else none) else none) else none) else none) else none)
def m_Br_moveSwap (fl : Nat) (x1 : Int32) (x2 : Int32) (x3 : Int32) (f_p0_end : Nat → Int32) (f_p0_image : Nat → Int32) : Option ((Nat → Int32) × (Nat → Int32)) := B_Br_moveSwap_0 fl  x1 x2 x3 f_p0_end f_p0_image
set_option maxHeartbeats 4000000 in
set_option maxRecDepth 100000 in
theorem w_Br_moveSwap_0 {p : Program} {l : Launch} {e : Env} {s : State} {m : MethodId} {args : Array Value} {below : List Frame} {meth : Method} {c : Code} {D : va_G} {cI cJ cB : ClassId} {A : Nat → Prop} (fl : Nat) (q_p0 : Nat) (q_p0_letter : Nat) (q_p0_image : Nat) (q_p0_end : Nat) (i_p0_strands : Int32) (i_p0_letters : Int32) (i_p0_turns : Int32) (i_p0_factors : Int32) (i_p0_formIsKnown : Int32) (res : (Nat → Int32) × (Nat → Int32)) (C0 : vz_Cx p s m meth c b_Br_moveSwap 7 none "LinkEngine$Braid" "moveSwap" D [(cI, .int), (cJ, .long), (cB, .byte)] A args) : ∀ (x1 : Int32) (x2 : Int32) (x3 : Int32) (f_p0_end : Nat → Int32) (f_p0_image : Nat → Int32) (H : Heap) (locs : List Loc) (ls : Array Slot), B_Br_moveSwap_0 fl x1 x2 x3 f_p0_end f_p0_image = some res → va_P D classes (ws_Br_moveSwap cI cJ cB q_p0 q_p0_letter q_p0_image q_p0_end i_p0_strands i_p0_letters i_p0_turns i_p0_factors i_p0_formIsKnown f_p0_end f_p0_image) H → va_D A (ws_Br_moveSwap cI cJ cB q_p0 q_p0_letter q_p0_image q_p0_end i_p0_strands i_p0_letters i_p0_turns i_p0_factors i_p0_formIsKnown f_p0_end f_p0_image) → va_S A s.heap H locs → lv_has ls 7 [(0, .ref q_p0), (1, .int x1), (2, .int x2), (3, .int x3)] → W p l e rm_Br_moveSwap s m args below meth c H locs 0 0 (MQ below (va_Qv (fun (w : va_W) => w = (ws_Br_moveSwap cI cJ cB q_p0 q_p0_letter q_p0_image q_p0_end i_p0_strands i_p0_letters i_p0_turns i_p0_factors i_p0_formIsKnown res.1 res.2)) (vz_B D A) A) args s 0 0 A) (F0 m 0 ls []) := by
  obtain ⟨hx, hb, hr, hml, hown, ht, hlocks, hin, hN, hK, hA⟩ := id C0
  intro x1 x2 x3 f_p0_end f_p0_image H locs ls hm hP hD hS hl
  unfold B_Br_moveSwap_0 at hm
  refine lv_aload_n hx hb d_Br_moveSwap_0 rfl (lv_at hl 0 rfl) ?_
  refine va_get (D := D) (ci := 7) (v := .ref q_p0_end) (C := R_Br) (T := F_Br) (N := 8) hx hb ht i_Br hown hK hP 0 rfl rfl 2 (Nat.le_of_ble_eq_true rfl) (ht _ m_47) (fun _ h9 => h9) rfl d_Br_moveSwap_1 ?_
  refine lv_iload_n hx hb d_Br_moveSwap_4 rfl (lv_at hl 3 rfl) ?_
  obtain ⟨hg, hm⟩ := vz_guard hm
  refine va_iald hx hb hK hP 1 0 rfl rfl hg d_Br_moveSwap_5 ?_
  refine lv_istore (lv' := [(4, .int (f_p0_end (Int32.toNatClampNeg x3))), (0, .ref q_p0), (1, .int x1), (2, .int x2), (3, .int x3)]) hx hb d_Br_moveSwap_6 hl (by decide) rfl (fun ls hl => ?_)
  refine lv_aload_n hx hb d_Br_moveSwap_8 rfl (lv_at hl 1 rfl) ?_
  refine va_get (D := D) (ci := 7) (v := .ref q_p0_end) (C := R_Br) (T := F_Br) (N := 8) hx hb ht i_Br hown hK hP 0 rfl rfl 2 (Nat.le_of_ble_eq_true rfl) (ht _ m_47) (fun _ h9 => h9) rfl d_Br_moveSwap_9 ?_
  refine lv_iload_n hx hb d_Br_moveSwap_12 rfl (lv_at hl 4 rfl) ?_
  refine lv_iconst (v := 1) hx hb d_Br_moveSwap_13 (by decide) ?_
  refine lv_iadd hx hb d_Br_moveSwap_14 ?_
  obtain ⟨hg, hm⟩ := vz_guard hm
  refine va_iald hx hb hK hP 1 0 rfl rfl hg d_Br_moveSwap_15 ?_
  refine lv_istore (lv' := [(5, .int (f_p0_end (Int32.toNatClampNeg (x3 + (1 : Int32))))), (4, .int (f_p0_end (Int32.toNatClampNeg x3))), (0, .ref q_p0), (1, .int x1), (2, .int x2), (3, .int x3)]) hx hb d_Br_moveSwap_16 hl (by decide) rfl (fun ls hl => ?_)
  refine lv_aload_n hx hb d_Br_moveSwap_18 rfl (lv_at hl 2 rfl) ?_
  refine va_get (D := D) (ci := 7) (v := .ref q_p0_image) (C := R_Br) (T := F_Br) (N := 8) hx hb ht i_Br hown hK hP 0 rfl rfl 1 (Nat.le_of_ble_eq_true rfl) (ht _ m_46) (fun _ h9 => h9) rfl d_Br_moveSwap_19 ?_
  refine lv_iload_n hx hb d_Br_moveSwap_22 rfl (lv_at hl 3 rfl) ?_
  refine lv_iload hx hb d_Br_moveSwap_23 (lv_at hl 1 rfl) ?_
  refine lv_iadd hx hb d_Br_moveSwap_25 ?_
  refine lv_iload_n hx hb d_Br_moveSwap_26 rfl (lv_at hl 5 rfl) ?_
  refine lv_iconst (v := 1) hx hb d_Br_moveSwap_27 (by decide) ?_
  refine lv_iadd hx hb d_Br_moveSwap_28 ?_
  obtain ⟨hg, hm⟩ := vz_guard hm
  refine va_iast hx hb hK hP hD hS 2 0 rfl rfl hg d_Br_moveSwap_29 (fun H locs hP hD hS => ?_)
  have hP : va_P D classes (ws_Br_moveSwap cI cJ cB q_p0 q_p0_letter q_p0_image q_p0_end i_p0_strands i_p0_letters i_p0_turns i_p0_factors i_p0_formIsKnown f_p0_end (upd f_p0_image (Int32.toNatClampNeg (x1 + (f_p0_end (Int32.toNatClampNeg x3)))) (x3 + (1 : Int32)))) H := hP
  have hD : va_D A (ws_Br_moveSwap cI cJ cB q_p0 q_p0_letter q_p0_image q_p0_end i_p0_strands i_p0_letters i_p0_turns i_p0_factors i_p0_formIsKnown f_p0_end (upd f_p0_image (Int32.toNatClampNeg (x1 + (f_p0_end (Int32.toNatClampNeg x3)))) (x3 + (1 : Int32)))) := hD
  refine lv_aload_n hx hb d_Br_moveSwap_30 rfl (lv_at hl 2 rfl) ?_
  refine va_get (D := D) (ci := 7) (v := .ref q_p0_image) (C := R_Br) (T := F_Br) (N := 8) hx hb ht i_Br hown hK hP 0 rfl rfl 1 (Nat.le_of_ble_eq_true rfl) (ht _ m_46) (fun _ h9 => h9) rfl d_Br_moveSwap_31 ?_
  refine lv_iload_n hx hb d_Br_moveSwap_34 rfl (lv_at hl 3 rfl) ?_
  refine lv_iload hx hb d_Br_moveSwap_35 (lv_at hl 0 rfl) ?_
  refine lv_iadd hx hb d_Br_moveSwap_37 ?_
  refine lv_iload_n hx hb d_Br_moveSwap_38 rfl (lv_at hl 5 rfl) ?_
  obtain ⟨hg, hm⟩ := vz_guard hm
  refine va_iast hx hb hK hP hD hS 2 0 rfl rfl hg d_Br_moveSwap_39 (fun H locs hP hD hS => ?_)
  have hP : va_P D classes (ws_Br_moveSwap cI cJ cB q_p0 q_p0_letter q_p0_image q_p0_end i_p0_strands i_p0_letters i_p0_turns i_p0_factors i_p0_formIsKnown f_p0_end (upd (upd f_p0_image (Int32.toNatClampNeg (x1 + (f_p0_end (Int32.toNatClampNeg x3)))) (x3 + (1 : Int32))) (Int32.toNatClampNeg (x1 + (f_p0_end (Int32.toNatClampNeg (x3 + (1 : Int32)))))) x3)) H := hP
  have hD : va_D A (ws_Br_moveSwap cI cJ cB q_p0 q_p0_letter q_p0_image q_p0_end i_p0_strands i_p0_letters i_p0_turns i_p0_factors i_p0_formIsKnown f_p0_end (upd (upd f_p0_image (Int32.toNatClampNeg (x1 + (f_p0_end (Int32.toNatClampNeg x3)))) (x3 + (1 : Int32))) (Int32.toNatClampNeg (x1 + (f_p0_end (Int32.toNatClampNeg (x3 + (1 : Int32)))))) x3)) := hD
  refine lv_aload_n hx hb d_Br_moveSwap_40 rfl (lv_at hl 2 rfl) ?_
  refine va_get (D := D) (ci := 7) (v := .ref q_p0_end) (C := R_Br) (T := F_Br) (N := 8) hx hb ht i_Br hown hK hP 0 rfl rfl 2 (Nat.le_of_ble_eq_true rfl) (ht _ m_47) (fun _ h9 => h9) rfl d_Br_moveSwap_41 ?_
  refine lv_iload_n hx hb d_Br_moveSwap_44 rfl (lv_at hl 5 rfl) ?_
  refine lv_iload hx hb d_Br_moveSwap_45 (lv_at hl 0 rfl) ?_
  obtain ⟨hg, hm⟩ := vz_guard hm
  refine va_iast hx hb hK hP hD hS 1 0 rfl rfl hg d_Br_moveSwap_47 (fun H locs hP hD hS => ?_)
  have hP : va_P D classes (ws_Br_moveSwap cI cJ cB q_p0 q_p0_letter q_p0_image q_p0_end i_p0_strands i_p0_letters i_p0_turns i_p0_factors i_p0_formIsKnown (upd f_p0_end (Int32.toNatClampNeg x3) (f_p0_end (Int32.toNatClampNeg (x3 + (1 : Int32))))) (upd (upd f_p0_image (Int32.toNatClampNeg (x1 + (f_p0_end (Int32.toNatClampNeg x3)))) (x3 + (1 : Int32))) (Int32.toNatClampNeg (x1 + (f_p0_end (Int32.toNatClampNeg (x3 + (1 : Int32)))))) x3)) H := hP
  have hD : va_D A (ws_Br_moveSwap cI cJ cB q_p0 q_p0_letter q_p0_image q_p0_end i_p0_strands i_p0_letters i_p0_turns i_p0_factors i_p0_formIsKnown (upd f_p0_end (Int32.toNatClampNeg x3) (f_p0_end (Int32.toNatClampNeg (x3 + (1 : Int32))))) (upd (upd f_p0_image (Int32.toNatClampNeg (x1 + (f_p0_end (Int32.toNatClampNeg x3)))) (x3 + (1 : Int32))) (Int32.toNatClampNeg (x1 + (f_p0_end (Int32.toNatClampNeg (x3 + (1 : Int32)))))) x3)) := hD
  refine lv_aload_n hx hb d_Br_moveSwap_48 rfl (lv_at hl 2 rfl) ?_
  refine va_get (D := D) (ci := 7) (v := .ref q_p0_end) (C := R_Br) (T := F_Br) (N := 8) hx hb ht i_Br hown hK hP 0 rfl rfl 2 (Nat.le_of_ble_eq_true rfl) (ht _ m_47) (fun _ h9 => h9) rfl d_Br_moveSwap_49 ?_
  refine lv_iload_n hx hb d_Br_moveSwap_52 rfl (lv_at hl 5 rfl) ?_
  refine lv_iconst (v := 1) hx hb d_Br_moveSwap_53 (by decide) ?_
  refine lv_iadd hx hb d_Br_moveSwap_54 ?_
  refine lv_iload hx hb d_Br_moveSwap_55 (lv_at hl 1 rfl) ?_
  obtain ⟨hg, hm⟩ := vz_guard hm
  refine va_iast hx hb hK hP hD hS 1 0 rfl rfl hg d_Br_moveSwap_57 (fun H locs hP hD hS => ?_)
  have hP : va_P D classes (ws_Br_moveSwap cI cJ cB q_p0 q_p0_letter q_p0_image q_p0_end i_p0_strands i_p0_letters i_p0_turns i_p0_factors i_p0_formIsKnown (upd (upd f_p0_end (Int32.toNatClampNeg x3) (f_p0_end (Int32.toNatClampNeg (x3 + (1 : Int32))))) (Int32.toNatClampNeg (x3 + (1 : Int32))) (f_p0_end (Int32.toNatClampNeg x3))) (upd (upd f_p0_image (Int32.toNatClampNeg (x1 + (f_p0_end (Int32.toNatClampNeg x3)))) (x3 + (1 : Int32))) (Int32.toNatClampNeg (x1 + (f_p0_end (Int32.toNatClampNeg (x3 + (1 : Int32)))))) x3)) H := hP
  have hD : va_D A (ws_Br_moveSwap cI cJ cB q_p0 q_p0_letter q_p0_image q_p0_end i_p0_strands i_p0_letters i_p0_turns i_p0_factors i_p0_formIsKnown (upd (upd f_p0_end (Int32.toNatClampNeg x3) (f_p0_end (Int32.toNatClampNeg (x3 + (1 : Int32))))) (Int32.toNatClampNeg (x3 + (1 : Int32))) (f_p0_end (Int32.toNatClampNeg x3))) (upd (upd f_p0_image (Int32.toNatClampNeg (x1 + (f_p0_end (Int32.toNatClampNeg x3)))) (x3 + (1 : Int32))) (Int32.toNatClampNeg (x1 + (f_p0_end (Int32.toNatClampNeg (x3 + (1 : Int32)))))) x3)) := hD
  refine lv_aload_n hx hb d_Br_moveSwap_58 rfl (lv_at hl 2 rfl) ?_
  refine va_get (D := D) (ci := 7) (v := .ref q_p0_image) (C := R_Br) (T := F_Br) (N := 8) hx hb ht i_Br hown hK hP 0 rfl rfl 1 (Nat.le_of_ble_eq_true rfl) (ht _ m_46) (fun _ h9 => h9) rfl d_Br_moveSwap_59 ?_
  refine lv_iload_n hx hb d_Br_moveSwap_62 rfl (lv_at hl 4 rfl) ?_
  refine lv_iload_n hx hb d_Br_moveSwap_63 rfl (lv_at hl 5 rfl) ?_
  refine lv_iadd hx hb d_Br_moveSwap_64 ?_
  obtain ⟨hg, hm⟩ := vz_guard hm
  refine va_iald hx hb hK hP 2 0 rfl rfl hg d_Br_moveSwap_65 ?_
  refine lv_istore (lv' := [(6, .int ((upd (upd f_p0_image (Int32.toNatClampNeg (x1 + (f_p0_end (Int32.toNatClampNeg x3)))) (x3 + (1 : Int32))) (Int32.toNatClampNeg (x1 + (f_p0_end (Int32.toNatClampNeg (x3 + (1 : Int32)))))) x3) (Int32.toNatClampNeg (x2 + x3)))), (5, .int (f_p0_end (Int32.toNatClampNeg (x3 + (1 : Int32))))), (4, .int (f_p0_end (Int32.toNatClampNeg x3))), (0, .ref q_p0), (1, .int x1), (2, .int x2), (3, .int x3)]) hx hb d_Br_moveSwap_66 hl (by decide) rfl (fun ls hl => ?_)
  refine lv_aload_n hx hb d_Br_moveSwap_68 rfl (lv_at hl 3 rfl) ?_
  refine va_get (D := D) (ci := 7) (v := .ref q_p0_image) (C := R_Br) (T := F_Br) (N := 8) hx hb ht i_Br hown hK hP 0 rfl rfl 1 (Nat.le_of_ble_eq_true rfl) (ht _ m_46) (fun _ h9 => h9) rfl d_Br_moveSwap_69 ?_
  refine lv_iload_n hx hb d_Br_moveSwap_72 rfl (lv_at hl 5 rfl) ?_
  refine lv_iload_n hx hb d_Br_moveSwap_73 rfl (lv_at hl 6 rfl) ?_
  refine lv_iadd hx hb d_Br_moveSwap_74 ?_
  refine lv_aload_n hx hb d_Br_moveSwap_75 rfl (lv_at hl 3 rfl) ?_
  refine va_get (D := D) (ci := 7) (v := .ref q_p0_image) (C := R_Br) (T := F_Br) (N := 8) hx hb ht i_Br hown hK hP 0 rfl rfl 1 (Nat.le_of_ble_eq_true rfl) (ht _ m_46) (fun _ h9 => h9) rfl d_Br_moveSwap_76 ?_
  refine lv_iload_n hx hb d_Br_moveSwap_79 rfl (lv_at hl 5 rfl) ?_
  refine lv_iload_n hx hb d_Br_moveSwap_80 rfl (lv_at hl 6 rfl) ?_
  refine lv_iadd hx hb d_Br_moveSwap_81 ?_
  refine lv_iconst (v := 1) hx hb d_Br_moveSwap_82 (by decide) ?_
  refine lv_iadd hx hb d_Br_moveSwap_83 ?_
  obtain ⟨hg, hm⟩ := vz_guard hm
  refine va_iald hx hb hK hP 2 0 rfl rfl hg d_Br_moveSwap_84 ?_
  obtain ⟨hg, hm⟩ := vz_guard hm
  refine va_iast hx hb hK hP hD hS 2 0 rfl rfl hg d_Br_moveSwap_85 (fun H locs hP hD hS => ?_)
  have hP : va_P D classes (ws_Br_moveSwap cI cJ cB q_p0 q_p0_letter q_p0_image q_p0_end i_p0_strands i_p0_letters i_p0_turns i_p0_factors i_p0_formIsKnown (upd (upd f_p0_end (Int32.toNatClampNeg x3) (f_p0_end (Int32.toNatClampNeg (x3 + (1 : Int32))))) (Int32.toNatClampNeg (x3 + (1 : Int32))) (f_p0_end (Int32.toNatClampNeg x3))) (upd (upd (upd f_p0_image (Int32.toNatClampNeg (x1 + (f_p0_end (Int32.toNatClampNeg x3)))) (x3 + (1 : Int32))) (Int32.toNatClampNeg (x1 + (f_p0_end (Int32.toNatClampNeg (x3 + (1 : Int32)))))) x3) (Int32.toNatClampNeg (x2 + x3)) ((upd (upd f_p0_image (Int32.toNatClampNeg (x1 + (f_p0_end (Int32.toNatClampNeg x3)))) (x3 + (1 : Int32))) (Int32.toNatClampNeg (x1 + (f_p0_end (Int32.toNatClampNeg (x3 + (1 : Int32)))))) x3) (Int32.toNatClampNeg ((x2 + x3) + (1 : Int32)))))) H := hP
  have hD : va_D A (ws_Br_moveSwap cI cJ cB q_p0 q_p0_letter q_p0_image q_p0_end i_p0_strands i_p0_letters i_p0_turns i_p0_factors i_p0_formIsKnown (upd (upd f_p0_end (Int32.toNatClampNeg x3) (f_p0_end (Int32.toNatClampNeg (x3 + (1 : Int32))))) (Int32.toNatClampNeg (x3 + (1 : Int32))) (f_p0_end (Int32.toNatClampNeg x3))) (upd (upd (upd f_p0_image (Int32.toNatClampNeg (x1 + (f_p0_end (Int32.toNatClampNeg x3)))) (x3 + (1 : Int32))) (Int32.toNatClampNeg (x1 + (f_p0_end (Int32.toNatClampNeg (x3 + (1 : Int32)))))) x3) (Int32.toNatClampNeg (x2 + x3)) ((upd (upd f_p0_image (Int32.toNatClampNeg (x1 + (f_p0_end (Int32.toNatClampNeg x3)))) (x3 + (1 : Int32))) (Int32.toNatClampNeg (x1 + (f_p0_end (Int32.toNatClampNeg (x3 + (1 : Int32)))))) x3) (Int32.toNatClampNeg ((x2 + x3) + (1 : Int32)))))) := hD
  refine lv_aload_n hx hb d_Br_moveSwap_86 rfl (lv_at hl 3 rfl) ?_
  refine va_get (D := D) (ci := 7) (v := .ref q_p0_image) (C := R_Br) (T := F_Br) (N := 8) hx hb ht i_Br hown hK hP 0 rfl rfl 1 (Nat.le_of_ble_eq_true rfl) (ht _ m_46) (fun _ h9 => h9) rfl d_Br_moveSwap_87 ?_
  refine lv_iload_n hx hb d_Br_moveSwap_90 rfl (lv_at hl 5 rfl) ?_
  refine lv_iload_n hx hb d_Br_moveSwap_91 rfl (lv_at hl 6 rfl) ?_
  refine lv_iadd hx hb d_Br_moveSwap_92 ?_
  refine lv_iconst (v := 1) hx hb d_Br_moveSwap_93 (by decide) ?_
  refine lv_iadd hx hb d_Br_moveSwap_94 ?_
  refine lv_iload hx hb d_Br_moveSwap_95 (lv_at hl 0 rfl) ?_
  obtain ⟨hg, hm⟩ := vz_guard hm
  refine va_iast hx hb hK hP hD hS 2 0 rfl rfl hg d_Br_moveSwap_97 (fun H locs hP hD hS => ?_)
  have hP : va_P D classes (ws_Br_moveSwap cI cJ cB q_p0 q_p0_letter q_p0_image q_p0_end i_p0_strands i_p0_letters i_p0_turns i_p0_factors i_p0_formIsKnown (upd (upd f_p0_end (Int32.toNatClampNeg x3) (f_p0_end (Int32.toNatClampNeg (x3 + (1 : Int32))))) (Int32.toNatClampNeg (x3 + (1 : Int32))) (f_p0_end (Int32.toNatClampNeg x3))) (upd (upd (upd (upd f_p0_image (Int32.toNatClampNeg (x1 + (f_p0_end (Int32.toNatClampNeg x3)))) (x3 + (1 : Int32))) (Int32.toNatClampNeg (x1 + (f_p0_end (Int32.toNatClampNeg (x3 + (1 : Int32)))))) x3) (Int32.toNatClampNeg (x2 + x3)) ((upd (upd f_p0_image (Int32.toNatClampNeg (x1 + (f_p0_end (Int32.toNatClampNeg x3)))) (x3 + (1 : Int32))) (Int32.toNatClampNeg (x1 + (f_p0_end (Int32.toNatClampNeg (x3 + (1 : Int32)))))) x3) (Int32.toNatClampNeg ((x2 + x3) + (1 : Int32))))) (Int32.toNatClampNeg ((x2 + x3) + (1 : Int32))) ((upd (upd f_p0_image (Int32.toNatClampNeg (x1 + (f_p0_end (Int32.toNatClampNeg x3)))) (x3 + (1 : Int32))) (Int32.toNatClampNeg (x1 + (f_p0_end (Int32.toNatClampNeg (x3 + (1 : Int32)))))) x3) (Int32.toNatClampNeg (x2 + x3))))) H := hP
  have hD : va_D A (ws_Br_moveSwap cI cJ cB q_p0 q_p0_letter q_p0_image q_p0_end i_p0_strands i_p0_letters i_p0_turns i_p0_factors i_p0_formIsKnown (upd (upd f_p0_end (Int32.toNatClampNeg x3) (f_p0_end (Int32.toNatClampNeg (x3 + (1 : Int32))))) (Int32.toNatClampNeg (x3 + (1 : Int32))) (f_p0_end (Int32.toNatClampNeg x3))) (upd (upd (upd (upd f_p0_image (Int32.toNatClampNeg (x1 + (f_p0_end (Int32.toNatClampNeg x3)))) (x3 + (1 : Int32))) (Int32.toNatClampNeg (x1 + (f_p0_end (Int32.toNatClampNeg (x3 + (1 : Int32)))))) x3) (Int32.toNatClampNeg (x2 + x3)) ((upd (upd f_p0_image (Int32.toNatClampNeg (x1 + (f_p0_end (Int32.toNatClampNeg x3)))) (x3 + (1 : Int32))) (Int32.toNatClampNeg (x1 + (f_p0_end (Int32.toNatClampNeg (x3 + (1 : Int32)))))) x3) (Int32.toNatClampNeg ((x2 + x3) + (1 : Int32))))) (Int32.toNatClampNeg ((x2 + x3) + (1 : Int32))) ((upd (upd f_p0_image (Int32.toNatClampNeg (x1 + (f_p0_end (Int32.toNatClampNeg x3)))) (x3 + (1 : Int32))) (Int32.toNatClampNeg (x1 + (f_p0_end (Int32.toNatClampNeg (x3 + (1 : Int32)))))) x3) (Int32.toNatClampNeg (x2 + x3))))) := hD
  obtain rfl := Option.some.inj hm
  exact vz_vret hx hb hr hlocks hP hD hS (Nat.le_refl _) (Nat.le_refl _) d_Br_moveSwap_98 rfl
set_option maxHeartbeats 4000000 in
set_option maxRecDepth 100000 in
theorem k_Br_moveSwap (l : Launch) (D : va_G) (cI cJ cB : ClassId) (fl : Nat) (q_p0 : Nat) (q_p0_letter : Nat) (q_p0_image : Nat) (q_p0_end : Nat) (i_p0_strands : Int32) (i_p0_letters : Int32) (i_p0_turns : Int32) (i_p0_factors : Int32) (i_p0_formIsKnown : Int32) (f_p0_end : Nat → Int32) (f_p0_image : Nat → Int32) (x1 : Int32) (x2 : Int32) (x3 : Int32) (res : (Nat → Int32) × (Nat → Int32)) (hm : m_Br_moveSwap fl x1 x2 x3 f_p0_end f_p0_image = some res) : MtV l y_Br_moveSwap (.code y_Br_moveSwap b_Br_moveSwap 7 none :: CW) rm_Br_moveSwap D [(cI, .int), (cJ, .long), (cB, .byte)] [.ref q_p0, .int x1, .int x2, .int x3] (ws_Br_moveSwap cI cJ cB q_p0 q_p0_letter q_p0_image q_p0_end i_p0_strands i_p0_letters i_p0_turns i_p0_factors i_p0_formIsKnown f_p0_end f_p0_image) (fun (w : va_W) => w = (ws_Br_moveSwap cI cJ cB q_p0 q_p0_letter q_p0_image q_p0_end i_p0_strands i_p0_letters i_p0_turns i_p0_factors i_p0_formIsKnown res.1 res.2)) := by
  intro sz
  refine vz_start (Qc := fun A => va_Qv (fun (w : va_W) => w = (ws_Br_moveSwap cI cJ cB q_p0 q_p0_letter q_p0_image q_p0_end i_p0_strands i_p0_letters i_p0_turns i_p0_factors i_p0_formIsKnown res.1 res.2)) (vz_B D A) A) (lv0 := [(0, .ref q_p0), (1, .int x1), (2, .int x2), (3, .int x3)]) (by decide +kernel) (Nat.le_of_ble_eq_true rfl) rfl ?_
  intro p e s m below meth c A ls C0 hl
  obtain ⟨hx, hb, hr, hml, hown, ht, hlocks, hin, hN, hK, hP, hD, hA, hS⟩ := C0
  exact w_Br_moveSwap_0 fl q_p0 q_p0_letter q_p0_image q_p0_end i_p0_strands i_p0_letters i_p0_turns i_p0_factors i_p0_formIsKnown res ⟨hx, hb, hr, hml, hown, ht, hlocks, hin, hN, hK, hA⟩ x1 x2 x3 f_p0_end f_p0_image s.heap [] ls hm hP hD hS (lv_sub hl [0, 1, 2, 3] rfl)
def ws_Br_isNone (cI cJ cB : ClassId) (q_p0 : Nat) (q_p0_letter : Nat) (q_p0_image : Nat) (q_p0_end : Nat) (i_p0_strands : Int32) (i_p0_letters : Int32) (i_p0_turns : Int32) (i_p0_factors : Int32) (i_p0_formIsKnown : Int32) (f_p0_image : Nat → Int32) : va_W := [(q_p0, .inr (7, [.ref q_p0_letter, .ref q_p0_image, .ref q_p0_end, .int i_p0_strands, .int i_p0_letters, .int i_p0_turns, .int i_p0_factors, .int i_p0_formIsKnown])), (q_p0_image, .inl (cI, 168, .inl f_p0_image))]
def rm_Br_isNone : Room := { frames := 0, cells := 0, slots := 0, locals := 0 }
def B_Br_isNone_2 (fl : Nat) (i_p0_strands : Int32) (f_p0_image : Nat → Int32) : Nat → Int32 → Int32 → Option (Int32)
  | 0, _, _ => none
  | nn + 1, x1, x2 => (if i_p0_strands ≤ x2 then (some 1) else (if ¬ ((x1 + x2) < 0 ∨ 168 ≤ Int32.toNatClampNeg (x1 + x2)) then (if (f_p0_image (Int32.toNatClampNeg (x1 + x2))) = x2 then B_Br_isNone_2 fl i_p0_strands f_p0_image nn x1 (x2 + 1) else (some 0)) else none))
def B_Br_isNone_0 (fl : Nat) (i_p0_strands : Int32) (f_p0_image : Nat → Int32) (x1 : Int32) : Option (Int32) := B_Br_isNone_2 fl i_p0_strands f_p0_image fl x1 0
def m_Br_isNone (fl : Nat) (i_p0_strands : Int32) (f_p0_image : Nat → Int32) (x1 : Int32) : Option (Int32) := B_Br_isNone_0 fl i_p0_strands f_p0_image x1
set_option maxHeartbeats 4000000 in
set_option maxRecDepth 100000 in
theorem w_Br_isNone_2 {p : Program} {l : Launch} {e : Env} {s : State} {m : MethodId} {args : Array Value} {below : List Frame} {meth : Method} {c : Code} {D : va_G} {cI cJ cB : ClassId} {A : Nat → Prop} (fl : Nat) (q_p0 : Nat) (q_p0_letter : Nat) (q_p0_image : Nat) (q_p0_end : Nat) (i_p0_strands : Int32) (f_p0_image : Nat → Int32) (i_p0_letters : Int32) (i_p0_turns : Int32) (i_p0_factors : Int32) (i_p0_formIsKnown : Int32) (res : Int32) (C0 : vz_Cx p s m meth c b_Br_isNone 3 (some .boolean) "LinkEngine$Braid" "isNone" D [(cI, .int), (cJ, .long), (cB, .byte)] A args) : ∀ (nn : Nat), ∀ (x1 : Int32) (x2 : Int32) (H : Heap) (locs : List Loc) (ls : Array Slot), B_Br_isNone_2 fl i_p0_strands f_p0_image nn x1 x2 = some res → va_P D classes (ws_Br_isNone cI cJ cB q_p0 q_p0_letter q_p0_image q_p0_end i_p0_strands i_p0_letters i_p0_turns i_p0_factors i_p0_formIsKnown f_p0_image) H → va_D A (ws_Br_isNone cI cJ cB q_p0 q_p0_letter q_p0_image q_p0_end i_p0_strands i_p0_letters i_p0_turns i_p0_factors i_p0_formIsKnown f_p0_image) → va_S A s.heap H locs → lv_has ls 3 [(0, .ref q_p0), (1, .int x1), (2, .int x2)] → W p l e rm_Br_isNone s m args below meth c H locs 0 0 (MQ below (va_Qi (fun (r : Int32) (w : va_W) => r = res ∧ w = (ws_Br_isNone cI cJ cB q_p0 q_p0_letter q_p0_image q_p0_end i_p0_strands i_p0_letters i_p0_turns i_p0_factors i_p0_formIsKnown f_p0_image)) (vz_B D A) A) args s 0 0 A) (F0 m 2 ls []) := by
  obtain ⟨hx, hb, hr, hml, hown, ht, hlocks, hin, hN, hK, hA⟩ := id C0
  intro nn
  induction nn with
  | zero =>
    intro x1 x2 H locs ls hm hP hD hS hl
    rw [B_Br_isNone_2] at hm
    cases hm
  | succ nn ih =>
    intro x1 x2 H locs ls hm hP hD hS hl
    rw [B_Br_isNone_2] at hm
    refine lv_iload_n hx hb d_Br_isNone_2 rfl (lv_at hl 2 rfl) ?_
    refine lv_aload_n hx hb d_Br_isNone_3 rfl (lv_at hl 0 rfl) ?_
    refine va_get (D := D) (ci := 7) (v := .int i_p0_strands) (C := R_Br) (T := F_Br) (N := 8) hx hb ht i_Br hown hK hP 0 rfl rfl 3 (Nat.le_of_ble_eq_true rfl) (ht _ m_48) (fun _ h9 => h9) rfl d_Br_isNone_4 ?_
    refine lv_icmp_ge (tgt := 30) hx hb d_Br_isNone_7 (by decide) (fun hc => ?_) (fun hc => ?_)
    · rw [if_pos hc] at hm
      refine lv_iconst (v := 1) hx hb d_Br_isNone_30 (by decide) ?_
      obtain rfl := Option.some.inj hm
      exact vz_iret hx hb hr rfl hlocks hP hD hS (Nat.le_refl _) (Nat.le_refl _) d_Br_isNone_31 ⟨rfl, rfl⟩
    · rw [if_neg hc] at hm
      refine lv_aload_n hx hb d_Br_isNone_10 rfl (lv_at hl 0 rfl) ?_
      refine va_get (D := D) (ci := 7) (v := .ref q_p0_image) (C := R_Br) (T := F_Br) (N := 8) hx hb ht i_Br hown hK hP 0 rfl rfl 1 (Nat.le_of_ble_eq_true rfl) (ht _ m_46) (fun _ h9 => h9) rfl d_Br_isNone_11 ?_
      refine lv_iload_n hx hb d_Br_isNone_14 rfl (lv_at hl 1 rfl) ?_
      refine lv_iload_n hx hb d_Br_isNone_15 rfl (lv_at hl 2 rfl) ?_
      refine lv_iadd hx hb d_Br_isNone_16 ?_
      obtain ⟨hg, hm⟩ := vz_guard hm
      refine va_iald hx hb hK hP 1 0 rfl rfl hg d_Br_isNone_17 ?_
      refine lv_iload_n hx hb d_Br_isNone_18 rfl (lv_at hl 2 rfl) ?_
      refine lv_icmp_eq (tgt := 24) hx hb d_Br_isNone_19 (by decide) (fun hc => ?_) (fun hc => ?_)
      · rw [if_pos hc] at hm
        refine lv_iinc (v := (x2 + 1)) (lv' := [(2, .int (x2 + 1)), (0, .ref q_p0), (1, .int x1)]) hx hb d_Br_isNone_24 hl (k := 2) rfl rfl (by decide) rfl (fun ls hl => ?_)
        refine lv_goto (tgt := 2) hx hb d_Br_isNone_27 (by decide) ?_
        exact ih x1 (x2 + 1) _ _ _ hm hP hD hS (lv_sub hl [1, 2, 0] rfl)
      · rw [if_neg hc] at hm
        refine lv_iconst (v := 0) hx hb d_Br_isNone_22 (by decide) ?_
        obtain rfl := Option.some.inj hm
        exact vz_iret hx hb hr rfl hlocks hP hD hS (Nat.le_refl _) (Nat.le_refl _) d_Br_isNone_23 ⟨rfl, rfl⟩
set_option maxHeartbeats 4000000 in
set_option maxRecDepth 100000 in
theorem w_Br_isNone_0 {p : Program} {l : Launch} {e : Env} {s : State} {m : MethodId} {args : Array Value} {below : List Frame} {meth : Method} {c : Code} {D : va_G} {cI cJ cB : ClassId} {A : Nat → Prop} (fl : Nat) (q_p0 : Nat) (q_p0_letter : Nat) (q_p0_image : Nat) (q_p0_end : Nat) (i_p0_strands : Int32) (f_p0_image : Nat → Int32) (i_p0_letters : Int32) (i_p0_turns : Int32) (i_p0_factors : Int32) (i_p0_formIsKnown : Int32) (res : Int32) (C0 : vz_Cx p s m meth c b_Br_isNone 3 (some .boolean) "LinkEngine$Braid" "isNone" D [(cI, .int), (cJ, .long), (cB, .byte)] A args) : ∀ (x1 : Int32) (H : Heap) (locs : List Loc) (ls : Array Slot), B_Br_isNone_0 fl i_p0_strands f_p0_image x1 = some res → va_P D classes (ws_Br_isNone cI cJ cB q_p0 q_p0_letter q_p0_image q_p0_end i_p0_strands i_p0_letters i_p0_turns i_p0_factors i_p0_formIsKnown f_p0_image) H → va_D A (ws_Br_isNone cI cJ cB q_p0 q_p0_letter q_p0_image q_p0_end i_p0_strands i_p0_letters i_p0_turns i_p0_factors i_p0_formIsKnown f_p0_image) → va_S A s.heap H locs → lv_has ls 3 [(0, .ref q_p0), (1, .int x1)] → W p l e rm_Br_isNone s m args below meth c H locs 0 0 (MQ below (va_Qi (fun (r : Int32) (w : va_W) => r = res ∧ w = (ws_Br_isNone cI cJ cB q_p0 q_p0_letter q_p0_image q_p0_end i_p0_strands i_p0_letters i_p0_turns i_p0_factors i_p0_formIsKnown f_p0_image)) (vz_B D A) A) args s 0 0 A) (F0 m 0 ls []) := by
  obtain ⟨hx, hb, hr, hml, hown, ht, hlocks, hin, hN, hK, hA⟩ := id C0
  intro x1 H locs ls hm hP hD hS hl
  unfold B_Br_isNone_0 at hm
  refine lv_iconst (v := 0) hx hb d_Br_isNone_0 (by decide) ?_
  refine lv_istore_n (lv' := [(2, .int 0), (0, .ref q_p0), (1, .int x1)]) hx hb d_Br_isNone_1 rfl hl (by decide) rfl (fun ls hl => ?_)
  exact w_Br_isNone_2 fl q_p0 q_p0_letter q_p0_image q_p0_end i_p0_strands f_p0_image i_p0_letters i_p0_turns i_p0_factors i_p0_formIsKnown res C0 fl x1 0 _ _ _ hm hP hD hS (lv_sub hl [1, 2, 0] rfl)
set_option maxHeartbeats 4000000 in
set_option maxRecDepth 100000 in
theorem k_Br_isNone (l : Launch) (D : va_G) (cI cJ cB : ClassId) (fl : Nat) (q_p0 : Nat) (q_p0_letter : Nat) (q_p0_image : Nat) (q_p0_end : Nat) (i_p0_strands : Int32) (f_p0_image : Nat → Int32) (i_p0_letters : Int32) (i_p0_turns : Int32) (i_p0_factors : Int32) (i_p0_formIsKnown : Int32) (x1 : Int32) (res : Int32) (hm : m_Br_isNone fl i_p0_strands f_p0_image x1 = some res) : MtI l y_Br_isNone (.code y_Br_isNone b_Br_isNone 3 (some .boolean) :: CW) rm_Br_isNone D [(cI, .int), (cJ, .long), (cB, .byte)] [.ref q_p0, .int x1] (ws_Br_isNone cI cJ cB q_p0 q_p0_letter q_p0_image q_p0_end i_p0_strands i_p0_letters i_p0_turns i_p0_factors i_p0_formIsKnown f_p0_image) (fun (r : Int32) (w : va_W) => r = res ∧ w = (ws_Br_isNone cI cJ cB q_p0 q_p0_letter q_p0_image q_p0_end i_p0_strands i_p0_letters i_p0_turns i_p0_factors i_p0_formIsKnown f_p0_image)) := by
  intro sz
  refine vz_start (Qc := fun A => va_Qi (fun (r : Int32) (w : va_W) => r = res ∧ w = (ws_Br_isNone cI cJ cB q_p0 q_p0_letter q_p0_image q_p0_end i_p0_strands i_p0_letters i_p0_turns i_p0_factors i_p0_formIsKnown f_p0_image)) (vz_B D A) A) (lv0 := [(0, .ref q_p0), (1, .int x1)]) (by decide +kernel) (Nat.le_of_ble_eq_true rfl) rfl ?_
  intro p e s m below meth c A ls C0 hl
  obtain ⟨hx, hb, hr, hml, hown, ht, hlocks, hin, hN, hK, hP, hD, hA, hS⟩ := C0
  exact w_Br_isNone_0 fl q_p0 q_p0_letter q_p0_image q_p0_end i_p0_strands f_p0_image i_p0_letters i_p0_turns i_p0_factors i_p0_formIsKnown res ⟨hx, hb, hr, hml, hown, ht, hlocks, hin, hN, hK, hA⟩ x1 s.heap [] ls hm hP hD hS (lv_sub hl [0, 1] rfl)
def ws_Br_isTurn (cI cJ cB : ClassId) (q_p0 : Nat) (q_p0_letter : Nat) (q_p0_image : Nat) (q_p0_end : Nat) (i_p0_strands : Int32) (i_p0_letters : Int32) (i_p0_turns : Int32) (i_p0_factors : Int32) (i_p0_formIsKnown : Int32) (f_p0_image : Nat → Int32) : va_W := [(q_p0, .inr (7, [.ref q_p0_letter, .ref q_p0_image, .ref q_p0_end, .int i_p0_strands, .int i_p0_letters, .int i_p0_turns, .int i_p0_factors, .int i_p0_formIsKnown])), (q_p0_image, .inl (cI, 168, .inl f_p0_image))]
def rm_Br_isTurn : Room := { frames := 0, cells := 0, slots := 0, locals := 0 }
def B_Br_isTurn_2 (fl : Nat) (i_p0_strands : Int32) (f_p0_image : Nat → Int32) : Nat → Int32 → Int32 → Option (Int32)
  | 0, _, _ => none
  | nn + 1, x1, x2 => (if i_p0_strands ≤ x2 then (some 1) else (if ¬ ((x1 + x2) < 0 ∨ 168 ≤ Int32.toNatClampNeg (x1 + x2)) then (if (f_p0_image (Int32.toNatClampNeg (x1 + x2))) = ((i_p0_strands - (1 : Int32)) - x2) then B_Br_isTurn_2 fl i_p0_strands f_p0_image nn x1 (x2 + 1) else (some 0)) else none))
def B_Br_isTurn_0 (fl : Nat) (i_p0_strands : Int32) (f_p0_image : Nat → Int32) (x1 : Int32) : Option (Int32) := B_Br_isTurn_2 fl i_p0_strands f_p0_image fl x1 0
def m_Br_isTurn (fl : Nat) (i_p0_strands : Int32) (f_p0_image : Nat → Int32) (x1 : Int32) : Option (Int32) := B_Br_isTurn_0 fl i_p0_strands f_p0_image x1
set_option maxHeartbeats 4000000 in
set_option maxRecDepth 100000 in
theorem w_Br_isTurn_2 {p : Program} {l : Launch} {e : Env} {s : State} {m : MethodId} {args : Array Value} {below : List Frame} {meth : Method} {c : Code} {D : va_G} {cI cJ cB : ClassId} {A : Nat → Prop} (fl : Nat) (q_p0 : Nat) (q_p0_letter : Nat) (q_p0_image : Nat) (q_p0_end : Nat) (i_p0_strands : Int32) (f_p0_image : Nat → Int32) (i_p0_letters : Int32) (i_p0_turns : Int32) (i_p0_factors : Int32) (i_p0_formIsKnown : Int32) (res : Int32) (C0 : vz_Cx p s m meth c b_Br_isTurn 3 (some .boolean) "LinkEngine$Braid" "isTurn" D [(cI, .int), (cJ, .long), (cB, .byte)] A args) : ∀ (nn : Nat), ∀ (x1 : Int32) (x2 : Int32) (H : Heap) (locs : List Loc) (ls : Array Slot), B_Br_isTurn_2 fl i_p0_strands f_p0_image nn x1 x2 = some res → va_P D classes (ws_Br_isTurn cI cJ cB q_p0 q_p0_letter q_p0_image q_p0_end i_p0_strands i_p0_letters i_p0_turns i_p0_factors i_p0_formIsKnown f_p0_image) H → va_D A (ws_Br_isTurn cI cJ cB q_p0 q_p0_letter q_p0_image q_p0_end i_p0_strands i_p0_letters i_p0_turns i_p0_factors i_p0_formIsKnown f_p0_image) → va_S A s.heap H locs → lv_has ls 3 [(0, .ref q_p0), (1, .int x1), (2, .int x2)] → W p l e rm_Br_isTurn s m args below meth c H locs 0 0 (MQ below (va_Qi (fun (r : Int32) (w : va_W) => r = res ∧ w = (ws_Br_isTurn cI cJ cB q_p0 q_p0_letter q_p0_image q_p0_end i_p0_strands i_p0_letters i_p0_turns i_p0_factors i_p0_formIsKnown f_p0_image)) (vz_B D A) A) args s 0 0 A) (F0 m 2 ls []) := by
  obtain ⟨hx, hb, hr, hml, hown, ht, hlocks, hin, hN, hK, hA⟩ := id C0
  intro nn
  induction nn with
  | zero =>
    intro x1 x2 H locs ls hm hP hD hS hl
    rw [B_Br_isTurn_2] at hm
    cases hm
  | succ nn ih =>
    intro x1 x2 H locs ls hm hP hD hS hl
    rw [B_Br_isTurn_2] at hm
    refine lv_iload_n hx hb d_Br_isTurn_2 rfl (lv_at hl 2 rfl) ?_
    refine lv_aload_n hx hb d_Br_isTurn_3 rfl (lv_at hl 0 rfl) ?_
    refine va_get (D := D) (ci := 7) (v := .int i_p0_strands) (C := R_Br) (T := F_Br) (N := 8) hx hb ht i_Br hown hK hP 0 rfl rfl 3 (Nat.le_of_ble_eq_true rfl) (ht _ m_48) (fun _ h9 => h9) rfl d_Br_isTurn_4 ?_
    refine lv_icmp_ge (tgt := 37) hx hb d_Br_isTurn_7 (by decide) (fun hc => ?_) (fun hc => ?_)
    · rw [if_pos hc] at hm
      refine lv_iconst (v := 1) hx hb d_Br_isTurn_37 (by decide) ?_
      obtain rfl := Option.some.inj hm
      exact vz_iret hx hb hr rfl hlocks hP hD hS (Nat.le_refl _) (Nat.le_refl _) d_Br_isTurn_38 ⟨rfl, rfl⟩
    · rw [if_neg hc] at hm
      refine lv_aload_n hx hb d_Br_isTurn_10 rfl (lv_at hl 0 rfl) ?_
      refine va_get (D := D) (ci := 7) (v := .ref q_p0_image) (C := R_Br) (T := F_Br) (N := 8) hx hb ht i_Br hown hK hP 0 rfl rfl 1 (Nat.le_of_ble_eq_true rfl) (ht _ m_46) (fun _ h9 => h9) rfl d_Br_isTurn_11 ?_
      refine lv_iload_n hx hb d_Br_isTurn_14 rfl (lv_at hl 1 rfl) ?_
      refine lv_iload_n hx hb d_Br_isTurn_15 rfl (lv_at hl 2 rfl) ?_
      refine lv_iadd hx hb d_Br_isTurn_16 ?_
      obtain ⟨hg, hm⟩ := vz_guard hm
      refine va_iald hx hb hK hP 1 0 rfl rfl hg d_Br_isTurn_17 ?_
      refine lv_aload_n hx hb d_Br_isTurn_18 rfl (lv_at hl 0 rfl) ?_
      refine va_get (D := D) (ci := 7) (v := .int i_p0_strands) (C := R_Br) (T := F_Br) (N := 8) hx hb ht i_Br hown hK hP 0 rfl rfl 3 (Nat.le_of_ble_eq_true rfl) (ht _ m_48) (fun _ h9 => h9) rfl d_Br_isTurn_19 ?_
      refine lv_iconst (v := 1) hx hb d_Br_isTurn_22 (by decide) ?_
      refine lv_isub hx hb d_Br_isTurn_23 ?_
      refine lv_iload_n hx hb d_Br_isTurn_24 rfl (lv_at hl 2 rfl) ?_
      refine lv_isub hx hb d_Br_isTurn_25 ?_
      refine lv_icmp_eq (tgt := 31) hx hb d_Br_isTurn_26 (by decide) (fun hc => ?_) (fun hc => ?_)
      · rw [if_pos hc] at hm
        refine lv_iinc (v := (x2 + 1)) (lv' := [(2, .int (x2 + 1)), (0, .ref q_p0), (1, .int x1)]) hx hb d_Br_isTurn_31 hl (k := 2) rfl rfl (by decide) rfl (fun ls hl => ?_)
        refine lv_goto (tgt := 2) hx hb d_Br_isTurn_34 (by decide) ?_
        exact ih x1 (x2 + 1) _ _ _ hm hP hD hS (lv_sub hl [1, 2, 0] rfl)
      · rw [if_neg hc] at hm
        refine lv_iconst (v := 0) hx hb d_Br_isTurn_29 (by decide) ?_
        obtain rfl := Option.some.inj hm
        exact vz_iret hx hb hr rfl hlocks hP hD hS (Nat.le_refl _) (Nat.le_refl _) d_Br_isTurn_30 ⟨rfl, rfl⟩
set_option maxHeartbeats 4000000 in
set_option maxRecDepth 100000 in
theorem w_Br_isTurn_0 {p : Program} {l : Launch} {e : Env} {s : State} {m : MethodId} {args : Array Value} {below : List Frame} {meth : Method} {c : Code} {D : va_G} {cI cJ cB : ClassId} {A : Nat → Prop} (fl : Nat) (q_p0 : Nat) (q_p0_letter : Nat) (q_p0_image : Nat) (q_p0_end : Nat) (i_p0_strands : Int32) (f_p0_image : Nat → Int32) (i_p0_letters : Int32) (i_p0_turns : Int32) (i_p0_factors : Int32) (i_p0_formIsKnown : Int32) (res : Int32) (C0 : vz_Cx p s m meth c b_Br_isTurn 3 (some .boolean) "LinkEngine$Braid" "isTurn" D [(cI, .int), (cJ, .long), (cB, .byte)] A args) : ∀ (x1 : Int32) (H : Heap) (locs : List Loc) (ls : Array Slot), B_Br_isTurn_0 fl i_p0_strands f_p0_image x1 = some res → va_P D classes (ws_Br_isTurn cI cJ cB q_p0 q_p0_letter q_p0_image q_p0_end i_p0_strands i_p0_letters i_p0_turns i_p0_factors i_p0_formIsKnown f_p0_image) H → va_D A (ws_Br_isTurn cI cJ cB q_p0 q_p0_letter q_p0_image q_p0_end i_p0_strands i_p0_letters i_p0_turns i_p0_factors i_p0_formIsKnown f_p0_image) → va_S A s.heap H locs → lv_has ls 3 [(0, .ref q_p0), (1, .int x1)] → W p l e rm_Br_isTurn s m args below meth c H locs 0 0 (MQ below (va_Qi (fun (r : Int32) (w : va_W) => r = res ∧ w = (ws_Br_isTurn cI cJ cB q_p0 q_p0_letter q_p0_image q_p0_end i_p0_strands i_p0_letters i_p0_turns i_p0_factors i_p0_formIsKnown f_p0_image)) (vz_B D A) A) args s 0 0 A) (F0 m 0 ls []) := by
  obtain ⟨hx, hb, hr, hml, hown, ht, hlocks, hin, hN, hK, hA⟩ := id C0
  intro x1 H locs ls hm hP hD hS hl
  unfold B_Br_isTurn_0 at hm
  refine lv_iconst (v := 0) hx hb d_Br_isTurn_0 (by decide) ?_
  refine lv_istore_n (lv' := [(2, .int 0), (0, .ref q_p0), (1, .int x1)]) hx hb d_Br_isTurn_1 rfl hl (by decide) rfl (fun ls hl => ?_)
  exact w_Br_isTurn_2 fl q_p0 q_p0_letter q_p0_image q_p0_end i_p0_strands f_p0_image i_p0_letters i_p0_turns i_p0_factors i_p0_formIsKnown res C0 fl x1 0 _ _ _ hm hP hD hS (lv_sub hl [1, 2, 0] rfl)
set_option maxHeartbeats 4000000 in
set_option maxRecDepth 100000 in
theorem k_Br_isTurn (l : Launch) (D : va_G) (cI cJ cB : ClassId) (fl : Nat) (q_p0 : Nat) (q_p0_letter : Nat) (q_p0_image : Nat) (q_p0_end : Nat) (i_p0_strands : Int32) (f_p0_image : Nat → Int32) (i_p0_letters : Int32) (i_p0_turns : Int32) (i_p0_factors : Int32) (i_p0_formIsKnown : Int32) (x1 : Int32) (res : Int32) (hm : m_Br_isTurn fl i_p0_strands f_p0_image x1 = some res) : MtI l y_Br_isTurn (.code y_Br_isTurn b_Br_isTurn 3 (some .boolean) :: CW) rm_Br_isTurn D [(cI, .int), (cJ, .long), (cB, .byte)] [.ref q_p0, .int x1] (ws_Br_isTurn cI cJ cB q_p0 q_p0_letter q_p0_image q_p0_end i_p0_strands i_p0_letters i_p0_turns i_p0_factors i_p0_formIsKnown f_p0_image) (fun (r : Int32) (w : va_W) => r = res ∧ w = (ws_Br_isTurn cI cJ cB q_p0 q_p0_letter q_p0_image q_p0_end i_p0_strands i_p0_letters i_p0_turns i_p0_factors i_p0_formIsKnown f_p0_image)) := by
  intro sz
  refine vz_start (Qc := fun A => va_Qi (fun (r : Int32) (w : va_W) => r = res ∧ w = (ws_Br_isTurn cI cJ cB q_p0 q_p0_letter q_p0_image q_p0_end i_p0_strands i_p0_letters i_p0_turns i_p0_factors i_p0_formIsKnown f_p0_image)) (vz_B D A) A) (lv0 := [(0, .ref q_p0), (1, .int x1)]) (by decide +kernel) (Nat.le_of_ble_eq_true rfl) rfl ?_
  intro p e s m below meth c A ls C0 hl
  obtain ⟨hx, hb, hr, hml, hown, ht, hlocks, hin, hN, hK, hP, hD, hA, hS⟩ := C0
  exact w_Br_isTurn_0 fl q_p0 q_p0_letter q_p0_image q_p0_end i_p0_strands f_p0_image i_p0_letters i_p0_turns i_p0_factors i_p0_formIsKnown res ⟨hx, hb, hr, hml, hown, ht, hlocks, hin, hN, hK, hA⟩ x1 s.heap [] ls hm hP hD hS (lv_sub hl [0, 1] rfl)
def ws_Md_fail (cI cJ cB : ClassId) (q_p0 : Nat) (q_p0_tape : Nat) (q_p0_out : Nat) (q_p0_text : Nat) (q_p0_kinds : Nat) (q_p0_begins : Nat) (q_p0_numbers : Nat) (q_p0_d : Nat) (q_p0_old : Nat) (q_p0_before : Nat) (q_p0_latest : Nat) (q_p0_earlier : Nat) (q_p0_keptLatest : Nat) (q_p0_keptEarlier : Nat) (q_p0_made : Nat) (q_p0_labelOf : Nat) (q_p0_begin : Nat) (q_p0_finish : Nat) (q_p0_follow : Nat) (q_p0_compOf : Nat) (q_p0_placed : Nat) (q_p0_faceOf : Nat) (q_p0_firstDart : Nat) (q_p0_pieceOf : Nat) (q_p0_top : Nat) (q_p0_poly : Nat) (q_p0_other : Nat) (q_p0_root : Nat) (q_p0_ways : Nat) (q_p0_arcOf : Nat) (q_p0_low : Nat) (q_p0_high : Nat) (q_p0_minor : Nat) (q_p0_gcd : Nat) (q_p0_one : Nat) (i_p0_taped : Int32) (i_p0_outSize : Int32) (i_p0_size : Int32) (i_p0_at : Int32) (i_p0_token : Int32) (i_p0_from : Int32) (i_p0_wasRead : Int32) (i_p0_fault : Int32) (i_p0_place : Int32) (i_p0_lines : Int32) (i_p0_next : Int32) (i_p0_putAt : Int32) (i_p0_done : Int32) (i_p0_hard : Int32) (i_p0_madeSize : Int32) (i_p0_edges : Int32) (i_p0_comps : Int32) (i_p0_faces : Int32) (i_p0_pieces : Int32) (i_p0_arcs : Int32) : va_W := [(q_p0, .inr (11, [.ref q_p0_tape, .int i_p0_taped, .ref q_p0_out, .int i_p0_outSize, .ref q_p0_text, .int i_p0_size, .int i_p0_at, .int i_p0_token, .int i_p0_from, .int i_p0_wasRead, .int i_p0_fault, .int i_p0_place, .ref q_p0_kinds, .ref q_p0_begins, .ref q_p0_numbers, .int i_p0_lines, .int i_p0_next, .int i_p0_putAt, .ref q_p0_d, .ref q_p0_old, .ref q_p0_before, .ref q_p0_latest, .ref q_p0_earlier, .ref q_p0_keptLatest, .ref q_p0_keptEarlier, .int i_p0_done, .int i_p0_hard, .ref q_p0_made, .int i_p0_madeSize, .int i_p0_edges, .ref q_p0_labelOf, .ref q_p0_begin, .ref q_p0_finish, .ref q_p0_follow, .ref q_p0_compOf, .ref q_p0_placed, .int i_p0_comps, .int i_p0_faces, .ref q_p0_faceOf, .ref q_p0_firstDart, .ref q_p0_pieceOf, .int i_p0_pieces, .ref q_p0_top, .ref q_p0_poly, .ref q_p0_other, .ref q_p0_root, .ref q_p0_ways, .int i_p0_arcs, .ref q_p0_arcOf, .ref q_p0_low, .ref q_p0_high, .ref q_p0_minor, .ref q_p0_gcd, .ref q_p0_one]))]
def rm_Md_fail : Room := { frames := 0, cells := 0, slots := 0, locals := 0 }
def B_Md_fail_0 (fl : Nat) (x1 : Int32) (x2 : Int32) (i_p0_fault : Int32) (i_p0_place : Int32) : Option (Int32 × Int32) := (if i_p0_fault = (0 : Int32) then (some (x1, x2)) else (some (i_p0_fault, i_p0_place)))
def m_Md_fail (fl : Nat) (x1 : Int32) (x2 : Int32) (i_p0_fault : Int32) (i_p0_place : Int32) : Option (Int32 × Int32) := B_Md_fail_0 fl  x1 x2 i_p0_fault i_p0_place
set_option maxHeartbeats 4000000 in
set_option maxRecDepth 100000 in
theorem w_Md_fail_0 {p : Program} {l : Launch} {e : Env} {s : State} {m : MethodId} {args : Array Value} {below : List Frame} {meth : Method} {c : Code} {D : va_G} {cI cJ cB : ClassId} {A : Nat → Prop} (fl : Nat) (q_p0 : Nat) (q_p0_tape : Nat) (q_p0_out : Nat) (q_p0_text : Nat) (q_p0_kinds : Nat) (q_p0_begins : Nat) (q_p0_numbers : Nat) (q_p0_d : Nat) (q_p0_old : Nat) (q_p0_before : Nat) (q_p0_latest : Nat) (q_p0_earlier : Nat) (q_p0_keptLatest : Nat) (q_p0_keptEarlier : Nat) (q_p0_made : Nat) (q_p0_labelOf : Nat) (q_p0_begin : Nat) (q_p0_finish : Nat) (q_p0_follow : Nat) (q_p0_compOf : Nat) (q_p0_placed : Nat) (q_p0_faceOf : Nat) (q_p0_firstDart : Nat) (q_p0_pieceOf : Nat) (q_p0_top : Nat) (q_p0_poly : Nat) (q_p0_other : Nat) (q_p0_root : Nat) (q_p0_ways : Nat) (q_p0_arcOf : Nat) (q_p0_low : Nat) (q_p0_high : Nat) (q_p0_minor : Nat) (q_p0_gcd : Nat) (q_p0_one : Nat) (i_p0_taped : Int32) (i_p0_outSize : Int32) (i_p0_size : Int32) (i_p0_at : Int32) (i_p0_token : Int32) (i_p0_from : Int32) (i_p0_wasRead : Int32) (i_p0_lines : Int32) (i_p0_next : Int32) (i_p0_putAt : Int32) (i_p0_done : Int32) (i_p0_hard : Int32) (i_p0_madeSize : Int32) (i_p0_edges : Int32) (i_p0_comps : Int32) (i_p0_faces : Int32) (i_p0_pieces : Int32) (i_p0_arcs : Int32) (res : Int32 × Int32) (C0 : vz_Cx p s m meth c b_Md_fail 3 none "LinkEngineModel" "fail" D [(cI, .int), (cJ, .long), (cB, .byte)] A args) : ∀ (x1 : Int32) (x2 : Int32) (i_p0_fault : Int32) (i_p0_place : Int32) (H : Heap) (locs : List Loc) (ls : Array Slot), B_Md_fail_0 fl x1 x2 i_p0_fault i_p0_place = some res → va_P D classes (ws_Md_fail cI cJ cB q_p0 q_p0_tape q_p0_out q_p0_text q_p0_kinds q_p0_begins q_p0_numbers q_p0_d q_p0_old q_p0_before q_p0_latest q_p0_earlier q_p0_keptLatest q_p0_keptEarlier q_p0_made q_p0_labelOf q_p0_begin q_p0_finish q_p0_follow q_p0_compOf q_p0_placed q_p0_faceOf q_p0_firstDart q_p0_pieceOf q_p0_top q_p0_poly q_p0_other q_p0_root q_p0_ways q_p0_arcOf q_p0_low q_p0_high q_p0_minor q_p0_gcd q_p0_one i_p0_taped i_p0_outSize i_p0_size i_p0_at i_p0_token i_p0_from i_p0_wasRead i_p0_fault i_p0_place i_p0_lines i_p0_next i_p0_putAt i_p0_done i_p0_hard i_p0_madeSize i_p0_edges i_p0_comps i_p0_faces i_p0_pieces i_p0_arcs) H → va_D A (ws_Md_fail cI cJ cB q_p0 q_p0_tape q_p0_out q_p0_text q_p0_kinds q_p0_begins q_p0_numbers q_p0_d q_p0_old q_p0_before q_p0_latest q_p0_earlier q_p0_keptLatest q_p0_keptEarlier q_p0_made q_p0_labelOf q_p0_begin q_p0_finish q_p0_follow q_p0_compOf q_p0_placed q_p0_faceOf q_p0_firstDart q_p0_pieceOf q_p0_top q_p0_poly q_p0_other q_p0_root q_p0_ways q_p0_arcOf q_p0_low q_p0_high q_p0_minor q_p0_gcd q_p0_one i_p0_taped i_p0_outSize i_p0_size i_p0_at i_p0_token i_p0_from i_p0_wasRead i_p0_fault i_p0_place i_p0_lines i_p0_next i_p0_putAt i_p0_done i_p0_hard i_p0_madeSize i_p0_edges i_p0_comps i_p0_faces i_p0_pieces i_p0_arcs) → va_S A s.heap H locs → lv_has ls 3 [(0, .ref q_p0), (1, .int x1), (2, .int x2)] → W p l e rm_Md_fail s m args below meth c H locs 0 0 (MQ below (va_Qv (fun (w : va_W) => w = (ws_Md_fail cI cJ cB q_p0 q_p0_tape q_p0_out q_p0_text q_p0_kinds q_p0_begins q_p0_numbers q_p0_d q_p0_old q_p0_before q_p0_latest q_p0_earlier q_p0_keptLatest q_p0_keptEarlier q_p0_made q_p0_labelOf q_p0_begin q_p0_finish q_p0_follow q_p0_compOf q_p0_placed q_p0_faceOf q_p0_firstDart q_p0_pieceOf q_p0_top q_p0_poly q_p0_other q_p0_root q_p0_ways q_p0_arcOf q_p0_low q_p0_high q_p0_minor q_p0_gcd q_p0_one i_p0_taped i_p0_outSize i_p0_size i_p0_at i_p0_token i_p0_from i_p0_wasRead res.1 res.2 i_p0_lines i_p0_next i_p0_putAt i_p0_done i_p0_hard i_p0_madeSize i_p0_edges i_p0_comps i_p0_faces i_p0_pieces i_p0_arcs)) (vz_B D A) A) args s 0 0 A) (F0 m 0 ls []) := by
  obtain ⟨hx, hb, hr, hml, hown, ht, hlocks, hin, hN, hK, hA⟩ := id C0
  intro x1 x2 i_p0_fault i_p0_place H locs ls hm hP hD hS hl
  unfold B_Md_fail_0 at hm
  refine lv_aload_n hx hb d_Md_fail_0 rfl (lv_at hl 0 rfl) ?_
  refine va_get (D := D) (ci := 11) (v := .int i_p0_fault) (C := R_Md) (T := F_Md) (N := 54) hx hb ht i_Md hown hK hP 0 rfl rfl 10 (Nat.le_of_ble_eq_true rfl) (ht _ m_283) (fun _ h9 => h9) rfl d_Md_fail_1 ?_
  refine lv_if_eq (tgt := 8) hx hb d_Md_fail_4 (by decide) (fun hc => ?_) (fun hc => ?_)
  · rw [if_pos hc] at hm
    refine lv_aload_n hx hb d_Md_fail_8 rfl (lv_at hl 0 rfl) ?_
    refine lv_iload_n hx hb d_Md_fail_9 rfl (lv_at hl 1 rfl) ?_
    refine va_put (D := D) (ci := 11) (v := .int x1) (ty := .int) (C := R_Md) (T := F_Md) (N := 54) hx hb ht i_Md t_Md t_Md_ok n_Md hown hK hP hD hS 0 rfl rfl 10 (Nat.le_of_ble_eq_true rfl) (ht _ m_283) (fun _ h9 => h9) rfl (by decide +kernel) rfl rfl (Nat.le_of_ble_eq_true rfl) d_Md_fail_10 (fun H locs hP hD hS => ?_)
    have hP : va_P D classes (ws_Md_fail cI cJ cB q_p0 q_p0_tape q_p0_out q_p0_text q_p0_kinds q_p0_begins q_p0_numbers q_p0_d q_p0_old q_p0_before q_p0_latest q_p0_earlier q_p0_keptLatest q_p0_keptEarlier q_p0_made q_p0_labelOf q_p0_begin q_p0_finish q_p0_follow q_p0_compOf q_p0_placed q_p0_faceOf q_p0_firstDart q_p0_pieceOf q_p0_top q_p0_poly q_p0_other q_p0_root q_p0_ways q_p0_arcOf q_p0_low q_p0_high q_p0_minor q_p0_gcd q_p0_one i_p0_taped i_p0_outSize i_p0_size i_p0_at i_p0_token i_p0_from i_p0_wasRead x1 i_p0_place i_p0_lines i_p0_next i_p0_putAt i_p0_done i_p0_hard i_p0_madeSize i_p0_edges i_p0_comps i_p0_faces i_p0_pieces i_p0_arcs) H := hP
    have hD : va_D A (ws_Md_fail cI cJ cB q_p0 q_p0_tape q_p0_out q_p0_text q_p0_kinds q_p0_begins q_p0_numbers q_p0_d q_p0_old q_p0_before q_p0_latest q_p0_earlier q_p0_keptLatest q_p0_keptEarlier q_p0_made q_p0_labelOf q_p0_begin q_p0_finish q_p0_follow q_p0_compOf q_p0_placed q_p0_faceOf q_p0_firstDart q_p0_pieceOf q_p0_top q_p0_poly q_p0_other q_p0_root q_p0_ways q_p0_arcOf q_p0_low q_p0_high q_p0_minor q_p0_gcd q_p0_one i_p0_taped i_p0_outSize i_p0_size i_p0_at i_p0_token i_p0_from i_p0_wasRead x1 i_p0_place i_p0_lines i_p0_next i_p0_putAt i_p0_done i_p0_hard i_p0_madeSize i_p0_edges i_p0_comps i_p0_faces i_p0_pieces i_p0_arcs) := hD
    refine lv_aload_n hx hb d_Md_fail_13 rfl (lv_at hl 0 rfl) ?_
    refine lv_iload_n hx hb d_Md_fail_14 rfl (lv_at hl 2 rfl) ?_
    refine va_put (D := D) (ci := 11) (v := .int x2) (ty := .int) (C := R_Md) (T := F_Md) (N := 54) hx hb ht i_Md t_Md t_Md_ok n_Md hown hK hP hD hS 0 rfl rfl 11 (Nat.le_of_ble_eq_true rfl) (ht _ m_125) (fun _ h9 => h9) rfl (by decide +kernel) rfl rfl (Nat.le_of_ble_eq_true rfl) d_Md_fail_15 (fun H locs hP hD hS => ?_)
    have hP : va_P D classes (ws_Md_fail cI cJ cB q_p0 q_p0_tape q_p0_out q_p0_text q_p0_kinds q_p0_begins q_p0_numbers q_p0_d q_p0_old q_p0_before q_p0_latest q_p0_earlier q_p0_keptLatest q_p0_keptEarlier q_p0_made q_p0_labelOf q_p0_begin q_p0_finish q_p0_follow q_p0_compOf q_p0_placed q_p0_faceOf q_p0_firstDart q_p0_pieceOf q_p0_top q_p0_poly q_p0_other q_p0_root q_p0_ways q_p0_arcOf q_p0_low q_p0_high q_p0_minor q_p0_gcd q_p0_one i_p0_taped i_p0_outSize i_p0_size i_p0_at i_p0_token i_p0_from i_p0_wasRead x1 x2 i_p0_lines i_p0_next i_p0_putAt i_p0_done i_p0_hard i_p0_madeSize i_p0_edges i_p0_comps i_p0_faces i_p0_pieces i_p0_arcs) H := hP
    have hD : va_D A (ws_Md_fail cI cJ cB q_p0 q_p0_tape q_p0_out q_p0_text q_p0_kinds q_p0_begins q_p0_numbers q_p0_d q_p0_old q_p0_before q_p0_latest q_p0_earlier q_p0_keptLatest q_p0_keptEarlier q_p0_made q_p0_labelOf q_p0_begin q_p0_finish q_p0_follow q_p0_compOf q_p0_placed q_p0_faceOf q_p0_firstDart q_p0_pieceOf q_p0_top q_p0_poly q_p0_other q_p0_root q_p0_ways q_p0_arcOf q_p0_low q_p0_high q_p0_minor q_p0_gcd q_p0_one i_p0_taped i_p0_outSize i_p0_size i_p0_at i_p0_token i_p0_from i_p0_wasRead x1 x2 i_p0_lines i_p0_next i_p0_putAt i_p0_done i_p0_hard i_p0_madeSize i_p0_edges i_p0_comps i_p0_faces i_p0_pieces i_p0_arcs) := hD
    obtain rfl := Option.some.inj hm
    exact vz_vret hx hb hr hlocks hP hD hS (Nat.le_refl _) (Nat.le_refl _) d_Md_fail_18 rfl
  · rw [if_neg hc] at hm
    obtain rfl := Option.some.inj hm
    exact vz_vret hx hb hr hlocks hP hD hS (Nat.le_refl _) (Nat.le_refl _) d_Md_fail_7 rfl
set_option maxHeartbeats 4000000 in
set_option maxRecDepth 100000 in
theorem k_Md_fail (l : Launch) (D : va_G) (cI cJ cB : ClassId) (fl : Nat) (q_p0 : Nat) (q_p0_tape : Nat) (q_p0_out : Nat) (q_p0_text : Nat) (q_p0_kinds : Nat) (q_p0_begins : Nat) (q_p0_numbers : Nat) (q_p0_d : Nat) (q_p0_old : Nat) (q_p0_before : Nat) (q_p0_latest : Nat) (q_p0_earlier : Nat) (q_p0_keptLatest : Nat) (q_p0_keptEarlier : Nat) (q_p0_made : Nat) (q_p0_labelOf : Nat) (q_p0_begin : Nat) (q_p0_finish : Nat) (q_p0_follow : Nat) (q_p0_compOf : Nat) (q_p0_placed : Nat) (q_p0_faceOf : Nat) (q_p0_firstDart : Nat) (q_p0_pieceOf : Nat) (q_p0_top : Nat) (q_p0_poly : Nat) (q_p0_other : Nat) (q_p0_root : Nat) (q_p0_ways : Nat) (q_p0_arcOf : Nat) (q_p0_low : Nat) (q_p0_high : Nat) (q_p0_minor : Nat) (q_p0_gcd : Nat) (q_p0_one : Nat) (i_p0_taped : Int32) (i_p0_outSize : Int32) (i_p0_size : Int32) (i_p0_at : Int32) (i_p0_token : Int32) (i_p0_from : Int32) (i_p0_wasRead : Int32) (i_p0_lines : Int32) (i_p0_next : Int32) (i_p0_putAt : Int32) (i_p0_done : Int32) (i_p0_hard : Int32) (i_p0_madeSize : Int32) (i_p0_edges : Int32) (i_p0_comps : Int32) (i_p0_faces : Int32) (i_p0_pieces : Int32) (i_p0_arcs : Int32) (i_p0_fault : Int32) (i_p0_place : Int32) (x1 : Int32) (x2 : Int32) (res : Int32 × Int32) (hm : m_Md_fail fl x1 x2 i_p0_fault i_p0_place = some res) : MtV l y_Md_fail (.code y_Md_fail b_Md_fail 3 none :: CW) rm_Md_fail D [(cI, .int), (cJ, .long), (cB, .byte)] [.ref q_p0, .int x1, .int x2] (ws_Md_fail cI cJ cB q_p0 q_p0_tape q_p0_out q_p0_text q_p0_kinds q_p0_begins q_p0_numbers q_p0_d q_p0_old q_p0_before q_p0_latest q_p0_earlier q_p0_keptLatest q_p0_keptEarlier q_p0_made q_p0_labelOf q_p0_begin q_p0_finish q_p0_follow q_p0_compOf q_p0_placed q_p0_faceOf q_p0_firstDart q_p0_pieceOf q_p0_top q_p0_poly q_p0_other q_p0_root q_p0_ways q_p0_arcOf q_p0_low q_p0_high q_p0_minor q_p0_gcd q_p0_one i_p0_taped i_p0_outSize i_p0_size i_p0_at i_p0_token i_p0_from i_p0_wasRead i_p0_fault i_p0_place i_p0_lines i_p0_next i_p0_putAt i_p0_done i_p0_hard i_p0_madeSize i_p0_edges i_p0_comps i_p0_faces i_p0_pieces i_p0_arcs) (fun (w : va_W) => w = (ws_Md_fail cI cJ cB q_p0 q_p0_tape q_p0_out q_p0_text q_p0_kinds q_p0_begins q_p0_numbers q_p0_d q_p0_old q_p0_before q_p0_latest q_p0_earlier q_p0_keptLatest q_p0_keptEarlier q_p0_made q_p0_labelOf q_p0_begin q_p0_finish q_p0_follow q_p0_compOf q_p0_placed q_p0_faceOf q_p0_firstDart q_p0_pieceOf q_p0_top q_p0_poly q_p0_other q_p0_root q_p0_ways q_p0_arcOf q_p0_low q_p0_high q_p0_minor q_p0_gcd q_p0_one i_p0_taped i_p0_outSize i_p0_size i_p0_at i_p0_token i_p0_from i_p0_wasRead res.1 res.2 i_p0_lines i_p0_next i_p0_putAt i_p0_done i_p0_hard i_p0_madeSize i_p0_edges i_p0_comps i_p0_faces i_p0_pieces i_p0_arcs)) := by
  intro sz
  refine vz_start (Qc := fun A => va_Qv (fun (w : va_W) => w = (ws_Md_fail cI cJ cB q_p0 q_p0_tape q_p0_out q_p0_text q_p0_kinds q_p0_begins q_p0_numbers q_p0_d q_p0_old q_p0_before q_p0_latest q_p0_earlier q_p0_keptLatest q_p0_keptEarlier q_p0_made q_p0_labelOf q_p0_begin q_p0_finish q_p0_follow q_p0_compOf q_p0_placed q_p0_faceOf q_p0_firstDart q_p0_pieceOf q_p0_top q_p0_poly q_p0_other q_p0_root q_p0_ways q_p0_arcOf q_p0_low q_p0_high q_p0_minor q_p0_gcd q_p0_one i_p0_taped i_p0_outSize i_p0_size i_p0_at i_p0_token i_p0_from i_p0_wasRead res.1 res.2 i_p0_lines i_p0_next i_p0_putAt i_p0_done i_p0_hard i_p0_madeSize i_p0_edges i_p0_comps i_p0_faces i_p0_pieces i_p0_arcs)) (vz_B D A) A) (lv0 := [(0, .ref q_p0), (1, .int x1), (2, .int x2)]) (by decide +kernel) (Nat.le_of_ble_eq_true rfl) rfl ?_
  intro p e s m below meth c A ls C0 hl
  obtain ⟨hx, hb, hr, hml, hown, ht, hlocks, hin, hN, hK, hP, hD, hA, hS⟩ := C0
  exact w_Md_fail_0 fl q_p0 q_p0_tape q_p0_out q_p0_text q_p0_kinds q_p0_begins q_p0_numbers q_p0_d q_p0_old q_p0_before q_p0_latest q_p0_earlier q_p0_keptLatest q_p0_keptEarlier q_p0_made q_p0_labelOf q_p0_begin q_p0_finish q_p0_follow q_p0_compOf q_p0_placed q_p0_faceOf q_p0_firstDart q_p0_pieceOf q_p0_top q_p0_poly q_p0_other q_p0_root q_p0_ways q_p0_arcOf q_p0_low q_p0_high q_p0_minor q_p0_gcd q_p0_one i_p0_taped i_p0_outSize i_p0_size i_p0_at i_p0_token i_p0_from i_p0_wasRead i_p0_lines i_p0_next i_p0_putAt i_p0_done i_p0_hard i_p0_madeSize i_p0_edges i_p0_comps i_p0_faces i_p0_pieces i_p0_arcs res ⟨hx, hb, hr, hml, hown, ht, hlocks, hin, hN, hK, hA⟩ x1 x2 i_p0_fault i_p0_place s.heap [] ls hm hP hD hS (lv_sub hl [0, 1, 2] rfl)
def ws_Md_isLetter (cI cJ cB : ClassId)  : va_W := []
def rm_Md_isLetter : Room := { frames := 0, cells := 0, slots := 0, locals := 0 }
def B_Md_isLetter_24 (fl : Nat) (x0 : Int32) : Option (Int32) := (some 1)
def B_Md_isLetter_12 (fl : Nat) (x0 : Int32) : Option (Int32) := (if x0 < (65 : Int32) then (some 0) else (if (90 : Int32) < x0 then (some 0) else B_Md_isLetter_24 fl x0))
def B_Md_isLetter_0 (fl : Nat) (x0 : Int32) : Option (Int32) := (if x0 < (97 : Int32) then B_Md_isLetter_12 fl x0 else (if x0 ≤ (122 : Int32) then B_Md_isLetter_24 fl x0 else B_Md_isLetter_12 fl x0))
def m_Md_isLetter (fl : Nat) (x0 : Int32) : Option (Int32) := B_Md_isLetter_0 fl  x0
set_option maxHeartbeats 4000000 in
set_option maxRecDepth 100000 in
theorem w_Md_isLetter_24 {p : Program} {l : Launch} {e : Env} {s : State} {m : MethodId} {args : Array Value} {below : List Frame} {meth : Method} {c : Code} {D : va_G} {cI cJ cB : ClassId} {A : Nat → Prop} (fl : Nat)   (res : Int32) (C0 : vz_Cx p s m meth c b_Md_isLetter 1 (some .boolean) "LinkEngineModel" "isLetter" D [(cI, .int), (cJ, .long), (cB, .byte)] A args) : ∀ (x0 : Int32) (H : Heap) (locs : List Loc) (ls : Array Slot), B_Md_isLetter_24 fl x0 = some res → va_P D classes (ws_Md_isLetter cI cJ cB ) H → va_D A (ws_Md_isLetter cI cJ cB ) → va_S A s.heap H locs → lv_has ls 1 [(0, .int x0)] → W p l e rm_Md_isLetter s m args below meth c H locs 0 0 (MQ below (va_Qi (fun (r : Int32) (w : va_W) => r = res ∧ w = (ws_Md_isLetter cI cJ cB )) (vz_B D A) A) args s 0 0 A) (F0 m 24 ls []) := by
  obtain ⟨hx, hb, hr, hml, hown, ht, hlocks, hin, hN, hK, hA⟩ := id C0
  intro x0 H locs ls hm hP hD hS hl
  unfold B_Md_isLetter_24 at hm
  refine lv_iconst (v := 1) hx hb d_Md_isLetter_24 (by decide) ?_
  refine lv_goto (tgt := 29) hx hb d_Md_isLetter_25 (by decide) ?_
  obtain rfl := Option.some.inj hm
  exact vz_iret hx hb hr rfl hlocks hP hD hS (Nat.le_refl _) (Nat.le_refl _) d_Md_isLetter_29 ⟨rfl, rfl⟩
set_option maxHeartbeats 4000000 in
set_option maxRecDepth 100000 in
theorem w_Md_isLetter_12 {p : Program} {l : Launch} {e : Env} {s : State} {m : MethodId} {args : Array Value} {below : List Frame} {meth : Method} {c : Code} {D : va_G} {cI cJ cB : ClassId} {A : Nat → Prop} (fl : Nat)   (res : Int32) (C0 : vz_Cx p s m meth c b_Md_isLetter 1 (some .boolean) "LinkEngineModel" "isLetter" D [(cI, .int), (cJ, .long), (cB, .byte)] A args) : ∀ (x0 : Int32) (H : Heap) (locs : List Loc) (ls : Array Slot), B_Md_isLetter_12 fl x0 = some res → va_P D classes (ws_Md_isLetter cI cJ cB ) H → va_D A (ws_Md_isLetter cI cJ cB ) → va_S A s.heap H locs → lv_has ls 1 [(0, .int x0)] → W p l e rm_Md_isLetter s m args below meth c H locs 0 0 (MQ below (va_Qi (fun (r : Int32) (w : va_W) => r = res ∧ w = (ws_Md_isLetter cI cJ cB )) (vz_B D A) A) args s 0 0 A) (F0 m 12 ls []) := by
  obtain ⟨hx, hb, hr, hml, hown, ht, hlocks, hin, hN, hK, hA⟩ := id C0
  intro x0 H locs ls hm hP hD hS hl
  unfold B_Md_isLetter_12 at hm
  refine lv_iload_n hx hb d_Md_isLetter_12 rfl (lv_at hl 0 rfl) ?_
  refine lv_bipush (v := 65) hx hb d_Md_isLetter_13 (by decide +kernel) ?_
  refine lv_icmp_lt (tgt := 28) hx hb d_Md_isLetter_15 (by decide) (fun hc => ?_) (fun hc => ?_)
  · rw [if_pos hc] at hm
    refine lv_iconst (v := 0) hx hb d_Md_isLetter_28 (by decide) ?_
    obtain rfl := Option.some.inj hm
    exact vz_iret hx hb hr rfl hlocks hP hD hS (Nat.le_refl _) (Nat.le_refl _) d_Md_isLetter_29 ⟨rfl, rfl⟩
  · rw [if_neg hc] at hm
    refine lv_iload_n hx hb d_Md_isLetter_18 rfl (lv_at hl 0 rfl) ?_
    refine lv_bipush (v := 90) hx hb d_Md_isLetter_19 (by decide +kernel) ?_
    refine lv_icmp_gt (tgt := 28) hx hb d_Md_isLetter_21 (by decide) (fun hc => ?_) (fun hc => ?_)
    · rw [if_pos hc] at hm
      refine lv_iconst (v := 0) hx hb d_Md_isLetter_28 (by decide) ?_
      obtain rfl := Option.some.inj hm
      exact vz_iret hx hb hr rfl hlocks hP hD hS (Nat.le_refl _) (Nat.le_refl _) d_Md_isLetter_29 ⟨rfl, rfl⟩
    · rw [if_neg hc] at hm
      exact w_Md_isLetter_24 fl   res C0 x0 _ _ _ hm hP hD hS (lv_sub hl [0] rfl)
set_option maxHeartbeats 4000000 in
set_option maxRecDepth 100000 in
theorem w_Md_isLetter_0 {p : Program} {l : Launch} {e : Env} {s : State} {m : MethodId} {args : Array Value} {below : List Frame} {meth : Method} {c : Code} {D : va_G} {cI cJ cB : ClassId} {A : Nat → Prop} (fl : Nat)   (res : Int32) (C0 : vz_Cx p s m meth c b_Md_isLetter 1 (some .boolean) "LinkEngineModel" "isLetter" D [(cI, .int), (cJ, .long), (cB, .byte)] A args) : ∀ (x0 : Int32) (H : Heap) (locs : List Loc) (ls : Array Slot), B_Md_isLetter_0 fl x0 = some res → va_P D classes (ws_Md_isLetter cI cJ cB ) H → va_D A (ws_Md_isLetter cI cJ cB ) → va_S A s.heap H locs → lv_has ls 1 [(0, .int x0)] → W p l e rm_Md_isLetter s m args below meth c H locs 0 0 (MQ below (va_Qi (fun (r : Int32) (w : va_W) => r = res ∧ w = (ws_Md_isLetter cI cJ cB )) (vz_B D A) A) args s 0 0 A) (F0 m 0 ls []) := by
  obtain ⟨hx, hb, hr, hml, hown, ht, hlocks, hin, hN, hK, hA⟩ := id C0
  intro x0 H locs ls hm hP hD hS hl
  unfold B_Md_isLetter_0 at hm
  refine lv_iload_n hx hb d_Md_isLetter_0 rfl (lv_at hl 0 rfl) ?_
  refine lv_bipush (v := 97) hx hb d_Md_isLetter_1 (by decide +kernel) ?_
  refine lv_icmp_lt (tgt := 12) hx hb d_Md_isLetter_3 (by decide) (fun hc => ?_) (fun hc => ?_)
  · rw [if_pos hc] at hm
    exact w_Md_isLetter_12 fl   res C0 x0 _ _ _ hm hP hD hS (lv_sub hl [0] rfl)
  · rw [if_neg hc] at hm
    refine lv_iload_n hx hb d_Md_isLetter_6 rfl (lv_at hl 0 rfl) ?_
    refine lv_bipush (v := 122) hx hb d_Md_isLetter_7 (by decide +kernel) ?_
    refine lv_icmp_le (tgt := 24) hx hb d_Md_isLetter_9 (by decide) (fun hc => ?_) (fun hc => ?_)
    · rw [if_pos hc] at hm
      exact w_Md_isLetter_24 fl   res C0 x0 _ _ _ hm hP hD hS (lv_sub hl [0] rfl)
    · rw [if_neg hc] at hm
      exact w_Md_isLetter_12 fl   res C0 x0 _ _ _ hm hP hD hS (lv_sub hl [0] rfl)
set_option maxHeartbeats 4000000 in
set_option maxRecDepth 100000 in
theorem k_Md_isLetter (l : Launch) (D : va_G) (cI cJ cB : ClassId) (fl : Nat)   (x0 : Int32) (res : Int32) (hm : m_Md_isLetter fl x0 = some res) : MtI l y_Md_isLetter (.code y_Md_isLetter b_Md_isLetter 1 (some .boolean) :: CW) rm_Md_isLetter D [(cI, .int), (cJ, .long), (cB, .byte)] [.int x0] (ws_Md_isLetter cI cJ cB ) (fun (r : Int32) (w : va_W) => r = res ∧ w = (ws_Md_isLetter cI cJ cB )) := by
  intro sz
  refine vz_start (Qc := fun A => va_Qi (fun (r : Int32) (w : va_W) => r = res ∧ w = (ws_Md_isLetter cI cJ cB )) (vz_B D A) A) (lv0 := [(0, .int x0)]) (by decide +kernel) (Nat.le_of_ble_eq_true rfl) rfl ?_
  intro p e s m below meth c A ls C0 hl
  obtain ⟨hx, hb, hr, hml, hown, ht, hlocks, hin, hN, hK, hP, hD, hA, hS⟩ := C0
  exact w_Md_isLetter_0 fl   res ⟨hx, hb, hr, hml, hown, ht, hlocks, hin, hN, hK, hA⟩ x0 s.heap [] ls hm hP hD hS (lv_sub hl [0] rfl)
