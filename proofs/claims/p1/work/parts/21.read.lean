set_option maxHeartbeats 4000000 in
set_option maxRecDepth 100000 in
theorem k_Li_clear (l : Launch) (D : va_G) (cI cJ cB : ClassId) (h0 : Nat) (y_kind : Nat) (y_start : Nat) (y_value : Nat)  : MtV l y_Li_clear (.code y_Li_clear b_Li_clear 1 none :: CW) ({ frames := 0, cells := 0, slots := 0, locals := 0 }) D [(cI, .int), (cJ, .long), (cB, .byte)] [.ref h0] [(h0, .inr (1, [.ref y_kind, .ref y_start, .ref y_value, .int 0, .int 0]))] (fun (w : va_W) => w = [(h0, .inr (1, [.ref y_kind, .ref y_start, .ref y_value, .int 0, .int 0]))]) := by
  intro sz
  refine vz_start (Qc := fun A => va_Qv (fun (w : va_W) => w = [(h0, .inr (1, [.ref y_kind, .ref y_start, .ref y_value, .int 0, .int 0]))]) (vz_B D A) A) (lv0 := [(0, .ref h0)]) (by decide +kernel) (Nat.le_of_ble_eq_true rfl) rfl ?_
  intro p e s m below meth c A ls C0 hl
  obtain ⟨hx, hb, hr, hml, hown, ht, hlocks, hin, hN, hK, hP, hD, hA, hS⟩ := C0
  refine lv_aload_n hx hb d_Li_clear_0 rfl (lv_at hl 0 rfl) ?_
  refine lv_iconst (v := 0) hx hb d_Li_clear_1 (by decide) ?_
  refine va_put (D := D) (ci := 1) (v := .int 0) (ty := .int) (C := R_Li) (T := F_Li) (N := 5) hx hb ht i_Li t_Li t_Li_ok n_Li hown hK hP hD hS 0 rfl rfl 3 (Nat.le_of_ble_eq_true rfl) (ht _ m_174) (fun _ h9 => h9) rfl (by decide +kernel) rfl rfl (Nat.le_of_ble_eq_true rfl) d_Li_clear_2 (fun H locs hP hD hS => ?_)
  have hP : va_P D classes [(h0, .inr (1, [.ref y_kind, .ref y_start, .ref y_value, .int 0, .int 0]))] H := hP
  have hD : va_D A [(h0, .inr (1, [.ref y_kind, .ref y_start, .ref y_value, .int 0, .int 0]))] := hD
  refine lv_aload_n hx hb d_Li_clear_5 rfl (lv_at hl 0 rfl) ?_
  refine lv_iconst (v := 0) hx hb d_Li_clear_6 (by decide) ?_
  refine va_put (D := D) (ci := 1) (v := .int 0) (ty := .int) (C := R_Li) (T := F_Li) (N := 5) hx hb ht i_Li t_Li t_Li_ok n_Li hown hK hP hD hS 0 rfl rfl 4 (Nat.le_of_ble_eq_true rfl) (ht _ m_175) (fun _ h9 => h9) rfl (by decide +kernel) rfl rfl (Nat.le_of_ble_eq_true rfl) d_Li_clear_7 (fun H locs hP hD hS => ?_)
  have hP : va_P D classes [(h0, .inr (1, [.ref y_kind, .ref y_start, .ref y_value, .int 0, .int 0]))] H := hP
  have hD : va_D A [(h0, .inr (1, [.ref y_kind, .ref y_start, .ref y_value, .int 0, .int 0]))] := hD
  have hP := hP.sub (ws' := [(h0, .inr (1, [.ref y_kind, .ref y_start, .ref y_value, .int 0, .int 0]))]) [0] rfl
  have hD := hD.sub (ws' := [(h0, .inr (1, [.ref y_kind, .ref y_start, .ref y_value, .int 0, .int 0]))]) [0] (by decide) rfl
  exact vz_vret hx hb hr hlocks hP hD hS (Nat.le_of_ble_eq_true rfl) (Nat.le_of_ble_eq_true rfl) d_Li_clear_10 rfl
set_option maxHeartbeats 4000000 in
set_option maxRecDepth 100000 in
theorem k_Li_waiting (l : Launch) (D : va_G) (cI cJ cB : ClassId) (h0 : Nat) (y_kind : Nat) (y_start : Nat) (y_value : Nat)  : MtI l y_Li_waiting (.code y_Li_waiting b_Li_waiting 1 (some .int) :: CW) ({ frames := 0, cells := 0, slots := 0, locals := 0 }) D [(cI, .int), (cJ, .long), (cB, .byte)] [.ref h0] [(h0, .inr (1, [.ref y_kind, .ref y_start, .ref y_value, .int 0, .int 0]))] (fun (r : Int32) (w : va_W) => r = 0 ∧ w = [(h0, .inr (1, [.ref y_kind, .ref y_start, .ref y_value, .int 0, .int 0]))]) := by
  intro sz
  refine vz_start (Qc := fun A => va_Qi (fun (r : Int32) (w : va_W) => r = 0 ∧ w = [(h0, .inr (1, [.ref y_kind, .ref y_start, .ref y_value, .int 0, .int 0]))]) (vz_B D A) A) (lv0 := [(0, .ref h0)]) (by decide +kernel) (Nat.le_of_ble_eq_true rfl) rfl ?_
  intro p e s m below meth c A ls C0 hl
  obtain ⟨hx, hb, hr, hml, hown, ht, hlocks, hin, hN, hK, hP, hD, hA, hS⟩ := C0
  refine lv_aload_n hx hb d_Li_waiting_0 rfl (lv_at hl 0 rfl) ?_
  refine va_get (D := D) (ci := 1) (v := .int 0) (C := R_Li) (T := F_Li) (N := 5) hx hb ht i_Li hown hK hP 0 rfl rfl 3 (Nat.le_of_ble_eq_true rfl) (ht _ m_174) (fun _ h9 => h9) rfl d_Li_waiting_1 ?_
  refine lv_aload_n hx hb d_Li_waiting_4 rfl (lv_at hl 0 rfl) ?_
  refine va_get (D := D) (ci := 1) (v := .int 0) (C := R_Li) (T := F_Li) (N := 5) hx hb ht i_Li hown hK hP 0 rfl rfl 4 (Nat.le_of_ble_eq_true rfl) (ht _ m_175) (fun _ h9 => h9) rfl d_Li_waiting_5 ?_
  refine lv_isub hx hb d_Li_waiting_8 ?_
  refine vz_topi (y := 0) (by decide +kernel) ?_
  have hP := hP.sub (ws' := [(h0, .inr (1, [.ref y_kind, .ref y_start, .ref y_value, .int 0, .int 0]))]) [0] rfl
  have hD := hD.sub (ws' := [(h0, .inr (1, [.ref y_kind, .ref y_start, .ref y_value, .int 0, .int 0]))]) [0] (by decide) rfl
  exact vz_iret hx hb hr rfl hlocks hP hD hS (Nat.le_of_ble_eq_true rfl) (Nat.le_of_ble_eq_true rfl) d_Li_waiting_9 ⟨rfl, rfl⟩
set_option maxHeartbeats 4000000 in
set_option maxRecDepth 100000 in
theorem k_Li_kindOfNext (l : Launch) (D : va_G) (cI cJ cB : ClassId) (h0 : Nat) (y_kind : Nat) (y_start : Nat) (y_value : Nat)  : MtI l y_Li_kindOfNext (.code y_Li_kindOfNext b_Li_kindOfNext 1 (some .int) :: CW) ({ frames := 0, cells := 0, slots := 0, locals := 0 }) D [(cI, .int), (cJ, .long), (cB, .byte)] [.ref h0] [(h0, .inr (1, [.ref y_kind, .ref y_start, .ref y_value, .int 0, .int 0]))] (fun (r : Int32) (w : va_W) => r = 0 ∧ w = [(h0, .inr (1, [.ref y_kind, .ref y_start, .ref y_value, .int 0, .int 0]))]) := by
  intro sz
  refine vz_start (Qc := fun A => va_Qi (fun (r : Int32) (w : va_W) => r = 0 ∧ w = [(h0, .inr (1, [.ref y_kind, .ref y_start, .ref y_value, .int 0, .int 0]))]) (vz_B D A) A) (lv0 := [(0, .ref h0)]) (by decide +kernel) (Nat.le_of_ble_eq_true rfl) rfl ?_
  intro p e s m below meth c A ls C0 hl
  obtain ⟨hx, hb, hr, hml, hown, ht, hlocks, hin, hN, hK, hP, hD, hA, hS⟩ := C0
  refine lv_aload_n hx hb d_Li_kindOfNext_0 rfl (lv_at hl 0 rfl) ?_
  refine va_get (D := D) (ci := 1) (v := .int 0) (C := R_Li) (T := F_Li) (N := 5) hx hb ht i_Li hown hK hP 0 rfl rfl 4 (Nat.le_of_ble_eq_true rfl) (ht _ m_175) (fun _ h9 => h9) rfl d_Li_kindOfNext_1 ?_
  refine lv_aload_n hx hb d_Li_kindOfNext_4 rfl (lv_at hl 0 rfl) ?_
  refine va_get (D := D) (ci := 1) (v := .int 0) (C := R_Li) (T := F_Li) (N := 5) hx hb ht i_Li hown hK hP 0 rfl rfl 3 (Nat.le_of_ble_eq_true rfl) (ht _ m_174) (fun _ h9 => h9) rfl d_Li_kindOfNext_5 ?_
  refine vz_icmp_ge_t (tgt := 23) hx hb d_Li_kindOfNext_8 (by decide) (by decide +kernel) ?_
  refine lv_iconst (v := 0) hx hb d_Li_kindOfNext_23 (by decide) ?_
  have hP := hP.sub (ws' := [(h0, .inr (1, [.ref y_kind, .ref y_start, .ref y_value, .int 0, .int 0]))]) [0] rfl
  have hD := hD.sub (ws' := [(h0, .inr (1, [.ref y_kind, .ref y_start, .ref y_value, .int 0, .int 0]))]) [0] (by decide) rfl
  exact vz_iret hx hb hr rfl hlocks hP hD hS (Nat.le_of_ble_eq_true rfl) (Nat.le_of_ble_eq_true rfl) d_Li_kindOfNext_24 ⟨rfl, rfl⟩
set_option maxHeartbeats 4000000 in
set_option maxRecDepth 100000 in
theorem k_Rd_begin (l : Launch) (D : va_G) (cI cJ cB : ClassId) (h0 : Nat) (z_text : Nat) (h1 : Nat) (y_kind : Nat) (y_start : Nat) (y_value : Nat)  : MtV l y_Rd_begin (.code y_Rd_begin b_Rd_begin 2 none :: CW) ({ frames := 1, cells := 0, slots := 0, locals := 20 }) D [(cI, .int), (cJ, .long), (cB, .byte)] [.ref h0, .int 0] [(h0, .inr (2, [.ref z_text, .ref h1, .int 0, .int 0, .int 0, .int 0, .long 0, .int 0, .int 0, .int (-1)])), (h1, .inr (1, [.ref y_kind, .ref y_start, .ref y_value, .int 0, .int 0]))] (fun (w : va_W) => w = [(h0, .inr (2, [.ref z_text, .ref h1, .int 0, .int 0, .int 0, .int 0, .long 0, .int 0, .int 0, .int (-1)])), (h1, .inr (1, [.ref y_kind, .ref y_start, .ref y_value, .int 0, .int 0]))]) := by
  intro sz
  refine vz_start (Qc := fun A => va_Qv (fun (w : va_W) => w = [(h0, .inr (2, [.ref z_text, .ref h1, .int 0, .int 0, .int 0, .int 0, .long 0, .int 0, .int 0, .int (-1)])), (h1, .inr (1, [.ref y_kind, .ref y_start, .ref y_value, .int 0, .int 0]))]) (vz_B D A) A) (lv0 := [(0, .ref h0), (1, .int 0)]) (by decide +kernel) (Nat.le_of_ble_eq_true rfl) rfl ?_
  intro p e s m below meth c A ls C0 hl
  obtain ⟨hx, hb, hr, hml, hown, ht, hlocks, hin, hN, hK, hP, hD, hA, hS⟩ := C0
  refine lv_aload_n hx hb d_Rd_begin_0 rfl (lv_at hl 0 rfl) ?_
  refine lv_iload_n hx hb d_Rd_begin_1 rfl (lv_at hl 1 rfl) ?_
  refine va_put (D := D) (ci := 2) (v := .int 0) (ty := .int) (C := R_Rd) (T := F_Rd) (N := 10) hx hb ht i_Rd t_Rd t_Rd_ok n_Rd hown hK hP hD hS 0 rfl rfl 2 (Nat.le_of_ble_eq_true rfl) (ht _ m_176) (fun _ h9 => h9) rfl (by decide +kernel) rfl rfl (Nat.le_of_ble_eq_true rfl) d_Rd_begin_2 (fun H locs hP hD hS => ?_)
  have hP : va_P D classes [(h0, .inr (2, [.ref z_text, .ref h1, .int 0, .int 0, .int 0, .int 0, .long 0, .int 0, .int 0, .int (-1)])), (h1, .inr (1, [.ref y_kind, .ref y_start, .ref y_value, .int 0, .int 0]))] H := hP
  have hD : va_D A [(h0, .inr (2, [.ref z_text, .ref h1, .int 0, .int 0, .int 0, .int 0, .long 0, .int 0, .int 0, .int (-1)])), (h1, .inr (1, [.ref y_kind, .ref y_start, .ref y_value, .int 0, .int 0]))] := hD
  refine lv_aload_n hx hb d_Rd_begin_5 rfl (lv_at hl 0 rfl) ?_
  refine lv_iconst (v := 0) hx hb d_Rd_begin_6 (by decide) ?_
  refine va_put (D := D) (ci := 2) (v := .int 0) (ty := .int) (C := R_Rd) (T := F_Rd) (N := 10) hx hb ht i_Rd t_Rd t_Rd_ok n_Rd hown hK hP hD hS 0 rfl rfl 3 (Nat.le_of_ble_eq_true rfl) (ht _ m_177) (fun _ h9 => h9) rfl (by decide +kernel) rfl rfl (Nat.le_of_ble_eq_true rfl) d_Rd_begin_7 (fun H locs hP hD hS => ?_)
  have hP : va_P D classes [(h0, .inr (2, [.ref z_text, .ref h1, .int 0, .int 0, .int 0, .int 0, .long 0, .int 0, .int 0, .int (-1)])), (h1, .inr (1, [.ref y_kind, .ref y_start, .ref y_value, .int 0, .int 0]))] H := hP
  have hD : va_D A [(h0, .inr (2, [.ref z_text, .ref h1, .int 0, .int 0, .int 0, .int 0, .long 0, .int 0, .int 0, .int (-1)])), (h1, .inr (1, [.ref y_kind, .ref y_start, .ref y_value, .int 0, .int 0]))] := hD
  refine lv_aload_n hx hb d_Rd_begin_10 rfl (lv_at hl 0 rfl) ?_
  refine lv_iconst (v := 0) hx hb d_Rd_begin_11 (by decide) ?_
  refine va_put (D := D) (ci := 2) (v := .int 0) (ty := .int) (C := R_Rd) (T := F_Rd) (N := 10) hx hb ht i_Rd t_Rd t_Rd_ok n_Rd hown hK hP hD hS 0 rfl rfl 8 (Nat.le_of_ble_eq_true rfl) (ht _ m_178) (fun _ h9 => h9) rfl (by decide +kernel) rfl rfl (Nat.le_of_ble_eq_true rfl) d_Rd_begin_12 (fun H locs hP hD hS => ?_)
  have hP : va_P D classes [(h0, .inr (2, [.ref z_text, .ref h1, .int 0, .int 0, .int 0, .int 0, .long 0, .int 0, .int 0, .int (-1)])), (h1, .inr (1, [.ref y_kind, .ref y_start, .ref y_value, .int 0, .int 0]))] H := hP
  have hD : va_D A [(h0, .inr (2, [.ref z_text, .ref h1, .int 0, .int 0, .int 0, .int 0, .long 0, .int 0, .int 0, .int (-1)])), (h1, .inr (1, [.ref y_kind, .ref y_start, .ref y_value, .int 0, .int 0]))] := hD
  refine lv_aload_n hx hb d_Rd_begin_15 rfl (lv_at hl 0 rfl) ?_
  refine lv_iconst (v := (-1)) hx hb d_Rd_begin_16 (by decide) ?_
  refine va_put (D := D) (ci := 2) (v := .int (-1)) (ty := .int) (C := R_Rd) (T := F_Rd) (N := 10) hx hb ht i_Rd t_Rd t_Rd_ok n_Rd hown hK hP hD hS 0 rfl rfl 9 (Nat.le_of_ble_eq_true rfl) (ht _ m_16) (fun _ h9 => h9) rfl (by decide +kernel) rfl rfl (Nat.le_of_ble_eq_true rfl) d_Rd_begin_17 (fun H locs hP hD hS => ?_)
  have hP : va_P D classes [(h0, .inr (2, [.ref z_text, .ref h1, .int 0, .int 0, .int 0, .int 0, .long 0, .int 0, .int 0, .int (-1)])), (h1, .inr (1, [.ref y_kind, .ref y_start, .ref y_value, .int 0, .int 0]))] H := hP
  have hD : va_D A [(h0, .inr (2, [.ref z_text, .ref h1, .int 0, .int 0, .int 0, .int 0, .long 0, .int 0, .int 0, .int (-1)])), (h1, .inr (1, [.ref y_kind, .ref y_start, .ref y_value, .int 0, .int 0]))] := hD
  refine lv_aload_n hx hb d_Rd_begin_20 rfl (lv_at hl 0 rfl) ?_
  refine va_get (D := D) (ci := 2) (v := .ref h1) (C := R_Rd) (T := F_Rd) (N := 10) hx hb ht i_Rd hown hK hP 0 rfl rfl 1 (Nat.le_of_ble_eq_true rfl) (ht _ m_15) (fun _ h9 => h9) rfl d_Rd_begin_21 ?_
  refine vz_callVv (n := 0) (As := []) (rest := []) (wc := [(h1, .inr (1, [.ref y_kind, .ref y_start, .ref y_value, .int 0, .int 0]))]) (wr := [(h0, .inr (2, [.ref z_text, .ref h1, .int 0, .int 0, .int 0, .int 0, .long 0, .int 0, .int 0, .int (-1)]))]) (k1 := 0) (n1 := 0) hx hb hml hown ht hN hK hP hD hS hA (k_Li_clear l D cI cJ cB h1 y_kind y_start y_value) m_182 m_12 m_179 m_180 m_181 (hc := (rfl : classes[1]? = some (R_Li, F_Li, 5))) 1 rfl (by decide +kernel) ⟨Nat.le_of_ble_eq_true rfl, Nat.le_of_ble_eq_true rfl⟩ [1] [0] rfl rfl (by decide) (by decide) (by decide) rfl hl.1 rfl (Nat.le_of_ble_eq_true rfl) rfl rfl ⟨Nat.le_of_ble_eq_true rfl, Nat.le_of_ble_eq_true rfl⟩ d_Rd_begin_24 (fun w1 H locs hw hP hD hS => ?_)
  subst hw
  have hP : va_P D classes [(h0, .inr (2, [.ref z_text, .ref h1, .int 0, .int 0, .int 0, .int 0, .long 0, .int 0, .int 0, .int (-1)])), (h1, .inr (1, [.ref y_kind, .ref y_start, .ref y_value, .int 0, .int 0]))] H := hP
  have hD : va_D A [(h0, .inr (2, [.ref z_text, .ref h1, .int 0, .int 0, .int 0, .int 0, .long 0, .int 0, .int 0, .int (-1)])), (h1, .inr (1, [.ref y_kind, .ref y_start, .ref y_value, .int 0, .int 0]))] := hD
  have hP := hP.sub (ws' := [(h0, .inr (2, [.ref z_text, .ref h1, .int 0, .int 0, .int 0, .int 0, .long 0, .int 0, .int 0, .int (-1)])), (h1, .inr (1, [.ref y_kind, .ref y_start, .ref y_value, .int 0, .int 0]))]) [0, 1] rfl
  have hD := hD.sub (ws' := [(h0, .inr (2, [.ref z_text, .ref h1, .int 0, .int 0, .int 0, .int 0, .long 0, .int 0, .int 0, .int (-1)])), (h1, .inr (1, [.ref y_kind, .ref y_start, .ref y_value, .int 0, .int 0]))]) [0, 1] (by decide) rfl
  exact vz_vret hx hb hr hlocks hP hD hS (Nat.le_of_ble_eq_true rfl) (Nat.le_of_ble_eq_true rfl) d_Rd_begin_27 rfl
def rd_ans (n : Int32) : Int32 := if n = 0 then 0 else (-2)
set_option maxHeartbeats 4000000 in
set_option maxRecDepth 100000 in
theorem k_read (l : Launch) (D : va_G) (cI cJ cB : ClassId) (h0 : Nat) (v : Int32) (x_tape : Nat) (x_paper : Nat) (x_moves : Nat) (x_stateSum : Nat) (x_minor : Nat) (x_polynomial : Nat) (x_now : Nat) (x_next : Nat) (x_trial : Nat) (x_latest : Nat) (x_earlier : Nat) (x_spare : Nat) (h2 : Nat) (z_text : Nat) (h1 : Nat) (y_kind : Nat) (y_start : Nat) (y_value : Nat)  : MtI l y_En_read (.code y_En_read b_En_read 3 (some .int) :: CW) ({ frames := 2, cells := 0, slots := 0, locals := 41 }) D [(cI, .int), (cJ, .long), (cB, .byte)] [.ref h0, .int v] [(h0, .inr (0, [.ref h2, .ref x_tape, .ref h1, .ref x_paper, .ref x_moves, .ref x_stateSum, .ref x_minor, .ref x_polynomial, .ref x_now, .ref x_next, .ref x_trial, .ref x_latest, .ref x_earlier, .ref x_spare, .int 0, .int 0, .int 0, .int 0])), (h2, .inr (2, [.ref z_text, .ref h1, .int 0, .int 0, .int 0, .int 0, .long 0, .int 0, .int 0, .int (-1)])), (h1, .inr (1, [.ref y_kind, .ref y_start, .ref y_value, .int 0, .int 0]))] (fun (r : Int32) (_ : va_W) => r = rd_ans v) := by
  intro sz
  refine vz_start (Qc := fun A => va_Qi (fun (r : Int32) (_ : va_W) => r = rd_ans v) (vz_B D A) A) (lv0 := [(0, .ref h0), (1, .int v)]) (by decide +kernel) (Nat.le_of_ble_eq_true rfl) rfl ?_
  intro p e s m below meth c A ls C0 hl
  obtain ⟨hx, hb, hr, hml, hown, ht, hlocks, hin, hN, hK, hP, hD, hA, hS⟩ := C0
  refine lv_iload_n hx hb d_En_read_0 rfl (lv_at hl 1 rfl) ?_
  refine lv_if_lt (tgt := 12) hx hb d_En_read_1 (by decide) (fun c_1 => ?_) (fun c_1 => ?_)
  · refine lv_bipush (v := (-2)) hx hb d_En_read_12 (by decide +kernel) ?_
    exact vz_iret hx hb hr rfl hlocks hP hD hS (Nat.le_of_ble_eq_true rfl) (Nat.le_of_ble_eq_true rfl) d_En_read_14 (if_neg (fun q => absurd c_1 (by rw [q]; decide))).symm
  · refine lv_iload_n hx hb d_En_read_4 rfl (lv_at hl 1 rfl) ?_
    refine lv_aload_n hx hb d_En_read_5 rfl (lv_at hl 0 rfl) ?_
    refine va_get (D := D) (ci := 0) (v := .int 0) (C := R_En) (T := F_En) (N := 18) hx hb ht i_En hown hK hP 0 rfl rfl 14 (Nat.le_of_ble_eq_true rfl) (ht _ m_167) (fun _ h9 => h9) rfl d_En_read_6 ?_
    refine lv_icmp_le (tgt := 15) hx hb d_En_read_9 (by decide) (fun c_2 => ?_) (fun c_2 => ?_)
    · obtain rfl := vz_eq0 c_1 (Int32.not_lt.mpr c_2)
      refine lv_aload_n hx hb d_En_read_15 rfl (lv_at hl 0 rfl) ?_
      refine lv_iconst (v := 0) hx hb d_En_read_16 (by decide) ?_
      refine va_put (D := D) (ci := 0) (v := .int 0) (ty := .int) (C := R_En) (T := F_En) (N := 18) hx hb ht i_En t_En t_En_ok n_En hown hK hP hD hS 0 rfl rfl 14 (Nat.le_of_ble_eq_true rfl) (ht _ m_167) (fun _ h9 => h9) rfl (by decide +kernel) rfl rfl (Nat.le_of_ble_eq_true rfl) d_En_read_17 (fun H locs hP hD hS => ?_)
      have hP : va_P D classes [(h0, .inr (0, [.ref h2, .ref x_tape, .ref h1, .ref x_paper, .ref x_moves, .ref x_stateSum, .ref x_minor, .ref x_polynomial, .ref x_now, .ref x_next, .ref x_trial, .ref x_latest, .ref x_earlier, .ref x_spare, .int 0, .int 0, .int 0, .int 0])), (h2, .inr (2, [.ref z_text, .ref h1, .int 0, .int 0, .int 0, .int 0, .long 0, .int 0, .int 0, .int (-1)])), (h1, .inr (1, [.ref y_kind, .ref y_start, .ref y_value, .int 0, .int 0]))] H := hP
      have hD : va_D A [(h0, .inr (0, [.ref h2, .ref x_tape, .ref h1, .ref x_paper, .ref x_moves, .ref x_stateSum, .ref x_minor, .ref x_polynomial, .ref x_now, .ref x_next, .ref x_trial, .ref x_latest, .ref x_earlier, .ref x_spare, .int 0, .int 0, .int 0, .int 0])), (h2, .inr (2, [.ref z_text, .ref h1, .int 0, .int 0, .int 0, .int 0, .long 0, .int 0, .int 0, .int (-1)])), (h1, .inr (1, [.ref y_kind, .ref y_start, .ref y_value, .int 0, .int 0]))] := hD
      refine lv_aload_n hx hb d_En_read_20 rfl (lv_at hl 0 rfl) ?_
      refine lv_iconst (v := 1) hx hb d_En_read_21 (by decide) ?_
      refine va_put (D := D) (ci := 0) (v := .int 1) (ty := .boolean) (C := R_En) (T := F_En) (N := 18) hx hb ht i_En t_En t_En_ok n_En hown hK hP hD hS 0 rfl rfl 15 (Nat.le_of_ble_eq_true rfl) (ht _ m_173) (fun _ h9 => h9) rfl (by decide +kernel) rfl rfl (Nat.le_of_ble_eq_true rfl) d_En_read_22 (fun H locs hP hD hS => ?_)
      have hP : va_P D classes [(h0, .inr (0, [.ref h2, .ref x_tape, .ref h1, .ref x_paper, .ref x_moves, .ref x_stateSum, .ref x_minor, .ref x_polynomial, .ref x_now, .ref x_next, .ref x_trial, .ref x_latest, .ref x_earlier, .ref x_spare, .int 0, .int 1, .int 0, .int 0])), (h2, .inr (2, [.ref z_text, .ref h1, .int 0, .int 0, .int 0, .int 0, .long 0, .int 0, .int 0, .int (-1)])), (h1, .inr (1, [.ref y_kind, .ref y_start, .ref y_value, .int 0, .int 0]))] H := hP
      have hD : va_D A [(h0, .inr (0, [.ref h2, .ref x_tape, .ref h1, .ref x_paper, .ref x_moves, .ref x_stateSum, .ref x_minor, .ref x_polynomial, .ref x_now, .ref x_next, .ref x_trial, .ref x_latest, .ref x_earlier, .ref x_spare, .int 0, .int 1, .int 0, .int 0])), (h2, .inr (2, [.ref z_text, .ref h1, .int 0, .int 0, .int 0, .int 0, .long 0, .int 0, .int 0, .int (-1)])), (h1, .inr (1, [.ref y_kind, .ref y_start, .ref y_value, .int 0, .int 0]))] := hD
      refine lv_aload_n hx hb d_En_read_25 rfl (lv_at hl 0 rfl) ?_
      refine va_get (D := D) (ci := 0) (v := .ref h2) (C := R_En) (T := F_En) (N := 18) hx hb ht i_En hown hK hP 0 rfl rfl 0 (Nat.le_of_ble_eq_true rfl) (ht _ m_64) (fun _ h9 => h9) rfl d_En_read_26 ?_
      refine lv_iload_n hx hb d_En_read_29 rfl (lv_at hl 1 rfl) ?_
      refine vz_callVv (n := 1) (As := [.int 0]) (rest := []) (wc := [(h2, .inr (2, [.ref z_text, .ref h1, .int 0, .int 0, .int 0, .int 0, .long 0, .int 0, .int 0, .int (-1)])), (h1, .inr (1, [.ref y_kind, .ref y_start, .ref y_value, .int 0, .int 0]))]) (wr := [(h0, .inr (0, [.ref h2, .ref x_tape, .ref h1, .ref x_paper, .ref x_moves, .ref x_stateSum, .ref x_minor, .ref x_polynomial, .ref x_now, .ref x_next, .ref x_trial, .ref x_latest, .ref x_earlier, .ref x_spare, .int 0, .int 1, .int 0, .int 0]))]) (k1 := 0) (n1 := 0) hx hb hml hown ht hN hK hP hD hS hA (k_Rd_begin l D cI cJ cB h2 z_text h1 y_kind y_start y_value) m_186 m_61 m_183 m_184 m_185 (hc := (rfl : classes[2]? = some (R_Rd, F_Rd, 10))) 1 rfl (by decide +kernel) ⟨Nat.le_of_ble_eq_true rfl, Nat.le_of_ble_eq_true rfl⟩ [1, 2] [0] rfl rfl (by decide) (by decide) (by decide) rfl hl.1 rfl (Nat.le_of_ble_eq_true rfl) rfl rfl ⟨Nat.le_of_ble_eq_true rfl, Nat.le_of_ble_eq_true rfl⟩ d_En_read_30 (fun w1 H locs hw hP hD hS => ?_)
      subst hw
      have hP : va_P D classes [(h0, .inr (0, [.ref h2, .ref x_tape, .ref h1, .ref x_paper, .ref x_moves, .ref x_stateSum, .ref x_minor, .ref x_polynomial, .ref x_now, .ref x_next, .ref x_trial, .ref x_latest, .ref x_earlier, .ref x_spare, .int 0, .int 1, .int 0, .int 0])), (h2, .inr (2, [.ref z_text, .ref h1, .int 0, .int 0, .int 0, .int 0, .long 0, .int 0, .int 0, .int (-1)])), (h1, .inr (1, [.ref y_kind, .ref y_start, .ref y_value, .int 0, .int 0]))] H := hP
      have hD : va_D A [(h0, .inr (0, [.ref h2, .ref x_tape, .ref h1, .ref x_paper, .ref x_moves, .ref x_stateSum, .ref x_minor, .ref x_polynomial, .ref x_now, .ref x_next, .ref x_trial, .ref x_latest, .ref x_earlier, .ref x_spare, .int 0, .int 1, .int 0, .int 0])), (h2, .inr (2, [.ref z_text, .ref h1, .int 0, .int 0, .int 0, .int 0, .long 0, .int 0, .int 0, .int (-1)])), (h1, .inr (1, [.ref y_kind, .ref y_start, .ref y_value, .int 0, .int 0]))] := hD
      refine lv_iconst (v := 0) hx hb d_En_read_33 (by decide) ?_
      refine lv_istore_n (lv' := [(2, .int 0), (0, .ref h0), (1, .int 0)]) hx hb d_En_read_34 rfl hl (by decide) rfl (fun ls hl => ?_)
      refine lv_iload_n hx hb d_En_read_35 rfl (lv_at hl 0 rfl) ?_
      refine lv_iload_n hx hb d_En_read_36 rfl (lv_at hl 2 rfl) ?_
      refine vz_icmp_ge_t (tgt := 80) hx hb d_En_read_37 (by decide) (by decide +kernel) ?_
      refine lv_aload_n hx hb d_En_read_80 rfl (lv_at hl 1 rfl) ?_
      refine va_get (D := D) (ci := 0) (v := .ref h2) (C := R_En) (T := F_En) (N := 18) hx hb ht i_En hown hK hP 0 rfl rfl 0 (Nat.le_of_ble_eq_true rfl) (ht _ m_64) (fun _ h9 => h9) rfl d_En_read_81 ?_
      refine va_getN (D := D) (ci := 2) (v := .int 0) (C := R_Rd) (T := F_Rd) (N := 10) hx hb ht i_Rd hown hK hP 1 rfl rfl 8 (Nat.le_of_ble_eq_true rfl) (va_Nw.use rfl (hN _ n_14)) (fun _ h9 => h9) rfl d_En_read_84 ?_
      refine vz_if_eq_t (tgt := 99) hx hb d_En_read_87 (by decide) (by decide +kernel) ?_
      refine lv_aload_n hx hb d_En_read_99 rfl (lv_at hl 1 rfl) ?_
      refine va_get (D := D) (ci := 0) (v := .ref h1) (C := R_En) (T := F_En) (N := 18) hx hb ht i_En hown hK hP 0 rfl rfl 2 (Nat.le_of_ble_eq_true rfl) (ht _ m_66) (fun _ h9 => h9) rfl d_En_read_100 ?_
      refine vz_callVi (n := 0) (As := []) (rest := []) (wc := [(h1, .inr (1, [.ref y_kind, .ref y_start, .ref y_value, .int 0, .int 0]))]) (wr := [(h0, .inr (0, [.ref h2, .ref x_tape, .ref h1, .ref x_paper, .ref x_moves, .ref x_stateSum, .ref x_minor, .ref x_polynomial, .ref x_now, .ref x_next, .ref x_trial, .ref x_latest, .ref x_earlier, .ref x_spare, .int 0, .int 1, .int 0, .int 0])), (h2, .inr (2, [.ref z_text, .ref h1, .int 0, .int 0, .int 0, .int 0, .long 0, .int 0, .int 0, .int (-1)]))]) (k1 := 0) (n1 := 0) hx hb hml hown ht hN hK hP hD hS hA (k_Li_waiting l D cI cJ cB h1 y_kind y_start y_value) m_190 m_12 m_187 m_188 m_189 (hc := (rfl : classes[1]? = some (R_Li, F_Li, 5))) 2 rfl (by decide +kernel) ⟨Nat.le_of_ble_eq_true rfl, Nat.le_of_ble_eq_true rfl⟩ [2] [0, 1] rfl rfl (by decide) (by decide) (by decide) rfl hl.1 rfl (Nat.le_of_ble_eq_true rfl) rfl rfl ⟨Nat.le_of_ble_eq_true rfl, Nat.le_of_ble_eq_true rfl⟩ d_En_read_103 (fun r1 w1 H locs hw hP hD hS => ?_)
      obtain ⟨rfl, rfl⟩ := hw
      have hP : va_P D classes [(h0, .inr (0, [.ref h2, .ref x_tape, .ref h1, .ref x_paper, .ref x_moves, .ref x_stateSum, .ref x_minor, .ref x_polynomial, .ref x_now, .ref x_next, .ref x_trial, .ref x_latest, .ref x_earlier, .ref x_spare, .int 0, .int 1, .int 0, .int 0])), (h2, .inr (2, [.ref z_text, .ref h1, .int 0, .int 0, .int 0, .int 0, .long 0, .int 0, .int 0, .int (-1)])), (h1, .inr (1, [.ref y_kind, .ref y_start, .ref y_value, .int 0, .int 0]))] H := hP
      have hD : va_D A [(h0, .inr (0, [.ref h2, .ref x_tape, .ref h1, .ref x_paper, .ref x_moves, .ref x_stateSum, .ref x_minor, .ref x_polynomial, .ref x_now, .ref x_next, .ref x_trial, .ref x_latest, .ref x_earlier, .ref x_spare, .int 0, .int 1, .int 0, .int 0])), (h2, .inr (2, [.ref z_text, .ref h1, .int 0, .int 0, .int 0, .int 0, .long 0, .int 0, .int 0, .int (-1)])), (h1, .inr (1, [.ref y_kind, .ref y_start, .ref y_value, .int 0, .int 0]))] := hD
      exact vz_iret hx hb hr rfl hlocks hP hD hS (Nat.le_of_ble_eq_true rfl) (Nat.le_of_ble_eq_true rfl) d_En_read_106 (if_pos rfl).symm
    · refine lv_bipush (v := (-2)) hx hb d_En_read_12 (by decide +kernel) ?_
      exact vz_iret hx hb hr rfl hlocks hP hD hS (Nat.le_of_ble_eq_true rfl) (Nat.le_of_ble_eq_true rfl) d_En_read_14 (if_neg (fun q => c_2 (by rw [q]; decide))).symm
set_option maxHeartbeats 4000000 in
set_option maxRecDepth 100000 in
theorem k_mayDoNext (l : Launch) (D : va_G) (cI cJ cB : ClassId) (h0 : Nat) (x_reader : Nat) (x_tape : Nat) (x_paper : Nat) (x_moves : Nat) (x_stateSum : Nat) (x_minor : Nat) (x_polynomial : Nat) (x_now : Nat) (x_next : Nat) (x_trial : Nat) (x_latest : Nat) (x_earlier : Nat) (x_spare : Nat) (h1 : Nat) (y_kind : Nat) (y_start : Nat) (y_value : Nat)  : MtI l y_En_mayDoNext (.code y_En_mayDoNext b_En_mayDoNext 1 (some .boolean) :: CW) ({ frames := 1, cells := 0, slots := 0, locals := 20 }) D [(cI, .int), (cJ, .long), (cB, .byte)] [.ref h0] [(h0, .inr (0, [.ref x_reader, .ref x_tape, .ref h1, .ref x_paper, .ref x_moves, .ref x_stateSum, .ref x_minor, .ref x_polynomial, .ref x_now, .ref x_next, .ref x_trial, .ref x_latest, .ref x_earlier, .ref x_spare, .int 0, .int 0, .int 0, .int 0])), (h1, .inr (1, [.ref y_kind, .ref y_start, .ref y_value, .int 0, .int 0]))] (fun (r : Int32) (w : va_W) => r = 0 ∧ w = [(h0, .inr (0, [.ref x_reader, .ref x_tape, .ref h1, .ref x_paper, .ref x_moves, .ref x_stateSum, .ref x_minor, .ref x_polynomial, .ref x_now, .ref x_next, .ref x_trial, .ref x_latest, .ref x_earlier, .ref x_spare, .int 0, .int 0, .int 0, .int 0])), (h1, .inr (1, [.ref y_kind, .ref y_start, .ref y_value, .int 0, .int 0]))]) := by
  intro sz
  refine vz_start (Qc := fun A => va_Qi (fun (r : Int32) (w : va_W) => r = 0 ∧ w = [(h0, .inr (0, [.ref x_reader, .ref x_tape, .ref h1, .ref x_paper, .ref x_moves, .ref x_stateSum, .ref x_minor, .ref x_polynomial, .ref x_now, .ref x_next, .ref x_trial, .ref x_latest, .ref x_earlier, .ref x_spare, .int 0, .int 0, .int 0, .int 0])), (h1, .inr (1, [.ref y_kind, .ref y_start, .ref y_value, .int 0, .int 0]))]) (vz_B D A) A) (lv0 := [(0, .ref h0)]) (by decide +kernel) (Nat.le_of_ble_eq_true rfl) rfl ?_
  intro p e s m below meth c A ls C0 hl
  obtain ⟨hx, hb, hr, hml, hown, ht, hlocks, hin, hN, hK, hP, hD, hA, hS⟩ := C0
  refine lv_aload_n hx hb d_En_mayDoNext_0 rfl (lv_at hl 0 rfl) ?_
  refine va_get (D := D) (ci := 0) (v := .ref h1) (C := R_En) (T := F_En) (N := 18) hx hb ht i_En hown hK hP 0 rfl rfl 2 (Nat.le_of_ble_eq_true rfl) (ht _ m_66) (fun _ h9 => h9) rfl d_En_mayDoNext_1 ?_
  refine vz_callVi (n := 0) (As := []) (rest := []) (wc := [(h1, .inr (1, [.ref y_kind, .ref y_start, .ref y_value, .int 0, .int 0]))]) (wr := [(h0, .inr (0, [.ref x_reader, .ref x_tape, .ref h1, .ref x_paper, .ref x_moves, .ref x_stateSum, .ref x_minor, .ref x_polynomial, .ref x_now, .ref x_next, .ref x_trial, .ref x_latest, .ref x_earlier, .ref x_spare, .int 0, .int 0, .int 0, .int 0]))]) (k1 := 0) (n1 := 0) hx hb hml hown ht hN hK hP hD hS hA (k_Li_waiting l D cI cJ cB h1 y_kind y_start y_value) m_190 m_12 m_187 m_188 m_189 (hc := (rfl : classes[1]? = some (R_Li, F_Li, 5))) 1 rfl (by decide +kernel) ⟨Nat.le_of_ble_eq_true rfl, Nat.le_of_ble_eq_true rfl⟩ [1] [0] rfl rfl (by decide) (by decide) (by decide) rfl hl.1 rfl (Nat.le_of_ble_eq_true rfl) rfl rfl ⟨Nat.le_of_ble_eq_true rfl, Nat.le_of_ble_eq_true rfl⟩ d_En_mayDoNext_4 (fun r1 w1 H locs hw hP hD hS => ?_)
  obtain ⟨rfl, rfl⟩ := hw
  have hP : va_P D classes [(h0, .inr (0, [.ref x_reader, .ref x_tape, .ref h1, .ref x_paper, .ref x_moves, .ref x_stateSum, .ref x_minor, .ref x_polynomial, .ref x_now, .ref x_next, .ref x_trial, .ref x_latest, .ref x_earlier, .ref x_spare, .int 0, .int 0, .int 0, .int 0])), (h1, .inr (1, [.ref y_kind, .ref y_start, .ref y_value, .int 0, .int 0]))] H := hP
  have hD : va_D A [(h0, .inr (0, [.ref x_reader, .ref x_tape, .ref h1, .ref x_paper, .ref x_moves, .ref x_stateSum, .ref x_minor, .ref x_polynomial, .ref x_now, .ref x_next, .ref x_trial, .ref x_latest, .ref x_earlier, .ref x_spare, .int 0, .int 0, .int 0, .int 0])), (h1, .inr (1, [.ref y_kind, .ref y_start, .ref y_value, .int 0, .int 0]))] := hD
  refine vz_if_eq_t (tgt := 20) hx hb d_En_mayDoNext_7 (by decide) (by decide +kernel) ?_
  refine lv_iconst (v := 0) hx hb d_En_mayDoNext_20 (by decide) ?_
  have hP := hP.sub (ws' := [(h0, .inr (0, [.ref x_reader, .ref x_tape, .ref h1, .ref x_paper, .ref x_moves, .ref x_stateSum, .ref x_minor, .ref x_polynomial, .ref x_now, .ref x_next, .ref x_trial, .ref x_latest, .ref x_earlier, .ref x_spare, .int 0, .int 0, .int 0, .int 0])), (h1, .inr (1, [.ref y_kind, .ref y_start, .ref y_value, .int 0, .int 0]))]) [0, 1] rfl
  have hD := hD.sub (ws' := [(h0, .inr (0, [.ref x_reader, .ref x_tape, .ref h1, .ref x_paper, .ref x_moves, .ref x_stateSum, .ref x_minor, .ref x_polynomial, .ref x_now, .ref x_next, .ref x_trial, .ref x_latest, .ref x_earlier, .ref x_spare, .int 0, .int 0, .int 0, .int 0])), (h1, .inr (1, [.ref y_kind, .ref y_start, .ref y_value, .int 0, .int 0]))]) [0, 1] (by decide) rfl
  exact vz_iret hx hb hr rfl hlocks hP hD hS (Nat.le_of_ble_eq_true rfl) (Nat.le_of_ble_eq_true rfl) d_En_mayDoNext_21 ⟨rfl, rfl⟩
def ru_ans (n : Int32) : Int32 := if n < 0 ∨ 16 < n then (-1) else 0
set_option maxHeartbeats 4000000 in
set_option maxRecDepth 100000 in
theorem k_run (l : Launch) (D : va_G) (cI cJ cB : ClassId) (h0 : Nat) (v : Int32) (x_reader : Nat) (x_tape : Nat) (x_paper : Nat) (x_moves : Nat) (x_stateSum : Nat) (x_minor : Nat) (x_polynomial : Nat) (x_now : Nat) (x_next : Nat) (x_trial : Nat) (x_latest : Nat) (x_earlier : Nat) (x_spare : Nat) (h1 : Nat) (y_kind : Nat) (y_start : Nat) (y_value : Nat)  : MtI l y_En_run (.code y_En_run b_En_run 6 (some .int) :: CW) ({ frames := 2, cells := 0, slots := 0, locals := 40 }) D [(cI, .int), (cJ, .long), (cB, .byte)] [.ref h0, .int v] [(h0, .inr (0, [.ref x_reader, .ref x_tape, .ref h1, .ref x_paper, .ref x_moves, .ref x_stateSum, .ref x_minor, .ref x_polynomial, .ref x_now, .ref x_next, .ref x_trial, .ref x_latest, .ref x_earlier, .ref x_spare, .int 0, .int 0, .int 0, .int 0])), (h1, .inr (1, [.ref y_kind, .ref y_start, .ref y_value, .int 0, .int 0]))] (fun (r : Int32) (_ : va_W) => r = ru_ans v) := by
  intro sz
  refine vz_start (Qc := fun A => va_Qi (fun (r : Int32) (_ : va_W) => r = ru_ans v) (vz_B D A) A) (lv0 := [(0, .ref h0), (1, .int v)]) (by decide +kernel) (Nat.le_of_ble_eq_true rfl) rfl ?_
  intro p e s m below meth c A ls C0 hl
  obtain ⟨hx, hb, hr, hml, hown, ht, hlocks, hin, hN, hK, hP, hD, hA, hS⟩ := C0
  refine lv_iload_n hx hb d_En_run_0 rfl (lv_at hl 1 rfl) ?_
  refine lv_if_lt (tgt := 10) hx hb d_En_run_1 (by decide) (fun c_1 => ?_) (fun c_1 => ?_)
  · refine lv_iconst (v := (-1)) hx hb d_En_run_10 (by decide) ?_
    exact vz_iret hx hb hr rfl hlocks hP hD hS (Nat.le_of_ble_eq_true rfl) (Nat.le_of_ble_eq_true rfl) d_En_run_11 (if_pos (Or.inl c_1)).symm
  · refine lv_iload_n hx hb d_En_run_4 rfl (lv_at hl 1 rfl) ?_
    refine lv_bipush (v := 16) hx hb d_En_run_5 (by decide +kernel) ?_
    refine lv_icmp_le (tgt := 12) hx hb d_En_run_7 (by decide) (fun c_2 => ?_) (fun c_2 => ?_)
    · refine lv_iconst (v := 0) hx hb d_En_run_12 (by decide) ?_
      refine lv_istore_n (lv' := [(2, .int 0), (0, .ref h0), (1, .int v)]) hx hb d_En_run_13 rfl hl (by decide) rfl (fun ls hl => ?_)
      refine lv_iload_n hx hb d_En_run_14 rfl (lv_at hl 0 rfl) ?_
      refine lv_iload_n hx hb d_En_run_15 rfl (lv_at hl 2 rfl) ?_
      refine lv_icmp_ge (tgt := 102) hx hb d_En_run_16 (by decide) (fun c_3 => ?_) (fun c_3 => ?_)
      · refine lv_iload_n hx hb d_En_run_102 rfl (lv_at hl 0 rfl) ?_
        exact vz_iret hx hb hr rfl hlocks hP hD hS (Nat.le_of_ble_eq_true rfl) (Nat.le_of_ble_eq_true rfl) d_En_run_103 (if_neg (fun q => q.elim c_1 (Int32.not_lt.mpr c_2))).symm
      · refine lv_aload_n hx hb d_En_run_19 rfl (lv_at hl 1 rfl) ?_
        refine vz_callVi (n := 0) (As := []) (rest := []) (wc := [(h0, .inr (0, [.ref x_reader, .ref x_tape, .ref h1, .ref x_paper, .ref x_moves, .ref x_stateSum, .ref x_minor, .ref x_polynomial, .ref x_now, .ref x_next, .ref x_trial, .ref x_latest, .ref x_earlier, .ref x_spare, .int 0, .int 0, .int 0, .int 0])), (h1, .inr (1, [.ref y_kind, .ref y_start, .ref y_value, .int 0, .int 0]))]) (wr := []) (k1 := 0) (n1 := 0) hx hb hml hown ht hN hK hP hD hS hA (k_mayDoNext l D cI cJ cB h0 x_reader x_tape x_paper x_moves x_stateSum x_minor x_polynomial x_now x_next x_trial x_latest x_earlier x_spare h1 y_kind y_start y_value) m_194 m_172 m_191 m_192 m_193 (hc := (rfl : classes[0]? = some (R_En, F_En, 18))) 0 rfl (by decide +kernel) ⟨Nat.le_of_ble_eq_true rfl, Nat.le_of_ble_eq_true rfl⟩ [0, 1] [] rfl rfl (by decide) (by decide) (by decide) rfl hl.1 rfl (Nat.le_of_ble_eq_true rfl) rfl rfl ⟨Nat.le_of_ble_eq_true rfl, Nat.le_of_ble_eq_true rfl⟩ d_En_run_20 (fun r1 w1 H locs hw hP hD hS => ?_)
        obtain ⟨rfl, rfl⟩ := hw
        have hP : va_P D classes [(h0, .inr (0, [.ref x_reader, .ref x_tape, .ref h1, .ref x_paper, .ref x_moves, .ref x_stateSum, .ref x_minor, .ref x_polynomial, .ref x_now, .ref x_next, .ref x_trial, .ref x_latest, .ref x_earlier, .ref x_spare, .int 0, .int 0, .int 0, .int 0])), (h1, .inr (1, [.ref y_kind, .ref y_start, .ref y_value, .int 0, .int 0]))] H := hP
        have hD : va_D A [(h0, .inr (0, [.ref x_reader, .ref x_tape, .ref h1, .ref x_paper, .ref x_moves, .ref x_stateSum, .ref x_minor, .ref x_polynomial, .ref x_now, .ref x_next, .ref x_trial, .ref x_latest, .ref x_earlier, .ref x_spare, .int 0, .int 0, .int 0, .int 0])), (h1, .inr (1, [.ref y_kind, .ref y_start, .ref y_value, .int 0, .int 0]))] := hD
        refine vz_if_eq_t (tgt := 102) hx hb d_En_run_23 (by decide) (by decide +kernel) ?_
        refine lv_iload_n hx hb d_En_run_102 rfl (lv_at hl 0 rfl) ?_
        exact vz_iret hx hb hr rfl hlocks hP hD hS (Nat.le_of_ble_eq_true rfl) (Nat.le_of_ble_eq_true rfl) d_En_run_103 (if_neg (fun q => q.elim c_1 (Int32.not_lt.mpr c_2))).symm
    · refine lv_iconst (v := (-1)) hx hb d_En_run_10 (by decide) ?_
      exact vz_iret hx hb hr rfl hlocks hP hD hS (Nat.le_of_ble_eq_true rfl) (Nat.le_of_ble_eq_true rfl) d_En_run_11 (if_pos (Or.inr (Int32.not_le.mp c_2))).symm
