set_option maxHeartbeats 4000000 in
set_option maxRecDepth 100000 in
theorem k_crossing (l : Launch) (D : va_G) (cI cJ cB : ClassId) (h0 : Nat) (v : Int32) (u : Int32) (x_reader : Nat) (x_tape : Nat) (x_lines : Nat) (x_paper : Nat) (x_moves : Nat) (x_stateSum : Nat) (x_minor : Nat) (x_polynomial : Nat) (x_next : Nat) (x_trial : Nat) (x_latest : Nat) (x_earlier : Nat) (x_spare : Nat) (h1 : Nat) (y_sign : Nat) (y_label : Nat) (y_shape : Nat)  : MtI l y_En_crossing (.code y_En_crossing b_En_crossing 3 (some .int) :: CW) ({ frames := 0, cells := 0, slots := 0, locals := 0 }) D [(cI, .int), (cJ, .long), (cB, .byte)] [.ref h0, .int v, .int u] [(h0, .inr (0, [.ref x_reader, .ref x_tape, .ref x_lines, .ref x_paper, .ref x_moves, .ref x_stateSum, .ref x_minor, .ref x_polynomial, .ref h1, .ref x_next, .ref x_trial, .ref x_latest, .ref x_earlier, .ref x_spare, .int 0, .int 0, .int 0, .int 0])), (h1, .inr (4, [.ref y_sign, .ref y_label, .ref y_shape, .int 0, .int 0, .int 0]))] (fun (r : Int32) (_ : va_W) => r = 0) := by
  intro sz
  refine vz_start (Qc := fun A => va_Qi (fun (r : Int32) (_ : va_W) => r = 0) (vz_B D A) A) (lv0 := [(0, .ref h0), (1, .int v), (2, .int u)]) (by decide +kernel) (Nat.le_of_ble_eq_true rfl) rfl ?_
  intro p e s m below meth c A ls C0 hl
  obtain ⟨hx, hb, hr, hml, hown, ht, hlocks, hin, hN, hK, hP, hD, hA, hS⟩ := C0
  refine lv_iload_n hx hb d_En_crossing_0 rfl (lv_at hl 1 rfl) ?_
  refine lv_if_lt (tgt := 24) hx hb d_En_crossing_1 (by decide) (fun c_1 => ?_) (fun c_1 => ?_)
  · refine lv_iconst (v := 0) hx hb d_En_crossing_24 (by decide) ?_
    exact vz_iret hx hb hr rfl hlocks hP hD hS (Nat.le_of_ble_eq_true rfl) (Nat.le_of_ble_eq_true rfl) d_En_crossing_25 rfl
  · refine lv_iload_n hx hb d_En_crossing_4 rfl (lv_at hl 1 rfl) ?_
    refine lv_aload_n hx hb d_En_crossing_5 rfl (lv_at hl 0 rfl) ?_
    refine va_get (D := D) (ci := 0) (v := .ref h1) (C := R_En) (T := F_En) (N := 18) hx hb ht i_En hown hK hP 0 rfl rfl 8 (Nat.le_of_ble_eq_true rfl) (ht _ m_102) (fun _ h9 => h9) rfl d_En_crossing_6 ?_
    refine va_getN (D := D) (ci := 4) (v := .int 0) (C := R_Di) (T := F_Di) (N := 6) hx hb ht i_Di hown hK hP 1 rfl rfl 3 (Nat.le_of_ble_eq_true rfl) (va_Nw.use rfl (hN _ n_15)) (fun _ h9 => h9) rfl d_En_crossing_9 ?_
    refine lv_icmp_ge (tgt := 24) hx hb d_En_crossing_12 (by decide) (fun c_2 => ?_) (fun c_2 => ?_)
    · refine lv_iconst (v := 0) hx hb d_En_crossing_24 (by decide) ?_
      exact vz_iret hx hb hr rfl hlocks hP hD hS (Nat.le_of_ble_eq_true rfl) (Nat.le_of_ble_eq_true rfl) d_En_crossing_25 rfl
    · exact absurd (Int32.not_lt.mp c_1) c_2
set_option maxHeartbeats 4000000 in
set_option maxRecDepth 100000 in
theorem k_printed (l : Launch) (D : va_G) (cI cJ cB : ClassId) (h0 : Nat) (v : Int32) (x_reader : Nat) (x_tape : Nat) (x_lines : Nat) (x_moves : Nat) (x_stateSum : Nat) (x_minor : Nat) (x_polynomial : Nat) (x_now : Nat) (x_next : Nat) (x_trial : Nat) (x_latest : Nat) (x_earlier : Nat) (x_spare : Nat) (h1 : Nat) (y_bytes : Nat) (y_digits : Nat)  : MtI l y_En_printed (.code y_En_printed b_En_printed 2 (some .int) :: CW) ({ frames := 0, cells := 0, slots := 0, locals := 0 }) D [(cI, .int), (cJ, .long), (cB, .byte)] [.ref h0, .int v] [(h0, .inr (0, [.ref x_reader, .ref x_tape, .ref x_lines, .ref h1, .ref x_moves, .ref x_stateSum, .ref x_minor, .ref x_polynomial, .ref x_now, .ref x_next, .ref x_trial, .ref x_latest, .ref x_earlier, .ref x_spare, .int 0, .int 0, .int 0, .int 0])), (h1, .inr (3, [.ref y_bytes, .ref y_digits, .int 0, .int 0]))] (fun (r : Int32) (_ : va_W) => r = (-1)) := by
  intro sz
  refine vz_start (Qc := fun A => va_Qi (fun (r : Int32) (_ : va_W) => r = (-1)) (vz_B D A) A) (lv0 := [(0, .ref h0), (1, .int v)]) (by decide +kernel) (Nat.le_of_ble_eq_true rfl) rfl ?_
  intro p e s m below meth c A ls C0 hl
  obtain ⟨hx, hb, hr, hml, hown, ht, hlocks, hin, hN, hK, hP, hD, hA, hS⟩ := C0
  refine lv_iload_n hx hb d_En_printed_0 rfl (lv_at hl 1 rfl) ?_
  refine lv_if_lt (tgt := 27) hx hb d_En_printed_1 (by decide) (fun c_1 => ?_) (fun c_1 => ?_)
  · refine lv_iconst (v := (-1)) hx hb d_En_printed_27 (by decide) ?_
    exact vz_iret hx hb hr rfl hlocks hP hD hS (Nat.le_of_ble_eq_true rfl) (Nat.le_of_ble_eq_true rfl) d_En_printed_28 rfl
  · refine lv_iload_n hx hb d_En_printed_4 rfl (lv_at hl 1 rfl) ?_
    refine lv_aload_n hx hb d_En_printed_5 rfl (lv_at hl 0 rfl) ?_
    refine va_get (D := D) (ci := 0) (v := .ref h1) (C := R_En) (T := F_En) (N := 18) hx hb ht i_En hown hK hP 0 rfl rfl 3 (Nat.le_of_ble_eq_true rfl) (ht _ m_72) (fun _ h9 => h9) rfl d_En_printed_6 ?_
    refine va_getN (D := D) (ci := 3) (v := .int 0) (C := R_Pa) (T := F_Pa) (N := 4) hx hb ht i_Pa hown hK hP 1 rfl rfl 2 (Nat.le_of_ble_eq_true rfl) (va_Nw.use rfl (hN _ n_16)) (fun _ h9 => h9) rfl d_En_printed_9 ?_
    refine lv_icmp_ge (tgt := 27) hx hb d_En_printed_12 (by decide) (fun c_2 => ?_) (fun c_2 => ?_)
    · refine lv_iconst (v := (-1)) hx hb d_En_printed_27 (by decide) ?_
      exact vz_iret hx hb hr rfl hlocks hP hD hS (Nat.le_of_ble_eq_true rfl) (Nat.le_of_ble_eq_true rfl) d_En_printed_28 rfl
    · exact absurd (Int32.not_lt.mp c_1) c_2
set_option maxHeartbeats 4000000 in
set_option maxRecDepth 100000 in
theorem k_wipe (l : Launch) (D : va_G) (cI cJ cB : ClassId) (h0 : Nat) (v : Int32) (x_reader : Nat) (x_tape : Nat) (x_lines : Nat) (x_moves : Nat) (x_stateSum : Nat) (x_minor : Nat) (x_polynomial : Nat) (x_now : Nat) (x_next : Nat) (x_trial : Nat) (x_latest : Nat) (x_earlier : Nat) (x_spare : Nat) (h1 : Nat) (y_bytes : Nat) (y_digits : Nat) (f : Nat → Int32) (g : Nat → Int32)  : MtI l y_En_wipe (.code y_En_wipe b_En_wipe 3 (some .int) :: CW) ({ frames := 1, cells := 0, slots := 0, locals := 64 }) D [(cI, .int), (cJ, .long), (cB, .byte)] [.ref h0, .int v] [(h0, .inr (0, [.ref x_reader, .ref x_tape, .ref x_lines, .ref h1, .ref x_moves, .ref x_stateSum, .ref x_minor, .ref x_polynomial, .ref x_now, .ref x_next, .ref x_trial, .ref x_latest, .ref x_earlier, .ref x_spare, .int 0, .int 0, .int 0, .int 0])), (h1, .inr (3, [.ref y_bytes, .ref y_digits, .int 0, .int 0])), (x_tape, .inl (cI, 4000, .inl f)), (y_bytes, .inl (cI, 4000, .inl g))] (fun (r : Int32) (_ : va_W) => r = 0) := by
  intro sz
  refine vz_start (Qc := fun A => va_Qi (fun (r : Int32) (_ : va_W) => r = 0) (vz_B D A) A) (lv0 := [(0, .ref h0), (1, .int v)]) (by decide +kernel) (Nat.le_of_ble_eq_true rfl) rfl ?_
  intro p e s m below meth c A ls C0 hl
  obtain ⟨hx, hb, hr, hml, hown, ht, hlocks, hin, hN, hK, hP, hD, hA, hS⟩ := C0
  refine lv_aload_n hx hb d_En_wipe_0 rfl (lv_at hl 0 rfl) ?_
  refine va_get (D := D) (ci := 0) (v := .ref h1) (C := R_En) (T := F_En) (N := 18) hx hb ht i_En hown hK hP 0 rfl rfl 3 (Nat.le_of_ble_eq_true rfl) (ht _ m_72) (fun _ h9 => h9) rfl d_En_wipe_1 ?_
  refine va_getN (D := D) (ci := 3) (v := .int 0) (C := R_Pa) (T := F_Pa) (N := 4) hx hb ht i_Pa hown hK hP 1 rfl rfl 2 (Nat.le_of_ble_eq_true rfl) (va_Nw.use rfl (hN _ n_16)) (fun _ h9 => h9) rfl d_En_wipe_4 ?_
  refine lv_istore_n (lv' := [(2, .int 0), (0, .ref h0), (1, .int v)]) hx hb d_En_wipe_7 rfl hl (by decide) rfl (fun ls hl => ?_)
  refine lv_iload_n hx hb d_En_wipe_8 rfl (lv_at hl 2 rfl) ?_
  refine lv_if_eq (tgt := 34) hx hb d_En_wipe_9 (by decide) (fun c_1 => ?_) (fun c_1 => ?_)
  · refine lv_aload_n hx hb d_En_wipe_34 rfl (lv_at hl 1 rfl) ?_
    refine va_get (D := D) (ci := 0) (v := .ref h1) (C := R_En) (T := F_En) (N := 18) hx hb ht i_En hown hK hP 0 rfl rfl 3 (Nat.le_of_ble_eq_true rfl) (ht _ m_72) (fun _ h9 => h9) rfl d_En_wipe_35 ?_
    refine lv_iconst (v := 0) hx hb d_En_wipe_38 (by decide) ?_
    refine va_putN (D := D) (ci := 3) (v := .int 0) (ty := .int) (C := R_Pa) (T := F_Pa) (N := 4) hx hb ht i_Pa t_Pa t_Pa_ok n_Pa hown hK hP hD hS 1 rfl rfl 2 (Nat.le_of_ble_eq_true rfl) (va_Nw.use rfl (hN _ n_16)) (fun _ h9 => h9) rfl (by decide +kernel) rfl rfl (Nat.le_of_ble_eq_true rfl) d_En_wipe_39 (fun H locs hP hD hS => ?_)
    have hP : va_P D classes [(h0, .inr (0, [.ref x_reader, .ref x_tape, .ref x_lines, .ref h1, .ref x_moves, .ref x_stateSum, .ref x_minor, .ref x_polynomial, .ref x_now, .ref x_next, .ref x_trial, .ref x_latest, .ref x_earlier, .ref x_spare, .int 0, .int 0, .int 0, .int 0])), (h1, .inr (3, [.ref y_bytes, .ref y_digits, .int 0, .int 0])), (x_tape, .inl (cI, 4000, .inl f)), (y_bytes, .inl (cI, 4000, .inl g))] H := hP
    have hD : va_D A [(h0, .inr (0, [.ref x_reader, .ref x_tape, .ref x_lines, .ref h1, .ref x_moves, .ref x_stateSum, .ref x_minor, .ref x_polynomial, .ref x_now, .ref x_next, .ref x_trial, .ref x_latest, .ref x_earlier, .ref x_spare, .int 0, .int 0, .int 0, .int 0])), (h1, .inr (3, [.ref y_bytes, .ref y_digits, .int 0, .int 0])), (x_tape, .inl (cI, 4000, .inl f)), (y_bytes, .inl (cI, 4000, .inl g))] := hD
    refine lv_iload_n hx hb d_En_wipe_42 rfl (lv_at hl 0 rfl) ?_
    exact vz_iret hx hb hr rfl hlocks hP hD hS (Nat.le_of_ble_eq_true rfl) (Nat.le_of_ble_eq_true rfl) d_En_wipe_43 rfl
  · refine lv_aload_n hx hb d_En_wipe_12 rfl (lv_at hl 1 rfl) ?_
    refine va_get (D := D) (ci := 0) (v := .ref h1) (C := R_En) (T := F_En) (N := 18) hx hb ht i_En hown hK hP 0 rfl rfl 3 (Nat.le_of_ble_eq_true rfl) (ht _ m_72) (fun _ h9 => h9) rfl d_En_wipe_13 ?_
    refine va_getN (D := D) (ci := 3) (v := .ref y_bytes) (C := R_Pa) (T := F_Pa) (N := 4) hx hb ht i_Pa hown hK hP 1 rfl rfl 0 (Nat.le_of_ble_eq_true rfl) (va_Nw.use rfl (hN _ n_17)) (fun _ h9 => h9) rfl d_En_wipe_16 ?_
    refine lv_iconst (v := 0) hx hb d_En_wipe_19 (by decide) ?_
    refine lv_aload_n hx hb d_En_wipe_20 rfl (lv_at hl 1 rfl) ?_
    refine va_get (D := D) (ci := 0) (v := .ref x_tape) (C := R_En) (T := F_En) (N := 18) hx hb ht i_En hown hK hP 0 rfl rfl 1 (Nat.le_of_ble_eq_true rfl) (ht _ m_65) (fun _ h9 => h9) rfl d_En_wipe_21 ?_
    refine lv_iconst (v := 0) hx hb d_En_wipe_24 (by decide) ?_
    refine lv_iload_n hx hb d_En_wipe_25 rfl (lv_at hl 0 rfl) ?_
    refine va_copyi (ty := .int) hx hb (hml.trans hl.1.symm) hown (ht _ m_195) (ht _ m_196) (ht _ m_197) (ht _ m_198) hK hP hD hS 3 2 0 0 rfl rfl rfl rfl rfl (by decide) (by decide) (by decide) (by decide) (by decide) (fun i h => absurd h (Nat.not_lt_zero i)) (Nat.le_of_ble_eq_true rfl) (Nat.le_of_ble_eq_true rfl) d_En_wipe_26 (fun H locs hP hD hS => ?_)
    have hP : va_P D classes [(h0, .inr (0, [.ref x_reader, .ref x_tape, .ref x_lines, .ref h1, .ref x_moves, .ref x_stateSum, .ref x_minor, .ref x_polynomial, .ref x_now, .ref x_next, .ref x_trial, .ref x_latest, .ref x_earlier, .ref x_spare, .int 0, .int 0, .int 0, .int 0])), (h1, .inr (3, [.ref y_bytes, .ref y_digits, .int 0, .int 0])), (x_tape, .inl (cI, 4000, .inl (va_cpy g f (Int32.toNatClampNeg 0) (Int32.toNatClampNeg 0) (Int32.toNatClampNeg 0)))), (y_bytes, .inl (cI, 4000, .inl g))] H := hP
    have hD : va_D A [(h0, .inr (0, [.ref x_reader, .ref x_tape, .ref x_lines, .ref h1, .ref x_moves, .ref x_stateSum, .ref x_minor, .ref x_polynomial, .ref x_now, .ref x_next, .ref x_trial, .ref x_latest, .ref x_earlier, .ref x_spare, .int 0, .int 0, .int 0, .int 0])), (h1, .inr (3, [.ref y_bytes, .ref y_digits, .int 0, .int 0])), (x_tape, .inl (cI, 4000, .inl (va_cpy g f (Int32.toNatClampNeg 0) (Int32.toNatClampNeg 0) (Int32.toNatClampNeg 0)))), (y_bytes, .inl (cI, 4000, .inl g))] := hD
    refine lv_aload_n hx hb d_En_wipe_29 rfl (lv_at hl 1 rfl) ?_
    refine lv_iload_n hx hb d_En_wipe_30 rfl (lv_at hl 0 rfl) ?_
    refine va_put (D := D) (ci := 0) (v := .int 0) (ty := .int) (C := R_En) (T := F_En) (N := 18) hx hb ht i_En t_En t_En_ok n_En hown hK hP hD hS 0 rfl rfl 14 (Nat.le_of_ble_eq_true rfl) (ht _ m_167) (fun _ h9 => h9) rfl (by decide +kernel) rfl rfl (Nat.le_of_ble_eq_true rfl) d_En_wipe_31 (fun H locs hP hD hS => ?_)
    have hP : va_P D classes [(h0, .inr (0, [.ref x_reader, .ref x_tape, .ref x_lines, .ref h1, .ref x_moves, .ref x_stateSum, .ref x_minor, .ref x_polynomial, .ref x_now, .ref x_next, .ref x_trial, .ref x_latest, .ref x_earlier, .ref x_spare, .int 0, .int 0, .int 0, .int 0])), (h1, .inr (3, [.ref y_bytes, .ref y_digits, .int 0, .int 0])), (x_tape, .inl (cI, 4000, .inl (va_cpy g f (Int32.toNatClampNeg 0) (Int32.toNatClampNeg 0) (Int32.toNatClampNeg 0)))), (y_bytes, .inl (cI, 4000, .inl g))] H := hP
    have hD : va_D A [(h0, .inr (0, [.ref x_reader, .ref x_tape, .ref x_lines, .ref h1, .ref x_moves, .ref x_stateSum, .ref x_minor, .ref x_polynomial, .ref x_now, .ref x_next, .ref x_trial, .ref x_latest, .ref x_earlier, .ref x_spare, .int 0, .int 0, .int 0, .int 0])), (h1, .inr (3, [.ref y_bytes, .ref y_digits, .int 0, .int 0])), (x_tape, .inl (cI, 4000, .inl (va_cpy g f (Int32.toNatClampNeg 0) (Int32.toNatClampNeg 0) (Int32.toNatClampNeg 0)))), (y_bytes, .inl (cI, 4000, .inl g))] := hD
    refine lv_aload_n hx hb d_En_wipe_34 rfl (lv_at hl 1 rfl) ?_
    refine va_get (D := D) (ci := 0) (v := .ref h1) (C := R_En) (T := F_En) (N := 18) hx hb ht i_En hown hK hP 0 rfl rfl 3 (Nat.le_of_ble_eq_true rfl) (ht _ m_72) (fun _ h9 => h9) rfl d_En_wipe_35 ?_
    refine lv_iconst (v := 0) hx hb d_En_wipe_38 (by decide) ?_
    refine va_putN (D := D) (ci := 3) (v := .int 0) (ty := .int) (C := R_Pa) (T := F_Pa) (N := 4) hx hb ht i_Pa t_Pa t_Pa_ok n_Pa hown hK hP hD hS 1 rfl rfl 2 (Nat.le_of_ble_eq_true rfl) (va_Nw.use rfl (hN _ n_16)) (fun _ h9 => h9) rfl (by decide +kernel) rfl rfl (Nat.le_of_ble_eq_true rfl) d_En_wipe_39 (fun H locs hP hD hS => ?_)
    have hP : va_P D classes [(h0, .inr (0, [.ref x_reader, .ref x_tape, .ref x_lines, .ref h1, .ref x_moves, .ref x_stateSum, .ref x_minor, .ref x_polynomial, .ref x_now, .ref x_next, .ref x_trial, .ref x_latest, .ref x_earlier, .ref x_spare, .int 0, .int 0, .int 0, .int 0])), (h1, .inr (3, [.ref y_bytes, .ref y_digits, .int 0, .int 0])), (x_tape, .inl (cI, 4000, .inl (va_cpy g f (Int32.toNatClampNeg 0) (Int32.toNatClampNeg 0) (Int32.toNatClampNeg 0)))), (y_bytes, .inl (cI, 4000, .inl g))] H := hP
    have hD : va_D A [(h0, .inr (0, [.ref x_reader, .ref x_tape, .ref x_lines, .ref h1, .ref x_moves, .ref x_stateSum, .ref x_minor, .ref x_polynomial, .ref x_now, .ref x_next, .ref x_trial, .ref x_latest, .ref x_earlier, .ref x_spare, .int 0, .int 0, .int 0, .int 0])), (h1, .inr (3, [.ref y_bytes, .ref y_digits, .int 0, .int 0])), (x_tape, .inl (cI, 4000, .inl (va_cpy g f (Int32.toNatClampNeg 0) (Int32.toNatClampNeg 0) (Int32.toNatClampNeg 0)))), (y_bytes, .inl (cI, 4000, .inl g))] := hD
    refine lv_iload_n hx hb d_En_wipe_42 rfl (lv_at hl 0 rfl) ?_
    exact vz_iret hx hb hr rfl hlocks hP hD hS (Nat.le_of_ble_eq_true rfl) (Nat.le_of_ble_eq_true rfl) d_En_wipe_43 rfl
