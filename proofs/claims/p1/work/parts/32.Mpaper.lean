set_option maxHeartbeats 4000000 in
set_option maxRecDepth 100000 in
theorem k_Mcrossing (l : Launch) (D : va_G) (cI cJ cB : ClassId) (h0 : Nat) (v : Int32) (u : Int32) (x_tape : Nat) (x_out : Nat) (x_text : Nat) (x_kinds : Nat) (x_begins : Nat) (x_numbers : Nat) (x_old : Nat) (x_before : Nat) (x_latest : Nat) (x_earlier : Nat) (x_keptLatest : Nat) (x_keptEarlier : Nat) (x_made : Nat) (x_labelOf : Nat) (x_begin : Nat) (x_finish : Nat) (x_follow : Nat) (x_compOf : Nat) (x_placed : Nat) (x_faceOf : Nat) (x_firstDart : Nat) (x_pieceOf : Nat) (x_top : Nat) (x_poly : Nat) (x_other : Nat) (x_root : Nat) (x_ways : Nat) (x_arcOf : Nat) (x_low : Nat) (x_high : Nat) (x_minor : Nat) (x_gcd : Nat) (x_one : Nat) (h1 : Nat) (y_sign : Nat) (y_label : Nat)  : MtI l y_Md_crossing (.code y_Md_crossing b_Md_crossing 3 (some .int) :: CW) ({ frames := 0, cells := 0, slots := 0, locals := 0 }) D [(cI, .int), (cJ, .long), (cB, .byte)] [.ref h0, .int v, .int u] [(h0, .inr (11, [.ref x_tape, .int 0, .ref x_out, .int 0, .ref x_text, .int 0, .int 0, .int 0, .int 0, .int 0, .int 0, .int (-1), .ref x_kinds, .ref x_begins, .ref x_numbers, .int 0, .int 0, .int 0, .ref h1, .ref x_old, .ref x_before, .ref x_latest, .ref x_earlier, .ref x_keptLatest, .ref x_keptEarlier, .int 0, .int 0, .ref x_made, .int 0, .int 0, .ref x_labelOf, .ref x_begin, .ref x_finish, .ref x_follow, .ref x_compOf, .ref x_placed, .int 0, .int 0, .ref x_faceOf, .ref x_firstDart, .ref x_pieceOf, .int 0, .ref x_top, .ref x_poly, .ref x_other, .ref x_root, .ref x_ways, .int 0, .ref x_arcOf, .ref x_low, .ref x_high, .ref x_minor, .ref x_gcd, .ref x_one])), (h1, .inr (12, [.int 0, .int 0, .ref y_sign, .ref y_label]))] (fun (r : Int32) (_ : va_W) => r = 0) := by
  intro sz
  refine vz_start (Qc := fun A => va_Qi (fun (r : Int32) (_ : va_W) => r = 0) (vz_B D A) A) (lv0 := [(0, .ref h0), (1, .int v), (2, .int u)]) (by decide +kernel) (Nat.le_of_ble_eq_true rfl) rfl ?_
  intro p e s m below meth c A ls C0 hl
  obtain ⟨hx, hb, hr, hml, hown, ht, hlocks, hin, hN, hK, hP, hD, hA, hS⟩ := C0
  refine lv_iload_n hx hb d_Md_crossing_0 rfl (lv_at hl 1 rfl) ?_
  refine lv_if_lt (tgt := 24) hx hb d_Md_crossing_1 (by decide) (fun c_1 => ?_) (fun c_1 => ?_)
  · refine lv_iconst (v := 0) hx hb d_Md_crossing_24 (by decide) ?_
    exact vz_iret hx hb hr rfl hlocks hP hD hS (Nat.le_of_ble_eq_true rfl) (Nat.le_of_ble_eq_true rfl) d_Md_crossing_25 rfl
  · refine lv_iload_n hx hb d_Md_crossing_4 rfl (lv_at hl 1 rfl) ?_
    refine lv_aload_n hx hb d_Md_crossing_5 rfl (lv_at hl 0 rfl) ?_
    refine va_get (D := D) (ci := 11) (v := .ref h1) (C := R_Md) (T := F_Md) (N := 54) hx hb ht i_Md hown hK hP 0 rfl rfl 18 (Nat.le_of_ble_eq_true rfl) (ht _ m_134) (fun _ h9 => h9) rfl d_Md_crossing_6 ?_
    refine va_getN (D := D) (ci := 12) (v := .int 0) (C := R_Md_Di) (T := F_Md_Di) (N := 4) hx hb ht i_Md_Di hown hK hP 1 rfl rfl 0 (Nat.le_of_ble_eq_true rfl) (va_Nw.use rfl (hN _ n_21)) (fun _ h9 => h9) rfl d_Md_crossing_9 ?_
    refine lv_icmp_ge (tgt := 24) hx hb d_Md_crossing_12 (by decide) (fun c_2 => ?_) (fun c_2 => ?_)
    · refine lv_iconst (v := 0) hx hb d_Md_crossing_24 (by decide) ?_
      exact vz_iret hx hb hr rfl hlocks hP hD hS (Nat.le_of_ble_eq_true rfl) (Nat.le_of_ble_eq_true rfl) d_Md_crossing_25 rfl
    · exact absurd (Int32.not_lt.mp c_1) c_2
set_option maxHeartbeats 4000000 in
set_option maxRecDepth 100000 in
theorem k_Mprinted (l : Launch) (D : va_G) (cI cJ cB : ClassId) (h0 : Nat) (v : Int32) (x_tape : Nat) (x_out : Nat) (x_text : Nat) (x_kinds : Nat) (x_begins : Nat) (x_numbers : Nat) (x_d : Nat) (x_old : Nat) (x_before : Nat) (x_latest : Nat) (x_earlier : Nat) (x_keptLatest : Nat) (x_keptEarlier : Nat) (x_made : Nat) (x_labelOf : Nat) (x_begin : Nat) (x_finish : Nat) (x_follow : Nat) (x_compOf : Nat) (x_placed : Nat) (x_faceOf : Nat) (x_firstDart : Nat) (x_pieceOf : Nat) (x_top : Nat) (x_poly : Nat) (x_other : Nat) (x_root : Nat) (x_ways : Nat) (x_arcOf : Nat) (x_low : Nat) (x_high : Nat) (x_minor : Nat) (x_gcd : Nat) (x_one : Nat)  : MtI l y_Md_printed (.code y_Md_printed b_Md_printed 2 (some .int) :: CW) ({ frames := 0, cells := 0, slots := 0, locals := 0 }) D [(cI, .int), (cJ, .long), (cB, .byte)] [.ref h0, .int v] [(h0, .inr (11, [.ref x_tape, .int 0, .ref x_out, .int 0, .ref x_text, .int 0, .int 0, .int 0, .int 0, .int 0, .int 0, .int (-1), .ref x_kinds, .ref x_begins, .ref x_numbers, .int 0, .int 0, .int 0, .ref x_d, .ref x_old, .ref x_before, .ref x_latest, .ref x_earlier, .ref x_keptLatest, .ref x_keptEarlier, .int 0, .int 0, .ref x_made, .int 0, .int 0, .ref x_labelOf, .ref x_begin, .ref x_finish, .ref x_follow, .ref x_compOf, .ref x_placed, .int 0, .int 0, .ref x_faceOf, .ref x_firstDart, .ref x_pieceOf, .int 0, .ref x_top, .ref x_poly, .ref x_other, .ref x_root, .ref x_ways, .int 0, .ref x_arcOf, .ref x_low, .ref x_high, .ref x_minor, .ref x_gcd, .ref x_one]))] (fun (r : Int32) (_ : va_W) => r = (-1)) := by
  intro sz
  refine vz_start (Qc := fun A => va_Qi (fun (r : Int32) (_ : va_W) => r = (-1)) (vz_B D A) A) (lv0 := [(0, .ref h0), (1, .int v)]) (by decide +kernel) (Nat.le_of_ble_eq_true rfl) rfl ?_
  intro p e s m below meth c A ls C0 hl
  obtain ⟨hx, hb, hr, hml, hown, ht, hlocks, hin, hN, hK, hP, hD, hA, hS⟩ := C0
  refine lv_iload_n hx hb d_Md_printed_0 rfl (lv_at hl 1 rfl) ?_
  refine lv_if_lt (tgt := 25) hx hb d_Md_printed_1 (by decide) (fun c_1 => ?_) (fun c_1 => ?_)
  · refine lv_iconst (v := (-1)) hx hb d_Md_printed_25 (by decide) ?_
    exact vz_iret hx hb hr rfl hlocks hP hD hS (Nat.le_of_ble_eq_true rfl) (Nat.le_of_ble_eq_true rfl) d_Md_printed_26 rfl
  · refine lv_iload_n hx hb d_Md_printed_4 rfl (lv_at hl 1 rfl) ?_
    refine lv_aload_n hx hb d_Md_printed_5 rfl (lv_at hl 0 rfl) ?_
    refine va_get (D := D) (ci := 11) (v := .int 0) (C := R_Md) (T := F_Md) (N := 54) hx hb ht i_Md hown hK hP 0 rfl rfl 3 (Nat.le_of_ble_eq_true rfl) (ht _ m_298) (fun _ h9 => h9) rfl d_Md_printed_6 ?_
    refine lv_icmp_ge (tgt := 25) hx hb d_Md_printed_9 (by decide) (fun c_2 => ?_) (fun c_2 => ?_)
    · refine lv_iconst (v := (-1)) hx hb d_Md_printed_25 (by decide) ?_
      exact vz_iret hx hb hr rfl hlocks hP hD hS (Nat.le_of_ble_eq_true rfl) (Nat.le_of_ble_eq_true rfl) d_Md_printed_26 rfl
    · exact absurd (Int32.not_lt.mp c_1) c_2
set_option maxHeartbeats 4000000 in
set_option maxRecDepth 100000 in
theorem k_Mwipe (l : Launch) (D : va_G) (cI cJ cB : ClassId) (h0 : Nat) (v : Int32) (x_tape : Nat) (x_out : Nat) (x_text : Nat) (x_kinds : Nat) (x_begins : Nat) (x_numbers : Nat) (x_d : Nat) (x_old : Nat) (x_before : Nat) (x_latest : Nat) (x_earlier : Nat) (x_keptLatest : Nat) (x_keptEarlier : Nat) (x_made : Nat) (x_labelOf : Nat) (x_begin : Nat) (x_finish : Nat) (x_follow : Nat) (x_compOf : Nat) (x_placed : Nat) (x_faceOf : Nat) (x_firstDart : Nat) (x_pieceOf : Nat) (x_top : Nat) (x_poly : Nat) (x_other : Nat) (x_root : Nat) (x_ways : Nat) (x_arcOf : Nat) (x_low : Nat) (x_high : Nat) (x_minor : Nat) (x_gcd : Nat) (x_one : Nat)  : MtI l y_Md_wipe (.code y_Md_wipe b_Md_wipe 4 (some .int) :: CW) ({ frames := 0, cells := 0, slots := 0, locals := 0 }) D [(cI, .int), (cJ, .long), (cB, .byte)] [.ref h0, .int v] [(h0, .inr (11, [.ref x_tape, .int 0, .ref x_out, .int 0, .ref x_text, .int 0, .int 0, .int 0, .int 0, .int 0, .int 0, .int (-1), .ref x_kinds, .ref x_begins, .ref x_numbers, .int 0, .int 0, .int 0, .ref x_d, .ref x_old, .ref x_before, .ref x_latest, .ref x_earlier, .ref x_keptLatest, .ref x_keptEarlier, .int 0, .int 0, .ref x_made, .int 0, .int 0, .ref x_labelOf, .ref x_begin, .ref x_finish, .ref x_follow, .ref x_compOf, .ref x_placed, .int 0, .int 0, .ref x_faceOf, .ref x_firstDart, .ref x_pieceOf, .int 0, .ref x_top, .ref x_poly, .ref x_other, .ref x_root, .ref x_ways, .int 0, .ref x_arcOf, .ref x_low, .ref x_high, .ref x_minor, .ref x_gcd, .ref x_one]))] (fun (r : Int32) (_ : va_W) => r = 0) := by
  intro sz
  refine vz_start (Qc := fun A => va_Qi (fun (r : Int32) (_ : va_W) => r = 0) (vz_B D A) A) (lv0 := [(0, .ref h0), (1, .int v)]) (by decide +kernel) (Nat.le_of_ble_eq_true rfl) rfl ?_
  intro p e s m below meth c A ls C0 hl
  obtain ⟨hx, hb, hr, hml, hown, ht, hlocks, hin, hN, hK, hP, hD, hA, hS⟩ := C0
  refine lv_aload_n hx hb d_Md_wipe_0 rfl (lv_at hl 0 rfl) ?_
  refine va_get (D := D) (ci := 11) (v := .int 0) (C := R_Md) (T := F_Md) (N := 54) hx hb ht i_Md hown hK hP 0 rfl rfl 3 (Nat.le_of_ble_eq_true rfl) (ht _ m_298) (fun _ h9 => h9) rfl d_Md_wipe_1 ?_
  refine lv_istore_n (lv' := [(2, .int 0), (0, .ref h0), (1, .int v)]) hx hb d_Md_wipe_4 rfl hl (by decide) rfl (fun ls hl => ?_)
  refine lv_aload_n hx hb d_Md_wipe_5 rfl (lv_at hl 1 rfl) ?_
  refine lv_iconst (v := 0) hx hb d_Md_wipe_6 (by decide) ?_
  refine va_put (D := D) (ci := 11) (v := .int 0) (ty := .int) (C := R_Md) (T := F_Md) (N := 54) hx hb ht i_Md t_Md t_Md_ok n_Md hown hK hP hD hS 0 rfl rfl 3 (Nat.le_of_ble_eq_true rfl) (ht _ m_298) (fun _ h9 => h9) rfl (by decide +kernel) rfl rfl (Nat.le_of_ble_eq_true rfl) d_Md_wipe_7 (fun H locs hP hD hS => ?_)
  have hP : va_P D classes [(h0, .inr (11, [.ref x_tape, .int 0, .ref x_out, .int 0, .ref x_text, .int 0, .int 0, .int 0, .int 0, .int 0, .int 0, .int (-1), .ref x_kinds, .ref x_begins, .ref x_numbers, .int 0, .int 0, .int 0, .ref x_d, .ref x_old, .ref x_before, .ref x_latest, .ref x_earlier, .ref x_keptLatest, .ref x_keptEarlier, .int 0, .int 0, .ref x_made, .int 0, .int 0, .ref x_labelOf, .ref x_begin, .ref x_finish, .ref x_follow, .ref x_compOf, .ref x_placed, .int 0, .int 0, .ref x_faceOf, .ref x_firstDart, .ref x_pieceOf, .int 0, .ref x_top, .ref x_poly, .ref x_other, .ref x_root, .ref x_ways, .int 0, .ref x_arcOf, .ref x_low, .ref x_high, .ref x_minor, .ref x_gcd, .ref x_one]))] H := hP
  have hD : va_D A [(h0, .inr (11, [.ref x_tape, .int 0, .ref x_out, .int 0, .ref x_text, .int 0, .int 0, .int 0, .int 0, .int 0, .int 0, .int (-1), .ref x_kinds, .ref x_begins, .ref x_numbers, .int 0, .int 0, .int 0, .ref x_d, .ref x_old, .ref x_before, .ref x_latest, .ref x_earlier, .ref x_keptLatest, .ref x_keptEarlier, .int 0, .int 0, .ref x_made, .int 0, .int 0, .ref x_labelOf, .ref x_begin, .ref x_finish, .ref x_follow, .ref x_compOf, .ref x_placed, .int 0, .int 0, .ref x_faceOf, .ref x_firstDart, .ref x_pieceOf, .int 0, .ref x_top, .ref x_poly, .ref x_other, .ref x_root, .ref x_ways, .int 0, .ref x_arcOf, .ref x_low, .ref x_high, .ref x_minor, .ref x_gcd, .ref x_one]))] := hD
  refine lv_iload_n hx hb d_Md_wipe_10 rfl (lv_at hl 2 rfl) ?_
  refine lv_if_ne (tgt := 16) hx hb d_Md_wipe_11 (by decide) (fun c_1 => ?_) (fun c_1 => ?_)
  · refine lv_iconst (v := 0) hx hb d_Md_wipe_16 (by decide) ?_
    refine lv_istore_n (lv' := [(3, .int 0), (2, .int 0), (0, .ref h0), (1, .int v)]) hx hb d_Md_wipe_17 rfl hl (by decide) rfl (fun ls hl => ?_)
    refine lv_iload_n hx hb d_Md_wipe_18 rfl (lv_at hl 0 rfl) ?_
    refine lv_iload_n hx hb d_Md_wipe_19 rfl (lv_at hl 1 rfl) ?_
    refine vz_icmp_ge_t (tgt := 41) hx hb d_Md_wipe_20 (by decide) (by decide +kernel) ?_
    refine lv_aload_n hx hb d_Md_wipe_41 rfl (lv_at hl 2 rfl) ?_
    refine lv_iload_n hx hb d_Md_wipe_42 rfl (lv_at hl 1 rfl) ?_
    refine va_put (D := D) (ci := 11) (v := .int 0) (ty := .int) (C := R_Md) (T := F_Md) (N := 54) hx hb ht i_Md t_Md t_Md_ok n_Md hown hK hP hD hS 0 rfl rfl 1 (Nat.le_of_ble_eq_true rfl) (ht _ m_275) (fun _ h9 => h9) rfl (by decide +kernel) rfl rfl (Nat.le_of_ble_eq_true rfl) d_Md_wipe_43 (fun H locs hP hD hS => ?_)
    have hP : va_P D classes [(h0, .inr (11, [.ref x_tape, .int 0, .ref x_out, .int 0, .ref x_text, .int 0, .int 0, .int 0, .int 0, .int 0, .int 0, .int (-1), .ref x_kinds, .ref x_begins, .ref x_numbers, .int 0, .int 0, .int 0, .ref x_d, .ref x_old, .ref x_before, .ref x_latest, .ref x_earlier, .ref x_keptLatest, .ref x_keptEarlier, .int 0, .int 0, .ref x_made, .int 0, .int 0, .ref x_labelOf, .ref x_begin, .ref x_finish, .ref x_follow, .ref x_compOf, .ref x_placed, .int 0, .int 0, .ref x_faceOf, .ref x_firstDart, .ref x_pieceOf, .int 0, .ref x_top, .ref x_poly, .ref x_other, .ref x_root, .ref x_ways, .int 0, .ref x_arcOf, .ref x_low, .ref x_high, .ref x_minor, .ref x_gcd, .ref x_one]))] H := hP
    have hD : va_D A [(h0, .inr (11, [.ref x_tape, .int 0, .ref x_out, .int 0, .ref x_text, .int 0, .int 0, .int 0, .int 0, .int 0, .int 0, .int (-1), .ref x_kinds, .ref x_begins, .ref x_numbers, .int 0, .int 0, .int 0, .ref x_d, .ref x_old, .ref x_before, .ref x_latest, .ref x_earlier, .ref x_keptLatest, .ref x_keptEarlier, .int 0, .int 0, .ref x_made, .int 0, .int 0, .ref x_labelOf, .ref x_begin, .ref x_finish, .ref x_follow, .ref x_compOf, .ref x_placed, .int 0, .int 0, .ref x_faceOf, .ref x_firstDart, .ref x_pieceOf, .int 0, .ref x_top, .ref x_poly, .ref x_other, .ref x_root, .ref x_ways, .int 0, .ref x_arcOf, .ref x_low, .ref x_high, .ref x_minor, .ref x_gcd, .ref x_one]))] := hD
    refine lv_iload_n hx hb d_Md_wipe_46 rfl (lv_at hl 1 rfl) ?_
    exact vz_iret hx hb hr rfl hlocks hP hD hS (Nat.le_of_ble_eq_true rfl) (Nat.le_of_ble_eq_true rfl) d_Md_wipe_47 rfl
  · refine lv_iload_n hx hb d_Md_wipe_14 rfl (lv_at hl 0 rfl) ?_
    exact vz_iret hx hb hr rfl hlocks hP hD hS (Nat.le_of_ble_eq_true rfl) (Nat.le_of_ble_eq_true rfl) d_Md_wipe_15 rfl
