set_option maxHeartbeats 4000000 in
set_option maxRecDepth 100000 in
/-- four places of the tape are written, four counted -/
theorem k_putOnTape (l : Launch) (D : va_G) (cI cJ cB : ClassId) (h0 : Nat) (v : Int32) (t : Nat) (x_reader : Nat) (x_tape : Nat) (x_lines : Nat) (x_paper : Nat) (x_moves : Nat) (x_stateSum : Nat) (x_minor : Nat) (x_polynomial : Nat) (x_now : Nat) (x_next : Nat) (x_trial : Nat) (x_latest : Nat) (x_earlier : Nat) (x_spare : Nat) (f : Nat → Int32) (ht4 : t + 4 ≤ 4000) : MtV l y_En_putOnTape (.code y_En_putOnTape b_En_putOnTape 3 none :: CW) ({ frames := 0, cells := 0, slots := 0, locals := 0 }) D [(cI, .int), (cJ, .long), (cB, .byte)] [.ref h0, .int v] [(h0, .inr (0, [.ref x_reader, .ref x_tape, .ref x_lines, .ref x_paper, .ref x_moves, .ref x_stateSum, .ref x_minor, .ref x_polynomial, .ref x_now, .ref x_next, .ref x_trial, .ref x_latest, .ref x_earlier, .ref x_spare, .int (nI t), .int 0, .int 0, .int 0])), (x_tape, .inl (cI, 4000, .inl f))] (fun (w : va_W) => ∃ g_12 : Nat → Int32, w = [(h0, .inr (0, [.ref x_reader, .ref x_tape, .ref x_lines, .ref x_paper, .ref x_moves, .ref x_stateSum, .ref x_minor, .ref x_polynomial, .ref x_now, .ref x_next, .ref x_trial, .ref x_latest, .ref x_earlier, .ref x_spare, .int (nI ((((t + 1) + 1) + 1) + 1)), .int 0, .int 0, .int 0])), (x_tape, .inl (cI, 4000, .inl g_12))]) := by
  intro sz
  refine vz_start (Qc := fun A => va_Qv (fun (w : va_W) => ∃ g_12 : Nat → Int32, w = [(h0, .inr (0, [.ref x_reader, .ref x_tape, .ref x_lines, .ref x_paper, .ref x_moves, .ref x_stateSum, .ref x_minor, .ref x_polynomial, .ref x_now, .ref x_next, .ref x_trial, .ref x_latest, .ref x_earlier, .ref x_spare, .int (nI ((((t + 1) + 1) + 1) + 1)), .int 0, .int 0, .int 0])), (x_tape, .inl (cI, 4000, .inl g_12))]) (vz_B D A) A) (lv0 := [(0, .ref h0), (1, .int v)]) (by decide +kernel) (Nat.le_of_ble_eq_true rfl) rfl ?_
  intro p e s m below meth c A ls C0 hl
  obtain ⟨hx, hb, hr, hml, hown, ht, hlocks, hin, hN, hK, hP, hD, hA, hS⟩ := C0
  refine lv_bipush (v := 24) hx hb d_En_putOnTape_0 (by decide +kernel) ?_
  refine lv_istore_n (lv' := [(2, .int 24), (0, .ref h0), (1, .int v)]) hx hb d_En_putOnTape_2 rfl hl (by decide) rfl (fun ls hl => ?_)
  refine lv_iload_n hx hb d_En_putOnTape_3 rfl (lv_at hl 0 rfl) ?_
  refine vz_if_lt_f (tgt := 49) hx hb d_En_putOnTape_4 (by decide) (by decide +kernel) ?_
  refine lv_aload_n hx hb d_En_putOnTape_7 rfl (lv_at hl 1 rfl) ?_
  refine va_get (D := D) (ci := 0) (v := .int (nI t)) (C := R_En) (T := F_En) (N := 18) hx hb ht i_En hown hK hP 0 rfl rfl 14 (Nat.le_of_ble_eq_true rfl) (ht _ m_167) (fun _ h9 => h9) rfl d_En_putOnTape_8 ?_
  refine lv_sipush (v := 4000) hx hb d_En_putOnTape_11 (by decide +kernel) ?_
  refine vz_icmp_ge_f (tgt := 49) hx hb d_En_putOnTape_14 (by decide) (vz_cmp_ge_f (b := 4000) (by omega) (by decide) (by decide +kernel) (by omega)) ?_
  refine lv_aload_n hx hb d_En_putOnTape_17 rfl (lv_at hl 1 rfl) ?_
  refine va_get (D := D) (ci := 0) (v := .ref x_tape) (C := R_En) (T := F_En) (N := 18) hx hb ht i_En hown hK hP 0 rfl rfl 1 (Nat.le_of_ble_eq_true rfl) (ht _ m_65) (fun _ h9 => h9) rfl d_En_putOnTape_18 ?_
  refine lv_aload_n hx hb d_En_putOnTape_21 rfl (lv_at hl 1 rfl) ?_
  refine va_get (D := D) (ci := 0) (v := .int (nI t)) (C := R_En) (T := F_En) (N := 18) hx hb ht i_En hown hK hP 0 rfl rfl 14 (Nat.le_of_ble_eq_true rfl) (ht _ m_167) (fun _ h9 => h9) rfl d_En_putOnTape_22 ?_
  refine lv_iload_n hx hb d_En_putOnTape_25 rfl (lv_at hl 2 rfl) ?_
  refine lv_iload_n hx hb d_En_putOnTape_26 rfl (lv_at hl 0 rfl) ?_
  refine lv_iushr hx hb d_En_putOnTape_27 rfl ?_
  refine lv_topi (fun x_1 ex_1 => ?_)
  refine lv_sipush (v := 255) hx hb d_En_putOnTape_28 (by decide +kernel) ?_
  refine lv_iand hx hb d_En_putOnTape_31 ?_
  refine lv_topi (fun x_2 ex_2 => ?_)
  refine vz_iast hx hb hK hP hD hS 1 0 rfl rfl (vp_in_nI (by omega) (by decide)) d_En_putOnTape_32 (fun g_3 H locs eg_3 hP hD hS => ?_)
  have hP : va_P D classes [(h0, .inr (0, [.ref x_reader, .ref x_tape, .ref x_lines, .ref x_paper, .ref x_moves, .ref x_stateSum, .ref x_minor, .ref x_polynomial, .ref x_now, .ref x_next, .ref x_trial, .ref x_latest, .ref x_earlier, .ref x_spare, .int (nI t), .int 0, .int 0, .int 0])), (x_tape, .inl (cI, 4000, .inl g_3))] H := hP
  have hD : va_D A [(h0, .inr (0, [.ref x_reader, .ref x_tape, .ref x_lines, .ref x_paper, .ref x_moves, .ref x_stateSum, .ref x_minor, .ref x_polynomial, .ref x_now, .ref x_next, .ref x_trial, .ref x_latest, .ref x_earlier, .ref x_spare, .int (nI t), .int 0, .int 0, .int 0])), (x_tape, .inl (cI, 4000, .inl g_3))] := hD
  refine lv_aload_n hx hb d_En_putOnTape_33 rfl (lv_at hl 1 rfl) ?_
  refine lv_dup hx hb d_En_putOnTape_34 rfl ?_
  refine va_get (D := D) (ci := 0) (v := .int (nI t)) (C := R_En) (T := F_En) (N := 18) hx hb ht i_En hown hK hP 0 rfl rfl 14 (Nat.le_of_ble_eq_true rfl) (ht _ m_167) (fun _ h9 => h9) rfl d_En_putOnTape_35 ?_
  refine lv_iconst (v := 1) hx hb d_En_putOnTape_38 (by decide) ?_
  refine lv_iadd hx hb d_En_putOnTape_39 ?_
  refine vz_topi (y := (nI (t + 1))) (vz_addn (by decide +kernel)) ?_
  refine va_put (D := D) (ci := 0) (v := .int (nI (t + 1))) (ty := .int) (C := R_En) (T := F_En) (N := 18) hx hb ht i_En t_En t_En_ok n_En hown hK hP hD hS 0 rfl rfl 14 (Nat.le_of_ble_eq_true rfl) (ht _ m_167) (fun _ h9 => h9) rfl (by decide +kernel) rfl rfl (Nat.le_of_ble_eq_true rfl) d_En_putOnTape_40 (fun H locs hP hD hS => ?_)
  have hP : va_P D classes [(h0, .inr (0, [.ref x_reader, .ref x_tape, .ref x_lines, .ref x_paper, .ref x_moves, .ref x_stateSum, .ref x_minor, .ref x_polynomial, .ref x_now, .ref x_next, .ref x_trial, .ref x_latest, .ref x_earlier, .ref x_spare, .int (nI (t + 1)), .int 0, .int 0, .int 0])), (x_tape, .inl (cI, 4000, .inl g_3))] H := hP
  have hD : va_D A [(h0, .inr (0, [.ref x_reader, .ref x_tape, .ref x_lines, .ref x_paper, .ref x_moves, .ref x_stateSum, .ref x_minor, .ref x_polynomial, .ref x_now, .ref x_next, .ref x_trial, .ref x_latest, .ref x_earlier, .ref x_spare, .int (nI (t + 1)), .int 0, .int 0, .int 0])), (x_tape, .inl (cI, 4000, .inl g_3))] := hD
  refine lv_iinc (v := 16) (lv' := [(2, .int 16), (0, .ref h0), (1, .int v)]) hx hb d_En_putOnTape_43 hl (k := 0) rfl (by decide +kernel) (by decide) rfl (fun ls hl => ?_)
  refine lv_goto (tgt := 3) hx hb d_En_putOnTape_46 (by decide) ?_
  refine lv_iload_n hx hb d_En_putOnTape_3 rfl (lv_at hl 0 rfl) ?_
  refine vz_if_lt_f (tgt := 49) hx hb d_En_putOnTape_4 (by decide) (by decide +kernel) ?_
  refine lv_aload_n hx hb d_En_putOnTape_7 rfl (lv_at hl 1 rfl) ?_
  refine va_get (D := D) (ci := 0) (v := .int (nI (t + 1))) (C := R_En) (T := F_En) (N := 18) hx hb ht i_En hown hK hP 0 rfl rfl 14 (Nat.le_of_ble_eq_true rfl) (ht _ m_167) (fun _ h9 => h9) rfl d_En_putOnTape_8 ?_
  refine lv_sipush (v := 4000) hx hb d_En_putOnTape_11 (by decide +kernel) ?_
  refine vz_icmp_ge_f (tgt := 49) hx hb d_En_putOnTape_14 (by decide) (vz_cmp_ge_f (b := 4000) (by omega) (by decide) (by decide +kernel) (by omega)) ?_
  refine lv_aload_n hx hb d_En_putOnTape_17 rfl (lv_at hl 1 rfl) ?_
  refine va_get (D := D) (ci := 0) (v := .ref x_tape) (C := R_En) (T := F_En) (N := 18) hx hb ht i_En hown hK hP 0 rfl rfl 1 (Nat.le_of_ble_eq_true rfl) (ht _ m_65) (fun _ h9 => h9) rfl d_En_putOnTape_18 ?_
  refine lv_aload_n hx hb d_En_putOnTape_21 rfl (lv_at hl 1 rfl) ?_
  refine va_get (D := D) (ci := 0) (v := .int (nI (t + 1))) (C := R_En) (T := F_En) (N := 18) hx hb ht i_En hown hK hP 0 rfl rfl 14 (Nat.le_of_ble_eq_true rfl) (ht _ m_167) (fun _ h9 => h9) rfl d_En_putOnTape_22 ?_
  refine lv_iload_n hx hb d_En_putOnTape_25 rfl (lv_at hl 2 rfl) ?_
  refine lv_iload_n hx hb d_En_putOnTape_26 rfl (lv_at hl 0 rfl) ?_
  refine lv_iushr hx hb d_En_putOnTape_27 rfl ?_
  refine lv_topi (fun x_4 ex_4 => ?_)
  refine lv_sipush (v := 255) hx hb d_En_putOnTape_28 (by decide +kernel) ?_
  refine lv_iand hx hb d_En_putOnTape_31 ?_
  refine lv_topi (fun x_5 ex_5 => ?_)
  refine vz_iast hx hb hK hP hD hS 1 0 rfl rfl (vp_in_nI (by omega) (by decide)) d_En_putOnTape_32 (fun g_6 H locs eg_6 hP hD hS => ?_)
  have hP : va_P D classes [(h0, .inr (0, [.ref x_reader, .ref x_tape, .ref x_lines, .ref x_paper, .ref x_moves, .ref x_stateSum, .ref x_minor, .ref x_polynomial, .ref x_now, .ref x_next, .ref x_trial, .ref x_latest, .ref x_earlier, .ref x_spare, .int (nI (t + 1)), .int 0, .int 0, .int 0])), (x_tape, .inl (cI, 4000, .inl g_6))] H := hP
  have hD : va_D A [(h0, .inr (0, [.ref x_reader, .ref x_tape, .ref x_lines, .ref x_paper, .ref x_moves, .ref x_stateSum, .ref x_minor, .ref x_polynomial, .ref x_now, .ref x_next, .ref x_trial, .ref x_latest, .ref x_earlier, .ref x_spare, .int (nI (t + 1)), .int 0, .int 0, .int 0])), (x_tape, .inl (cI, 4000, .inl g_6))] := hD
  refine lv_aload_n hx hb d_En_putOnTape_33 rfl (lv_at hl 1 rfl) ?_
  refine lv_dup hx hb d_En_putOnTape_34 rfl ?_
  refine va_get (D := D) (ci := 0) (v := .int (nI (t + 1))) (C := R_En) (T := F_En) (N := 18) hx hb ht i_En hown hK hP 0 rfl rfl 14 (Nat.le_of_ble_eq_true rfl) (ht _ m_167) (fun _ h9 => h9) rfl d_En_putOnTape_35 ?_
  refine lv_iconst (v := 1) hx hb d_En_putOnTape_38 (by decide) ?_
  refine lv_iadd hx hb d_En_putOnTape_39 ?_
  refine vz_topi (y := (nI ((t + 1) + 1))) (vz_addn (by decide +kernel)) ?_
  refine va_put (D := D) (ci := 0) (v := .int (nI ((t + 1) + 1))) (ty := .int) (C := R_En) (T := F_En) (N := 18) hx hb ht i_En t_En t_En_ok n_En hown hK hP hD hS 0 rfl rfl 14 (Nat.le_of_ble_eq_true rfl) (ht _ m_167) (fun _ h9 => h9) rfl (by decide +kernel) rfl rfl (Nat.le_of_ble_eq_true rfl) d_En_putOnTape_40 (fun H locs hP hD hS => ?_)
  have hP : va_P D classes [(h0, .inr (0, [.ref x_reader, .ref x_tape, .ref x_lines, .ref x_paper, .ref x_moves, .ref x_stateSum, .ref x_minor, .ref x_polynomial, .ref x_now, .ref x_next, .ref x_trial, .ref x_latest, .ref x_earlier, .ref x_spare, .int (nI ((t + 1) + 1)), .int 0, .int 0, .int 0])), (x_tape, .inl (cI, 4000, .inl g_6))] H := hP
  have hD : va_D A [(h0, .inr (0, [.ref x_reader, .ref x_tape, .ref x_lines, .ref x_paper, .ref x_moves, .ref x_stateSum, .ref x_minor, .ref x_polynomial, .ref x_now, .ref x_next, .ref x_trial, .ref x_latest, .ref x_earlier, .ref x_spare, .int (nI ((t + 1) + 1)), .int 0, .int 0, .int 0])), (x_tape, .inl (cI, 4000, .inl g_6))] := hD
  refine lv_iinc (v := 8) (lv' := [(2, .int 8), (0, .ref h0), (1, .int v)]) hx hb d_En_putOnTape_43 hl (k := 0) rfl (by decide +kernel) (by decide) rfl (fun ls hl => ?_)
  refine lv_goto (tgt := 3) hx hb d_En_putOnTape_46 (by decide) ?_
  refine lv_iload_n hx hb d_En_putOnTape_3 rfl (lv_at hl 0 rfl) ?_
  refine vz_if_lt_f (tgt := 49) hx hb d_En_putOnTape_4 (by decide) (by decide +kernel) ?_
  refine lv_aload_n hx hb d_En_putOnTape_7 rfl (lv_at hl 1 rfl) ?_
  refine va_get (D := D) (ci := 0) (v := .int (nI ((t + 1) + 1))) (C := R_En) (T := F_En) (N := 18) hx hb ht i_En hown hK hP 0 rfl rfl 14 (Nat.le_of_ble_eq_true rfl) (ht _ m_167) (fun _ h9 => h9) rfl d_En_putOnTape_8 ?_
  refine lv_sipush (v := 4000) hx hb d_En_putOnTape_11 (by decide +kernel) ?_
  refine vz_icmp_ge_f (tgt := 49) hx hb d_En_putOnTape_14 (by decide) (vz_cmp_ge_f (b := 4000) (by omega) (by decide) (by decide +kernel) (by omega)) ?_
  refine lv_aload_n hx hb d_En_putOnTape_17 rfl (lv_at hl 1 rfl) ?_
  refine va_get (D := D) (ci := 0) (v := .ref x_tape) (C := R_En) (T := F_En) (N := 18) hx hb ht i_En hown hK hP 0 rfl rfl 1 (Nat.le_of_ble_eq_true rfl) (ht _ m_65) (fun _ h9 => h9) rfl d_En_putOnTape_18 ?_
  refine lv_aload_n hx hb d_En_putOnTape_21 rfl (lv_at hl 1 rfl) ?_
  refine va_get (D := D) (ci := 0) (v := .int (nI ((t + 1) + 1))) (C := R_En) (T := F_En) (N := 18) hx hb ht i_En hown hK hP 0 rfl rfl 14 (Nat.le_of_ble_eq_true rfl) (ht _ m_167) (fun _ h9 => h9) rfl d_En_putOnTape_22 ?_
  refine lv_iload_n hx hb d_En_putOnTape_25 rfl (lv_at hl 2 rfl) ?_
  refine lv_iload_n hx hb d_En_putOnTape_26 rfl (lv_at hl 0 rfl) ?_
  refine lv_iushr hx hb d_En_putOnTape_27 rfl ?_
  refine lv_topi (fun x_7 ex_7 => ?_)
  refine lv_sipush (v := 255) hx hb d_En_putOnTape_28 (by decide +kernel) ?_
  refine lv_iand hx hb d_En_putOnTape_31 ?_
  refine lv_topi (fun x_8 ex_8 => ?_)
  refine vz_iast hx hb hK hP hD hS 1 0 rfl rfl (vp_in_nI (by omega) (by decide)) d_En_putOnTape_32 (fun g_9 H locs eg_9 hP hD hS => ?_)
  have hP : va_P D classes [(h0, .inr (0, [.ref x_reader, .ref x_tape, .ref x_lines, .ref x_paper, .ref x_moves, .ref x_stateSum, .ref x_minor, .ref x_polynomial, .ref x_now, .ref x_next, .ref x_trial, .ref x_latest, .ref x_earlier, .ref x_spare, .int (nI ((t + 1) + 1)), .int 0, .int 0, .int 0])), (x_tape, .inl (cI, 4000, .inl g_9))] H := hP
  have hD : va_D A [(h0, .inr (0, [.ref x_reader, .ref x_tape, .ref x_lines, .ref x_paper, .ref x_moves, .ref x_stateSum, .ref x_minor, .ref x_polynomial, .ref x_now, .ref x_next, .ref x_trial, .ref x_latest, .ref x_earlier, .ref x_spare, .int (nI ((t + 1) + 1)), .int 0, .int 0, .int 0])), (x_tape, .inl (cI, 4000, .inl g_9))] := hD
  refine lv_aload_n hx hb d_En_putOnTape_33 rfl (lv_at hl 1 rfl) ?_
  refine lv_dup hx hb d_En_putOnTape_34 rfl ?_
  refine va_get (D := D) (ci := 0) (v := .int (nI ((t + 1) + 1))) (C := R_En) (T := F_En) (N := 18) hx hb ht i_En hown hK hP 0 rfl rfl 14 (Nat.le_of_ble_eq_true rfl) (ht _ m_167) (fun _ h9 => h9) rfl d_En_putOnTape_35 ?_
  refine lv_iconst (v := 1) hx hb d_En_putOnTape_38 (by decide) ?_
  refine lv_iadd hx hb d_En_putOnTape_39 ?_
  refine vz_topi (y := (nI (((t + 1) + 1) + 1))) (vz_addn (by decide +kernel)) ?_
  refine va_put (D := D) (ci := 0) (v := .int (nI (((t + 1) + 1) + 1))) (ty := .int) (C := R_En) (T := F_En) (N := 18) hx hb ht i_En t_En t_En_ok n_En hown hK hP hD hS 0 rfl rfl 14 (Nat.le_of_ble_eq_true rfl) (ht _ m_167) (fun _ h9 => h9) rfl (by decide +kernel) rfl rfl (Nat.le_of_ble_eq_true rfl) d_En_putOnTape_40 (fun H locs hP hD hS => ?_)
  have hP : va_P D classes [(h0, .inr (0, [.ref x_reader, .ref x_tape, .ref x_lines, .ref x_paper, .ref x_moves, .ref x_stateSum, .ref x_minor, .ref x_polynomial, .ref x_now, .ref x_next, .ref x_trial, .ref x_latest, .ref x_earlier, .ref x_spare, .int (nI (((t + 1) + 1) + 1)), .int 0, .int 0, .int 0])), (x_tape, .inl (cI, 4000, .inl g_9))] H := hP
  have hD : va_D A [(h0, .inr (0, [.ref x_reader, .ref x_tape, .ref x_lines, .ref x_paper, .ref x_moves, .ref x_stateSum, .ref x_minor, .ref x_polynomial, .ref x_now, .ref x_next, .ref x_trial, .ref x_latest, .ref x_earlier, .ref x_spare, .int (nI (((t + 1) + 1) + 1)), .int 0, .int 0, .int 0])), (x_tape, .inl (cI, 4000, .inl g_9))] := hD
  refine lv_iinc (v := 0) (lv' := [(2, .int 0), (0, .ref h0), (1, .int v)]) hx hb d_En_putOnTape_43 hl (k := 0) rfl (by decide +kernel) (by decide) rfl (fun ls hl => ?_)
  refine lv_goto (tgt := 3) hx hb d_En_putOnTape_46 (by decide) ?_
  refine lv_iload_n hx hb d_En_putOnTape_3 rfl (lv_at hl 0 rfl) ?_
  refine vz_if_lt_f (tgt := 49) hx hb d_En_putOnTape_4 (by decide) (by decide +kernel) ?_
  refine lv_aload_n hx hb d_En_putOnTape_7 rfl (lv_at hl 1 rfl) ?_
  refine va_get (D := D) (ci := 0) (v := .int (nI (((t + 1) + 1) + 1))) (C := R_En) (T := F_En) (N := 18) hx hb ht i_En hown hK hP 0 rfl rfl 14 (Nat.le_of_ble_eq_true rfl) (ht _ m_167) (fun _ h9 => h9) rfl d_En_putOnTape_8 ?_
  refine lv_sipush (v := 4000) hx hb d_En_putOnTape_11 (by decide +kernel) ?_
  refine vz_icmp_ge_f (tgt := 49) hx hb d_En_putOnTape_14 (by decide) (vz_cmp_ge_f (b := 4000) (by omega) (by decide) (by decide +kernel) (by omega)) ?_
  refine lv_aload_n hx hb d_En_putOnTape_17 rfl (lv_at hl 1 rfl) ?_
  refine va_get (D := D) (ci := 0) (v := .ref x_tape) (C := R_En) (T := F_En) (N := 18) hx hb ht i_En hown hK hP 0 rfl rfl 1 (Nat.le_of_ble_eq_true rfl) (ht _ m_65) (fun _ h9 => h9) rfl d_En_putOnTape_18 ?_
  refine lv_aload_n hx hb d_En_putOnTape_21 rfl (lv_at hl 1 rfl) ?_
  refine va_get (D := D) (ci := 0) (v := .int (nI (((t + 1) + 1) + 1))) (C := R_En) (T := F_En) (N := 18) hx hb ht i_En hown hK hP 0 rfl rfl 14 (Nat.le_of_ble_eq_true rfl) (ht _ m_167) (fun _ h9 => h9) rfl d_En_putOnTape_22 ?_
  refine lv_iload_n hx hb d_En_putOnTape_25 rfl (lv_at hl 2 rfl) ?_
  refine lv_iload_n hx hb d_En_putOnTape_26 rfl (lv_at hl 0 rfl) ?_
  refine lv_iushr hx hb d_En_putOnTape_27 rfl ?_
  refine lv_topi (fun x_10 ex_10 => ?_)
  refine lv_sipush (v := 255) hx hb d_En_putOnTape_28 (by decide +kernel) ?_
  refine lv_iand hx hb d_En_putOnTape_31 ?_
  refine lv_topi (fun x_11 ex_11 => ?_)
  refine vz_iast hx hb hK hP hD hS 1 0 rfl rfl (vp_in_nI (by omega) (by decide)) d_En_putOnTape_32 (fun g_12 H locs eg_12 hP hD hS => ?_)
  have hP : va_P D classes [(h0, .inr (0, [.ref x_reader, .ref x_tape, .ref x_lines, .ref x_paper, .ref x_moves, .ref x_stateSum, .ref x_minor, .ref x_polynomial, .ref x_now, .ref x_next, .ref x_trial, .ref x_latest, .ref x_earlier, .ref x_spare, .int (nI (((t + 1) + 1) + 1)), .int 0, .int 0, .int 0])), (x_tape, .inl (cI, 4000, .inl g_12))] H := hP
  have hD : va_D A [(h0, .inr (0, [.ref x_reader, .ref x_tape, .ref x_lines, .ref x_paper, .ref x_moves, .ref x_stateSum, .ref x_minor, .ref x_polynomial, .ref x_now, .ref x_next, .ref x_trial, .ref x_latest, .ref x_earlier, .ref x_spare, .int (nI (((t + 1) + 1) + 1)), .int 0, .int 0, .int 0])), (x_tape, .inl (cI, 4000, .inl g_12))] := hD
  refine lv_aload_n hx hb d_En_putOnTape_33 rfl (lv_at hl 1 rfl) ?_
  refine lv_dup hx hb d_En_putOnTape_34 rfl ?_
  refine va_get (D := D) (ci := 0) (v := .int (nI (((t + 1) + 1) + 1))) (C := R_En) (T := F_En) (N := 18) hx hb ht i_En hown hK hP 0 rfl rfl 14 (Nat.le_of_ble_eq_true rfl) (ht _ m_167) (fun _ h9 => h9) rfl d_En_putOnTape_35 ?_
  refine lv_iconst (v := 1) hx hb d_En_putOnTape_38 (by decide) ?_
  refine lv_iadd hx hb d_En_putOnTape_39 ?_
  refine vz_topi (y := (nI ((((t + 1) + 1) + 1) + 1))) (vz_addn (by decide +kernel)) ?_
  refine va_put (D := D) (ci := 0) (v := .int (nI ((((t + 1) + 1) + 1) + 1))) (ty := .int) (C := R_En) (T := F_En) (N := 18) hx hb ht i_En t_En t_En_ok n_En hown hK hP hD hS 0 rfl rfl 14 (Nat.le_of_ble_eq_true rfl) (ht _ m_167) (fun _ h9 => h9) rfl (by decide +kernel) rfl rfl (Nat.le_of_ble_eq_true rfl) d_En_putOnTape_40 (fun H locs hP hD hS => ?_)
  have hP : va_P D classes [(h0, .inr (0, [.ref x_reader, .ref x_tape, .ref x_lines, .ref x_paper, .ref x_moves, .ref x_stateSum, .ref x_minor, .ref x_polynomial, .ref x_now, .ref x_next, .ref x_trial, .ref x_latest, .ref x_earlier, .ref x_spare, .int (nI ((((t + 1) + 1) + 1) + 1)), .int 0, .int 0, .int 0])), (x_tape, .inl (cI, 4000, .inl g_12))] H := hP
  have hD : va_D A [(h0, .inr (0, [.ref x_reader, .ref x_tape, .ref x_lines, .ref x_paper, .ref x_moves, .ref x_stateSum, .ref x_minor, .ref x_polynomial, .ref x_now, .ref x_next, .ref x_trial, .ref x_latest, .ref x_earlier, .ref x_spare, .int (nI ((((t + 1) + 1) + 1) + 1)), .int 0, .int 0, .int 0])), (x_tape, .inl (cI, 4000, .inl g_12))] := hD
  refine lv_iinc (v := (-8)) (lv' := [(2, .int (-8)), (0, .ref h0), (1, .int v)]) hx hb d_En_putOnTape_43 hl (k := 0) rfl (by decide +kernel) (by decide) rfl (fun ls hl => ?_)
  refine lv_goto (tgt := 3) hx hb d_En_putOnTape_46 (by decide) ?_
  refine lv_iload_n hx hb d_En_putOnTape_3 rfl (lv_at hl 0 rfl) ?_
  refine vz_if_lt_t (tgt := 49) hx hb d_En_putOnTape_4 (by decide) (by decide +kernel) ?_
  have hP := hP.sub (ws' := [(h0, .inr (0, [.ref x_reader, .ref x_tape, .ref x_lines, .ref x_paper, .ref x_moves, .ref x_stateSum, .ref x_minor, .ref x_polynomial, .ref x_now, .ref x_next, .ref x_trial, .ref x_latest, .ref x_earlier, .ref x_spare, .int (nI ((((t + 1) + 1) + 1) + 1)), .int 0, .int 0, .int 0])), (x_tape, .inl (cI, 4000, .inl g_12))]) [0, 1] rfl
  have hD := hD.sub (ws' := [(h0, .inr (0, [.ref x_reader, .ref x_tape, .ref x_lines, .ref x_paper, .ref x_moves, .ref x_stateSum, .ref x_minor, .ref x_polynomial, .ref x_now, .ref x_next, .ref x_trial, .ref x_latest, .ref x_earlier, .ref x_spare, .int (nI ((((t + 1) + 1) + 1) + 1)), .int 0, .int 0, .int 0])), (x_tape, .inl (cI, 4000, .inl g_12))]) [0, 1] (by decide) rfl
  exact vz_vret hx hb hr hlocks hP hD hS (Nat.le_of_ble_eq_true rfl) (Nat.le_of_ble_eq_true rfl) d_En_putOnTape_49 ⟨g_12, rfl⟩
set_option maxHeartbeats 4000000 in
set_option maxRecDepth 100000 in
theorem k_feed (l : Launch) (D : va_G) (cI cJ cB : ClassId) (h0 : Nat) (v0 : Int32) (v1 : Int32) (v2 : Int32) (v3 : Int32) (v4 : Int32) (x_reader : Nat) (x_tape : Nat) (x_lines : Nat) (x_paper : Nat) (x_moves : Nat) (x_stateSum : Nat) (x_minor : Nat) (x_polynomial : Nat) (x_now : Nat) (x_next : Nat) (x_trial : Nat) (x_latest : Nat) (x_earlier : Nat) (x_spare : Nat) (f : Nat → Int32)  : MtI l y_En_feed (.code y_En_feed b_En_feed 6 (some .int) :: CW) ({ frames := 1, cells := 0, slots := 0, locals := 22 }) D [(cI, .int), (cJ, .long), (cB, .byte)] [.ref h0, .int v0, .int v1, .int v2, .int v3, .int v4] [(h0, .inr (0, [.ref x_reader, .ref x_tape, .ref x_lines, .ref x_paper, .ref x_moves, .ref x_stateSum, .ref x_minor, .ref x_polynomial, .ref x_now, .ref x_next, .ref x_trial, .ref x_latest, .ref x_earlier, .ref x_spare, .int 0, .int 0, .int 0, .int 0])), (x_tape, .inl (cI, 4000, .inl f))] (fun (r : Int32) (_ : va_W) => r = 20) := by
  intro sz
  refine vz_start (Qc := fun A => va_Qi (fun (r : Int32) (_ : va_W) => r = 20) (vz_B D A) A) (lv0 := [(0, .ref h0), (1, .int v0), (2, .int v1), (3, .int v2), (4, .int v3), (5, .int v4)]) (by decide +kernel) (Nat.le_of_ble_eq_true rfl) rfl ?_
  intro p e s m below meth c A ls C0 hl
  obtain ⟨hx, hb, hr, hml, hown, ht, hlocks, hin, hN, hK, hP, hD, hA, hS⟩ := C0
  refine lv_aload_n hx hb d_En_feed_0 rfl (lv_at hl 0 rfl) ?_
  refine va_get (D := D) (ci := 0) (v := .int 0) (C := R_En) (T := F_En) (N := 18) hx hb ht i_En hown hK hP 0 rfl rfl 14 (Nat.le_of_ble_eq_true rfl) (ht _ m_167) (fun _ h9 => h9) rfl d_En_feed_1 ?_
  refine lv_bipush (v := 20) hx hb d_En_feed_4 (by decide +kernel) ?_
  refine lv_iadd hx hb d_En_feed_6 ?_
  refine vz_topi (y := 20) (by decide +kernel) ?_
  refine lv_sipush (v := 4000) hx hb d_En_feed_7 (by decide +kernel) ?_
  refine vz_icmp_le_t (tgt := 15) hx hb d_En_feed_10 (by decide) (by decide +kernel) ?_
  refine lv_aload_n hx hb d_En_feed_15 rfl (lv_at hl 0 rfl) ?_
  refine lv_iload_n hx hb d_En_feed_16 rfl (lv_at hl 1 rfl) ?_
  refine vz_callVv (n := 1) (As := [.int v0]) (rest := []) (wc := [(h0, .inr (0, [.ref x_reader, .ref x_tape, .ref x_lines, .ref x_paper, .ref x_moves, .ref x_stateSum, .ref x_minor, .ref x_polynomial, .ref x_now, .ref x_next, .ref x_trial, .ref x_latest, .ref x_earlier, .ref x_spare, .int 0, .int 0, .int 0, .int 0])), (x_tape, .inl (cI, 4000, .inl f))]) (wr := []) (k1 := 0) (n1 := 0) hx hb hml hown ht hN hK hP hD hS hA (k_putOnTape l D cI cJ cB h0 v0 0 x_reader x_tape x_lines x_paper x_moves x_stateSum x_minor x_polynomial x_now x_next x_trial x_latest x_earlier x_spare f (by omega)) m_171 m_172 m_168 m_169 m_170 (hc := (rfl : classes[0]? = some (R_En, F_En, 18))) 0 rfl (by decide +kernel) ⟨Nat.le_of_ble_eq_true rfl, Nat.le_of_ble_eq_true rfl⟩ [0, 1] [] rfl rfl (by decide) (by decide) (by decide) rfl hl.1 rfl (Nat.le_of_ble_eq_true rfl) rfl rfl ⟨Nat.le_of_ble_eq_true rfl, Nat.le_of_ble_eq_true rfl⟩ d_En_feed_17 (fun w1 H locs hw hP hD hS => ?_)
  obtain ⟨g_1, rfl⟩ := hw
  have hP : va_P D classes [(h0, .inr (0, [.ref x_reader, .ref x_tape, .ref x_lines, .ref x_paper, .ref x_moves, .ref x_stateSum, .ref x_minor, .ref x_polynomial, .ref x_now, .ref x_next, .ref x_trial, .ref x_latest, .ref x_earlier, .ref x_spare, .int (nI ((((0 + 1) + 1) + 1) + 1)), .int 0, .int 0, .int 0])), (x_tape, .inl (cI, 4000, .inl g_1))] H := hP
  have hD : va_D A [(h0, .inr (0, [.ref x_reader, .ref x_tape, .ref x_lines, .ref x_paper, .ref x_moves, .ref x_stateSum, .ref x_minor, .ref x_polynomial, .ref x_now, .ref x_next, .ref x_trial, .ref x_latest, .ref x_earlier, .ref x_spare, .int (nI ((((0 + 1) + 1) + 1) + 1)), .int 0, .int 0, .int 0])), (x_tape, .inl (cI, 4000, .inl g_1))] := hD
  refine lv_aload_n hx hb d_En_feed_20 rfl (lv_at hl 0 rfl) ?_
  refine lv_iload_n hx hb d_En_feed_21 rfl (lv_at hl 2 rfl) ?_
  refine vz_callVv (n := 1) (As := [.int v1]) (rest := []) (wc := [(h0, .inr (0, [.ref x_reader, .ref x_tape, .ref x_lines, .ref x_paper, .ref x_moves, .ref x_stateSum, .ref x_minor, .ref x_polynomial, .ref x_now, .ref x_next, .ref x_trial, .ref x_latest, .ref x_earlier, .ref x_spare, .int (nI ((((0 + 1) + 1) + 1) + 1)), .int 0, .int 0, .int 0])), (x_tape, .inl (cI, 4000, .inl g_1))]) (wr := []) (k1 := 0) (n1 := 0) hx hb hml hown ht hN hK hP hD hS hA (k_putOnTape l D cI cJ cB h0 v1 ((((0 + 1) + 1) + 1) + 1) x_reader x_tape x_lines x_paper x_moves x_stateSum x_minor x_polynomial x_now x_next x_trial x_latest x_earlier x_spare g_1 (by omega)) m_171 m_172 m_168 m_169 m_170 (hc := (rfl : classes[0]? = some (R_En, F_En, 18))) 0 rfl (by decide +kernel) ⟨Nat.le_of_ble_eq_true rfl, Nat.le_of_ble_eq_true rfl⟩ [0, 1] [] rfl rfl (by decide) (by decide) (by decide) rfl hl.1 rfl (Nat.le_of_ble_eq_true rfl) rfl rfl ⟨Nat.le_of_ble_eq_true rfl, Nat.le_of_ble_eq_true rfl⟩ d_En_feed_22 (fun w1 H locs hw hP hD hS => ?_)
  obtain ⟨g_2, rfl⟩ := hw
  have hP : va_P D classes [(h0, .inr (0, [.ref x_reader, .ref x_tape, .ref x_lines, .ref x_paper, .ref x_moves, .ref x_stateSum, .ref x_minor, .ref x_polynomial, .ref x_now, .ref x_next, .ref x_trial, .ref x_latest, .ref x_earlier, .ref x_spare, .int (nI ((((((((0 + 1) + 1) + 1) + 1) + 1) + 1) + 1) + 1)), .int 0, .int 0, .int 0])), (x_tape, .inl (cI, 4000, .inl g_2))] H := hP
  have hD : va_D A [(h0, .inr (0, [.ref x_reader, .ref x_tape, .ref x_lines, .ref x_paper, .ref x_moves, .ref x_stateSum, .ref x_minor, .ref x_polynomial, .ref x_now, .ref x_next, .ref x_trial, .ref x_latest, .ref x_earlier, .ref x_spare, .int (nI ((((((((0 + 1) + 1) + 1) + 1) + 1) + 1) + 1) + 1)), .int 0, .int 0, .int 0])), (x_tape, .inl (cI, 4000, .inl g_2))] := hD
  refine lv_aload_n hx hb d_En_feed_25 rfl (lv_at hl 0 rfl) ?_
  refine lv_iload_n hx hb d_En_feed_26 rfl (lv_at hl 3 rfl) ?_
  refine vz_callVv (n := 1) (As := [.int v2]) (rest := []) (wc := [(h0, .inr (0, [.ref x_reader, .ref x_tape, .ref x_lines, .ref x_paper, .ref x_moves, .ref x_stateSum, .ref x_minor, .ref x_polynomial, .ref x_now, .ref x_next, .ref x_trial, .ref x_latest, .ref x_earlier, .ref x_spare, .int (nI ((((((((0 + 1) + 1) + 1) + 1) + 1) + 1) + 1) + 1)), .int 0, .int 0, .int 0])), (x_tape, .inl (cI, 4000, .inl g_2))]) (wr := []) (k1 := 0) (n1 := 0) hx hb hml hown ht hN hK hP hD hS hA (k_putOnTape l D cI cJ cB h0 v2 ((((((((0 + 1) + 1) + 1) + 1) + 1) + 1) + 1) + 1) x_reader x_tape x_lines x_paper x_moves x_stateSum x_minor x_polynomial x_now x_next x_trial x_latest x_earlier x_spare g_2 (by omega)) m_171 m_172 m_168 m_169 m_170 (hc := (rfl : classes[0]? = some (R_En, F_En, 18))) 0 rfl (by decide +kernel) ⟨Nat.le_of_ble_eq_true rfl, Nat.le_of_ble_eq_true rfl⟩ [0, 1] [] rfl rfl (by decide) (by decide) (by decide) rfl hl.1 rfl (Nat.le_of_ble_eq_true rfl) rfl rfl ⟨Nat.le_of_ble_eq_true rfl, Nat.le_of_ble_eq_true rfl⟩ d_En_feed_27 (fun w1 H locs hw hP hD hS => ?_)
  obtain ⟨g_3, rfl⟩ := hw
  have hP : va_P D classes [(h0, .inr (0, [.ref x_reader, .ref x_tape, .ref x_lines, .ref x_paper, .ref x_moves, .ref x_stateSum, .ref x_minor, .ref x_polynomial, .ref x_now, .ref x_next, .ref x_trial, .ref x_latest, .ref x_earlier, .ref x_spare, .int (nI ((((((((((((0 + 1) + 1) + 1) + 1) + 1) + 1) + 1) + 1) + 1) + 1) + 1) + 1)), .int 0, .int 0, .int 0])), (x_tape, .inl (cI, 4000, .inl g_3))] H := hP
  have hD : va_D A [(h0, .inr (0, [.ref x_reader, .ref x_tape, .ref x_lines, .ref x_paper, .ref x_moves, .ref x_stateSum, .ref x_minor, .ref x_polynomial, .ref x_now, .ref x_next, .ref x_trial, .ref x_latest, .ref x_earlier, .ref x_spare, .int (nI ((((((((((((0 + 1) + 1) + 1) + 1) + 1) + 1) + 1) + 1) + 1) + 1) + 1) + 1)), .int 0, .int 0, .int 0])), (x_tape, .inl (cI, 4000, .inl g_3))] := hD
  refine lv_aload_n hx hb d_En_feed_30 rfl (lv_at hl 0 rfl) ?_
  refine lv_iload hx hb d_En_feed_31 (lv_at hl 4 rfl) ?_
  refine vz_callVv (n := 1) (As := [.int v3]) (rest := []) (wc := [(h0, .inr (0, [.ref x_reader, .ref x_tape, .ref x_lines, .ref x_paper, .ref x_moves, .ref x_stateSum, .ref x_minor, .ref x_polynomial, .ref x_now, .ref x_next, .ref x_trial, .ref x_latest, .ref x_earlier, .ref x_spare, .int (nI ((((((((((((0 + 1) + 1) + 1) + 1) + 1) + 1) + 1) + 1) + 1) + 1) + 1) + 1)), .int 0, .int 0, .int 0])), (x_tape, .inl (cI, 4000, .inl g_3))]) (wr := []) (k1 := 0) (n1 := 0) hx hb hml hown ht hN hK hP hD hS hA (k_putOnTape l D cI cJ cB h0 v3 ((((((((((((0 + 1) + 1) + 1) + 1) + 1) + 1) + 1) + 1) + 1) + 1) + 1) + 1) x_reader x_tape x_lines x_paper x_moves x_stateSum x_minor x_polynomial x_now x_next x_trial x_latest x_earlier x_spare g_3 (by omega)) m_171 m_172 m_168 m_169 m_170 (hc := (rfl : classes[0]? = some (R_En, F_En, 18))) 0 rfl (by decide +kernel) ⟨Nat.le_of_ble_eq_true rfl, Nat.le_of_ble_eq_true rfl⟩ [0, 1] [] rfl rfl (by decide) (by decide) (by decide) rfl hl.1 rfl (Nat.le_of_ble_eq_true rfl) rfl rfl ⟨Nat.le_of_ble_eq_true rfl, Nat.le_of_ble_eq_true rfl⟩ d_En_feed_33 (fun w1 H locs hw hP hD hS => ?_)
  obtain ⟨g_4, rfl⟩ := hw
  have hP : va_P D classes [(h0, .inr (0, [.ref x_reader, .ref x_tape, .ref x_lines, .ref x_paper, .ref x_moves, .ref x_stateSum, .ref x_minor, .ref x_polynomial, .ref x_now, .ref x_next, .ref x_trial, .ref x_latest, .ref x_earlier, .ref x_spare, .int (nI ((((((((((((((((0 + 1) + 1) + 1) + 1) + 1) + 1) + 1) + 1) + 1) + 1) + 1) + 1) + 1) + 1) + 1) + 1)), .int 0, .int 0, .int 0])), (x_tape, .inl (cI, 4000, .inl g_4))] H := hP
  have hD : va_D A [(h0, .inr (0, [.ref x_reader, .ref x_tape, .ref x_lines, .ref x_paper, .ref x_moves, .ref x_stateSum, .ref x_minor, .ref x_polynomial, .ref x_now, .ref x_next, .ref x_trial, .ref x_latest, .ref x_earlier, .ref x_spare, .int (nI ((((((((((((((((0 + 1) + 1) + 1) + 1) + 1) + 1) + 1) + 1) + 1) + 1) + 1) + 1) + 1) + 1) + 1) + 1)), .int 0, .int 0, .int 0])), (x_tape, .inl (cI, 4000, .inl g_4))] := hD
  refine lv_aload_n hx hb d_En_feed_36 rfl (lv_at hl 0 rfl) ?_
  refine lv_iload hx hb d_En_feed_37 (lv_at hl 5 rfl) ?_
  refine vz_callVv (n := 1) (As := [.int v4]) (rest := []) (wc := [(h0, .inr (0, [.ref x_reader, .ref x_tape, .ref x_lines, .ref x_paper, .ref x_moves, .ref x_stateSum, .ref x_minor, .ref x_polynomial, .ref x_now, .ref x_next, .ref x_trial, .ref x_latest, .ref x_earlier, .ref x_spare, .int (nI ((((((((((((((((0 + 1) + 1) + 1) + 1) + 1) + 1) + 1) + 1) + 1) + 1) + 1) + 1) + 1) + 1) + 1) + 1)), .int 0, .int 0, .int 0])), (x_tape, .inl (cI, 4000, .inl g_4))]) (wr := []) (k1 := 0) (n1 := 0) hx hb hml hown ht hN hK hP hD hS hA (k_putOnTape l D cI cJ cB h0 v4 ((((((((((((((((0 + 1) + 1) + 1) + 1) + 1) + 1) + 1) + 1) + 1) + 1) + 1) + 1) + 1) + 1) + 1) + 1) x_reader x_tape x_lines x_paper x_moves x_stateSum x_minor x_polynomial x_now x_next x_trial x_latest x_earlier x_spare g_4 (by omega)) m_171 m_172 m_168 m_169 m_170 (hc := (rfl : classes[0]? = some (R_En, F_En, 18))) 0 rfl (by decide +kernel) ⟨Nat.le_of_ble_eq_true rfl, Nat.le_of_ble_eq_true rfl⟩ [0, 1] [] rfl rfl (by decide) (by decide) (by decide) rfl hl.1 rfl (Nat.le_of_ble_eq_true rfl) rfl rfl ⟨Nat.le_of_ble_eq_true rfl, Nat.le_of_ble_eq_true rfl⟩ d_En_feed_39 (fun w1 H locs hw hP hD hS => ?_)
  obtain ⟨g_5, rfl⟩ := hw
  have hP : va_P D classes [(h0, .inr (0, [.ref x_reader, .ref x_tape, .ref x_lines, .ref x_paper, .ref x_moves, .ref x_stateSum, .ref x_minor, .ref x_polynomial, .ref x_now, .ref x_next, .ref x_trial, .ref x_latest, .ref x_earlier, .ref x_spare, .int (nI ((((((((((((((((((((0 + 1) + 1) + 1) + 1) + 1) + 1) + 1) + 1) + 1) + 1) + 1) + 1) + 1) + 1) + 1) + 1) + 1) + 1) + 1) + 1)), .int 0, .int 0, .int 0])), (x_tape, .inl (cI, 4000, .inl g_5))] H := hP
  have hD : va_D A [(h0, .inr (0, [.ref x_reader, .ref x_tape, .ref x_lines, .ref x_paper, .ref x_moves, .ref x_stateSum, .ref x_minor, .ref x_polynomial, .ref x_now, .ref x_next, .ref x_trial, .ref x_latest, .ref x_earlier, .ref x_spare, .int (nI ((((((((((((((((((((0 + 1) + 1) + 1) + 1) + 1) + 1) + 1) + 1) + 1) + 1) + 1) + 1) + 1) + 1) + 1) + 1) + 1) + 1) + 1) + 1)), .int 0, .int 0, .int 0])), (x_tape, .inl (cI, 4000, .inl g_5))] := hD
  refine lv_aload_n hx hb d_En_feed_42 rfl (lv_at hl 0 rfl) ?_
  refine va_get (D := D) (ci := 0) (v := .int (nI ((((((((((((((((((((0 + 1) + 1) + 1) + 1) + 1) + 1) + 1) + 1) + 1) + 1) + 1) + 1) + 1) + 1) + 1) + 1) + 1) + 1) + 1) + 1))) (C := R_En) (T := F_En) (N := 18) hx hb ht i_En hown hK hP 0 rfl rfl 14 (Nat.le_of_ble_eq_true rfl) (ht _ m_167) (fun _ h9 => h9) rfl d_En_feed_43 ?_
  exact vz_iret hx hb hr rfl hlocks hP hD hS (Nat.le_of_ble_eq_true rfl) (Nat.le_of_ble_eq_true rfl) d_En_feed_46 (by decide +kernel)
set_option maxHeartbeats 4000000 in
set_option maxRecDepth 100000 in
theorem k_fault (l : Launch) (D : va_G) (cI cJ cB : ClassId) (h0 : Nat) (v : Int32) (x_reader : Nat) (x_tape : Nat) (x_lines : Nat) (x_paper : Nat) (x_moves : Nat) (x_stateSum : Nat) (x_minor : Nat) (x_polynomial : Nat) (x_now : Nat) (x_next : Nat) (x_trial : Nat) (x_latest : Nat) (x_earlier : Nat) (x_spare : Nat)  : MtI l y_En_fault (.code y_En_fault b_En_fault 2 (some .int) :: CW) ({ frames := 0, cells := 0, slots := 0, locals := 0 }) D [(cI, .int), (cJ, .long), (cB, .byte)] [.ref h0, .int v] [(h0, .inr (0, [.ref x_reader, .ref x_tape, .ref x_lines, .ref x_paper, .ref x_moves, .ref x_stateSum, .ref x_minor, .ref x_polynomial, .ref x_now, .ref x_next, .ref x_trial, .ref x_latest, .ref x_earlier, .ref x_spare, .int 0, .int 0, .int 0, .int 0]))] (fun (r : Int32) (_ : va_W) => r = (-1)) := by
  intro sz
  refine vz_start (Qc := fun A => va_Qi (fun (r : Int32) (_ : va_W) => r = (-1)) (vz_B D A) A) (lv0 := [(0, .ref h0), (1, .int v)]) (by decide +kernel) (Nat.le_of_ble_eq_true rfl) rfl ?_
  intro p e s m below meth c A ls C0 hl
  obtain ⟨hx, hb, hr, hml, hown, ht, hlocks, hin, hN, hK, hP, hD, hA, hS⟩ := C0
  refine lv_aload_n hx hb d_En_fault_0 rfl (lv_at hl 0 rfl) ?_
  refine va_get (D := D) (ci := 0) (v := .int 0) (C := R_En) (T := F_En) (N := 18) hx hb ht i_En hown hK hP 0 rfl rfl 15 (Nat.le_of_ble_eq_true rfl) (ht _ m_173) (fun _ h9 => h9) rfl d_En_fault_1 ?_
  refine vz_if_ne_f (tgt := 9) hx hb d_En_fault_4 (by decide) (by decide +kernel) ?_
  refine lv_iconst (v := (-1)) hx hb d_En_fault_7 (by decide) ?_
  exact vz_iret hx hb hr rfl hlocks hP hD hS (Nat.le_of_ble_eq_true rfl) (Nat.le_of_ble_eq_true rfl) d_En_fault_8 rfl
