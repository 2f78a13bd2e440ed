set_option maxHeartbeats 4000000 in
set_option maxRecDepth 100000 in
/-- a new Md_Di -/
theorem k_Md_Di (l : Launch) (D : va_G) (cI cJ cB : ClassId) (sa : Nat → Nat × Nat) (h0 : Nat)  : MtV l y_Md_Di_init (.code y_Md_Di_init b_Md_Di_init 1 none :: CW) ({ frames := 1, cells := 2, slots := 120, locals := 16 }) D [(cI, .int), (cJ, .long), (cB, .byte)] sa [.ref h0] [(h0, .inr (12, [.int 0, .int 0, .null, .null]))] (fun (w : va_W) => ∃ q_1 : Nat, ∃ q_2 : Nat, w = [(h0, .inr (12, [.int 0, .int 0, .ref q_1, .ref q_2])), (q_1, .inl (cI, 24, .inl (fun _ => 0))), (q_2, .inl (cI, 96, .inl (fun _ => 0)))]) := by
  intro sz
  refine vz_start (Qc := fun A => va_Qv (fun (w : va_W) => ∃ q_1 : Nat, ∃ q_2 : Nat, w = [(h0, .inr (12, [.int 0, .int 0, .ref q_1, .ref q_2])), (q_1, .inl (cI, 24, .inl (fun _ => 0))), (q_2, .inl (cI, 96, .inl (fun _ => 0)))]) (vz_B D A) A) (lv0 := [(0, .ref h0)]) (by decide +kernel) (Nat.le_of_ble_eq_true rfl) rfl ?_
  intro p e s m below meth c A ls C0 hl
  obtain ⟨hx, hb, hr, hml, hown, ht, hlocks, hin, hN, hK, hP, hD, hA, hS, hZ⟩ := C0
  refine lv_aload_n hx hb d_Md_Di_init_0 rfl (lv_at hl 0 rfl) ?_
  refine W.objInit hx hb hown (ht _ m_113) (ht _ m_1) (ht _ m_2) rfl (by rw [hml]; exact hl.1) rfl d_Md_Di_init_1 (Nat.le_of_ble_eq_true rfl) (Nat.le_of_ble_eq_true rfl) ?_
  refine W.eq (g2 := F0 m 4 ls []) rfl ?_
  refine lv_aload_n hx hb d_Md_Di_init_4 rfl (lv_at hl 0 rfl) ?_
  refine lv_bipush (v := 24) hx hb d_Md_Di_init_5 (by decide +kernel) ?_
  refine vz_newa (ty := .int) (a0 := (24, .inl (fun _ => 0))) (k1 := 1) (n1 := 24) hx hb rfl (ht _ m_3) hK hP hD hS hA 0 rfl (fun C h => by cases h) 24 (fun _ => rfl) (by decide +kernel) (by decide +kernel) (by decide +kernel) rfl rfl (Nat.le_of_ble_eq_true rfl) (Nat.le_of_ble_eq_true rfl) d_Md_Di_init_7 (fun q_1 H hP hD hS => ?_)
  have hP : va_P D classes [(h0, .inr (12, [.int 0, .int 0, .null, .null])), (q_1, .inl (cI, 24, .inl (fun _ => 0)))] H := hP
  have hD : va_D A [(h0, .inr (12, [.int 0, .int 0, .null, .null])), (q_1, .inl (cI, 24, .inl (fun _ => 0)))] := hD
  refine va_putF (D := D) (ci := 12) (v := .ref q_1) (ty := (.array .int)) (C := R_Md_Di) (T := F_Md_Di) (N := 4) hx hb ht i_Md_Di t_Md_Di t_Md_Di_ok n_Md_Di hown hK hP hD hS 0 rfl rfl 2 (Nat.le_of_ble_eq_true rfl) (ht _ m_114) (fun _ h9 => h9) rfl hin rfl (by decide +kernel) rfl rfl (Nat.le_of_ble_eq_true rfl) d_Md_Di_init_9 (fun H locs hP hD hS => ?_)
  have hP : va_P D classes [(h0, .inr (12, [.int 0, .int 0, .ref q_1, .null])), (q_1, .inl (cI, 24, .inl (fun _ => 0)))] H := hP
  have hD : va_D A [(h0, .inr (12, [.int 0, .int 0, .ref q_1, .null])), (q_1, .inl (cI, 24, .inl (fun _ => 0)))] := hD
  refine lv_aload_n hx hb d_Md_Di_init_12 rfl (lv_at hl 0 rfl) ?_
  refine lv_bipush (v := 96) hx hb d_Md_Di_init_13 (by decide +kernel) ?_
  refine vz_newa (ty := .int) (a0 := (96, .inl (fun _ => 0))) (k1 := 2) (n1 := 120) hx hb rfl (ht _ m_3) hK hP hD hS hA 0 rfl (fun C h => by cases h) 96 (fun _ => rfl) (by decide +kernel) (by decide +kernel) (by decide +kernel) rfl rfl (Nat.le_of_ble_eq_true rfl) (Nat.le_of_ble_eq_true rfl) d_Md_Di_init_15 (fun q_2 H hP hD hS => ?_)
  have hP : va_P D classes [(h0, .inr (12, [.int 0, .int 0, .ref q_1, .null])), (q_1, .inl (cI, 24, .inl (fun _ => 0))), (q_2, .inl (cI, 96, .inl (fun _ => 0)))] H := hP
  have hD : va_D A [(h0, .inr (12, [.int 0, .int 0, .ref q_1, .null])), (q_1, .inl (cI, 24, .inl (fun _ => 0))), (q_2, .inl (cI, 96, .inl (fun _ => 0)))] := hD
  refine va_putF (D := D) (ci := 12) (v := .ref q_2) (ty := (.array .int)) (C := R_Md_Di) (T := F_Md_Di) (N := 4) hx hb ht i_Md_Di t_Md_Di t_Md_Di_ok n_Md_Di hown hK hP hD hS 0 rfl rfl 3 (Nat.le_of_ble_eq_true rfl) (ht _ m_115) (fun _ h9 => h9) rfl hin rfl (by decide +kernel) rfl rfl (Nat.le_of_ble_eq_true rfl) d_Md_Di_init_17 (fun H locs hP hD hS => ?_)
  have hP : va_P D classes [(h0, .inr (12, [.int 0, .int 0, .ref q_1, .ref q_2])), (q_1, .inl (cI, 24, .inl (fun _ => 0))), (q_2, .inl (cI, 96, .inl (fun _ => 0)))] H := hP
  have hD : va_D A [(h0, .inr (12, [.int 0, .int 0, .ref q_1, .ref q_2])), (q_1, .inl (cI, 24, .inl (fun _ => 0))), (q_2, .inl (cI, 96, .inl (fun _ => 0)))] := hD
  have hP := hP.sub (ws' := [(h0, .inr (12, [.int 0, .int 0, .ref q_1, .ref q_2])), (q_1, .inl (cI, 24, .inl (fun _ => 0))), (q_2, .inl (cI, 96, .inl (fun _ => 0)))]) [0, 1, 2] rfl
  have hD := hD.sub (ws' := [(h0, .inr (12, [.int 0, .int 0, .ref q_1, .ref q_2])), (q_1, .inl (cI, 24, .inl (fun _ => 0))), (q_2, .inl (cI, 96, .inl (fun _ => 0)))]) [0, 1, 2] (by decide) rfl
  exact vz_vret hx hb hr hlocks hP hD hS (Nat.le_of_ble_eq_true rfl) (Nat.le_of_ble_eq_true rfl) d_Md_Di_init_20 ⟨q_1, q_2, rfl⟩
set_option maxHeartbeats 4000000 in
set_option maxRecDepth 100000 in
/-- a new Md_Wo -/
theorem k_Md_Wo (l : Launch) (D : va_G) (cI cJ cB : ClassId) (sa : Nat → Nat × Nat) (h0 : Nat)  : MtV l y_Md_Wo_init (.code y_Md_Wo_init b_Md_Wo_init 1 none :: CW) ({ frames := 1, cells := 2, slots := 236, locals := 16 }) D [(cI, .int), (cJ, .long), (cB, .byte)] sa [.ref h0] [(h0, .inr (13, [.int 0, .int 0, .null, .int 0, .int 0, .null]))] (fun (w : va_W) => ∃ q_1 : Nat, ∃ q_2 : Nat, w = [(h0, .inr (13, [.int 1, .int 0, .ref q_1, .int 0, .int 0, .ref q_2])), (q_1, .inl (cI, 20, .inl (fun _ => 0))), (q_2, .inl (cI, 216, .inl (fun _ => 0)))]) := by
  intro sz
  refine vz_start (Qc := fun A => va_Qv (fun (w : va_W) => ∃ q_1 : Nat, ∃ q_2 : Nat, w = [(h0, .inr (13, [.int 1, .int 0, .ref q_1, .int 0, .int 0, .ref q_2])), (q_1, .inl (cI, 20, .inl (fun _ => 0))), (q_2, .inl (cI, 216, .inl (fun _ => 0)))]) (vz_B D A) A) (lv0 := [(0, .ref h0)]) (by decide +kernel) (Nat.le_of_ble_eq_true rfl) rfl ?_
  intro p e s m below meth c A ls C0 hl
  obtain ⟨hx, hb, hr, hml, hown, ht, hlocks, hin, hN, hK, hP, hD, hA, hS, hZ⟩ := C0
  refine lv_aload_n hx hb d_Md_Wo_init_0 rfl (lv_at hl 0 rfl) ?_
  refine W.objInit hx hb hown (ht _ m_116) (ht _ m_1) (ht _ m_2) rfl (by rw [hml]; exact hl.1) rfl d_Md_Wo_init_1 (Nat.le_of_ble_eq_true rfl) (Nat.le_of_ble_eq_true rfl) ?_
  refine W.eq (g2 := F0 m 4 ls []) rfl ?_
  refine lv_aload_n hx hb d_Md_Wo_init_4 rfl (lv_at hl 0 rfl) ?_
  refine lv_iconst (v := 1) hx hb d_Md_Wo_init_5 (by decide) ?_
  refine va_put (D := D) (ci := 13) (v := .int 1) (ty := .int) (C := R_Md_Wo) (T := F_Md_Wo) (N := 6) hx hb ht i_Md_Wo t_Md_Wo t_Md_Wo_ok n_Md_Wo hown hK hP hD hS 0 rfl rfl 0 (Nat.le_of_ble_eq_true rfl) (ht _ m_117) (fun _ h9 => h9) rfl (by decide +kernel) rfl rfl (Nat.le_of_ble_eq_true rfl) d_Md_Wo_init_6 (fun H locs hP hD hS => ?_)
  have hP : va_P D classes [(h0, .inr (13, [.int 1, .int 0, .null, .int 0, .int 0, .null]))] H := hP
  have hD : va_D A [(h0, .inr (13, [.int 1, .int 0, .null, .int 0, .int 0, .null]))] := hD
  refine lv_aload_n hx hb d_Md_Wo_init_9 rfl (lv_at hl 0 rfl) ?_
  refine lv_bipush (v := 20) hx hb d_Md_Wo_init_10 (by decide +kernel) ?_
  refine vz_newa (ty := .int) (a0 := (20, .inl (fun _ => 0))) (k1 := 1) (n1 := 20) hx hb rfl (ht _ m_3) hK hP hD hS hA 0 rfl (fun C h => by cases h) 20 (fun _ => rfl) (by decide +kernel) (by decide +kernel) (by decide +kernel) rfl rfl (Nat.le_of_ble_eq_true rfl) (Nat.le_of_ble_eq_true rfl) d_Md_Wo_init_12 (fun q_1 H hP hD hS => ?_)
  have hP : va_P D classes [(h0, .inr (13, [.int 1, .int 0, .null, .int 0, .int 0, .null])), (q_1, .inl (cI, 20, .inl (fun _ => 0)))] H := hP
  have hD : va_D A [(h0, .inr (13, [.int 1, .int 0, .null, .int 0, .int 0, .null])), (q_1, .inl (cI, 20, .inl (fun _ => 0)))] := hD
  refine va_putF (D := D) (ci := 13) (v := .ref q_1) (ty := (.array .int)) (C := R_Md_Wo) (T := F_Md_Wo) (N := 6) hx hb ht i_Md_Wo t_Md_Wo t_Md_Wo_ok n_Md_Wo hown hK hP hD hS 0 rfl rfl 2 (Nat.le_of_ble_eq_true rfl) (ht _ m_118) (fun _ h9 => h9) rfl hin rfl (by decide +kernel) rfl rfl (Nat.le_of_ble_eq_true rfl) d_Md_Wo_init_14 (fun H locs hP hD hS => ?_)
  have hP : va_P D classes [(h0, .inr (13, [.int 1, .int 0, .ref q_1, .int 0, .int 0, .null])), (q_1, .inl (cI, 20, .inl (fun _ => 0)))] H := hP
  have hD : va_D A [(h0, .inr (13, [.int 1, .int 0, .ref q_1, .int 0, .int 0, .null])), (q_1, .inl (cI, 20, .inl (fun _ => 0)))] := hD
  refine lv_aload_n hx hb d_Md_Wo_init_17 rfl (lv_at hl 0 rfl) ?_
  refine lv_sipush (v := 216) hx hb d_Md_Wo_init_18 (by decide +kernel) ?_
  refine vz_newa (ty := .int) (a0 := (216, .inl (fun _ => 0))) (k1 := 2) (n1 := 236) hx hb rfl (ht _ m_3) hK hP hD hS hA 0 rfl (fun C h => by cases h) 216 (fun _ => rfl) (by decide +kernel) (by decide +kernel) (by decide +kernel) rfl rfl (Nat.le_of_ble_eq_true rfl) (Nat.le_of_ble_eq_true rfl) d_Md_Wo_init_21 (fun q_2 H hP hD hS => ?_)
  have hP : va_P D classes [(h0, .inr (13, [.int 1, .int 0, .ref q_1, .int 0, .int 0, .null])), (q_1, .inl (cI, 20, .inl (fun _ => 0))), (q_2, .inl (cI, 216, .inl (fun _ => 0)))] H := hP
  have hD : va_D A [(h0, .inr (13, [.int 1, .int 0, .ref q_1, .int 0, .int 0, .null])), (q_1, .inl (cI, 20, .inl (fun _ => 0))), (q_2, .inl (cI, 216, .inl (fun _ => 0)))] := hD
  refine va_putF (D := D) (ci := 13) (v := .ref q_2) (ty := (.array .int)) (C := R_Md_Wo) (T := F_Md_Wo) (N := 6) hx hb ht i_Md_Wo t_Md_Wo t_Md_Wo_ok n_Md_Wo hown hK hP hD hS 0 rfl rfl 5 (Nat.le_of_ble_eq_true rfl) (ht _ m_119) (fun _ h9 => h9) rfl hin rfl (by decide +kernel) rfl rfl (Nat.le_of_ble_eq_true rfl) d_Md_Wo_init_23 (fun H locs hP hD hS => ?_)
  have hP : va_P D classes [(h0, .inr (13, [.int 1, .int 0, .ref q_1, .int 0, .int 0, .ref q_2])), (q_1, .inl (cI, 20, .inl (fun _ => 0))), (q_2, .inl (cI, 216, .inl (fun _ => 0)))] H := hP
  have hD : va_D A [(h0, .inr (13, [.int 1, .int 0, .ref q_1, .int 0, .int 0, .ref q_2])), (q_1, .inl (cI, 20, .inl (fun _ => 0))), (q_2, .inl (cI, 216, .inl (fun _ => 0)))] := hD
  have hP := hP.sub (ws' := [(h0, .inr (13, [.int 1, .int 0, .ref q_1, .int 0, .int 0, .ref q_2])), (q_1, .inl (cI, 20, .inl (fun _ => 0))), (q_2, .inl (cI, 216, .inl (fun _ => 0)))]) [0, 1, 2] rfl
  have hD := hD.sub (ws' := [(h0, .inr (13, [.int 1, .int 0, .ref q_1, .int 0, .int 0, .ref q_2])), (q_1, .inl (cI, 20, .inl (fun _ => 0))), (q_2, .inl (cI, 216, .inl (fun _ => 0)))]) [0, 1, 2] (by decide) rfl
  exact vz_vret hx hb hr hlocks hP hD hS (Nat.le_of_ble_eq_true rfl) (Nat.le_of_ble_eq_true rfl) d_Md_Wo_init_26 ⟨q_1, q_2, rfl⟩
