set_option maxHeartbeats 4000000 in
set_option maxRecDepth 100000 in
theorem k_findForm (l : Launch) (D : va_G) (cI cJ cB : ClassId) (h0 : Nat) (y_letter : Nat) (y_image : Nat) (y_end : Nat)  : MtV l y_Br_findForm (.code y_Br_findForm b_Br_findForm 2 none :: CW) ({ frames := 0, cells := 0, slots := 0, locals := 0 }) D [(cI, .int), (cJ, .long), (cB, .byte)] [.ref h0] [(h0, .inr (7, [.ref y_letter, .ref y_image, .ref y_end, .int 1, .int 0, .int 0, .int 0, .int 0]))] (fun (w : va_W) => w = [(h0, .inr (7, [.ref y_letter, .ref y_image, .ref y_end, .int 1, .int 0, .int 0, .int 0, .int 1]))]) := by
  intro sz
  refine vz_start (Qc := fun A => va_Qv (fun (w : va_W) => w = [(h0, .inr (7, [.ref y_letter, .ref y_image, .ref y_end, .int 1, .int 0, .int 0, .int 0, .int 1]))]) (vz_B D A) A) (lv0 := [(0, .ref h0)]) (by decide +kernel) (Nat.le_of_ble_eq_true rfl) rfl ?_
  intro p e s m below meth c A ls C0 hl
  obtain ⟨hx, hb, hr, hml, hown, ht, hlocks, hin, hN, hK, hP, hD, hA, hS⟩ := C0
  refine lv_aload_n hx hb d_Br_findForm_0 rfl (lv_at hl 0 rfl) ?_
  refine va_get (D := D) (ci := 7) (v := .int 0) (C := R_Br) (T := F_Br) (N := 8) hx hb ht i_Br hown hK hP 0 rfl rfl 7 (Nat.le_of_ble_eq_true rfl) (ht _ m_199) (fun _ h9 => h9) rfl d_Br_findForm_1 ?_
  refine vz_if_eq_t (tgt := 8) hx hb d_Br_findForm_4 (by decide) (by decide +kernel) ?_
  refine lv_aload_n hx hb d_Br_findForm_8 rfl (lv_at hl 0 rfl) ?_
  refine lv_iconst (v := 0) hx hb d_Br_findForm_9 (by decide) ?_
  refine va_put (D := D) (ci := 7) (v := .int 0) (ty := .int) (C := R_Br) (T := F_Br) (N := 8) hx hb ht i_Br t_Br t_Br_ok n_Br hown hK hP hD hS 0 rfl rfl 5 (Nat.le_of_ble_eq_true rfl) (ht _ m_200) (fun _ h9 => h9) rfl (by decide +kernel) rfl rfl (Nat.le_of_ble_eq_true rfl) d_Br_findForm_10 (fun H locs hP hD hS => ?_)
  have hP : va_P D classes [(h0, .inr (7, [.ref y_letter, .ref y_image, .ref y_end, .int 1, .int 0, .int 0, .int 0, .int 0]))] H := hP
  have hD : va_D A [(h0, .inr (7, [.ref y_letter, .ref y_image, .ref y_end, .int 1, .int 0, .int 0, .int 0, .int 0]))] := hD
  refine lv_aload_n hx hb d_Br_findForm_13 rfl (lv_at hl 0 rfl) ?_
  refine lv_iconst (v := 0) hx hb d_Br_findForm_14 (by decide) ?_
  refine va_put (D := D) (ci := 7) (v := .int 0) (ty := .int) (C := R_Br) (T := F_Br) (N := 8) hx hb ht i_Br t_Br t_Br_ok n_Br hown hK hP hD hS 0 rfl rfl 6 (Nat.le_of_ble_eq_true rfl) (ht _ m_201) (fun _ h9 => h9) rfl (by decide +kernel) rfl rfl (Nat.le_of_ble_eq_true rfl) d_Br_findForm_15 (fun H locs hP hD hS => ?_)
  have hP : va_P D classes [(h0, .inr (7, [.ref y_letter, .ref y_image, .ref y_end, .int 1, .int 0, .int 0, .int 0, .int 0]))] H := hP
  have hD : va_D A [(h0, .inr (7, [.ref y_letter, .ref y_image, .ref y_end, .int 1, .int 0, .int 0, .int 0, .int 0]))] := hD
  refine lv_iconst (v := 0) hx hb d_Br_findForm_18 (by decide) ?_
  refine lv_istore_n (lv' := [(1, .int 0), (0, .ref h0)]) hx hb d_Br_findForm_19 rfl hl (by decide) rfl (fun ls hl => ?_)
  refine lv_iload_n hx hb d_Br_findForm_20 rfl (lv_at hl 0 rfl) ?_
  refine lv_aload_n hx hb d_Br_findForm_21 rfl (lv_at hl 1 rfl) ?_
  refine va_get (D := D) (ci := 7) (v := .int 0) (C := R_Br) (T := F_Br) (N := 8) hx hb ht i_Br hown hK hP 0 rfl rfl 4 (Nat.le_of_ble_eq_true rfl) (ht _ m_202) (fun _ h9 => h9) rfl d_Br_findForm_22 ?_
  refine vz_icmp_ge_t (tgt := 75) hx hb d_Br_findForm_25 (by decide) (by decide +kernel) ?_
  refine lv_aload_n hx hb d_Br_findForm_75 rfl (lv_at hl 1 rfl) ?_
  refine lv_iconst (v := 1) hx hb d_Br_findForm_76 (by decide) ?_
  refine va_put (D := D) (ci := 7) (v := .int 1) (ty := .boolean) (C := R_Br) (T := F_Br) (N := 8) hx hb ht i_Br t_Br t_Br_ok n_Br hown hK hP hD hS 0 rfl rfl 7 (Nat.le_of_ble_eq_true rfl) (ht _ m_199) (fun _ h9 => h9) rfl (by decide +kernel) rfl rfl (Nat.le_of_ble_eq_true rfl) d_Br_findForm_77 (fun H locs hP hD hS => ?_)
  have hP : va_P D classes [(h0, .inr (7, [.ref y_letter, .ref y_image, .ref y_end, .int 1, .int 0, .int 0, .int 0, .int 1]))] H := hP
  have hD : va_D A [(h0, .inr (7, [.ref y_letter, .ref y_image, .ref y_end, .int 1, .int 0, .int 0, .int 0, .int 1]))] := hD
  have hP := hP.sub (ws' := [(h0, .inr (7, [.ref y_letter, .ref y_image, .ref y_end, .int 1, .int 0, .int 0, .int 0, .int 1]))]) [0] rfl
  have hD := hD.sub (ws' := [(h0, .inr (7, [.ref y_letter, .ref y_image, .ref y_end, .int 1, .int 0, .int 0, .int 0, .int 1]))]) [0] (by decide) rfl
  exact vz_vret hx hb hr hlocks hP hD hS (Nat.le_of_ble_eq_true rfl) (Nat.le_of_ble_eq_true rfl) d_Br_findForm_80 rfl
set_option maxHeartbeats 4000000 in
set_option maxRecDepth 100000 in
theorem k_simpleBraids (l : Launch) (D : va_G) (cI cJ cB : ClassId) (h0 : Nat) (y_letter : Nat) (y_image : Nat) (y_end : Nat)  : MtI l y_Br_simpleBraids (.code y_Br_simpleBraids b_Br_simpleBraids 1 (some .int) :: CW) ({ frames := 1, cells := 0, slots := 0, locals := 21 }) D [(cI, .int), (cJ, .long), (cB, .byte)] [.ref h0] [(h0, .inr (7, [.ref y_letter, .ref y_image, .ref y_end, .int 1, .int 0, .int 0, .int 0, .int 0]))] (fun (r : Int32) (w : va_W) => r = 0 ∧ w = [(h0, .inr (7, [.ref y_letter, .ref y_image, .ref y_end, .int 1, .int 0, .int 0, .int 0, .int 1]))]) := by
  intro sz
  refine vz_start (Qc := fun A => va_Qi (fun (r : Int32) (w : va_W) => r = 0 ∧ w = [(h0, .inr (7, [.ref y_letter, .ref y_image, .ref y_end, .int 1, .int 0, .int 0, .int 0, .int 1]))]) (vz_B D A) A) (lv0 := [(0, .ref h0)]) (by decide +kernel) (Nat.le_of_ble_eq_true rfl) rfl ?_
  intro p e s m below meth c A ls C0 hl
  obtain ⟨hx, hb, hr, hml, hown, ht, hlocks, hin, hN, hK, hP, hD, hA, hS⟩ := C0
  refine lv_aload_n hx hb d_Br_simpleBraids_0 rfl (lv_at hl 0 rfl) ?_
  refine vz_callVv (n := 0) (As := []) (rest := []) (wc := [(h0, .inr (7, [.ref y_letter, .ref y_image, .ref y_end, .int 1, .int 0, .int 0, .int 0, .int 0]))]) (wr := []) (k1 := 0) (n1 := 0) hx hb hml hown ht hN hK hP hD hS hA (k_findForm l D cI cJ cB h0 y_letter y_image y_end) m_206 m_107 m_203 m_204 m_205 (hc := (rfl : classes[7]? = some (R_Br, F_Br, 8))) 0 rfl (by decide +kernel) ⟨Nat.le_of_ble_eq_true rfl, Nat.le_of_ble_eq_true rfl⟩ [0] [] rfl rfl (by decide) (by decide) (by decide) rfl hl.1 rfl (Nat.le_of_ble_eq_true rfl) rfl rfl ⟨Nat.le_of_ble_eq_true rfl, Nat.le_of_ble_eq_true rfl⟩ d_Br_simpleBraids_1 (fun w1 H locs hw hP hD hS => ?_)
  subst hw
  have hP : va_P D classes [(h0, .inr (7, [.ref y_letter, .ref y_image, .ref y_end, .int 1, .int 0, .int 0, .int 0, .int 1]))] H := hP
  have hD : va_D A [(h0, .inr (7, [.ref y_letter, .ref y_image, .ref y_end, .int 1, .int 0, .int 0, .int 0, .int 1]))] := hD
  refine lv_aload_n hx hb d_Br_simpleBraids_4 rfl (lv_at hl 0 rfl) ?_
  refine va_get (D := D) (ci := 7) (v := .int 0) (C := R_Br) (T := F_Br) (N := 8) hx hb ht i_Br hown hK hP 0 rfl rfl 6 (Nat.le_of_ble_eq_true rfl) (ht _ m_201) (fun _ h9 => h9) rfl d_Br_simpleBraids_5 ?_
  have hP := hP.sub (ws' := [(h0, .inr (7, [.ref y_letter, .ref y_image, .ref y_end, .int 1, .int 0, .int 0, .int 0, .int 1]))]) [0] rfl
  have hD := hD.sub (ws' := [(h0, .inr (7, [.ref y_letter, .ref y_image, .ref y_end, .int 1, .int 0, .int 0, .int 0, .int 1]))]) [0] (by decide) rfl
  exact vz_iret hx hb hr rfl hlocks hP hD hS (Nat.le_of_ble_eq_true rfl) (Nat.le_of_ble_eq_true rfl) d_Br_simpleBraids_8 ⟨rfl, rfl⟩
set_option maxHeartbeats 4000000 in
set_option maxRecDepth 100000 in
theorem k_formAt (l : Launch) (D : va_G) (cI cJ cB : ClassId) (h0 : Nat) (v : Int32) (u : Int32) (y_letter : Nat) (y_image : Nat) (y_end : Nat)  : MtI l y_Br_formAt (.code y_Br_formAt b_Br_formAt 3 (some .int) :: CW) ({ frames := 1, cells := 0, slots := 0, locals := 21 }) D [(cI, .int), (cJ, .long), (cB, .byte)] [.ref h0, .int v, .int u] [(h0, .inr (7, [.ref y_letter, .ref y_image, .ref y_end, .int 1, .int 0, .int 0, .int 0, .int 0]))] (fun (r : Int32) (_ : va_W) => r = 0) := by
  intro sz
  refine vz_start (Qc := fun A => va_Qi (fun (r : Int32) (_ : va_W) => r = 0) (vz_B D A) A) (lv0 := [(0, .ref h0), (1, .int v), (2, .int u)]) (by decide +kernel) (Nat.le_of_ble_eq_true rfl) rfl ?_
  intro p e s m below meth c A ls C0 hl
  obtain ⟨hx, hb, hr, hml, hown, ht, hlocks, hin, hN, hK, hP, hD, hA, hS⟩ := C0
  refine lv_aload_n hx hb d_Br_formAt_0 rfl (lv_at hl 0 rfl) ?_
  refine vz_callVv (n := 0) (As := []) (rest := []) (wc := [(h0, .inr (7, [.ref y_letter, .ref y_image, .ref y_end, .int 1, .int 0, .int 0, .int 0, .int 0]))]) (wr := []) (k1 := 0) (n1 := 0) hx hb hml hown ht hN hK hP hD hS hA (k_findForm l D cI cJ cB h0 y_letter y_image y_end) m_206 m_107 m_203 m_204 m_205 (hc := (rfl : classes[7]? = some (R_Br, F_Br, 8))) 0 rfl (by decide +kernel) ⟨Nat.le_of_ble_eq_true rfl, Nat.le_of_ble_eq_true rfl⟩ [0] [] rfl rfl (by decide) (by decide) (by decide) rfl hl.1 rfl (Nat.le_of_ble_eq_true rfl) rfl rfl ⟨Nat.le_of_ble_eq_true rfl, Nat.le_of_ble_eq_true rfl⟩ d_Br_formAt_1 (fun w1 H locs hw hP hD hS => ?_)
  subst hw
  have hP : va_P D classes [(h0, .inr (7, [.ref y_letter, .ref y_image, .ref y_end, .int 1, .int 0, .int 0, .int 0, .int 1]))] H := hP
  have hD : va_D A [(h0, .inr (7, [.ref y_letter, .ref y_image, .ref y_end, .int 1, .int 0, .int 0, .int 0, .int 1]))] := hD
  refine lv_iload_n hx hb d_Br_formAt_4 rfl (lv_at hl 1 rfl) ?_
  refine lv_if_ne (tgt := 13) hx hb d_Br_formAt_5 (by decide) (fun c_1 => ?_) (fun c_1 => ?_)
  · refine lv_iload_n hx hb d_Br_formAt_13 rfl (lv_at hl 1 rfl) ?_
    refine lv_if_lt (tgt := 38) hx hb d_Br_formAt_14 (by decide) (fun c_2 => ?_) (fun c_2 => ?_)
    · refine lv_iconst (v := 0) hx hb d_Br_formAt_38 (by decide) ?_
      exact vz_iret hx hb hr rfl hlocks hP hD hS (Nat.le_of_ble_eq_true rfl) (Nat.le_of_ble_eq_true rfl) d_Br_formAt_39 rfl
    · refine lv_iload_n hx hb d_Br_formAt_17 rfl (lv_at hl 1 rfl) ?_
      refine lv_aload_n hx hb d_Br_formAt_18 rfl (lv_at hl 0 rfl) ?_
      refine va_get (D := D) (ci := 7) (v := .int 0) (C := R_Br) (T := F_Br) (N := 8) hx hb ht i_Br hown hK hP 0 rfl rfl 6 (Nat.le_of_ble_eq_true rfl) (ht _ m_201) (fun _ h9 => h9) rfl d_Br_formAt_19 ?_
      refine lv_icmp_gt (tgt := 38) hx hb d_Br_formAt_22 (by decide) (fun c_3 => ?_) (fun c_3 => ?_)
      · refine lv_iconst (v := 0) hx hb d_Br_formAt_38 (by decide) ?_
        exact vz_iret hx hb hr rfl hlocks hP hD hS (Nat.le_of_ble_eq_true rfl) (Nat.le_of_ble_eq_true rfl) d_Br_formAt_39 rfl
      · exact absurd (vz_eq0 c_2 c_3) c_1
  · refine lv_aload_n hx hb d_Br_formAt_8 rfl (lv_at hl 0 rfl) ?_
    refine va_get (D := D) (ci := 7) (v := .int 0) (C := R_Br) (T := F_Br) (N := 8) hx hb ht i_Br hown hK hP 0 rfl rfl 5 (Nat.le_of_ble_eq_true rfl) (ht _ m_200) (fun _ h9 => h9) rfl d_Br_formAt_9 ?_
    exact vz_iret hx hb hr rfl hlocks hP hD hS (Nat.le_of_ble_eq_true rfl) (Nat.le_of_ble_eq_true rfl) d_Br_formAt_12 rfl
set_option maxHeartbeats 4000000 in
set_option maxRecDepth 100000 in
theorem k_isOneBraidWith (l : Launch) (D : va_G) (cI cJ cB : ClassId) (h0 : Nat) (h1 : Nat) (y_letter : Nat) (y_image : Nat) (y_end : Nat) (z_letter : Nat) (z_image : Nat) (z_end : Nat)  : MtI l y_Br_isOneBraidWith (.code y_Br_isOneBraidWith b_Br_isOneBraidWith 4 (some .boolean) :: CW) ({ frames := 1, cells := 0, slots := 0, locals := 21 }) D [(cI, .int), (cJ, .long), (cB, .byte)] [.ref h0, .ref h1] [(h0, .inr (7, [.ref y_letter, .ref y_image, .ref y_end, .int 1, .int 0, .int 0, .int 0, .int 0])), (h1, .inr (7, [.ref z_letter, .ref z_image, .ref z_end, .int 1, .int 0, .int 0, .int 0, .int 0]))] (fun (r : Int32) (w : va_W) => r = 1 ∧ w = [(h0, .inr (7, [.ref y_letter, .ref y_image, .ref y_end, .int 1, .int 0, .int 0, .int 0, .int 1])), (h1, .inr (7, [.ref z_letter, .ref z_image, .ref z_end, .int 1, .int 0, .int 0, .int 0, .int 1]))]) := by
  intro sz
  refine vz_start (Qc := fun A => va_Qi (fun (r : Int32) (w : va_W) => r = 1 ∧ w = [(h0, .inr (7, [.ref y_letter, .ref y_image, .ref y_end, .int 1, .int 0, .int 0, .int 0, .int 1])), (h1, .inr (7, [.ref z_letter, .ref z_image, .ref z_end, .int 1, .int 0, .int 0, .int 0, .int 1]))]) (vz_B D A) A) (lv0 := [(0, .ref h0), (1, .ref h1)]) (by decide +kernel) (Nat.le_of_ble_eq_true rfl) rfl ?_
  intro p e s m below meth c A ls C0 hl
  obtain ⟨hx, hb, hr, hml, hown, ht, hlocks, hin, hN, hK, hP, hD, hA, hS⟩ := C0
  refine lv_aload_n hx hb d_Br_isOneBraidWith_0 rfl (lv_at hl 0 rfl) ?_
  refine vz_callVv (n := 0) (As := []) (rest := []) (wc := [(h0, .inr (7, [.ref y_letter, .ref y_image, .ref y_end, .int 1, .int 0, .int 0, .int 0, .int 0]))]) (wr := [(h1, .inr (7, [.ref z_letter, .ref z_image, .ref z_end, .int 1, .int 0, .int 0, .int 0, .int 0]))]) (k1 := 0) (n1 := 0) hx hb hml hown ht hN hK hP hD hS hA (k_findForm l D cI cJ cB h0 y_letter y_image y_end) m_206 m_107 m_203 m_204 m_205 (hc := (rfl : classes[7]? = some (R_Br, F_Br, 8))) 0 rfl (by decide +kernel) ⟨Nat.le_of_ble_eq_true rfl, Nat.le_of_ble_eq_true rfl⟩ [0] [1] rfl rfl (by decide) (by decide) (by decide) rfl hl.1 rfl (Nat.le_of_ble_eq_true rfl) rfl rfl ⟨Nat.le_of_ble_eq_true rfl, Nat.le_of_ble_eq_true rfl⟩ d_Br_isOneBraidWith_1 (fun w1 H locs hw hP hD hS => ?_)
  subst hw
  have hP : va_P D classes [(h1, .inr (7, [.ref z_letter, .ref z_image, .ref z_end, .int 1, .int 0, .int 0, .int 0, .int 0])), (h0, .inr (7, [.ref y_letter, .ref y_image, .ref y_end, .int 1, .int 0, .int 0, .int 0, .int 1]))] H := hP
  have hD : va_D A [(h1, .inr (7, [.ref z_letter, .ref z_image, .ref z_end, .int 1, .int 0, .int 0, .int 0, .int 0])), (h0, .inr (7, [.ref y_letter, .ref y_image, .ref y_end, .int 1, .int 0, .int 0, .int 0, .int 1]))] := hD
  refine lv_aload_n hx hb d_Br_isOneBraidWith_4 rfl (lv_at hl 1 rfl) ?_
  refine vz_callVv (n := 0) (As := []) (rest := []) (wc := [(h1, .inr (7, [.ref z_letter, .ref z_image, .ref z_end, .int 1, .int 0, .int 0, .int 0, .int 0]))]) (wr := [(h0, .inr (7, [.ref y_letter, .ref y_image, .ref y_end, .int 1, .int 0, .int 0, .int 0, .int 1]))]) (k1 := 0) (n1 := 0) hx hb hml hown ht hN hK hP hD hS hA (k_findForm l D cI cJ cB h1 z_letter z_image z_end) m_206 m_107 m_203 m_204 m_205 (hc := (rfl : classes[7]? = some (R_Br, F_Br, 8))) 0 rfl (by decide +kernel) ⟨Nat.le_of_ble_eq_true rfl, Nat.le_of_ble_eq_true rfl⟩ [0] [1] rfl rfl (by decide) (by decide) (by decide) rfl hl.1 rfl (Nat.le_of_ble_eq_true rfl) rfl rfl ⟨Nat.le_of_ble_eq_true rfl, Nat.le_of_ble_eq_true rfl⟩ d_Br_isOneBraidWith_5 (fun w1 H locs hw hP hD hS => ?_)
  subst hw
  have hP : va_P D classes [(h0, .inr (7, [.ref y_letter, .ref y_image, .ref y_end, .int 1, .int 0, .int 0, .int 0, .int 1])), (h1, .inr (7, [.ref z_letter, .ref z_image, .ref z_end, .int 1, .int 0, .int 0, .int 0, .int 1]))] H := hP
  have hD : va_D A [(h0, .inr (7, [.ref y_letter, .ref y_image, .ref y_end, .int 1, .int 0, .int 0, .int 0, .int 1])), (h1, .inr (7, [.ref z_letter, .ref z_image, .ref z_end, .int 1, .int 0, .int 0, .int 0, .int 1]))] := hD
  refine lv_aload_n hx hb d_Br_isOneBraidWith_8 rfl (lv_at hl 0 rfl) ?_
  refine va_get (D := D) (ci := 7) (v := .int 1) (C := R_Br) (T := F_Br) (N := 8) hx hb ht i_Br hown hK hP 0 rfl rfl 3 (Nat.le_of_ble_eq_true rfl) (ht _ m_48) (fun _ h9 => h9) rfl d_Br_isOneBraidWith_9 ?_
  refine lv_aload_n hx hb d_Br_isOneBraidWith_12 rfl (lv_at hl 1 rfl) ?_
  refine va_get (D := D) (ci := 7) (v := .int 1) (C := R_Br) (T := F_Br) (N := 8) hx hb ht i_Br hown hK hP 1 rfl rfl 3 (Nat.le_of_ble_eq_true rfl) (ht _ m_48) (fun _ h9 => h9) rfl d_Br_isOneBraidWith_13 ?_
  refine vz_icmp_ne_f (tgt := 41) hx hb d_Br_isOneBraidWith_16 (by decide) (by decide +kernel) ?_
  refine lv_aload_n hx hb d_Br_isOneBraidWith_19 rfl (lv_at hl 0 rfl) ?_
  refine va_get (D := D) (ci := 7) (v := .int 0) (C := R_Br) (T := F_Br) (N := 8) hx hb ht i_Br hown hK hP 0 rfl rfl 5 (Nat.le_of_ble_eq_true rfl) (ht _ m_200) (fun _ h9 => h9) rfl d_Br_isOneBraidWith_20 ?_
  refine lv_aload_n hx hb d_Br_isOneBraidWith_23 rfl (lv_at hl 1 rfl) ?_
  refine va_get (D := D) (ci := 7) (v := .int 0) (C := R_Br) (T := F_Br) (N := 8) hx hb ht i_Br hown hK hP 1 rfl rfl 5 (Nat.le_of_ble_eq_true rfl) (ht _ m_200) (fun _ h9 => h9) rfl d_Br_isOneBraidWith_24 ?_
  refine vz_icmp_ne_f (tgt := 41) hx hb d_Br_isOneBraidWith_27 (by decide) (by decide +kernel) ?_
  refine lv_aload_n hx hb d_Br_isOneBraidWith_30 rfl (lv_at hl 0 rfl) ?_
  refine va_get (D := D) (ci := 7) (v := .int 0) (C := R_Br) (T := F_Br) (N := 8) hx hb ht i_Br hown hK hP 0 rfl rfl 6 (Nat.le_of_ble_eq_true rfl) (ht _ m_201) (fun _ h9 => h9) rfl d_Br_isOneBraidWith_31 ?_
  refine lv_aload_n hx hb d_Br_isOneBraidWith_34 rfl (lv_at hl 1 rfl) ?_
  refine va_get (D := D) (ci := 7) (v := .int 0) (C := R_Br) (T := F_Br) (N := 8) hx hb ht i_Br hown hK hP 1 rfl rfl 6 (Nat.le_of_ble_eq_true rfl) (ht _ m_201) (fun _ h9 => h9) rfl d_Br_isOneBraidWith_35 ?_
  refine vz_icmp_eq_t (tgt := 43) hx hb d_Br_isOneBraidWith_38 (by decide) (by decide +kernel) ?_
  refine lv_iconst (v := 0) hx hb d_Br_isOneBraidWith_43 (by decide) ?_
  refine lv_istore_n (lv' := [(2, .int 0), (0, .ref h0), (1, .ref h1)]) hx hb d_Br_isOneBraidWith_44 rfl hl (by decide) rfl (fun ls hl => ?_)
  refine lv_iload_n hx hb d_Br_isOneBraidWith_45 rfl (lv_at hl 0 rfl) ?_
  refine lv_aload_n hx hb d_Br_isOneBraidWith_46 rfl (lv_at hl 1 rfl) ?_
  refine va_get (D := D) (ci := 7) (v := .int 0) (C := R_Br) (T := F_Br) (N := 8) hx hb ht i_Br hown hK hP 0 rfl rfl 6 (Nat.le_of_ble_eq_true rfl) (ht _ m_201) (fun _ h9 => h9) rfl d_Br_isOneBraidWith_47 ?_
  refine vz_icmp_ge_t (tgt := 102) hx hb d_Br_isOneBraidWith_50 (by decide) (by decide +kernel) ?_
  refine lv_iconst (v := 1) hx hb d_Br_isOneBraidWith_102 (by decide) ?_
  have hP := hP.sub (ws' := [(h0, .inr (7, [.ref y_letter, .ref y_image, .ref y_end, .int 1, .int 0, .int 0, .int 0, .int 1])), (h1, .inr (7, [.ref z_letter, .ref z_image, .ref z_end, .int 1, .int 0, .int 0, .int 0, .int 1]))]) [0, 1] rfl
  have hD := hD.sub (ws' := [(h0, .inr (7, [.ref y_letter, .ref y_image, .ref y_end, .int 1, .int 0, .int 0, .int 0, .int 1])), (h1, .inr (7, [.ref z_letter, .ref z_image, .ref z_end, .int 1, .int 0, .int 0, .int 0, .int 1]))]) [0, 1] (by decide) rfl
  exact vz_iret hx hb hr rfl hlocks hP hD hS (Nat.le_of_ble_eq_true rfl) (Nat.le_of_ble_eq_true rfl) d_Br_isOneBraidWith_103 ⟨rfl, rfl⟩
set_option maxHeartbeats 4000000 in
set_option maxRecDepth 100000 in
theorem k_same (l : Launch) (D : va_G) (cI cJ cB : ClassId) (h0 : Nat) (x_reader : Nat) (x_tape : Nat) (x_lines : Nat) (x_paper : Nat) (x_moves : Nat) (x_stateSum : Nat) (x_minor : Nat) (x_polynomial : Nat) (x_now : Nat) (x_next : Nat) (x_trial : Nat) (x_spare : Nat) (h1 : Nat) (y_letter : Nat) (y_image : Nat) (y_end : Nat) (h2 : Nat) (z_letter : Nat) (z_image : Nat) (z_end : Nat)  : MtI l y_En_same (.code y_En_same b_En_same 1 (some .boolean) :: CW) ({ frames := 2, cells := 0, slots := 0, locals := 44 }) D [(cI, .int), (cJ, .long), (cB, .byte)] [.ref h0] [(h0, .inr (0, [.ref x_reader, .ref x_tape, .ref x_lines, .ref x_paper, .ref x_moves, .ref x_stateSum, .ref x_minor, .ref x_polynomial, .ref x_now, .ref x_next, .ref x_trial, .ref h1, .ref h2, .ref x_spare, .int 0, .int 0, .int 0, .int 0])), (h1, .inr (7, [.ref y_letter, .ref y_image, .ref y_end, .int 1, .int 0, .int 0, .int 0, .int 0])), (h2, .inr (7, [.ref z_letter, .ref z_image, .ref z_end, .int 1, .int 0, .int 0, .int 0, .int 0]))] (fun (r : Int32) (_ : va_W) => r = 1) := by
  intro sz
  refine vz_start (Qc := fun A => va_Qi (fun (r : Int32) (_ : va_W) => r = 1) (vz_B D A) A) (lv0 := [(0, .ref h0)]) (by decide +kernel) (Nat.le_of_ble_eq_true rfl) rfl ?_
  intro p e s m below meth c A ls C0 hl
  obtain ⟨hx, hb, hr, hml, hown, ht, hlocks, hin, hN, hK, hP, hD, hA, hS⟩ := C0
  refine lv_aload_n hx hb d_En_same_0 rfl (lv_at hl 0 rfl) ?_
  refine va_get (D := D) (ci := 0) (v := .ref h1) (C := R_En) (T := F_En) (N := 18) hx hb ht i_En hown hK hP 0 rfl rfl 11 (Nat.le_of_ble_eq_true rfl) (ht _ m_110) (fun _ h9 => h9) rfl d_En_same_1 ?_
  refine lv_aload_n hx hb d_En_same_4 rfl (lv_at hl 0 rfl) ?_
  refine va_get (D := D) (ci := 0) (v := .ref h2) (C := R_En) (T := F_En) (N := 18) hx hb ht i_En hown hK hP 0 rfl rfl 12 (Nat.le_of_ble_eq_true rfl) (ht _ m_111) (fun _ h9 => h9) rfl d_En_same_5 ?_
  refine vz_callVi (n := 1) (As := [.ref h2]) (rest := []) (wc := [(h1, .inr (7, [.ref y_letter, .ref y_image, .ref y_end, .int 1, .int 0, .int 0, .int 0, .int 0])), (h2, .inr (7, [.ref z_letter, .ref z_image, .ref z_end, .int 1, .int 0, .int 0, .int 0, .int 0]))]) (wr := [(h0, .inr (0, [.ref x_reader, .ref x_tape, .ref x_lines, .ref x_paper, .ref x_moves, .ref x_stateSum, .ref x_minor, .ref x_polynomial, .ref x_now, .ref x_next, .ref x_trial, .ref h1, .ref h2, .ref x_spare, .int 0, .int 0, .int 0, .int 0]))]) (k1 := 0) (n1 := 0) hx hb hml hown ht hN hK hP hD hS hA (k_isOneBraidWith l D cI cJ cB h1 h2 y_letter y_image y_end z_letter z_image z_end) m_210 m_107 m_207 m_208 m_209 (hc := (rfl : classes[7]? = some (R_Br, F_Br, 8))) 1 rfl (by decide +kernel) ⟨Nat.le_of_ble_eq_true rfl, Nat.le_of_ble_eq_true rfl⟩ [1, 2] [0] rfl rfl (by decide) (by decide) (by decide) rfl hl.1 rfl (Nat.le_of_ble_eq_true rfl) rfl rfl ⟨Nat.le_of_ble_eq_true rfl, Nat.le_of_ble_eq_true rfl⟩ d_En_same_8 (fun r1 w1 H locs hw hP hD hS => ?_)
  obtain ⟨rfl, rfl⟩ := hw
  have hP : va_P D classes [(h0, .inr (0, [.ref x_reader, .ref x_tape, .ref x_lines, .ref x_paper, .ref x_moves, .ref x_stateSum, .ref x_minor, .ref x_polynomial, .ref x_now, .ref x_next, .ref x_trial, .ref h1, .ref h2, .ref x_spare, .int 0, .int 0, .int 0, .int 0])), (h1, .inr (7, [.ref y_letter, .ref y_image, .ref y_end, .int 1, .int 0, .int 0, .int 0, .int 1])), (h2, .inr (7, [.ref z_letter, .ref z_image, .ref z_end, .int 1, .int 0, .int 0, .int 0, .int 1]))] H := hP
  have hD : va_D A [(h0, .inr (0, [.ref x_reader, .ref x_tape, .ref x_lines, .ref x_paper, .ref x_moves, .ref x_stateSum, .ref x_minor, .ref x_polynomial, .ref x_now, .ref x_next, .ref x_trial, .ref h1, .ref h2, .ref x_spare, .int 0, .int 0, .int 0, .int 0])), (h1, .inr (7, [.ref y_letter, .ref y_image, .ref y_end, .int 1, .int 0, .int 0, .int 0, .int 1])), (h2, .inr (7, [.ref z_letter, .ref z_image, .ref z_end, .int 1, .int 0, .int 0, .int 0, .int 1]))] := hD
  exact vz_iret hx hb hr rfl hlocks hP hD hS (Nat.le_of_ble_eq_true rfl) (Nat.le_of_ble_eq_true rfl) d_En_same_11 rfl
set_option maxHeartbeats 4000000 in
set_option maxRecDepth 100000 in
theorem k_form (l : Launch) (D : va_G) (cI cJ cB : ClassId) (h0 : Nat) (v : Int32) (u : Int32) (w : Int32) (x_reader : Nat) (x_tape : Nat) (x_lines : Nat) (x_paper : Nat) (x_moves : Nat) (x_stateSum : Nat) (x_minor : Nat) (x_polynomial : Nat) (x_now : Nat) (x_next : Nat) (x_trial : Nat) (x_spare : Nat) (h1 : Nat) (y_letter : Nat) (y_image : Nat) (y_end : Nat) (h2 : Nat) (z_letter : Nat) (z_image : Nat) (z_end : Nat)  : MtI l y_En_form (.code y_En_form b_En_form 4 (some .int) :: CW) ({ frames := 2, cells := 0, slots := 0, locals := 43 }) D [(cI, .int), (cJ, .long), (cB, .byte)] [.ref h0, .int v, .int u, .int w] [(h0, .inr (0, [.ref x_reader, .ref x_tape, .ref x_lines, .ref x_paper, .ref x_moves, .ref x_stateSum, .ref x_minor, .ref x_polynomial, .ref x_now, .ref x_next, .ref x_trial, .ref h1, .ref h2, .ref x_spare, .int 0, .int 0, .int 0, .int 0])), (h1, .inr (7, [.ref y_letter, .ref y_image, .ref y_end, .int 1, .int 0, .int 0, .int 0, .int 0])), (h2, .inr (7, [.ref z_letter, .ref z_image, .ref z_end, .int 1, .int 0, .int 0, .int 0, .int 0]))] (fun (r : Int32) (_ : va_W) => r = 0) := by
  intro sz
  refine vz_start (Qc := fun A => va_Qi (fun (r : Int32) (_ : va_W) => r = 0) (vz_B D A) A) (lv0 := [(0, .ref h0), (1, .int v), (2, .int u), (3, .int w)]) (by decide +kernel) (Nat.le_of_ble_eq_true rfl) rfl ?_
  intro p e s m below meth c A ls C0 hl
  obtain ⟨hx, hb, hr, hml, hown, ht, hlocks, hin, hN, hK, hP, hD, hA, hS⟩ := C0
  refine lv_iload_n hx hb d_En_form_0 rfl (lv_at hl 1 rfl) ?_
  refine lv_if_eq (tgt := 11) hx hb d_En_form_1 (by decide) (fun c_1 => ?_) (fun c_1 => ?_)
  · refine lv_aload_n hx hb d_En_form_11 rfl (lv_at hl 0 rfl) ?_
    refine va_get (D := D) (ci := 0) (v := .ref h1) (C := R_En) (T := F_En) (N := 18) hx hb ht i_En hown hK hP 0 rfl rfl 11 (Nat.le_of_ble_eq_true rfl) (ht _ m_110) (fun _ h9 => h9) rfl d_En_form_12 ?_
    refine lv_iload_n hx hb d_En_form_15 rfl (lv_at hl 2 rfl) ?_
    refine lv_iload_n hx hb d_En_form_16 rfl (lv_at hl 3 rfl) ?_
    refine vz_callVi (n := 2) (As := [.int u, .int w]) (rest := []) (wc := [(h1, .inr (7, [.ref y_letter, .ref y_image, .ref y_end, .int 1, .int 0, .int 0, .int 0, .int 0]))]) (wr := [(h0, .inr (0, [.ref x_reader, .ref x_tape, .ref x_lines, .ref x_paper, .ref x_moves, .ref x_stateSum, .ref x_minor, .ref x_polynomial, .ref x_now, .ref x_next, .ref x_trial, .ref h1, .ref h2, .ref x_spare, .int 0, .int 0, .int 0, .int 0])), (h2, .inr (7, [.ref z_letter, .ref z_image, .ref z_end, .int 1, .int 0, .int 0, .int 0, .int 0]))]) (k1 := 0) (n1 := 0) hx hb hml hown ht hN hK hP hD hS hA (k_formAt l D cI cJ cB h1 u w y_letter y_image y_end) m_214 m_107 m_211 m_212 m_213 (hc := (rfl : classes[7]? = some (R_Br, F_Br, 8))) 1 rfl (by decide +kernel) ⟨Nat.le_of_ble_eq_true rfl, Nat.le_of_ble_eq_true rfl⟩ [1] [0, 2] rfl rfl (by decide) (by decide) (by decide) rfl hl.1 rfl (Nat.le_of_ble_eq_true rfl) rfl rfl ⟨Nat.le_of_ble_eq_true rfl, Nat.le_of_ble_eq_true rfl⟩ d_En_form_17 (fun r1 w1 H locs hw hP hD hS => ?_)
    subst hw
    have hP := hP.sub (ws' := [(h0, .inr (0, [.ref x_reader, .ref x_tape, .ref x_lines, .ref x_paper, .ref x_moves, .ref x_stateSum, .ref x_minor, .ref x_polynomial, .ref x_now, .ref x_next, .ref x_trial, .ref h1, .ref h2, .ref x_spare, .int 0, .int 0, .int 0, .int 0])), (h2, .inr (7, [.ref z_letter, .ref z_image, .ref z_end, .int 1, .int 0, .int 0, .int 0, .int 0]))]) [0, 1] rfl
    have hD := hD.sub (ws' := [(h0, .inr (0, [.ref x_reader, .ref x_tape, .ref x_lines, .ref x_paper, .ref x_moves, .ref x_stateSum, .ref x_minor, .ref x_polynomial, .ref x_now, .ref x_next, .ref x_trial, .ref h1, .ref h2, .ref x_spare, .int 0, .int 0, .int 0, .int 0])), (h2, .inr (7, [.ref z_letter, .ref z_image, .ref z_end, .int 1, .int 0, .int 0, .int 0, .int 0]))]) [0, 1] (by decide) rfl
    exact vz_iret hx hb hr rfl hlocks hP hD hS (Nat.le_of_ble_eq_true rfl) (Nat.le_of_ble_eq_true rfl) d_En_form_20 rfl
  · refine lv_aload_n hx hb d_En_form_4 rfl (lv_at hl 0 rfl) ?_
    refine va_get (D := D) (ci := 0) (v := .ref h2) (C := R_En) (T := F_En) (N := 18) hx hb ht i_En hown hK hP 0 rfl rfl 12 (Nat.le_of_ble_eq_true rfl) (ht _ m_111) (fun _ h9 => h9) rfl d_En_form_5 ?_
    refine lv_goto (tgt := 15) hx hb d_En_form_8 (by decide) ?_
    refine lv_iload_n hx hb d_En_form_15 rfl (lv_at hl 2 rfl) ?_
    refine lv_iload_n hx hb d_En_form_16 rfl (lv_at hl 3 rfl) ?_
    refine vz_callVi (n := 2) (As := [.int u, .int w]) (rest := []) (wc := [(h2, .inr (7, [.ref z_letter, .ref z_image, .ref z_end, .int 1, .int 0, .int 0, .int 0, .int 0]))]) (wr := [(h0, .inr (0, [.ref x_reader, .ref x_tape, .ref x_lines, .ref x_paper, .ref x_moves, .ref x_stateSum, .ref x_minor, .ref x_polynomial, .ref x_now, .ref x_next, .ref x_trial, .ref h1, .ref h2, .ref x_spare, .int 0, .int 0, .int 0, .int 0])), (h1, .inr (7, [.ref y_letter, .ref y_image, .ref y_end, .int 1, .int 0, .int 0, .int 0, .int 0]))]) (k1 := 0) (n1 := 0) hx hb hml hown ht hN hK hP hD hS hA (k_formAt l D cI cJ cB h2 u w z_letter z_image z_end) m_214 m_107 m_211 m_212 m_213 (hc := (rfl : classes[7]? = some (R_Br, F_Br, 8))) 2 rfl (by decide +kernel) ⟨Nat.le_of_ble_eq_true rfl, Nat.le_of_ble_eq_true rfl⟩ [2] [0, 1] rfl rfl (by decide) (by decide) (by decide) rfl hl.1 rfl (Nat.le_of_ble_eq_true rfl) rfl rfl ⟨Nat.le_of_ble_eq_true rfl, Nat.le_of_ble_eq_true rfl⟩ d_En_form_17 (fun r1 w1 H locs hw hP hD hS => ?_)
    subst hw
    have hP := hP.sub (ws' := [(h0, .inr (0, [.ref x_reader, .ref x_tape, .ref x_lines, .ref x_paper, .ref x_moves, .ref x_stateSum, .ref x_minor, .ref x_polynomial, .ref x_now, .ref x_next, .ref x_trial, .ref h1, .ref h2, .ref x_spare, .int 0, .int 0, .int 0, .int 0])), (h1, .inr (7, [.ref y_letter, .ref y_image, .ref y_end, .int 1, .int 0, .int 0, .int 0, .int 0]))]) [0, 1] rfl
    have hD := hD.sub (ws' := [(h0, .inr (0, [.ref x_reader, .ref x_tape, .ref x_lines, .ref x_paper, .ref x_moves, .ref x_stateSum, .ref x_minor, .ref x_polynomial, .ref x_now, .ref x_next, .ref x_trial, .ref h1, .ref h2, .ref x_spare, .int 0, .int 0, .int 0, .int 0])), (h1, .inr (7, [.ref y_letter, .ref y_image, .ref y_end, .int 1, .int 0, .int 0, .int 0, .int 0]))]) [0, 1] (by decide) rfl
    exact vz_iret hx hb hr rfl hlocks hP hD hS (Nat.le_of_ble_eq_true rfl) (Nat.le_of_ble_eq_true rfl) d_En_form_20 rfl
set_option maxHeartbeats 4000000 in
set_option maxRecDepth 100000 in
theorem k_length (l : Launch) (D : va_G) (cI cJ cB : ClassId) (h0 : Nat) (v : Int32) (x_reader : Nat) (x_tape : Nat) (x_lines : Nat) (x_paper : Nat) (x_moves : Nat) (x_stateSum : Nat) (x_minor : Nat) (x_polynomial : Nat) (x_now : Nat) (x_next : Nat) (x_trial : Nat) (x_spare : Nat) (h1 : Nat) (y_letter : Nat) (y_image : Nat) (y_end : Nat) (h2 : Nat) (z_letter : Nat) (z_image : Nat) (z_end : Nat)  : MtI l y_En_length (.code y_En_length b_En_length 2 (some .int) :: CW) ({ frames := 2, cells := 0, slots := 0, locals := 41 }) D [(cI, .int), (cJ, .long), (cB, .byte)] [.ref h0, .int v] [(h0, .inr (0, [.ref x_reader, .ref x_tape, .ref x_lines, .ref x_paper, .ref x_moves, .ref x_stateSum, .ref x_minor, .ref x_polynomial, .ref x_now, .ref x_next, .ref x_trial, .ref h1, .ref h2, .ref x_spare, .int 0, .int 0, .int 0, .int 0])), (h1, .inr (7, [.ref y_letter, .ref y_image, .ref y_end, .int 1, .int 0, .int 0, .int 0, .int 0])), (h2, .inr (7, [.ref z_letter, .ref z_image, .ref z_end, .int 1, .int 0, .int 0, .int 0, .int 0]))] (fun (r : Int32) (_ : va_W) => r = 0) := by
  intro sz
  refine vz_start (Qc := fun A => va_Qi (fun (r : Int32) (_ : va_W) => r = 0) (vz_B D A) A) (lv0 := [(0, .ref h0), (1, .int v)]) (by decide +kernel) (Nat.le_of_ble_eq_true rfl) rfl ?_
  intro p e s m below meth c A ls C0 hl
  obtain ⟨hx, hb, hr, hml, hown, ht, hlocks, hin, hN, hK, hP, hD, hA, hS⟩ := C0
  refine lv_iload_n hx hb d_En_length_0 rfl (lv_at hl 1 rfl) ?_
  refine lv_if_eq (tgt := 11) hx hb d_En_length_1 (by decide) (fun c_1 => ?_) (fun c_1 => ?_)
  · refine lv_aload_n hx hb d_En_length_11 rfl (lv_at hl 0 rfl) ?_
    refine va_get (D := D) (ci := 0) (v := .ref h1) (C := R_En) (T := F_En) (N := 18) hx hb ht i_En hown hK hP 0 rfl rfl 11 (Nat.le_of_ble_eq_true rfl) (ht _ m_110) (fun _ h9 => h9) rfl d_En_length_12 ?_
    refine vz_callVi (n := 0) (As := []) (rest := []) (wc := [(h1, .inr (7, [.ref y_letter, .ref y_image, .ref y_end, .int 1, .int 0, .int 0, .int 0, .int 0]))]) (wr := [(h0, .inr (0, [.ref x_reader, .ref x_tape, .ref x_lines, .ref x_paper, .ref x_moves, .ref x_stateSum, .ref x_minor, .ref x_polynomial, .ref x_now, .ref x_next, .ref x_trial, .ref h1, .ref h2, .ref x_spare, .int 0, .int 0, .int 0, .int 0])), (h2, .inr (7, [.ref z_letter, .ref z_image, .ref z_end, .int 1, .int 0, .int 0, .int 0, .int 0]))]) (k1 := 0) (n1 := 0) hx hb hml hown ht hN hK hP hD hS hA (k_simpleBraids l D cI cJ cB h1 y_letter y_image y_end) m_218 m_107 m_215 m_216 m_217 (hc := (rfl : classes[7]? = some (R_Br, F_Br, 8))) 1 rfl (by decide +kernel) ⟨Nat.le_of_ble_eq_true rfl, Nat.le_of_ble_eq_true rfl⟩ [1] [0, 2] rfl rfl (by decide) (by decide) (by decide) rfl hl.1 rfl (Nat.le_of_ble_eq_true rfl) rfl rfl ⟨Nat.le_of_ble_eq_true rfl, Nat.le_of_ble_eq_true rfl⟩ d_En_length_15 (fun r1 w1 H locs hw hP hD hS => ?_)
    obtain ⟨rfl, rfl⟩ := hw
    have hP : va_P D classes [(h0, .inr (0, [.ref x_reader, .ref x_tape, .ref x_lines, .ref x_paper, .ref x_moves, .ref x_stateSum, .ref x_minor, .ref x_polynomial, .ref x_now, .ref x_next, .ref x_trial, .ref h1, .ref h2, .ref x_spare, .int 0, .int 0, .int 0, .int 0])), (h2, .inr (7, [.ref z_letter, .ref z_image, .ref z_end, .int 1, .int 0, .int 0, .int 0, .int 0])), (h1, .inr (7, [.ref y_letter, .ref y_image, .ref y_end, .int 1, .int 0, .int 0, .int 0, .int 1]))] H := hP
    have hD : va_D A [(h0, .inr (0, [.ref x_reader, .ref x_tape, .ref x_lines, .ref x_paper, .ref x_moves, .ref x_stateSum, .ref x_minor, .ref x_polynomial, .ref x_now, .ref x_next, .ref x_trial, .ref h1, .ref h2, .ref x_spare, .int 0, .int 0, .int 0, .int 0])), (h2, .inr (7, [.ref z_letter, .ref z_image, .ref z_end, .int 1, .int 0, .int 0, .int 0, .int 0])), (h1, .inr (7, [.ref y_letter, .ref y_image, .ref y_end, .int 1, .int 0, .int 0, .int 0, .int 1]))] := hD
    exact vz_iret hx hb hr rfl hlocks hP hD hS (Nat.le_of_ble_eq_true rfl) (Nat.le_of_ble_eq_true rfl) d_En_length_18 rfl
  · refine lv_aload_n hx hb d_En_length_4 rfl (lv_at hl 0 rfl) ?_
    refine va_get (D := D) (ci := 0) (v := .ref h2) (C := R_En) (T := F_En) (N := 18) hx hb ht i_En hown hK hP 0 rfl rfl 12 (Nat.le_of_ble_eq_true rfl) (ht _ m_111) (fun _ h9 => h9) rfl d_En_length_5 ?_
    refine lv_goto (tgt := 15) hx hb d_En_length_8 (by decide) ?_
    refine vz_callVi (n := 0) (As := []) (rest := []) (wc := [(h2, .inr (7, [.ref z_letter, .ref z_image, .ref z_end, .int 1, .int 0, .int 0, .int 0, .int 0]))]) (wr := [(h0, .inr (0, [.ref x_reader, .ref x_tape, .ref x_lines, .ref x_paper, .ref x_moves, .ref x_stateSum, .ref x_minor, .ref x_polynomial, .ref x_now, .ref x_next, .ref x_trial, .ref h1, .ref h2, .ref x_spare, .int 0, .int 0, .int 0, .int 0])), (h1, .inr (7, [.ref y_letter, .ref y_image, .ref y_end, .int 1, .int 0, .int 0, .int 0, .int 0]))]) (k1 := 0) (n1 := 0) hx hb hml hown ht hN hK hP hD hS hA (k_simpleBraids l D cI cJ cB h2 z_letter z_image z_end) m_218 m_107 m_215 m_216 m_217 (hc := (rfl : classes[7]? = some (R_Br, F_Br, 8))) 2 rfl (by decide +kernel) ⟨Nat.le_of_ble_eq_true rfl, Nat.le_of_ble_eq_true rfl⟩ [2] [0, 1] rfl rfl (by decide) (by decide) (by decide) rfl hl.1 rfl (Nat.le_of_ble_eq_true rfl) rfl rfl ⟨Nat.le_of_ble_eq_true rfl, Nat.le_of_ble_eq_true rfl⟩ d_En_length_15 (fun r1 w1 H locs hw hP hD hS => ?_)
    obtain ⟨rfl, rfl⟩ := hw
    have hP : va_P D classes [(h0, .inr (0, [.ref x_reader, .ref x_tape, .ref x_lines, .ref x_paper, .ref x_moves, .ref x_stateSum, .ref x_minor, .ref x_polynomial, .ref x_now, .ref x_next, .ref x_trial, .ref h1, .ref h2, .ref x_spare, .int 0, .int 0, .int 0, .int 0])), (h1, .inr (7, [.ref y_letter, .ref y_image, .ref y_end, .int 1, .int 0, .int 0, .int 0, .int 0])), (h2, .inr (7, [.ref z_letter, .ref z_image, .ref z_end, .int 1, .int 0, .int 0, .int 0, .int 1]))] H := hP
    have hD : va_D A [(h0, .inr (0, [.ref x_reader, .ref x_tape, .ref x_lines, .ref x_paper, .ref x_moves, .ref x_stateSum, .ref x_minor, .ref x_polynomial, .ref x_now, .ref x_next, .ref x_trial, .ref h1, .ref h2, .ref x_spare, .int 0, .int 0, .int 0, .int 0])), (h1, .inr (7, [.ref y_letter, .ref y_image, .ref y_end, .int 1, .int 0, .int 0, .int 0, .int 0])), (h2, .inr (7, [.ref z_letter, .ref z_image, .ref z_end, .int 1, .int 0, .int 0, .int 0, .int 1]))] := hD
    exact vz_iret hx hb hr rfl hlocks hP hD hS (Nat.le_of_ble_eq_true rfl) (Nat.le_of_ble_eq_true rfl) d_En_length_18 rfl
