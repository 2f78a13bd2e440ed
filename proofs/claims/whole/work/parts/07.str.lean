theorem vz_ldcwS {p : Program} {l : Launch} {e : Env} {R : Room} {s : State} {m : MethodId} {args : Array Value} {below : List Frame} {meth : Method} {c : Code} {H : Heap} {locs : List Loc} {cells slots : Nat} {Q : State → Prop} {cc : ByteArray} {pc : Nat} {ls : Array Slot} {rest : List Value} (hexec : p.tables.exec = Jvm.exec) (hb : c.code = cc) {own tx : String} {index q : Nat} (hown : s.vm.findClass own = some m.cls) (hZ : vk_R own index tx q s) (hdg : decode cc pc = .ok (.ldc_w index, 3))
    (k : W p l e R s m args below meth c H locs cells slots Q (F0 m (pc + 3) ls (.ref q :: rest))) : W p l e R s m args below meth c H locs cells slots Q (F0 m pc ls rest) := by
  intro T hT X
  obtain ⟨t, a1, b1⟩ := k T hT X
  refine ⟨t, ?_, b1⟩
  obtain ⟨kc, cf, i, a', hk, hcf, hcp, -, hr, hev'⟩ := Cond.stringRef_spec hown hZ.1
  cases hZ.2.symm.trans hev'
  obtain ⟨k', hk', he⟩ := X.warmed.alike.2.2 _ _ hk
  have hr' : k'.resolved[index]? = some (some (.string q)) := by
    rcases X.warmed.entry hk hk' index with h | ⟨h, -⟩
    · rw [h]; exact hr
    · rw [hr] at h; cases h
  subst hb
  jvm_step X.here [hexec, hdg, ldc_w.wp_string (e := e) (s := T) (f := F0 m pc ls rest) X.here.top hk' (by rw [he]; exact hcf) hcp hr']
  exact a1
theorem vz_recvS {sa : Nat → Nat × Nat} {A : Nat → Prop} {s : State} {H : Heap} {locs : List Loc} {i : Nat} (h : vz_SX sa A s s.heap) (hi : i < 79) (hS : va_S A s.heap H locs) : ∃ cell : Cell, H[(sa i).1]? = some cell ∧ cell.vm.isStatics = false ∧ s.vm.findClass "java/lang/String" = some cell.cls := by
  obtain ⟨cell, h1, h2, h3, -⟩ := (h.1 i hi).1.kept hS.2.1
  exact ⟨cell, h1, h2, h3⟩
theorem str_len : ∀ i, i < 79 → strL.getD i 0 < 1000 := by decide +kernel
theorem str_b : ∀ i, i < 79 → ∀ k, k < strL.getD i 0 → ((((strB.getD i []).getD k 0 &&& 255).toUInt32 % 65536).toInt32 = (strB.getD i []).getD k 0 ∧ narrow .char (.int ((strB.getD i []).getD k 0)) = .int ((strB.getD i []).getD k 0)) := by decide +kernel
set_option maxHeartbeats 4000000 in
set_option maxRecDepth 100000 in
/-- Preconditions.checkIndex, in range -/
theorem k_Pre_checkIndex (l : Launch) (D : va_G) (cI cJ cB : ClassId) (sa : Nat → Nat × Nat) (x n : Int32) (q : Nat) (h1 : ¬ x < 0) (h2 : x < n) : MtI l y_Pre_checkIndex (.code y_Pre_checkIndex b_Pre_checkIndex 3 (some .int) :: CW) ({ frames := 0, cells := 0, slots := 0, locals := 0 }) D [(cI, .int), (cJ, .long), (cB, .byte)] sa [.int x, .int n, .ref q] [] (fun (r : Int32) (w : va_W) => r = x ∧ w = []) := by
  intro sz
  refine vz_start (Qc := fun A => va_Qi (fun (r : Int32) (w : va_W) => r = x ∧ w = []) (vz_B D A) A) (lv0 := [(0, .int x), (1, .int n), (2, .ref q)]) (by decide +kernel) (Nat.le_of_ble_eq_true rfl) rfl ?_
  intro p e s m below meth c A ls C0 hl
  obtain ⟨hx, hb, hr, hml, hown, ht, hlocks, hin, hN, hK, hP, hD, hA, hS, hZ⟩ := C0
  refine lv_iload_n hx hb d_Pre_checkIndex_0 rfl (lv_at hl 0 rfl) ?_
  refine vz_if_lt_f (tgt := 9) hx hb d_Pre_checkIndex_1 (by decide) h1 ?_
  refine lv_iload_n hx hb d_Pre_checkIndex_4 rfl (lv_at hl 0 rfl) ?_
  refine lv_iload_n hx hb d_Pre_checkIndex_5 rfl (lv_at hl 1 rfl) ?_
  refine vz_icmp_lt_t (tgt := 16) hx hb d_Pre_checkIndex_6 (by decide) h2 ?_
  refine lv_iload_n hx hb d_Pre_checkIndex_16 rfl (lv_at hl 0 rfl) ?_
  exact vz_iret hx hb hr rfl hlocks hP hD hS (Nat.le_of_ble_eq_true rfl) (Nat.le_of_ble_eq_true rfl) d_Pre_checkIndex_17 ⟨rfl, rfl⟩
set_option maxHeartbeats 4000000 in
set_option maxRecDepth 100000 in
/-- Preconditions.checkIndex, in range -/
theorem k_Pre_checkIndexN (l : Launch) (D : va_G) (cI cJ cB : ClassId) (sa : Nat → Nat × Nat) (x n : Int32) (h1 : ¬ x < 0) (h2 : x < n) : MtI l y_Pre_checkIndex (.code y_Pre_checkIndex b_Pre_checkIndex 3 (some .int) :: CW) ({ frames := 0, cells := 0, slots := 0, locals := 0 }) D [(cI, .int), (cJ, .long), (cB, .byte)] sa [.int x, .int n, .null] [] (fun (r : Int32) (w : va_W) => r = x ∧ w = []) := by
  intro sz
  refine vz_start (Qc := fun A => va_Qi (fun (r : Int32) (w : va_W) => r = x ∧ w = []) (vz_B D A) A) (lv0 := [(0, .int x), (1, .int n), (2, .null)]) (by decide +kernel) (Nat.le_of_ble_eq_true rfl) rfl ?_
  intro p e s m below meth c A ls C0 hl
  obtain ⟨hx, hb, hr, hml, hown, ht, hlocks, hin, hN, hK, hP, hD, hA, hS, hZ⟩ := C0
  refine lv_iload_n hx hb d_Pre_checkIndex_0 rfl (lv_at hl 0 rfl) ?_
  refine vz_if_lt_f (tgt := 9) hx hb d_Pre_checkIndex_1 (by decide) h1 ?_
  refine lv_iload_n hx hb d_Pre_checkIndex_4 rfl (lv_at hl 0 rfl) ?_
  refine lv_iload_n hx hb d_Pre_checkIndex_5 rfl (lv_at hl 1 rfl) ?_
  refine vz_icmp_lt_t (tgt := 16) hx hb d_Pre_checkIndex_6 (by decide) h2 ?_
  refine lv_iload_n hx hb d_Pre_checkIndex_16 rfl (lv_at hl 0 rfl) ?_
  exact vz_iret hx hb hr rfl hlocks hP hD hS (Nat.le_of_ble_eq_true rfl) (Nat.le_of_ble_eq_true rfl) d_Pre_checkIndex_17 ⟨rfl, rfl⟩
set_option maxHeartbeats 4000000 in
set_option maxRecDepth 100000 in
/-- String.checkIndex, in range -/
theorem k_Str_checkIndex (l : Launch) (D : va_G) (cI cJ cB : ClassId) (sa : Nat → Nat × Nat) (x n : Int32) (h1 : ¬ x < 0) (h2 : x < n) : MtV l y_Str_checkIndex (.code y_Str_checkIndex b_Str_checkIndex 2 none :: CW) ({ frames := 1, cells := 0, slots := 0, locals := 22 }) D [(cI, .int), (cJ, .long), (cB, .byte)] sa [.int x, .int n] [] (fun (w : va_W) => w = []) := by
  intro sz
  refine vz_start (Qc := fun A => va_Qv (fun (w : va_W) => w = []) (vz_B D A) A) (lv0 := [(0, .int x), (1, .int n)]) (by decide +kernel) (Nat.le_of_ble_eq_true rfl) rfl ?_
  intro p e s m below meth c A ls C0 hl
  obtain ⟨hx, hb, hr, hml, hown, ht, hlocks, hin, hN, hK, hP, hD, hA, hS, hZ⟩ := C0
  obtain ⟨v, hv, hq⟩ := hZ.2.2.2
  rcases hv with rfl | ⟨q, rfl⟩
  · refine lv_iload_n hx hb d_Str_checkIndex_0 rfl (lv_at hl 0 rfl) ?_
    refine lv_iload_n hx hb d_Str_checkIndex_1 rfl (lv_at hl 1 rfl) ?_
    refine va_gets hx hb hq hS hown (ht _ m_326) (fun _ h9 => h9) d_Str_checkIndex_2 ?_
    refine vz_callSi (n := 3) (As := [.int x, .int n, .null]) (rest := []) (wc := []) (wr := []) (k1 := 0) (n1 := 0) hx hb hml hown ht hN hZ hK hP hD hS hA (k_Pre_checkIndexN l D cI cJ cB sa x n h1 h2) m_327 m_328 m_329 m_330 (by decide +kernel) ⟨Nat.le_of_ble_eq_true rfl, Nat.le_of_ble_eq_true rfl⟩ [] [] rfl rfl (by decide) (by decide) (by decide) rfl hl.1 rfl (Nat.le_of_ble_eq_true rfl) rfl rfl ⟨Nat.zero_le _, Nat.zero_le _⟩ d_Str_checkIndex_5 (fun r1 w1 H locs hw hP hD hS => ?_)
    obtain ⟨hr1, rfl⟩ := hw
    have hr1 := hr1.symm
    subst hr1
    refine lv_pop hx hb d_Str_checkIndex_8 rfl ?_
    exact vz_vret hx hb hr hlocks hP hD hS (Nat.le_of_ble_eq_true rfl) (Nat.le_of_ble_eq_true rfl) d_Str_checkIndex_9 rfl
  · refine lv_iload_n hx hb d_Str_checkIndex_0 rfl (lv_at hl 0 rfl) ?_
    refine lv_iload_n hx hb d_Str_checkIndex_1 rfl (lv_at hl 1 rfl) ?_
    refine va_gets hx hb hq hS hown (ht _ m_326) (fun _ h9 => h9) d_Str_checkIndex_2 ?_
    refine vz_callSi (n := 3) (As := [.int x, .int n, .ref q]) (rest := []) (wc := []) (wr := []) (k1 := 0) (n1 := 0) hx hb hml hown ht hN hZ hK hP hD hS hA (k_Pre_checkIndex l D cI cJ cB sa x n q h1 h2) m_327 m_328 m_329 m_330 (by decide +kernel) ⟨Nat.le_of_ble_eq_true rfl, Nat.le_of_ble_eq_true rfl⟩ [] [] rfl rfl (by decide) (by decide) (by decide) rfl hl.1 rfl (Nat.le_of_ble_eq_true rfl) rfl rfl ⟨Nat.zero_le _, Nat.zero_le _⟩ d_Str_checkIndex_5 (fun r1 w1 H locs hw hP hD hS => ?_)
    obtain ⟨hr1, rfl⟩ := hw
    have hr1 := hr1.symm
    subst hr1
    refine lv_pop hx hb d_Str_checkIndex_8 rfl ?_
    exact vz_vret hx hb hr hlocks hP hD hS (Nat.le_of_ble_eq_true rfl) (Nat.le_of_ble_eq_true rfl) d_Str_checkIndex_9 rfl
set_option maxHeartbeats 4000000 in
set_option maxRecDepth 100000 in
/-- coder() -/
theorem k_Str_coder (l : Launch) (D : va_G) (cI cJ cB : ClassId) (sa : Nat → Nat × Nat) (i : Nat) (hi : i < 79) : MtI l y_Str_coder (.code y_Str_coder b_Str_coder 1 (some .byte) :: CW) ({ frames := 0, cells := 0, slots := 0, locals := 0 }) D [(cI, .int), (cJ, .long), (cB, .byte)] sa [.ref (sa i).1] [] (fun (r : Int32) (w : va_W) => r = 0 ∧ w = []) := by
  intro sz
  refine vz_start (Qc := fun A => va_Qi (fun (r : Int32) (w : va_W) => r = 0 ∧ w = []) (vz_B D A) A) (lv0 := [(0, .ref (sa i).1)]) (by decide +kernel) (Nat.le_of_ble_eq_true rfl) rfl ?_
  intro p e s m below meth c A ls C0 hl
  obtain ⟨hx, hb, hr, hml, hown, ht, hlocks, hin, hN, hK, hP, hD, hA, hS, hZ⟩ := C0
  refine va_gets hx hb hZ.2.2.1 hS hown (ht _ m_331) (fun _ h9 => h9) d_Str_coder_0 ?_
  refine vz_if_eq_f (tgt := 13) hx hb d_Str_coder_3 (by decide) (by decide) ?_
  refine lv_aload_n hx hb d_Str_coder_6 rfl (lv_at hl 0 rfl) ?_
  refine vk_getf hx hb (hZ.1 i hi).2.1 hS hown (ht _ m_332) (fun _ h9 => h9) d_Str_coder_7 ?_
  refine lv_goto (tgt := 14) hx hb d_Str_coder_10 (by decide) ?_
  exact vz_iret hx hb hr rfl hlocks hP hD hS (Nat.le_of_ble_eq_true rfl) (Nat.le_of_ble_eq_true rfl) d_Str_coder_14 ⟨rfl, rfl⟩
set_option maxHeartbeats 4000000 in
set_option maxRecDepth 100000 in
/-- isLatin1() -/
theorem k_Str_isLatin1 (l : Launch) (D : va_G) (cI cJ cB : ClassId) (sa : Nat → Nat × Nat) (i : Nat) (hi : i < 79) : MtI l y_Str_isLatin1 (.code y_Str_isLatin1 b_Str_isLatin1 1 (some .boolean) :: CW) ({ frames := 0, cells := 0, slots := 0, locals := 0 }) D [(cI, .int), (cJ, .long), (cB, .byte)] sa [.ref (sa i).1] [] (fun (r : Int32) (w : va_W) => r = 1 ∧ w = []) := by
  intro sz
  refine vz_start (Qc := fun A => va_Qi (fun (r : Int32) (w : va_W) => r = 1 ∧ w = []) (vz_B D A) A) (lv0 := [(0, .ref (sa i).1)]) (by decide +kernel) (Nat.le_of_ble_eq_true rfl) rfl ?_
  intro p e s m below meth c A ls C0 hl
  obtain ⟨hx, hb, hr, hml, hown, ht, hlocks, hin, hN, hK, hP, hD, hA, hS, hZ⟩ := C0
  refine va_gets hx hb hZ.2.2.1 hS hown (ht _ m_331) (fun _ h9 => h9) d_Str_isLatin1_0 ?_
  refine vz_if_eq_f (tgt := 17) hx hb d_Str_isLatin1_3 (by decide) (by decide) ?_
  refine lv_aload_n hx hb d_Str_isLatin1_6 rfl (lv_at hl 0 rfl) ?_
  refine vk_getf hx hb (hZ.1 i hi).2.1 hS hown (ht _ m_332) (fun _ h9 => h9) d_Str_isLatin1_7 ?_
  refine vz_if_ne_f (tgt := 17) hx hb d_Str_isLatin1_10 (by decide) rfl ?_
  refine lv_iconst (v := 1) hx hb d_Str_isLatin1_13 (by decide) ?_
  refine lv_goto (tgt := 18) hx hb d_Str_isLatin1_14 (by decide) ?_
  exact vz_iret hx hb hr rfl hlocks hP hD hS (Nat.le_of_ble_eq_true rfl) (Nat.le_of_ble_eq_true rfl) d_Str_isLatin1_18 ⟨rfl, rfl⟩
set_option maxHeartbeats 4000000 in
set_option maxRecDepth 100000 in
/-- length() -/
theorem k_Str_length (l : Launch) (D : va_G) (cI cJ cB : ClassId) (sa : Nat → Nat × Nat) (i : Nat) (hi : i < 79) : MtI l y_Str_length (.code y_Str_length b_Str_length 1 (some .int) :: CW) ({ frames := 1, cells := 0, slots := 0, locals := 20 }) D [(cI, .int), (cJ, .long), (cB, .byte)] sa [.ref (sa i).1] [] (fun (r : Int32) (w : va_W) => r = nI (strL.getD i 0) ∧ w = []) := by
  intro sz
  refine vz_start (Qc := fun A => va_Qi (fun (r : Int32) (w : va_W) => r = nI (strL.getD i 0) ∧ w = []) (vz_B D A) A) (lv0 := [(0, .ref (sa i).1)]) (by decide +kernel) (Nat.le_of_ble_eq_true rfl) rfl ?_
  intro p e s m below meth c A ls C0 hl
  obtain ⟨hx, hb, hr, hml, hown, ht, hlocks, hin, hN, hK, hP, hD, hA, hS, hZ⟩ := C0
  refine lv_aload_n hx hb d_Str_length_0 rfl (lv_at hl 0 rfl) ?_
  refine vk_getf hx hb (hZ.1 i hi).2.2.1 hS hown (ht _ m_333) (fun _ h9 => h9) d_Str_length_1 ?_
  refine va_tlen (v := nI (strL.getD i 0)) hx hb (hZ.1 i hi).2.2.2 hS rfl d_Str_length_4 ?_
  refine lv_aload_n hx hb d_Str_length_5 rfl (lv_at hl 0 rfl) ?_
  refine vz_callXi (n := 0) (As := []) (rest := [.int (nI (strL.getD i 0))]) (wc := []) (wr := []) (k1 := 0) (n1 := 0) hx hb hml hown ht hN hZ hK hP hD hS hA (k_Str_coder l D cI cJ cB sa i hi) m_334 m_335 m_336 m_337 m_338 (vz_recvS hZ hi hS) (by decide +kernel) ⟨Nat.le_of_ble_eq_true rfl, Nat.le_of_ble_eq_true rfl⟩ [] [] rfl rfl (by decide) (by decide) (by decide) rfl hl.1 rfl (Nat.le_of_ble_eq_true rfl) rfl rfl ⟨Nat.zero_le _, Nat.zero_le _⟩ d_Str_length_6 (fun r1 w1 H locs hw hP hD hS => ?_)
  obtain ⟨hr1, rfl⟩ := hw
  subst hr1
  refine lv_ishr hx hb d_Str_length_9 ?_
  refine vz_topi (sc_shr0 (Nat.lt_trans (str_len i hi) (by decide))) ?_
  exact vz_iret hx hb hr rfl hlocks hP hD hS (Nat.le_of_ble_eq_true rfl) (Nat.le_of_ble_eq_true rfl) d_Str_length_10 ⟨rfl, rfl⟩
set_option maxHeartbeats 4000000 in
set_option maxRecDepth 100000 in
/-- StringLatin1.charAt, in range -/
theorem k_Lat_charAt (l : Launch) (D : va_G) (cI cJ cB : ClassId) (sa : Nat → Nat × Nat) (i : Nat) (x : Int32) (hi : i < 79) (h1 : ¬ x < 0) (h2 : x < nI (strL.getD i 0)) : MtI l y_Lat_charAt (.code y_Lat_charAt b_Lat_charAt 2 (some .char) :: CW) ({ frames := 2, cells := 0, slots := 0, locals := 43 }) D [(cI, .int), (cJ, .long), (cB, .byte)] sa [.ref (sa i).2, .int x] [] (fun (r : Int32) (w : va_W) => r = (strB.getD i []).getD x.toNatClampNeg 0 ∧ w = []) := by
  intro sz
  refine vz_start (Qc := fun A => va_Qi (fun (r : Int32) (w : va_W) => r = (strB.getD i []).getD x.toNatClampNeg 0 ∧ w = []) (vz_B D A) A) (lv0 := [(0, .ref (sa i).2), (1, .int x)]) (by decide +kernel) (Nat.le_of_ble_eq_true rfl) rfl ?_
  intro p e s m below meth c A ls C0 hl
  obtain ⟨hx, hb, hr, hml, hown, ht, hlocks, hin, hN, hK, hP, hD, hA, hS, hZ⟩ := C0
  have hk : x.toNatClampNeg < strL.getD i 0 := by
    obtain ⟨j, hj, rfl⟩ := nI_of h1
    rw [nI_clamp hj]
    exact (nI_ltI hj (Nat.lt_trans (str_len i hi) (by decide))).mp h2
  refine lv_iload_n hx hb d_Lat_charAt_0 rfl (lv_at hl 1 rfl) ?_
  refine lv_aload_n hx hb d_Lat_charAt_1 rfl (lv_at hl 0 rfl) ?_
  refine va_tlen (v := nI (strL.getD i 0)) hx hb (hZ.1 i hi).2.2.2 hS rfl d_Lat_charAt_2 ?_
  refine vz_callSv (n := 2) (As := [.int x, .int (nI (strL.getD i 0))]) (rest := []) (wc := []) (wr := []) (k1 := 0) (n1 := 0) hx hb hml hown ht hN hZ hK hP hD hS hA (k_Str_checkIndex l D cI cJ cB sa x (nI (strL.getD i 0)) h1 h2) m_339 m_335 m_340 m_341 (by decide +kernel) ⟨Nat.le_of_ble_eq_true rfl, Nat.le_of_ble_eq_true rfl⟩ [] [] rfl rfl (by decide) (by decide) (by decide) rfl hl.1 rfl (Nat.le_of_ble_eq_true rfl) rfl rfl ⟨Nat.zero_le _, Nat.zero_le _⟩ d_Lat_charAt_3 (fun w1 H locs hw hP hD hS => ?_)
  subst hw
  refine lv_aload_n hx hb d_Lat_charAt_6 rfl (lv_at hl 0 rfl) ?_
  refine lv_iload_n hx hb d_Lat_charAt_7 rfl (lv_at hl 1 rfl) ?_
  refine va_tb hx hb (hZ.1 i hi).2.2.2 hS (show ¬ (x < 0 ∨ strL.getD i 0 ≤ x.toNatClampNeg) from fun q => q.elim h1 (fun z => by omega)) rfl d_Lat_charAt_8 ?_
  refine lv_sipush (v := 255) hx hb d_Lat_charAt_9 (by decide +kernel) ?_
  refine lv_iand hx hb d_Lat_charAt_12 ?_
  refine lv_i2c hx hb d_Lat_charAt_13 rfl ?_
  refine vz_topi (str_b i hi _ hk).1 ?_
  exact vz_iret hx hb hr (str_b i hi _ hk).2 hlocks hP hD hS (Nat.le_of_ble_eq_true rfl) (Nat.le_of_ble_eq_true rfl) d_Lat_charAt_14 ⟨rfl, rfl⟩
set_option maxHeartbeats 4000000 in
set_option maxRecDepth 100000 in
/-- charAt, in range -/
theorem k_Str_charAt (l : Launch) (D : va_G) (cI cJ cB : ClassId) (sa : Nat → Nat × Nat) (i : Nat) (x : Int32) (hi : i < 79) (h1 : ¬ x < 0) (h2 : x < nI (strL.getD i 0)) : MtI l y_Str_charAt (.code y_Str_charAt b_Str_charAt 2 (some .char) :: CW) ({ frames := 3, cells := 0, slots := 0, locals := 64 }) D [(cI, .int), (cJ, .long), (cB, .byte)] sa [.ref (sa i).1, .int x] [] (fun (r : Int32) (w : va_W) => r = (strB.getD i []).getD x.toNatClampNeg 0 ∧ w = []) := by
  intro sz
  refine vz_start (Qc := fun A => va_Qi (fun (r : Int32) (w : va_W) => r = (strB.getD i []).getD x.toNatClampNeg 0 ∧ w = []) (vz_B D A) A) (lv0 := [(0, .ref (sa i).1), (1, .int x)]) (by decide +kernel) (Nat.le_of_ble_eq_true rfl) rfl ?_
  intro p e s m below meth c A ls C0 hl
  obtain ⟨hx, hb, hr, hml, hown, ht, hlocks, hin, hN, hK, hP, hD, hA, hS, hZ⟩ := C0
  have hk : x.toNatClampNeg < strL.getD i 0 := by
    obtain ⟨j, hj, rfl⟩ := nI_of h1
    rw [nI_clamp hj]
    exact (nI_ltI hj (Nat.lt_trans (str_len i hi) (by decide))).mp h2
  refine lv_aload_n hx hb d_Str_charAt_0 rfl (lv_at hl 0 rfl) ?_
  refine vz_callXi (n := 0) (As := []) (rest := []) (wc := []) (wr := []) (k1 := 0) (n1 := 0) hx hb hml hown ht hN hZ hK hP hD hS hA (k_Str_isLatin1 l D cI cJ cB sa i hi) m_342 m_335 m_343 m_344 m_345 (vz_recvS hZ hi hS) (by decide +kernel) ⟨Nat.le_of_ble_eq_true rfl, Nat.le_of_ble_eq_true rfl⟩ [] [] rfl rfl (by decide) (by decide) (by decide) rfl hl.1 rfl (Nat.le_of_ble_eq_true rfl) rfl rfl ⟨Nat.zero_le _, Nat.zero_le _⟩ d_Str_charAt_1 (fun r1 w1 H locs hw hP hD hS => ?_)
  obtain ⟨hr1, rfl⟩ := hw
  subst hr1
  refine vz_if_eq_f (tgt := 16) hx hb d_Str_charAt_4 (by decide) (by decide) ?_
  refine lv_aload_n hx hb d_Str_charAt_7 rfl (lv_at hl 0 rfl) ?_
  refine vk_getf hx hb (hZ.1 i hi).2.2.1 hS hown (ht _ m_333) (fun _ h9 => h9) d_Str_charAt_8 ?_
  refine lv_iload_n hx hb d_Str_charAt_11 rfl (lv_at hl 1 rfl) ?_
  refine vz_callSi (n := 2) (As := [.ref (sa i).2, .int x]) (rest := []) (wc := []) (wr := []) (k1 := 0) (n1 := 0) hx hb hml hown ht hN hZ hK hP hD hS hA (k_Lat_charAt l D cI cJ cB sa i x hi h1 h2) m_346 m_347 m_348 m_349 (by decide +kernel) ⟨Nat.le_of_ble_eq_true rfl, Nat.le_of_ble_eq_true rfl⟩ [] [] rfl rfl (by decide) (by decide) (by decide) rfl hl.1 rfl (Nat.le_of_ble_eq_true rfl) rfl rfl ⟨Nat.zero_le _, Nat.zero_le _⟩ d_Str_charAt_12 (fun r1 w1 H locs hw hP hD hS => ?_)
  obtain ⟨hr1, rfl⟩ := hw
  subst hr1
  exact vz_iret hx hb hr (str_b i hi _ hk).2 hlocks hP hD hS (Nat.le_of_ble_eq_true rfl) (Nat.le_of_ble_eq_true rfl) d_Str_charAt_15 ⟨rfl, rfl⟩
