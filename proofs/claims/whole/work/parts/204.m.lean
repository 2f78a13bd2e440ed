def ws_Di_sumOfSigns (cI cJ cB : ClassId) (q_p0 : Nat) (q_p0_sign : Nat) (q_p0_label : Nat) (q_p0_shape : Nat) (i_p0_count : Int32) (i_p0_circles : Int32) (i_p0_shapeIsKnown : Int32) (f_p0_sign : Nat → Int32) : va_W := [(q_p0, .inr (4, [.ref q_p0_sign, .ref q_p0_label, .ref q_p0_shape, .int i_p0_count, .int i_p0_circles, .int i_p0_shapeIsKnown])), (q_p0_sign, .inl (cI, 20, .inl f_p0_sign))]
def rm_Di_sumOfSigns : Room := { frames := 0, cells := 0, slots := 0, locals := 0 }
def B_Di_sumOfSigns_4 (fl : Nat) (i_p0_count : Int32) (f_p0_sign : Nat → Int32) : Nat → Int32 → Int32 → Option (Int32)
  | 0, _, _ => none
  | nn + 1, x1, x2 => (if i_p0_count ≤ x2 then (some x1) else (if ¬ (x2 < 0 ∨ 20 ≤ Int32.toNatClampNeg x2) then B_Di_sumOfSigns_4 fl i_p0_count f_p0_sign nn (x1 + (f_p0_sign (Int32.toNatClampNeg x2))) (x2 + 1) else none))
def B_Di_sumOfSigns_0 (fl : Nat) (i_p0_count : Int32) (f_p0_sign : Nat → Int32) : Option (Int32) := B_Di_sumOfSigns_4 fl i_p0_count f_p0_sign fl 0 0
def m_Di_sumOfSigns (fl : Nat) (i_p0_count : Int32) (f_p0_sign : Nat → Int32) : Option (Int32) := B_Di_sumOfSigns_0 fl i_p0_count f_p0_sign
set_option maxHeartbeats 4000000 in
set_option maxRecDepth 100000 in
theorem w_Di_sumOfSigns_4 {p : Program} {l : Launch} {e : Env} {s : State} {m : MethodId} {args : Array Value} {below : List Frame} {meth : Method} {c : Code} {D : va_G} {cI cJ cB : ClassId} {sa : Nat → Nat × Nat} {A : Nat → Prop} (fl : Nat) (q_p0 : Nat) (q_p0_sign : Nat) (q_p0_label : Nat) (q_p0_shape : Nat) (i_p0_count : Int32) (f_p0_sign : Nat → Int32) (i_p0_circles : Int32) (i_p0_shapeIsKnown : Int32) (res : Int32) (C0 : vz_Cx p s m meth c b_Di_sumOfSigns 3 (some .int) "LinkEngine$Diagram" "sumOfSigns" D [(cI, .int), (cJ, .long), (cB, .byte)] sa A args) : ∀ (nn : Nat), ∀ (x1 : Int32) (x2 : Int32) (H : Heap) (locs : List Loc) (ls : Array Slot), B_Di_sumOfSigns_4 fl i_p0_count f_p0_sign nn x1 x2 = some res → va_P D classes (ws_Di_sumOfSigns cI cJ cB q_p0 q_p0_sign q_p0_label q_p0_shape i_p0_count i_p0_circles i_p0_shapeIsKnown f_p0_sign) H → va_D A (ws_Di_sumOfSigns cI cJ cB q_p0 q_p0_sign q_p0_label q_p0_shape i_p0_count i_p0_circles i_p0_shapeIsKnown f_p0_sign) → va_S A s.heap H locs → lv_has ls 3 [(0, .ref q_p0), (1, .int x1), (2, .int x2)] → W p l e rm_Di_sumOfSigns s m args below meth c H locs 0 0 (MQ below (va_Qi (fun (r : Int32) (w : va_W) => r = res ∧ w = (ws_Di_sumOfSigns cI cJ cB q_p0 q_p0_sign q_p0_label q_p0_shape i_p0_count i_p0_circles i_p0_shapeIsKnown f_p0_sign)) (vz_B D A) A) args s 0 0 A) (F0 m 4 ls []) := by
  obtain ⟨hx, hb, hr, hml, hown, ht, hlocks, hin, hN, hK, hA, hZ⟩ := id C0
  intro nn
  induction nn with
  | zero =>
    intro x1 x2 H locs ls hm hP hD hS hl
    rw [B_Di_sumOfSigns_4] at hm
    cases hm
  | succ nn ih =>
    intro x1 x2 H locs ls hm hP hD hS hl
    rw [B_Di_sumOfSigns_4] at hm
    refine lv_iload_n hx hb d_Di_sumOfSigns_4 rfl (lv_at hl 2 rfl) ?_
    refine lv_aload_n hx hb d_Di_sumOfSigns_5 rfl (lv_at hl 0 rfl) ?_
    refine va_get (D := D) (ci := 4) (v := .int i_p0_count) (C := R_Di) (T := F_Di) (N := 6) hx hb ht i_Di hown hK hP 0 rfl rfl 3 (Nat.le_of_ble_eq_true rfl) (ht _ m_238) (fun _ h9 => h9) rfl d_Di_sumOfSigns_6 ?_
    refine lv_icmp_ge (tgt := 27) hx hb d_Di_sumOfSigns_9 (by decide) (fun hc => ?_) (fun hc => ?_)
    · rw [if_pos hc] at hm
      refine lv_iload_n hx hb d_Di_sumOfSigns_27 rfl (lv_at hl 1 rfl) ?_
      obtain rfl := Option.some.inj hm
      exact vz_iret hx hb hr rfl hlocks hP hD hS (Nat.le_refl _) (Nat.le_refl _) d_Di_sumOfSigns_28 ⟨rfl, rfl⟩
    · rw [if_neg hc] at hm
      refine lv_iload_n hx hb d_Di_sumOfSigns_12 rfl (lv_at hl 1 rfl) ?_
      refine lv_aload_n hx hb d_Di_sumOfSigns_13 rfl (lv_at hl 0 rfl) ?_
      refine va_get (D := D) (ci := 4) (v := .ref q_p0_sign) (C := R_Di) (T := F_Di) (N := 6) hx hb ht i_Di hown hK hP 0 rfl rfl 0 (Nat.le_of_ble_eq_true rfl) (ht _ m_50) (fun _ h9 => h9) rfl d_Di_sumOfSigns_14 ?_
      refine lv_iload_n hx hb d_Di_sumOfSigns_17 rfl (lv_at hl 2 rfl) ?_
      obtain ⟨hg, hm⟩ := vz_guard hm
      refine va_iald hx hb hK hP 1 0 rfl rfl hg d_Di_sumOfSigns_18 ?_
      refine lv_iadd hx hb d_Di_sumOfSigns_19 ?_
      refine lv_istore_n (lv' := [(1, .int (x1 + (f_p0_sign (Int32.toNatClampNeg x2)))), (0, .ref q_p0), (2, .int x2)]) hx hb d_Di_sumOfSigns_20 rfl hl (by decide) rfl (fun ls hl => ?_)
      refine lv_iinc (v := (x2 + 1)) (lv' := [(2, .int (x2 + 1)), (1, .int (x1 + (f_p0_sign (Int32.toNatClampNeg x2)))), (0, .ref q_p0)]) hx hb d_Di_sumOfSigns_21 hl (k := 2) rfl rfl (by decide) rfl (fun ls hl => ?_)
      refine lv_goto (tgt := 4) hx hb d_Di_sumOfSigns_24 (by decide) ?_
      exact ih (x1 + (f_p0_sign (Int32.toNatClampNeg x2))) (x2 + 1) _ _ _ hm hP hD hS (lv_sub hl [2, 1, 0] rfl)
set_option maxHeartbeats 4000000 in
set_option maxRecDepth 100000 in
theorem w_Di_sumOfSigns_0 {p : Program} {l : Launch} {e : Env} {s : State} {m : MethodId} {args : Array Value} {below : List Frame} {meth : Method} {c : Code} {D : va_G} {cI cJ cB : ClassId} {sa : Nat → Nat × Nat} {A : Nat → Prop} (fl : Nat) (q_p0 : Nat) (q_p0_sign : Nat) (q_p0_label : Nat) (q_p0_shape : Nat) (i_p0_count : Int32) (f_p0_sign : Nat → Int32) (i_p0_circles : Int32) (i_p0_shapeIsKnown : Int32) (res : Int32) (C0 : vz_Cx p s m meth c b_Di_sumOfSigns 3 (some .int) "LinkEngine$Diagram" "sumOfSigns" D [(cI, .int), (cJ, .long), (cB, .byte)] sa A args) : ∀ (H : Heap) (locs : List Loc) (ls : Array Slot), B_Di_sumOfSigns_0 fl i_p0_count f_p0_sign = some res → va_P D classes (ws_Di_sumOfSigns cI cJ cB q_p0 q_p0_sign q_p0_label q_p0_shape i_p0_count i_p0_circles i_p0_shapeIsKnown f_p0_sign) H → va_D A (ws_Di_sumOfSigns cI cJ cB q_p0 q_p0_sign q_p0_label q_p0_shape i_p0_count i_p0_circles i_p0_shapeIsKnown f_p0_sign) → va_S A s.heap H locs → lv_has ls 3 [(0, .ref q_p0)] → W p l e rm_Di_sumOfSigns s m args below meth c H locs 0 0 (MQ below (va_Qi (fun (r : Int32) (w : va_W) => r = res ∧ w = (ws_Di_sumOfSigns cI cJ cB q_p0 q_p0_sign q_p0_label q_p0_shape i_p0_count i_p0_circles i_p0_shapeIsKnown f_p0_sign)) (vz_B D A) A) args s 0 0 A) (F0 m 0 ls []) := by
  obtain ⟨hx, hb, hr, hml, hown, ht, hlocks, hin, hN, hK, hA, hZ⟩ := id C0
  intro H locs ls hm hP hD hS hl
  unfold B_Di_sumOfSigns_0 at hm
  refine lv_iconst (v := 0) hx hb d_Di_sumOfSigns_0 (by decide) ?_
  refine lv_istore_n (lv' := [(1, .int 0), (0, .ref q_p0)]) hx hb d_Di_sumOfSigns_1 rfl hl (by decide) rfl (fun ls hl => ?_)
  refine lv_iconst (v := 0) hx hb d_Di_sumOfSigns_2 (by decide) ?_
  refine lv_istore_n (lv' := [(2, .int 0), (1, .int 0), (0, .ref q_p0)]) hx hb d_Di_sumOfSigns_3 rfl hl (by decide) rfl (fun ls hl => ?_)
  exact w_Di_sumOfSigns_4 fl q_p0 q_p0_sign q_p0_label q_p0_shape i_p0_count f_p0_sign i_p0_circles i_p0_shapeIsKnown res C0 fl 0 0 _ _ _ hm hP hD hS (lv_sub hl [2, 1, 0] rfl)
set_option maxHeartbeats 4000000 in
set_option maxRecDepth 100000 in
theorem k_Di_sumOfSigns (l : Launch) (D : va_G) (cI cJ cB : ClassId) (sa : Nat → Nat × Nat) (fl : Nat) (q_p0 : Nat) (q_p0_sign : Nat) (q_p0_label : Nat) (q_p0_shape : Nat) (i_p0_count : Int32) (f_p0_sign : Nat → Int32) (i_p0_circles : Int32) (i_p0_shapeIsKnown : Int32)  (res : Int32) (hm : m_Di_sumOfSigns fl i_p0_count f_p0_sign = some res) : MtI l y_Di_sumOfSigns (.code y_Di_sumOfSigns b_Di_sumOfSigns 3 (some .int) :: CW) rm_Di_sumOfSigns D [(cI, .int), (cJ, .long), (cB, .byte)] sa [.ref q_p0] (ws_Di_sumOfSigns cI cJ cB q_p0 q_p0_sign q_p0_label q_p0_shape i_p0_count i_p0_circles i_p0_shapeIsKnown f_p0_sign) (fun (r : Int32) (w : va_W) => r = res ∧ w = (ws_Di_sumOfSigns cI cJ cB q_p0 q_p0_sign q_p0_label q_p0_shape i_p0_count i_p0_circles i_p0_shapeIsKnown f_p0_sign)) := by
  intro sz
  refine vz_start (Qc := fun A => va_Qi (fun (r : Int32) (w : va_W) => r = res ∧ w = (ws_Di_sumOfSigns cI cJ cB q_p0 q_p0_sign q_p0_label q_p0_shape i_p0_count i_p0_circles i_p0_shapeIsKnown f_p0_sign)) (vz_B D A) A) (lv0 := [(0, .ref q_p0)]) (by decide +kernel) (Nat.le_of_ble_eq_true rfl) rfl ?_
  intro p e s m below meth c A ls C0 hl
  obtain ⟨hx, hb, hr, hml, hown, ht, hlocks, hin, hN, hK, hP, hD, hA, hS, hZ⟩ := C0
  exact w_Di_sumOfSigns_0 fl q_p0 q_p0_sign q_p0_label q_p0_shape i_p0_count f_p0_sign i_p0_circles i_p0_shapeIsKnown res ⟨hx, hb, hr, hml, hown, ht, hlocks, hin, hN, hK, hA, hZ⟩  s.heap [] ls hm hP hD hS (lv_sub hl [0] rfl)
def ws_Sh_isAlternating (cI cJ cB : ClassId) (q_p0 : Nat) (q_p0_key : Nat) (q_p0_name : Nat) (q_p0_from : Nat) (q_p0_to : Nat) (q_p0_edgeAt : Nat) (q_p0_componentOf : Nat) (q_p0_arcOf : Nat) (q_p0_pieceOf : Nat) (q_p0_faceOf : Nat) (q_p0_faceStart : Nat) (q_p0_faceSize : Nat) (q_p0_scratch : Nat) (i_p0_edges : Int32) (i_p0_components : Int32) (i_p0_pieces : Int32) (i_p0_faces : Int32) (i_p0_brokenRule : Int32) (i_p0_culprit : Int32) (f_p0_from : Nat → Int32) (f_p0_to : Nat → Int32) : va_W := [(q_p0, .inr (5, [.ref q_p0_key, .ref q_p0_name, .ref q_p0_from, .ref q_p0_to, .ref q_p0_edgeAt, .ref q_p0_componentOf, .ref q_p0_arcOf, .ref q_p0_pieceOf, .ref q_p0_faceOf, .ref q_p0_faceStart, .ref q_p0_faceSize, .ref q_p0_scratch, .int i_p0_edges, .int i_p0_components, .int i_p0_pieces, .int i_p0_faces, .int i_p0_brokenRule, .int i_p0_culprit])), (q_p0_from, .inl (cI, 40, .inl f_p0_from)), (q_p0_to, .inl (cI, 40, .inl f_p0_to))]
def rm_Sh_isAlternating : Room := { frames := 1, cells := 0, slots := 0, locals := 20 }
def B_Sh_isAlternating_2 (fl : Nat) (i_p0_edges : Int32) (f_p0_from : Nat → Int32) (f_p0_to : Nat → Int32) : Nat → Int32 → Option (Int32)
  | 0, _ => none
  | nn + 1, x1 => (if i_p0_edges ≤ x1 then (some 1) else (if ¬ (x1 < 0 ∨ 40 ≤ Int32.toNatClampNeg x1) then ((m_Sh_isUpper fl (f_p0_from (Int32.toNatClampNeg x1))).bind fun o0 => (if ¬ (x1 < 0 ∨ 40 ≤ Int32.toNatClampNeg x1) then ((m_Sh_isUpper fl (f_p0_to (Int32.toNatClampNeg x1))).bind fun o1 => (if ¬ o0 = o1 then B_Sh_isAlternating_2 fl i_p0_edges f_p0_from f_p0_to nn (x1 + 1) else (some 0))) else none)) else none))
def B_Sh_isAlternating_0 (fl : Nat) (i_p0_edges : Int32) (f_p0_from : Nat → Int32) (f_p0_to : Nat → Int32) : Option (Int32) := B_Sh_isAlternating_2 fl i_p0_edges f_p0_from f_p0_to fl 0
def m_Sh_isAlternating (fl : Nat) (i_p0_edges : Int32) (f_p0_from : Nat → Int32) (f_p0_to : Nat → Int32) : Option (Int32) := B_Sh_isAlternating_0 fl i_p0_edges f_p0_from f_p0_to
set_option maxHeartbeats 4000000 in
set_option maxRecDepth 100000 in
theorem w_Sh_isAlternating_2 {p : Program} {l : Launch} {e : Env} {s : State} {m : MethodId} {args : Array Value} {below : List Frame} {meth : Method} {c : Code} {D : va_G} {cI cJ cB : ClassId} {sa : Nat → Nat × Nat} {A : Nat → Prop} (fl : Nat) (q_p0 : Nat) (q_p0_key : Nat) (q_p0_name : Nat) (q_p0_from : Nat) (q_p0_to : Nat) (q_p0_edgeAt : Nat) (q_p0_componentOf : Nat) (q_p0_arcOf : Nat) (q_p0_pieceOf : Nat) (q_p0_faceOf : Nat) (q_p0_faceStart : Nat) (q_p0_faceSize : Nat) (q_p0_scratch : Nat) (i_p0_edges : Int32) (f_p0_from : Nat → Int32) (f_p0_to : Nat → Int32) (i_p0_components : Int32) (i_p0_pieces : Int32) (i_p0_faces : Int32) (i_p0_brokenRule : Int32) (i_p0_culprit : Int32) (res : Int32) (C0 : vz_Cx p s m meth c b_Sh_isAlternating 2 (some .boolean) "LinkEngine$Shape" "isAlternating" D [(cI, .int), (cJ, .long), (cB, .byte)] sa A args) : ∀ (nn : Nat), ∀ (x1 : Int32) (H : Heap) (locs : List Loc) (ls : Array Slot), B_Sh_isAlternating_2 fl i_p0_edges f_p0_from f_p0_to nn x1 = some res → va_P D classes (ws_Sh_isAlternating cI cJ cB q_p0 q_p0_key q_p0_name q_p0_from q_p0_to q_p0_edgeAt q_p0_componentOf q_p0_arcOf q_p0_pieceOf q_p0_faceOf q_p0_faceStart q_p0_faceSize q_p0_scratch i_p0_edges i_p0_components i_p0_pieces i_p0_faces i_p0_brokenRule i_p0_culprit f_p0_from f_p0_to) H → va_D A (ws_Sh_isAlternating cI cJ cB q_p0 q_p0_key q_p0_name q_p0_from q_p0_to q_p0_edgeAt q_p0_componentOf q_p0_arcOf q_p0_pieceOf q_p0_faceOf q_p0_faceStart q_p0_faceSize q_p0_scratch i_p0_edges i_p0_components i_p0_pieces i_p0_faces i_p0_brokenRule i_p0_culprit f_p0_from f_p0_to) → va_S A s.heap H locs → lv_has ls 2 [(0, .ref q_p0), (1, .int x1)] → W p l e rm_Sh_isAlternating s m args below meth c H locs 0 0 (MQ below (va_Qi (fun (r : Int32) (w : va_W) => r = res ∧ w = (ws_Sh_isAlternating cI cJ cB q_p0 q_p0_key q_p0_name q_p0_from q_p0_to q_p0_edgeAt q_p0_componentOf q_p0_arcOf q_p0_pieceOf q_p0_faceOf q_p0_faceStart q_p0_faceSize q_p0_scratch i_p0_edges i_p0_components i_p0_pieces i_p0_faces i_p0_brokenRule i_p0_culprit f_p0_from f_p0_to)) (vz_B D A) A) args s 0 0 A) (F0 m 2 ls []) := by
  obtain ⟨hx, hb, hr, hml, hown, ht, hlocks, hin, hN, hK, hA, hZ⟩ := id C0
  intro nn
  induction nn with
  | zero =>
    intro x1 H locs ls hm hP hD hS hl
    rw [B_Sh_isAlternating_2] at hm
    cases hm
  | succ nn ih =>
    intro x1 H locs ls hm hP hD hS hl
    rw [B_Sh_isAlternating_2] at hm
    refine lv_iload_n hx hb d_Sh_isAlternating_2 rfl (lv_at hl 1 rfl) ?_
    refine lv_aload_n hx hb d_Sh_isAlternating_3 rfl (lv_at hl 0 rfl) ?_
    refine va_get (D := D) (ci := 5) (v := .int i_p0_edges) (C := R_Sh) (T := F_Sh) (N := 18) hx hb ht i_Sh hown hK hP 0 rfl rfl 12 (Nat.le_of_ble_eq_true rfl) (ht _ m_219) (fun _ h9 => h9) rfl d_Sh_isAlternating_4 ?_
    refine lv_icmp_ge (tgt := 39) hx hb d_Sh_isAlternating_7 (by decide) (fun hc => ?_) (fun hc => ?_)
    · rw [if_pos hc] at hm
      refine lv_iconst (v := 1) hx hb d_Sh_isAlternating_39 (by decide) ?_
      obtain rfl := Option.some.inj hm
      exact vz_iret hx hb hr rfl hlocks hP hD hS (Nat.le_refl _) (Nat.le_refl _) d_Sh_isAlternating_40 ⟨rfl, rfl⟩
    · rw [if_neg hc] at hm
      refine lv_aload_n hx hb d_Sh_isAlternating_10 rfl (lv_at hl 0 rfl) ?_
      refine va_get (D := D) (ci := 5) (v := .ref q_p0_from) (C := R_Sh) (T := F_Sh) (N := 18) hx hb ht i_Sh hown hK hP 0 rfl rfl 2 (Nat.le_of_ble_eq_true rfl) (ht _ m_34) (fun _ h9 => h9) rfl d_Sh_isAlternating_11 ?_
      refine lv_iload_n hx hb d_Sh_isAlternating_14 rfl (lv_at hl 1 rfl) ?_
      obtain ⟨hg, hm⟩ := vz_guard hm
      refine va_iald hx hb hK hP 1 0 rfl rfl hg d_Sh_isAlternating_15 ?_
      obtain ⟨o0, ho0, hm⟩ := vz_bind hm
      try dsimp only at hm
      refine vz_callSi (n := 1) (As := [.int (f_p0_from (Int32.toNatClampNeg x1))]) (rest := []) (wc := (ws_Sh_isUpper cI cJ cB )) (wr := (ws_Sh_isAlternating cI cJ cB q_p0 q_p0_key q_p0_name q_p0_from q_p0_to q_p0_edgeAt q_p0_componentOf q_p0_arcOf q_p0_pieceOf q_p0_faceOf q_p0_faceStart q_p0_faceSize q_p0_scratch i_p0_edges i_p0_components i_p0_pieces i_p0_faces i_p0_brokenRule i_p0_culprit f_p0_from f_p0_to)) (k1 := 0) (n1 := 0) hx hb hml hown ht hN hZ hK hP hD hS hA (k_Sh_isUpper l D cI cJ cB sa fl   (f_p0_from (Int32.toNatClampNeg x1)) o0 ho0) m_390 m_54 m_388 m_389 (by decide +kernel) ⟨Nat.le_of_ble_eq_true rfl, Nat.le_of_ble_eq_true rfl⟩ [] [0, 1, 2] rfl rfl (by decide) (by decide) (by decide) rfl hl.1 rfl (Nat.le_of_ble_eq_true rfl) rfl rfl ⟨Nat.zero_le _, Nat.zero_le _⟩ d_Sh_isAlternating_16 (fun r1 w1 H locs hw hP hD hS => ?_)
      obtain ⟨hr1, rfl⟩ := hw
      have hr1 := hr1.symm
      subst hr1
      have hP : va_P D classes (ws_Sh_isAlternating cI cJ cB q_p0 q_p0_key q_p0_name q_p0_from q_p0_to q_p0_edgeAt q_p0_componentOf q_p0_arcOf q_p0_pieceOf q_p0_faceOf q_p0_faceStart q_p0_faceSize q_p0_scratch i_p0_edges i_p0_components i_p0_pieces i_p0_faces i_p0_brokenRule i_p0_culprit f_p0_from f_p0_to) H := hP.sub [0, 1, 2] rfl
      have hD : va_D A (ws_Sh_isAlternating cI cJ cB q_p0 q_p0_key q_p0_name q_p0_from q_p0_to q_p0_edgeAt q_p0_componentOf q_p0_arcOf q_p0_pieceOf q_p0_faceOf q_p0_faceStart q_p0_faceSize q_p0_scratch i_p0_edges i_p0_components i_p0_pieces i_p0_faces i_p0_brokenRule i_p0_culprit f_p0_from f_p0_to) := hD.sub [0, 1, 2] (by decide) rfl
      refine lv_aload_n hx hb d_Sh_isAlternating_19 rfl (lv_at hl 0 rfl) ?_
      refine va_get (D := D) (ci := 5) (v := .ref q_p0_to) (C := R_Sh) (T := F_Sh) (N := 18) hx hb ht i_Sh hown hK hP 0 rfl rfl 3 (Nat.le_of_ble_eq_true rfl) (ht _ m_35) (fun _ h9 => h9) rfl d_Sh_isAlternating_20 ?_
      refine lv_iload_n hx hb d_Sh_isAlternating_23 rfl (lv_at hl 1 rfl) ?_
      obtain ⟨hg, hm⟩ := vz_guard hm
      refine va_iald hx hb hK hP 2 0 rfl rfl hg d_Sh_isAlternating_24 ?_
      obtain ⟨o1, ho1, hm⟩ := vz_bind hm
      try dsimp only at hm
      refine vz_callSi (n := 1) (As := [.int (f_p0_to (Int32.toNatClampNeg x1))]) (rest := [.int o0]) (wc := (ws_Sh_isUpper cI cJ cB )) (wr := (ws_Sh_isAlternating cI cJ cB q_p0 q_p0_key q_p0_name q_p0_from q_p0_to q_p0_edgeAt q_p0_componentOf q_p0_arcOf q_p0_pieceOf q_p0_faceOf q_p0_faceStart q_p0_faceSize q_p0_scratch i_p0_edges i_p0_components i_p0_pieces i_p0_faces i_p0_brokenRule i_p0_culprit f_p0_from f_p0_to)) (k1 := 0) (n1 := 0) hx hb hml hown ht hN hZ hK hP hD hS hA (k_Sh_isUpper l D cI cJ cB sa fl   (f_p0_to (Int32.toNatClampNeg x1)) o1 ho1) m_390 m_54 m_388 m_389 (by decide +kernel) ⟨Nat.le_of_ble_eq_true rfl, Nat.le_of_ble_eq_true rfl⟩ [] [0, 1, 2] rfl rfl (by decide) (by decide) (by decide) rfl hl.1 rfl (Nat.le_of_ble_eq_true rfl) rfl rfl ⟨Nat.zero_le _, Nat.zero_le _⟩ d_Sh_isAlternating_25 (fun r1 w1 H locs hw hP hD hS => ?_)
      obtain ⟨hr1, rfl⟩ := hw
      have hr1 := hr1.symm
      subst hr1
      have hP : va_P D classes (ws_Sh_isAlternating cI cJ cB q_p0 q_p0_key q_p0_name q_p0_from q_p0_to q_p0_edgeAt q_p0_componentOf q_p0_arcOf q_p0_pieceOf q_p0_faceOf q_p0_faceStart q_p0_faceSize q_p0_scratch i_p0_edges i_p0_components i_p0_pieces i_p0_faces i_p0_brokenRule i_p0_culprit f_p0_from f_p0_to) H := hP.sub [0, 1, 2] rfl
      have hD : va_D A (ws_Sh_isAlternating cI cJ cB q_p0 q_p0_key q_p0_name q_p0_from q_p0_to q_p0_edgeAt q_p0_componentOf q_p0_arcOf q_p0_pieceOf q_p0_faceOf q_p0_faceStart q_p0_faceSize q_p0_scratch i_p0_edges i_p0_components i_p0_pieces i_p0_faces i_p0_brokenRule i_p0_culprit f_p0_from f_p0_to) := hD.sub [0, 1, 2] (by decide) rfl
      refine lv_icmp_ne (tgt := 33) hx hb d_Sh_isAlternating_28 (by decide) (fun hc => ?_) (fun hc => ?_)
      · rw [if_pos hc] at hm
        refine lv_iinc (v := (x1 + 1)) (lv' := [(1, .int (x1 + 1)), (0, .ref q_p0)]) hx hb d_Sh_isAlternating_33 hl (k := 1) rfl rfl (by decide) rfl (fun ls hl => ?_)
        refine lv_goto (tgt := 2) hx hb d_Sh_isAlternating_36 (by decide) ?_
        exact ih (x1 + 1) _ _ _ hm hP hD hS (lv_sub hl [1, 0] rfl)
      · rw [if_neg (fun q => q hc)] at hm
        refine lv_iconst (v := 0) hx hb d_Sh_isAlternating_31 (by decide) ?_
        obtain rfl := Option.some.inj hm
        exact vz_iret hx hb hr rfl hlocks hP hD hS (Nat.le_refl _) (Nat.le_refl _) d_Sh_isAlternating_32 ⟨rfl, rfl⟩
set_option maxHeartbeats 4000000 in
set_option maxRecDepth 100000 in
theorem w_Sh_isAlternating_0 {p : Program} {l : Launch} {e : Env} {s : State} {m : MethodId} {args : Array Value} {below : List Frame} {meth : Method} {c : Code} {D : va_G} {cI cJ cB : ClassId} {sa : Nat → Nat × Nat} {A : Nat → Prop} (fl : Nat) (q_p0 : Nat) (q_p0_key : Nat) (q_p0_name : Nat) (q_p0_from : Nat) (q_p0_to : Nat) (q_p0_edgeAt : Nat) (q_p0_componentOf : Nat) (q_p0_arcOf : Nat) (q_p0_pieceOf : Nat) (q_p0_faceOf : Nat) (q_p0_faceStart : Nat) (q_p0_faceSize : Nat) (q_p0_scratch : Nat) (i_p0_edges : Int32) (f_p0_from : Nat → Int32) (f_p0_to : Nat → Int32) (i_p0_components : Int32) (i_p0_pieces : Int32) (i_p0_faces : Int32) (i_p0_brokenRule : Int32) (i_p0_culprit : Int32) (res : Int32) (C0 : vz_Cx p s m meth c b_Sh_isAlternating 2 (some .boolean) "LinkEngine$Shape" "isAlternating" D [(cI, .int), (cJ, .long), (cB, .byte)] sa A args) : ∀ (H : Heap) (locs : List Loc) (ls : Array Slot), B_Sh_isAlternating_0 fl i_p0_edges f_p0_from f_p0_to = some res → va_P D classes (ws_Sh_isAlternating cI cJ cB q_p0 q_p0_key q_p0_name q_p0_from q_p0_to q_p0_edgeAt q_p0_componentOf q_p0_arcOf q_p0_pieceOf q_p0_faceOf q_p0_faceStart q_p0_faceSize q_p0_scratch i_p0_edges i_p0_components i_p0_pieces i_p0_faces i_p0_brokenRule i_p0_culprit f_p0_from f_p0_to) H → va_D A (ws_Sh_isAlternating cI cJ cB q_p0 q_p0_key q_p0_name q_p0_from q_p0_to q_p0_edgeAt q_p0_componentOf q_p0_arcOf q_p0_pieceOf q_p0_faceOf q_p0_faceStart q_p0_faceSize q_p0_scratch i_p0_edges i_p0_components i_p0_pieces i_p0_faces i_p0_brokenRule i_p0_culprit f_p0_from f_p0_to) → va_S A s.heap H locs → lv_has ls 2 [(0, .ref q_p0)] → W p l e rm_Sh_isAlternating s m args below meth c H locs 0 0 (MQ below (va_Qi (fun (r : Int32) (w : va_W) => r = res ∧ w = (ws_Sh_isAlternating cI cJ cB q_p0 q_p0_key q_p0_name q_p0_from q_p0_to q_p0_edgeAt q_p0_componentOf q_p0_arcOf q_p0_pieceOf q_p0_faceOf q_p0_faceStart q_p0_faceSize q_p0_scratch i_p0_edges i_p0_components i_p0_pieces i_p0_faces i_p0_brokenRule i_p0_culprit f_p0_from f_p0_to)) (vz_B D A) A) args s 0 0 A) (F0 m 0 ls []) := by
  obtain ⟨hx, hb, hr, hml, hown, ht, hlocks, hin, hN, hK, hA, hZ⟩ := id C0
  intro H locs ls hm hP hD hS hl
  unfold B_Sh_isAlternating_0 at hm
  refine lv_iconst (v := 0) hx hb d_Sh_isAlternating_0 (by decide) ?_
  refine lv_istore_n (lv' := [(1, .int 0), (0, .ref q_p0)]) hx hb d_Sh_isAlternating_1 rfl hl (by decide) rfl (fun ls hl => ?_)
  exact w_Sh_isAlternating_2 fl q_p0 q_p0_key q_p0_name q_p0_from q_p0_to q_p0_edgeAt q_p0_componentOf q_p0_arcOf q_p0_pieceOf q_p0_faceOf q_p0_faceStart q_p0_faceSize q_p0_scratch i_p0_edges f_p0_from f_p0_to i_p0_components i_p0_pieces i_p0_faces i_p0_brokenRule i_p0_culprit res C0 fl 0 _ _ _ hm hP hD hS (lv_sub hl [1, 0] rfl)
set_option maxHeartbeats 4000000 in
set_option maxRecDepth 100000 in
theorem k_Sh_isAlternating (l : Launch) (D : va_G) (cI cJ cB : ClassId) (sa : Nat → Nat × Nat) (fl : Nat) (q_p0 : Nat) (q_p0_key : Nat) (q_p0_name : Nat) (q_p0_from : Nat) (q_p0_to : Nat) (q_p0_edgeAt : Nat) (q_p0_componentOf : Nat) (q_p0_arcOf : Nat) (q_p0_pieceOf : Nat) (q_p0_faceOf : Nat) (q_p0_faceStart : Nat) (q_p0_faceSize : Nat) (q_p0_scratch : Nat) (i_p0_edges : Int32) (f_p0_from : Nat → Int32) (f_p0_to : Nat → Int32) (i_p0_components : Int32) (i_p0_pieces : Int32) (i_p0_faces : Int32) (i_p0_brokenRule : Int32) (i_p0_culprit : Int32)  (res : Int32) (hm : m_Sh_isAlternating fl i_p0_edges f_p0_from f_p0_to = some res) : MtI l y_Sh_isAlternating (.code y_Sh_isAlternating b_Sh_isAlternating 2 (some .boolean) :: CW) rm_Sh_isAlternating D [(cI, .int), (cJ, .long), (cB, .byte)] sa [.ref q_p0] (ws_Sh_isAlternating cI cJ cB q_p0 q_p0_key q_p0_name q_p0_from q_p0_to q_p0_edgeAt q_p0_componentOf q_p0_arcOf q_p0_pieceOf q_p0_faceOf q_p0_faceStart q_p0_faceSize q_p0_scratch i_p0_edges i_p0_components i_p0_pieces i_p0_faces i_p0_brokenRule i_p0_culprit f_p0_from f_p0_to) (fun (r : Int32) (w : va_W) => r = res ∧ w = (ws_Sh_isAlternating cI cJ cB q_p0 q_p0_key q_p0_name q_p0_from q_p0_to q_p0_edgeAt q_p0_componentOf q_p0_arcOf q_p0_pieceOf q_p0_faceOf q_p0_faceStart q_p0_faceSize q_p0_scratch i_p0_edges i_p0_components i_p0_pieces i_p0_faces i_p0_brokenRule i_p0_culprit f_p0_from f_p0_to)) := by
  intro sz
  refine vz_start (Qc := fun A => va_Qi (fun (r : Int32) (w : va_W) => r = res ∧ w = (ws_Sh_isAlternating cI cJ cB q_p0 q_p0_key q_p0_name q_p0_from q_p0_to q_p0_edgeAt q_p0_componentOf q_p0_arcOf q_p0_pieceOf q_p0_faceOf q_p0_faceStart q_p0_faceSize q_p0_scratch i_p0_edges i_p0_components i_p0_pieces i_p0_faces i_p0_brokenRule i_p0_culprit f_p0_from f_p0_to)) (vz_B D A) A) (lv0 := [(0, .ref q_p0)]) (by decide +kernel) (Nat.le_of_ble_eq_true rfl) rfl ?_
  intro p e s m below meth c A ls C0 hl
  obtain ⟨hx, hb, hr, hml, hown, ht, hlocks, hin, hN, hK, hP, hD, hA, hS, hZ⟩ := C0
  exact w_Sh_isAlternating_0 fl q_p0 q_p0_key q_p0_name q_p0_from q_p0_to q_p0_edgeAt q_p0_componentOf q_p0_arcOf q_p0_pieceOf q_p0_faceOf q_p0_faceStart q_p0_faceSize q_p0_scratch i_p0_edges f_p0_from f_p0_to i_p0_components i_p0_pieces i_p0_faces i_p0_brokenRule i_p0_culprit res ⟨hx, hb, hr, hml, hown, ht, hlocks, hin, hN, hK, hA, hZ⟩  s.heap [] ls hm hP hD hS (lv_sub hl [0] rfl)
def ws_Sh_dartNumber (cI cJ cB : ClassId) (q_p0 : Nat) (q_p0_key : Nat) (q_p0_name : Nat) (q_p0_from : Nat) (q_p0_to : Nat) (q_p0_edgeAt : Nat) (q_p0_componentOf : Nat) (q_p0_arcOf : Nat) (q_p0_pieceOf : Nat) (q_p0_faceOf : Nat) (q_p0_faceStart : Nat) (q_p0_faceSize : Nat) (q_p0_scratch : Nat) (i_p0_edges : Int32) (i_p0_components : Int32) (i_p0_pieces : Int32) (i_p0_faces : Int32) (i_p0_brokenRule : Int32) (i_p0_culprit : Int32) (f_p0_name : Nat → Int32) : va_W := [(q_p0, .inr (5, [.ref q_p0_key, .ref q_p0_name, .ref q_p0_from, .ref q_p0_to, .ref q_p0_edgeAt, .ref q_p0_componentOf, .ref q_p0_arcOf, .ref q_p0_pieceOf, .ref q_p0_faceOf, .ref q_p0_faceStart, .ref q_p0_faceSize, .ref q_p0_scratch, .int i_p0_edges, .int i_p0_components, .int i_p0_pieces, .int i_p0_faces, .int i_p0_brokenRule, .int i_p0_culprit])), (q_p0_name, .inl (cI, 40, .inl f_p0_name))]
def rm_Sh_dartNumber : Room := { frames := 0, cells := 0, slots := 0, locals := 0 }
def B_Sh_dartNumber_0 (fl : Nat) (f_p0_name : Nat → Int32) (x1 : Int32) : Option (Int32) := (if ¬ ((x1 >>> ((1 : Int32) &&& 31)) < 0 ∨ 40 ≤ Int32.toNatClampNeg (x1 >>> ((1 : Int32) &&& 31))) then (if ¬ (x1 &&& (1 : Int32)) = (0 : Int32) then (some (-(f_p0_name (Int32.toNatClampNeg (x1 >>> ((1 : Int32) &&& 31)))))) else (some (f_p0_name (Int32.toNatClampNeg (x1 >>> ((1 : Int32) &&& 31)))))) else none)
def m_Sh_dartNumber (fl : Nat) (f_p0_name : Nat → Int32) (x1 : Int32) : Option (Int32) := B_Sh_dartNumber_0 fl f_p0_name x1
set_option maxHeartbeats 4000000 in
set_option maxRecDepth 100000 in
theorem w_Sh_dartNumber_0 {p : Program} {l : Launch} {e : Env} {s : State} {m : MethodId} {args : Array Value} {below : List Frame} {meth : Method} {c : Code} {D : va_G} {cI cJ cB : ClassId} {sa : Nat → Nat × Nat} {A : Nat → Prop} (fl : Nat) (q_p0 : Nat) (q_p0_key : Nat) (q_p0_name : Nat) (q_p0_from : Nat) (q_p0_to : Nat) (q_p0_edgeAt : Nat) (q_p0_componentOf : Nat) (q_p0_arcOf : Nat) (q_p0_pieceOf : Nat) (q_p0_faceOf : Nat) (q_p0_faceStart : Nat) (q_p0_faceSize : Nat) (q_p0_scratch : Nat) (f_p0_name : Nat → Int32) (i_p0_edges : Int32) (i_p0_components : Int32) (i_p0_pieces : Int32) (i_p0_faces : Int32) (i_p0_brokenRule : Int32) (i_p0_culprit : Int32) (res : Int32) (C0 : vz_Cx p s m meth c b_Sh_dartNumber 3 (some .int) "LinkEngine$Shape" "dartNumber" D [(cI, .int), (cJ, .long), (cB, .byte)] sa A args) : ∀ (x1 : Int32) (H : Heap) (locs : List Loc) (ls : Array Slot), B_Sh_dartNumber_0 fl f_p0_name x1 = some res → va_P D classes (ws_Sh_dartNumber cI cJ cB q_p0 q_p0_key q_p0_name q_p0_from q_p0_to q_p0_edgeAt q_p0_componentOf q_p0_arcOf q_p0_pieceOf q_p0_faceOf q_p0_faceStart q_p0_faceSize q_p0_scratch i_p0_edges i_p0_components i_p0_pieces i_p0_faces i_p0_brokenRule i_p0_culprit f_p0_name) H → va_D A (ws_Sh_dartNumber cI cJ cB q_p0 q_p0_key q_p0_name q_p0_from q_p0_to q_p0_edgeAt q_p0_componentOf q_p0_arcOf q_p0_pieceOf q_p0_faceOf q_p0_faceStart q_p0_faceSize q_p0_scratch i_p0_edges i_p0_components i_p0_pieces i_p0_faces i_p0_brokenRule i_p0_culprit f_p0_name) → va_S A s.heap H locs → lv_has ls 3 [(0, .ref q_p0), (1, .int x1)] → W p l e rm_Sh_dartNumber s m args below meth c H locs 0 0 (MQ below (va_Qi (fun (r : Int32) (w : va_W) => r = res ∧ w = (ws_Sh_dartNumber cI cJ cB q_p0 q_p0_key q_p0_name q_p0_from q_p0_to q_p0_edgeAt q_p0_componentOf q_p0_arcOf q_p0_pieceOf q_p0_faceOf q_p0_faceStart q_p0_faceSize q_p0_scratch i_p0_edges i_p0_components i_p0_pieces i_p0_faces i_p0_brokenRule i_p0_culprit f_p0_name)) (vz_B D A) A) args s 0 0 A) (F0 m 0 ls []) := by
  obtain ⟨hx, hb, hr, hml, hown, ht, hlocks, hin, hN, hK, hA, hZ⟩ := id C0
  intro x1 H locs ls hm hP hD hS hl
  unfold B_Sh_dartNumber_0 at hm
  refine lv_aload_n hx hb d_Sh_dartNumber_0 rfl (lv_at hl 0 rfl) ?_
  refine va_get (D := D) (ci := 5) (v := .ref q_p0_name) (C := R_Sh) (T := F_Sh) (N := 18) hx hb ht i_Sh hown hK hP 0 rfl rfl 1 (Nat.le_of_ble_eq_true rfl) (ht _ m_33) (fun _ h9 => h9) rfl d_Sh_dartNumber_1 ?_
  refine lv_iload_n hx hb d_Sh_dartNumber_4 rfl (lv_at hl 1 rfl) ?_
  refine lv_iconst (v := 1) hx hb d_Sh_dartNumber_5 (by decide) ?_
  refine lv_ishr hx hb d_Sh_dartNumber_6 ?_
  obtain ⟨hg, hm⟩ := vz_guard hm
  refine va_iald hx hb hK hP 1 0 rfl rfl hg d_Sh_dartNumber_7 ?_
  refine lv_istore_n (lv' := [(2, .int (f_p0_name (Int32.toNatClampNeg (x1 >>> ((1 : Int32) &&& 31))))), (0, .ref q_p0), (1, .int x1)]) hx hb d_Sh_dartNumber_8 rfl hl (by decide) rfl (fun ls hl => ?_)
  refine lv_iload_n hx hb d_Sh_dartNumber_9 rfl (lv_at hl 2 rfl) ?_
  refine lv_iconst (v := 1) hx hb d_Sh_dartNumber_10 (by decide) ?_
  refine lv_iand hx hb d_Sh_dartNumber_11 ?_
  refine lv_if_ne (tgt := 19) hx hb d_Sh_dartNumber_12 (by decide) (fun hc => ?_) (fun hc => ?_)
  · rw [if_pos hc] at hm
    refine lv_iload_n hx hb d_Sh_dartNumber_19 rfl (lv_at hl 0 rfl) ?_
    refine lv_ineg hx hb d_Sh_dartNumber_20 ?_
    obtain rfl := Option.some.inj hm
    exact vz_iret hx hb hr rfl hlocks hP hD hS (Nat.le_refl _) (Nat.le_refl _) d_Sh_dartNumber_21 ⟨rfl, rfl⟩
  · rw [if_neg (fun q => q hc)] at hm
    refine lv_iload_n hx hb d_Sh_dartNumber_15 rfl (lv_at hl 0 rfl) ?_
    refine lv_goto (tgt := 21) hx hb d_Sh_dartNumber_16 (by decide) ?_
    obtain rfl := Option.some.inj hm
    exact vz_iret hx hb hr rfl hlocks hP hD hS (Nat.le_refl _) (Nat.le_refl _) d_Sh_dartNumber_21 ⟨rfl, rfl⟩
set_option maxHeartbeats 4000000 in
set_option maxRecDepth 100000 in
theorem k_Sh_dartNumber (l : Launch) (D : va_G) (cI cJ cB : ClassId) (sa : Nat → Nat × Nat) (fl : Nat) (q_p0 : Nat) (q_p0_key : Nat) (q_p0_name : Nat) (q_p0_from : Nat) (q_p0_to : Nat) (q_p0_edgeAt : Nat) (q_p0_componentOf : Nat) (q_p0_arcOf : Nat) (q_p0_pieceOf : Nat) (q_p0_faceOf : Nat) (q_p0_faceStart : Nat) (q_p0_faceSize : Nat) (q_p0_scratch : Nat) (f_p0_name : Nat → Int32) (i_p0_edges : Int32) (i_p0_components : Int32) (i_p0_pieces : Int32) (i_p0_faces : Int32) (i_p0_brokenRule : Int32) (i_p0_culprit : Int32) (x1 : Int32) (res : Int32) (hm : m_Sh_dartNumber fl f_p0_name x1 = some res) : MtI l y_Sh_dartNumber (.code y_Sh_dartNumber b_Sh_dartNumber 3 (some .int) :: CW) rm_Sh_dartNumber D [(cI, .int), (cJ, .long), (cB, .byte)] sa [.ref q_p0, .int x1] (ws_Sh_dartNumber cI cJ cB q_p0 q_p0_key q_p0_name q_p0_from q_p0_to q_p0_edgeAt q_p0_componentOf q_p0_arcOf q_p0_pieceOf q_p0_faceOf q_p0_faceStart q_p0_faceSize q_p0_scratch i_p0_edges i_p0_components i_p0_pieces i_p0_faces i_p0_brokenRule i_p0_culprit f_p0_name) (fun (r : Int32) (w : va_W) => r = res ∧ w = (ws_Sh_dartNumber cI cJ cB q_p0 q_p0_key q_p0_name q_p0_from q_p0_to q_p0_edgeAt q_p0_componentOf q_p0_arcOf q_p0_pieceOf q_p0_faceOf q_p0_faceStart q_p0_faceSize q_p0_scratch i_p0_edges i_p0_components i_p0_pieces i_p0_faces i_p0_brokenRule i_p0_culprit f_p0_name)) := by
  intro sz
  refine vz_start (Qc := fun A => va_Qi (fun (r : Int32) (w : va_W) => r = res ∧ w = (ws_Sh_dartNumber cI cJ cB q_p0 q_p0_key q_p0_name q_p0_from q_p0_to q_p0_edgeAt q_p0_componentOf q_p0_arcOf q_p0_pieceOf q_p0_faceOf q_p0_faceStart q_p0_faceSize q_p0_scratch i_p0_edges i_p0_components i_p0_pieces i_p0_faces i_p0_brokenRule i_p0_culprit f_p0_name)) (vz_B D A) A) (lv0 := [(0, .ref q_p0), (1, .int x1)]) (by decide +kernel) (Nat.le_of_ble_eq_true rfl) rfl ?_
  intro p e s m below meth c A ls C0 hl
  obtain ⟨hx, hb, hr, hml, hown, ht, hlocks, hin, hN, hK, hP, hD, hA, hS, hZ⟩ := C0
  exact w_Sh_dartNumber_0 fl q_p0 q_p0_key q_p0_name q_p0_from q_p0_to q_p0_edgeAt q_p0_componentOf q_p0_arcOf q_p0_pieceOf q_p0_faceOf q_p0_faceStart q_p0_faceSize q_p0_scratch f_p0_name i_p0_edges i_p0_components i_p0_pieces i_p0_faces i_p0_brokenRule i_p0_culprit res ⟨hx, hb, hr, hml, hown, ht, hlocks, hin, hN, hK, hA, hZ⟩ x1 s.heap [] ls hm hP hD hS (lv_sub hl [0, 1] rfl)
def ws_Po_clear (cI cJ cB : ClassId) (q_p0 : Nat) (q_p0_term : Nat) (i_p0_raise : Int32) (i_p0_sign : Int32) (f_p0_term : Nat → Int64) : va_W := [(q_p0, .inr (8, [.ref q_p0_term, .int i_p0_raise, .int i_p0_sign])), (q_p0_term, .inl (cJ, 161, .inr (.inl f_p0_term)))]
def rm_Po_clear : Room := { frames := 1, cells := 0, slots := 0, locals := 24 }
def B_Po_clear_0 (fl : Nat) (i_p0_raise : Int32) (i_p0_sign : Int32) (f_p0_term : Nat → Int64) : Option (Int32 × Int32 × (Nat → Int64)) := (some (0, 1, (fillF f_p0_term 161 0)))
def m_Po_clear (fl : Nat) (i_p0_raise : Int32) (i_p0_sign : Int32) (f_p0_term : Nat → Int64) : Option (Int32 × Int32 × (Nat → Int64)) := B_Po_clear_0 fl  i_p0_raise i_p0_sign f_p0_term
set_option maxHeartbeats 4000000 in
set_option maxRecDepth 100000 in
theorem w_Po_clear_0 {p : Program} {l : Launch} {e : Env} {s : State} {m : MethodId} {args : Array Value} {below : List Frame} {meth : Method} {c : Code} {D : va_G} {cI cJ cB : ClassId} {sa : Nat → Nat × Nat} {A : Nat → Prop} (fl : Nat) (q_p0 : Nat) (q_p0_term : Nat)  (res : Int32 × Int32 × (Nat → Int64)) (C0 : vz_Cx p s m meth c b_Po_clear 1 none "LinkEngine$Polynomial" "clear" D [(cI, .int), (cJ, .long), (cB, .byte)] sa A args) : ∀ (i_p0_raise : Int32) (i_p0_sign : Int32) (f_p0_term : Nat → Int64) (H : Heap) (locs : List Loc) (ls : Array Slot), B_Po_clear_0 fl i_p0_raise i_p0_sign f_p0_term = some res → va_P D classes (ws_Po_clear cI cJ cB q_p0 q_p0_term i_p0_raise i_p0_sign f_p0_term) H → va_D A (ws_Po_clear cI cJ cB q_p0 q_p0_term i_p0_raise i_p0_sign f_p0_term) → va_S A s.heap H locs → lv_has ls 1 [(0, .ref q_p0)] → W p l e rm_Po_clear s m args below meth c H locs 0 0 (MQ below (va_Qv (fun (w : va_W) => w = (ws_Po_clear cI cJ cB q_p0 q_p0_term res.1 res.2.1 res.2.2)) (vz_B D A) A) args s 0 0 A) (F0 m 0 ls []) := by
  obtain ⟨hx, hb, hr, hml, hown, ht, hlocks, hin, hN, hK, hA, hZ⟩ := id C0
  intro i_p0_raise i_p0_sign f_p0_term H locs ls hm hP hD hS hl
  unfold B_Po_clear_0 at hm
  refine lv_aload_n hx hb d_Po_clear_0 rfl (lv_at hl 0 rfl) ?_
  refine va_get (D := D) (ci := 8) (v := .ref q_p0_term) (C := R_Po) (T := F_Po) (N := 3) hx hb ht i_Po hown hK hP 0 rfl rfl 0 (Nat.le_of_ble_eq_true rfl) (ht _ m_29) (fun _ h9 => h9) rfl d_Po_clear_1 ?_
  refine lv_lconst (v := 0) hx hb d_Po_clear_4 (by decide) ?_
  refine vz_callSv (n := 2) (As := [.ref q_p0_term, .long 0]) (rest := []) (wc := [(q_p0_term, .inl (cJ, 161, .inr (.inl f_p0_term)))]) (wr := [(q_p0, .inr (8, [.ref q_p0_term, .int i_p0_raise, .int i_p0_sign]))]) (k1 := 0) (n1 := 0) hx hb hml hown ht hN hZ hK hP hD hS hA (k_fillJ l D cI cJ cB sa q_p0_term 0 161 f_p0_term (by decide)) m_399 m_228 m_400 m_401 (by decide +kernel) ⟨Nat.le_of_ble_eq_true rfl, Nat.le_of_ble_eq_true rfl⟩ [1] [0] rfl rfl (by decide) (by decide) (by decide) rfl hl.1 rfl (Nat.le_of_ble_eq_true rfl) rfl rfl ⟨Nat.zero_le _, Nat.zero_le _⟩ d_Po_clear_5 (fun w1 H locs hw hP hD hS => ?_)
  subst hw
  have hP : va_P D classes (ws_Po_clear cI cJ cB q_p0 q_p0_term i_p0_raise i_p0_sign (fillF f_p0_term 161 0)) H := hP.sub [0, 1] rfl
  have hD : va_D A (ws_Po_clear cI cJ cB q_p0 q_p0_term i_p0_raise i_p0_sign (fillF f_p0_term 161 0)) := hD.sub [0, 1] (by decide) rfl
  refine lv_aload_n hx hb d_Po_clear_8 rfl (lv_at hl 0 rfl) ?_
  refine lv_iconst (v := 0) hx hb d_Po_clear_9 (by decide) ?_
  refine va_put (D := D) (ci := 8) (v := .int 0) (ty := .int) (C := R_Po) (T := F_Po) (N := 3) hx hb ht i_Po t_Po t_Po_ok n_Po hown hK hP hD hS 0 rfl rfl 1 (Nat.le_of_ble_eq_true rfl) (ht _ m_402) (fun _ h9 => h9) rfl (by decide +kernel) rfl rfl (Nat.le_of_ble_eq_true rfl) d_Po_clear_10 (fun H locs hP hD hS => ?_)
  have hP : va_P D classes (ws_Po_clear cI cJ cB q_p0 q_p0_term 0 i_p0_sign (fillF f_p0_term 161 0)) H := hP
  have hD : va_D A (ws_Po_clear cI cJ cB q_p0 q_p0_term 0 i_p0_sign (fillF f_p0_term 161 0)) := hD
  refine lv_aload_n hx hb d_Po_clear_13 rfl (lv_at hl 0 rfl) ?_
  refine lv_iconst (v := 1) hx hb d_Po_clear_14 (by decide) ?_
  refine va_put (D := D) (ci := 8) (v := .int 1) (ty := .int) (C := R_Po) (T := F_Po) (N := 3) hx hb ht i_Po t_Po t_Po_ok n_Po hown hK hP hD hS 0 rfl rfl 2 (Nat.le_of_ble_eq_true rfl) (ht _ m_30) (fun _ h9 => h9) rfl (by decide +kernel) rfl rfl (Nat.le_of_ble_eq_true rfl) d_Po_clear_15 (fun H locs hP hD hS => ?_)
  have hP : va_P D classes (ws_Po_clear cI cJ cB q_p0 q_p0_term 0 1 (fillF f_p0_term 161 0)) H := hP
  have hD : va_D A (ws_Po_clear cI cJ cB q_p0 q_p0_term 0 1 (fillF f_p0_term 161 0)) := hD
  obtain rfl := Option.some.inj hm
  exact vz_vret hx hb hr hlocks hP hD hS (Nat.le_refl _) (Nat.le_refl _) d_Po_clear_18 rfl
set_option maxHeartbeats 4000000 in
set_option maxRecDepth 100000 in
theorem k_Po_clear (l : Launch) (D : va_G) (cI cJ cB : ClassId) (sa : Nat → Nat × Nat) (fl : Nat) (q_p0 : Nat) (q_p0_term : Nat) (i_p0_raise : Int32) (i_p0_sign : Int32) (f_p0_term : Nat → Int64)  (res : Int32 × Int32 × (Nat → Int64)) (hm : m_Po_clear fl i_p0_raise i_p0_sign f_p0_term = some res) : MtV l y_Po_clear (.code y_Po_clear b_Po_clear 1 none :: CW) rm_Po_clear D [(cI, .int), (cJ, .long), (cB, .byte)] sa [.ref q_p0] (ws_Po_clear cI cJ cB q_p0 q_p0_term i_p0_raise i_p0_sign f_p0_term) (fun (w : va_W) => w = (ws_Po_clear cI cJ cB q_p0 q_p0_term res.1 res.2.1 res.2.2)) := by
  intro sz
  refine vz_start (Qc := fun A => va_Qv (fun (w : va_W) => w = (ws_Po_clear cI cJ cB q_p0 q_p0_term res.1 res.2.1 res.2.2)) (vz_B D A) A) (lv0 := [(0, .ref q_p0)]) (by decide +kernel) (Nat.le_of_ble_eq_true rfl) rfl ?_
  intro p e s m below meth c A ls C0 hl
  obtain ⟨hx, hb, hr, hml, hown, ht, hlocks, hin, hN, hK, hP, hD, hA, hS, hZ⟩ := C0
  exact w_Po_clear_0 fl q_p0 q_p0_term  res ⟨hx, hb, hr, hml, hown, ht, hlocks, hin, hN, hK, hA, hZ⟩ i_p0_raise i_p0_sign f_p0_term s.heap [] ls hm hP hD hS (lv_sub hl [0] rfl)
def ws_Mi_reach (cI cJ cB : ClassId) (q_p0 : Nat) (q_p0_sum : Nat) (q_p0_reached : Nat) (i_p0_order : Int32) (f_p0_reached : Nat → Int32) (f_p0_sum : Nat → Int32) : va_W := [(q_p0, .inr (10, [.ref q_p0_sum, .ref q_p0_reached, .int i_p0_order])), (q_p0_reached, .inl (cI, 512, .inl f_p0_reached)), (q_p0_sum, .inl (cI, 5120, .inl f_p0_sum))]
def rm_Mi_reach : Room := { frames := 0, cells := 0, slots := 0, locals := 0 }
def B_Mi_reach_18 (fl : Nat) : Nat → Int32 → Int32 → (Nat → Int32) → (Nat → Int32) → Option ((Nat → Int32) × (Nat → Int32))
  | 0, _, _, _, _ => none
  | nn + 1, x1, x2, f_p0_reached, f_p0_sum => (if (10 : Int32) ≤ x2 then (some (f_p0_reached, f_p0_sum)) else (if ¬ (((x1 * (10 : Int32)) + x2) < 0 ∨ 5120 ≤ Int32.toNatClampNeg ((x1 * (10 : Int32)) + x2)) then B_Mi_reach_18 fl nn x1 (x2 + 1) f_p0_reached (upd f_p0_sum (Int32.toNatClampNeg ((x1 * (10 : Int32)) + x2)) 0) else none))
def B_Mi_reach_0 (fl : Nat) (x1 : Int32) (f_p0_reached : Nat → Int32) (f_p0_sum : Nat → Int32) : Option ((Nat → Int32) × (Nat → Int32)) := (if ¬ (x1 < 0 ∨ 512 ≤ Int32.toNatClampNeg x1) then (if ¬ (f_p0_reached (Int32.toNatClampNeg x1)) = (0 : Int32) then (some (f_p0_reached, f_p0_sum)) else (if ¬ (x1 < 0 ∨ 512 ≤ Int32.toNatClampNeg x1) then B_Mi_reach_18 fl fl x1 0 (upd f_p0_reached (Int32.toNatClampNeg x1) 1) f_p0_sum else none)) else none)
def m_Mi_reach (fl : Nat) (x1 : Int32) (f_p0_reached : Nat → Int32) (f_p0_sum : Nat → Int32) : Option ((Nat → Int32) × (Nat → Int32)) := B_Mi_reach_0 fl  x1 f_p0_reached f_p0_sum
set_option maxHeartbeats 4000000 in
set_option maxRecDepth 100000 in
theorem w_Mi_reach_18 {p : Program} {l : Launch} {e : Env} {s : State} {m : MethodId} {args : Array Value} {below : List Frame} {meth : Method} {c : Code} {D : va_G} {cI cJ cB : ClassId} {sa : Nat → Nat × Nat} {A : Nat → Prop} (fl : Nat) (q_p0 : Nat) (q_p0_sum : Nat) (q_p0_reached : Nat) (i_p0_order : Int32) (res : (Nat → Int32) × (Nat → Int32)) (C0 : vz_Cx p s m meth c b_Mi_reach 3 none "LinkEngine$Minor" "reach" D [(cI, .int), (cJ, .long), (cB, .byte)] sa A args) : ∀ (nn : Nat), ∀ (x1 : Int32) (x2 : Int32) (f_p0_reached : Nat → Int32) (f_p0_sum : Nat → Int32) (H : Heap) (locs : List Loc) (ls : Array Slot), B_Mi_reach_18 fl nn x1 x2 f_p0_reached f_p0_sum = some res → va_P D classes (ws_Mi_reach cI cJ cB q_p0 q_p0_sum q_p0_reached i_p0_order f_p0_reached f_p0_sum) H → va_D A (ws_Mi_reach cI cJ cB q_p0 q_p0_sum q_p0_reached i_p0_order f_p0_reached f_p0_sum) → va_S A s.heap H locs → lv_has ls 3 [(0, .ref q_p0), (1, .int x1), (2, .int x2)] → W p l e rm_Mi_reach s m args below meth c H locs 0 0 (MQ below (va_Qv (fun (w : va_W) => w = (ws_Mi_reach cI cJ cB q_p0 q_p0_sum q_p0_reached i_p0_order res.1 res.2)) (vz_B D A) A) args s 0 0 A) (F0 m 18 ls []) := by
  obtain ⟨hx, hb, hr, hml, hown, ht, hlocks, hin, hN, hK, hA, hZ⟩ := id C0
  intro nn
  induction nn with
  | zero =>
    intro x1 x2 f_p0_reached f_p0_sum H locs ls hm hP hD hS hl
    rw [B_Mi_reach_18] at hm
    cases hm
  | succ nn ih =>
    intro x1 x2 f_p0_reached f_p0_sum H locs ls hm hP hD hS hl
    rw [B_Mi_reach_18] at hm
    refine lv_iload_n hx hb d_Mi_reach_18 rfl (lv_at hl 2 rfl) ?_
    refine lv_bipush (v := 10) hx hb d_Mi_reach_19 (by decide +kernel) ?_
    refine lv_icmp_ge (tgt := 42) hx hb d_Mi_reach_21 (by decide) (fun hc => ?_) (fun hc => ?_)
    · rw [if_pos hc] at hm
      obtain rfl := Option.some.inj hm
      exact vz_vret hx hb hr hlocks hP hD hS (Nat.le_refl _) (Nat.le_refl _) d_Mi_reach_42 rfl
    · rw [if_neg hc] at hm
      refine lv_aload_n hx hb d_Mi_reach_24 rfl (lv_at hl 0 rfl) ?_
      refine va_get (D := D) (ci := 10) (v := .ref q_p0_sum) (C := R_Mi) (T := F_Mi) (N := 3) hx hb ht i_Mi hown hK hP 0 rfl rfl 0 (Nat.le_of_ble_eq_true rfl) (ht _ m_26) (fun _ h9 => h9) rfl d_Mi_reach_25 ?_
      refine lv_iload_n hx hb d_Mi_reach_28 rfl (lv_at hl 1 rfl) ?_
      refine lv_bipush (v := 10) hx hb d_Mi_reach_29 (by decide +kernel) ?_
      refine lv_imul hx hb d_Mi_reach_31 ?_
      refine lv_iload_n hx hb d_Mi_reach_32 rfl (lv_at hl 2 rfl) ?_
      refine lv_iadd hx hb d_Mi_reach_33 ?_
      refine lv_iconst (v := 0) hx hb d_Mi_reach_34 (by decide) ?_
      obtain ⟨hg, hm⟩ := vz_guard hm
      refine va_iast hx hb hK hP hD hS 2 0 rfl rfl hg d_Mi_reach_35 (fun H locs hP hD hS => ?_)
      have hP : va_P D classes (ws_Mi_reach cI cJ cB q_p0 q_p0_sum q_p0_reached i_p0_order f_p0_reached (upd f_p0_sum (Int32.toNatClampNeg ((x1 * (10 : Int32)) + x2)) 0)) H := hP
      have hD : va_D A (ws_Mi_reach cI cJ cB q_p0 q_p0_sum q_p0_reached i_p0_order f_p0_reached (upd f_p0_sum (Int32.toNatClampNeg ((x1 * (10 : Int32)) + x2)) 0)) := hD
      refine lv_iinc (v := (x2 + 1)) (lv' := [(2, .int (x2 + 1)), (0, .ref q_p0), (1, .int x1)]) hx hb d_Mi_reach_36 hl (k := 2) rfl rfl (by decide) rfl (fun ls hl => ?_)
      refine lv_goto (tgt := 18) hx hb d_Mi_reach_39 (by decide) ?_
      exact ih x1 (x2 + 1) f_p0_reached (upd f_p0_sum (Int32.toNatClampNeg ((x1 * (10 : Int32)) + x2)) 0) _ _ _ hm hP hD hS (lv_sub hl [1, 2, 0] rfl)
set_option maxHeartbeats 4000000 in
set_option maxRecDepth 100000 in
theorem w_Mi_reach_0 {p : Program} {l : Launch} {e : Env} {s : State} {m : MethodId} {args : Array Value} {below : List Frame} {meth : Method} {c : Code} {D : va_G} {cI cJ cB : ClassId} {sa : Nat → Nat × Nat} {A : Nat → Prop} (fl : Nat) (q_p0 : Nat) (q_p0_sum : Nat) (q_p0_reached : Nat) (i_p0_order : Int32) (res : (Nat → Int32) × (Nat → Int32)) (C0 : vz_Cx p s m meth c b_Mi_reach 3 none "LinkEngine$Minor" "reach" D [(cI, .int), (cJ, .long), (cB, .byte)] sa A args) : ∀ (x1 : Int32) (f_p0_reached : Nat → Int32) (f_p0_sum : Nat → Int32) (H : Heap) (locs : List Loc) (ls : Array Slot), B_Mi_reach_0 fl x1 f_p0_reached f_p0_sum = some res → va_P D classes (ws_Mi_reach cI cJ cB q_p0 q_p0_sum q_p0_reached i_p0_order f_p0_reached f_p0_sum) H → va_D A (ws_Mi_reach cI cJ cB q_p0 q_p0_sum q_p0_reached i_p0_order f_p0_reached f_p0_sum) → va_S A s.heap H locs → lv_has ls 3 [(0, .ref q_p0), (1, .int x1)] → W p l e rm_Mi_reach s m args below meth c H locs 0 0 (MQ below (va_Qv (fun (w : va_W) => w = (ws_Mi_reach cI cJ cB q_p0 q_p0_sum q_p0_reached i_p0_order res.1 res.2)) (vz_B D A) A) args s 0 0 A) (F0 m 0 ls []) := by
  obtain ⟨hx, hb, hr, hml, hown, ht, hlocks, hin, hN, hK, hA, hZ⟩ := id C0
  intro x1 f_p0_reached f_p0_sum H locs ls hm hP hD hS hl
  unfold B_Mi_reach_0 at hm
  refine lv_aload_n hx hb d_Mi_reach_0 rfl (lv_at hl 0 rfl) ?_
  refine va_get (D := D) (ci := 10) (v := .ref q_p0_reached) (C := R_Mi) (T := F_Mi) (N := 3) hx hb ht i_Mi hown hK hP 0 rfl rfl 1 (Nat.le_of_ble_eq_true rfl) (ht _ m_27) (fun _ h9 => h9) rfl d_Mi_reach_1 ?_
  refine lv_iload_n hx hb d_Mi_reach_4 rfl (lv_at hl 1 rfl) ?_
  obtain ⟨hg, hm⟩ := vz_guard hm
  refine va_iald hx hb hK hP 1 0 rfl rfl hg d_Mi_reach_5 ?_
  refine lv_if_ne (tgt := 42) hx hb d_Mi_reach_6 (by decide) (fun hc => ?_) (fun hc => ?_)
  · rw [if_pos hc] at hm
    obtain rfl := Option.some.inj hm
    exact vz_vret hx hb hr hlocks hP hD hS (Nat.le_refl _) (Nat.le_refl _) d_Mi_reach_42 rfl
  · rw [if_neg (fun q => q hc)] at hm
    refine lv_aload_n hx hb d_Mi_reach_9 rfl (lv_at hl 0 rfl) ?_
    refine va_get (D := D) (ci := 10) (v := .ref q_p0_reached) (C := R_Mi) (T := F_Mi) (N := 3) hx hb ht i_Mi hown hK hP 0 rfl rfl 1 (Nat.le_of_ble_eq_true rfl) (ht _ m_27) (fun _ h9 => h9) rfl d_Mi_reach_10 ?_
    refine lv_iload_n hx hb d_Mi_reach_13 rfl (lv_at hl 1 rfl) ?_
    refine lv_iconst (v := 1) hx hb d_Mi_reach_14 (by decide) ?_
    obtain ⟨hg, hm⟩ := vz_guard hm
    refine va_iast hx hb hK hP hD hS 1 0 rfl rfl hg d_Mi_reach_15 (fun H locs hP hD hS => ?_)
    have hP : va_P D classes (ws_Mi_reach cI cJ cB q_p0 q_p0_sum q_p0_reached i_p0_order (upd f_p0_reached (Int32.toNatClampNeg x1) 1) f_p0_sum) H := hP
    have hD : va_D A (ws_Mi_reach cI cJ cB q_p0 q_p0_sum q_p0_reached i_p0_order (upd f_p0_reached (Int32.toNatClampNeg x1) 1) f_p0_sum) := hD
    refine lv_iconst (v := 0) hx hb d_Mi_reach_16 (by decide) ?_
    refine lv_istore_n (lv' := [(2, .int 0), (0, .ref q_p0), (1, .int x1)]) hx hb d_Mi_reach_17 rfl hl (by decide) rfl (fun ls hl => ?_)
    exact w_Mi_reach_18 fl q_p0 q_p0_sum q_p0_reached i_p0_order res C0 fl x1 0 (upd f_p0_reached (Int32.toNatClampNeg x1) 1) f_p0_sum _ _ _ hm hP hD hS (lv_sub hl [1, 2, 0] rfl)
set_option maxHeartbeats 4000000 in
set_option maxRecDepth 100000 in
theorem k_Mi_reach (l : Launch) (D : va_G) (cI cJ cB : ClassId) (sa : Nat → Nat × Nat) (fl : Nat) (q_p0 : Nat) (q_p0_sum : Nat) (q_p0_reached : Nat) (i_p0_order : Int32) (f_p0_reached : Nat → Int32) (f_p0_sum : Nat → Int32) (x1 : Int32) (res : (Nat → Int32) × (Nat → Int32)) (hm : m_Mi_reach fl x1 f_p0_reached f_p0_sum = some res) : MtV l y_Mi_reach (.code y_Mi_reach b_Mi_reach 3 none :: CW) rm_Mi_reach D [(cI, .int), (cJ, .long), (cB, .byte)] sa [.ref q_p0, .int x1] (ws_Mi_reach cI cJ cB q_p0 q_p0_sum q_p0_reached i_p0_order f_p0_reached f_p0_sum) (fun (w : va_W) => w = (ws_Mi_reach cI cJ cB q_p0 q_p0_sum q_p0_reached i_p0_order res.1 res.2)) := by
  intro sz
  refine vz_start (Qc := fun A => va_Qv (fun (w : va_W) => w = (ws_Mi_reach cI cJ cB q_p0 q_p0_sum q_p0_reached i_p0_order res.1 res.2)) (vz_B D A) A) (lv0 := [(0, .ref q_p0), (1, .int x1)]) (by decide +kernel) (Nat.le_of_ble_eq_true rfl) rfl ?_
  intro p e s m below meth c A ls C0 hl
  obtain ⟨hx, hb, hr, hml, hown, ht, hlocks, hin, hN, hK, hP, hD, hA, hS, hZ⟩ := C0
  exact w_Mi_reach_0 fl q_p0 q_p0_sum q_p0_reached i_p0_order res ⟨hx, hb, hr, hml, hown, ht, hlocks, hin, hN, hK, hA, hZ⟩ x1 f_p0_reached f_p0_sum s.heap [] ls hm hP hD hS (lv_sub hl [0, 1] rfl)
def ws_Po_add (cI cJ cB : ClassId) (q_p0 : Nat) (q_p0_term : Nat) (i_p0_raise : Int32) (i_p0_sign : Int32) (f_p0_term : Nat → Int64) : va_W := [(q_p0, .inr (8, [.ref q_p0_term, .int i_p0_raise, .int i_p0_sign])), (q_p0_term, .inl (cJ, 161, .inr (.inl f_p0_term)))]
def rm_Po_add : Room := { frames := 1, cells := 0, slots := 0, locals := 21 }
def B_Po_add_0 (fl : Nat) (x1 : Int32) (x2 : Int64) (f_p0_term : Nat → Int64) : Option ((Nat → Int64)) := (if (80 : Int32) < (if 0 ≤ x1 then x1 else 0 - x1) then (some f_p0_term) else (if ¬ ((x1 + (80 : Int32)) < 0 ∨ 161 ≤ Int32.toNatClampNeg (x1 + (80 : Int32))) then (if ¬ ((x1 + (80 : Int32)) < 0 ∨ 161 ≤ Int32.toNatClampNeg (x1 + (80 : Int32))) then (some (vp_updL f_p0_term (Int32.toNatClampNeg (x1 + (80 : Int32))) ((f_p0_term (Int32.toNatClampNeg (x1 + (80 : Int32)))) + x2))) else none) else none))
def m_Po_add (fl : Nat) (x1 : Int32) (x2 : Int64) (f_p0_term : Nat → Int64) : Option ((Nat → Int64)) := B_Po_add_0 fl  x1 x2 f_p0_term
set_option maxHeartbeats 4000000 in
set_option maxRecDepth 100000 in
theorem w_Po_add_0 {p : Program} {l : Launch} {e : Env} {s : State} {m : MethodId} {args : Array Value} {below : List Frame} {meth : Method} {c : Code} {D : va_G} {cI cJ cB : ClassId} {sa : Nat → Nat × Nat} {A : Nat → Prop} (fl : Nat) (q_p0 : Nat) (q_p0_term : Nat) (i_p0_raise : Int32) (i_p0_sign : Int32) (res : (Nat → Int64)) (C0 : vz_Cx p s m meth c b_Po_add 4 none "LinkEngine$Polynomial" "add" D [(cI, .int), (cJ, .long), (cB, .byte)] sa A args) : ∀ (x1 : Int32) (x2 : Int64) (f_p0_term : Nat → Int64) (H : Heap) (locs : List Loc) (ls : Array Slot), B_Po_add_0 fl x1 x2 f_p0_term = some res → va_P D classes (ws_Po_add cI cJ cB q_p0 q_p0_term i_p0_raise i_p0_sign f_p0_term) H → va_D A (ws_Po_add cI cJ cB q_p0 q_p0_term i_p0_raise i_p0_sign f_p0_term) → va_S A s.heap H locs → lv_has ls 4 [(0, .ref q_p0), (1, .int x1), (2, .long x2)] → W p l e rm_Po_add s m args below meth c H locs 0 0 (MQ below (va_Qv (fun (w : va_W) => w = (ws_Po_add cI cJ cB q_p0 q_p0_term i_p0_raise i_p0_sign res)) (vz_B D A) A) args s 0 0 A) (F0 m 0 ls []) := by
  obtain ⟨hx, hb, hr, hml, hown, ht, hlocks, hin, hN, hK, hA, hZ⟩ := id C0
  intro x1 x2 f_p0_term H locs ls hm hP hD hS hl
  unfold B_Po_add_0 at hm
  refine lv_iload_n hx hb d_Po_add_0 rfl (lv_at hl 1 rfl) ?_
  refine va_mabs hx hb (hml.trans hl.1.symm) hown (ht _ m_403) (ht _ m_404) (ht _ m_373) (ht _ m_405) (Nat.le_of_ble_eq_true rfl) (Nat.le_of_ble_eq_true rfl) (Nat.zero_le _) (Nat.zero_le _) d_Po_add_1 ?_
  refine lv_bipush (v := 80) hx hb d_Po_add_4 (by decide +kernel) ?_
  refine lv_icmp_gt (tgt := 22) hx hb d_Po_add_6 (by decide) (fun hc => ?_) (fun hc => ?_)
  · rw [if_pos hc] at hm
    obtain rfl := Option.some.inj hm
    exact vz_vret hx hb hr hlocks hP hD hS (Nat.le_refl _) (Nat.le_refl _) d_Po_add_22 rfl
  · rw [if_neg hc] at hm
    refine lv_aload_n hx hb d_Po_add_9 rfl (lv_at hl 0 rfl) ?_
    refine va_get (D := D) (ci := 8) (v := .ref q_p0_term) (C := R_Po) (T := F_Po) (N := 3) hx hb ht i_Po hown hK hP 0 rfl rfl 0 (Nat.le_of_ble_eq_true rfl) (ht _ m_29) (fun _ h9 => h9) rfl d_Po_add_10 ?_
    refine lv_iload_n hx hb d_Po_add_13 rfl (lv_at hl 1 rfl) ?_
    refine lv_bipush (v := 80) hx hb d_Po_add_14 (by decide +kernel) ?_
    refine lv_iadd hx hb d_Po_add_16 ?_
    refine lv_dup2_11 hx hb d_Po_add_17 rfl rfl ?_
    obtain ⟨hg, hm⟩ := vz_guard hm
    refine va_lald hx hb hK hP 1 1 rfl rfl hg d_Po_add_18 ?_
    refine lv_lload_n hx hb d_Po_add_19 rfl (lv_at hl 2 rfl) ?_
    refine lv_ladd hx hb d_Po_add_20 ?_
    obtain ⟨hg, hm⟩ := vz_guard hm
    refine va_last hx hb hK hP hD hS 1 1 rfl rfl hg d_Po_add_21 (fun H locs hP hD hS => ?_)
    have hP : va_P D classes (ws_Po_add cI cJ cB q_p0 q_p0_term i_p0_raise i_p0_sign (vp_updL f_p0_term (Int32.toNatClampNeg (x1 + (80 : Int32))) ((f_p0_term (Int32.toNatClampNeg (x1 + (80 : Int32)))) + x2))) H := hP
    have hD : va_D A (ws_Po_add cI cJ cB q_p0 q_p0_term i_p0_raise i_p0_sign (vp_updL f_p0_term (Int32.toNatClampNeg (x1 + (80 : Int32))) ((f_p0_term (Int32.toNatClampNeg (x1 + (80 : Int32)))) + x2))) := hD
    obtain rfl := Option.some.inj hm
    exact vz_vret hx hb hr hlocks hP hD hS (Nat.le_refl _) (Nat.le_refl _) d_Po_add_22 rfl
set_option maxHeartbeats 4000000 in
set_option maxRecDepth 100000 in
theorem k_Po_add (l : Launch) (D : va_G) (cI cJ cB : ClassId) (sa : Nat → Nat × Nat) (fl : Nat) (q_p0 : Nat) (q_p0_term : Nat) (i_p0_raise : Int32) (i_p0_sign : Int32) (f_p0_term : Nat → Int64) (x1 : Int32) (x2 : Int64) (res : (Nat → Int64)) (hm : m_Po_add fl x1 x2 f_p0_term = some res) : MtV l y_Po_add (.code y_Po_add b_Po_add 4 none :: CW) rm_Po_add D [(cI, .int), (cJ, .long), (cB, .byte)] sa [.ref q_p0, .int x1, .long x2] (ws_Po_add cI cJ cB q_p0 q_p0_term i_p0_raise i_p0_sign f_p0_term) (fun (w : va_W) => w = (ws_Po_add cI cJ cB q_p0 q_p0_term i_p0_raise i_p0_sign res)) := by
  intro sz
  refine vz_start (Qc := fun A => va_Qv (fun (w : va_W) => w = (ws_Po_add cI cJ cB q_p0 q_p0_term i_p0_raise i_p0_sign res)) (vz_B D A) A) (lv0 := [(0, .ref q_p0), (1, .int x1), (2, .long x2)]) (by decide +kernel) (Nat.le_of_ble_eq_true rfl) rfl ?_
  intro p e s m below meth c A ls C0 hl
  obtain ⟨hx, hb, hr, hml, hown, ht, hlocks, hin, hN, hK, hP, hD, hA, hS, hZ⟩ := C0
  exact w_Po_add_0 fl q_p0 q_p0_term i_p0_raise i_p0_sign res ⟨hx, hb, hr, hml, hown, ht, hlocks, hin, hN, hK, hA, hZ⟩ x1 x2 f_p0_term s.heap [] ls hm hP hD hS (lv_sub hl [0, 1, 2] rfl)
def ws_Po_makeNormal (cI cJ cB : ClassId) (q_p0 : Nat) (q_p0_term : Nat) (i_p0_raise : Int32) (i_p0_sign : Int32) (f_p0_term : Nat → Int64) : va_W := [(q_p0, .inr (8, [.ref q_p0_term, .int i_p0_raise, .int i_p0_sign])), (q_p0_term, .inl (cJ, 161, .inr (.inl f_p0_term)))]
def rm_Po_makeNormal : Room := { frames := 0, cells := 0, slots := 0, locals := 0 }
def B_Po_makeNormal_47 (fl : Nat) (f_p0_term : Nat → Int64) (s0 : Int32) (x1 : Int32) (i_p0_raise : Int32) (i_p0_sign : Int32) : Option (Int32 × Int32) := (some (i_p0_raise, s0))
def B_Po_makeNormal_2 (fl : Nat) (f_p0_term : Nat → Int64) : Nat → Int32 → Int32 → Int32 → Option (Int32 × Int32)
  | 0, _, _, _ => none
  | nn + 1, x1, i_p0_raise, i_p0_sign => (if (161 : Int32) ≤ x1 then (some (i_p0_raise, i_p0_sign)) else (if ¬ (x1 < 0 ∨ 161 ≤ Int32.toNatClampNeg x1) then (if (lg_cmp (f_p0_term (Int32.toNatClampNeg x1)) 0) = (0 : Int32) then B_Po_makeNormal_2 fl f_p0_term nn (x1 + 1) i_p0_raise i_p0_sign else (if ¬ (x1 < 0 ∨ 161 ≤ Int32.toNatClampNeg x1) then (if (lg_cmp (f_p0_term (Int32.toNatClampNeg x1)) 0) ≤ (0 : Int32) then B_Po_makeNormal_47 fl f_p0_term (-1) x1 ((80 : Int32) - x1) i_p0_sign else B_Po_makeNormal_47 fl f_p0_term 1 x1 ((80 : Int32) - x1) i_p0_sign) else none)) else none))
def B_Po_makeNormal_0 (fl : Nat) (f_p0_term : Nat → Int64) (i_p0_raise : Int32) (i_p0_sign : Int32) : Option (Int32 × Int32) := B_Po_makeNormal_2 fl f_p0_term fl 0 i_p0_raise i_p0_sign
def m_Po_makeNormal (fl : Nat) (f_p0_term : Nat → Int64) (i_p0_raise : Int32) (i_p0_sign : Int32) : Option (Int32 × Int32) := B_Po_makeNormal_0 fl f_p0_term i_p0_raise i_p0_sign
set_option maxHeartbeats 4000000 in
set_option maxRecDepth 100000 in
theorem w_Po_makeNormal_47 {p : Program} {l : Launch} {e : Env} {s : State} {m : MethodId} {args : Array Value} {below : List Frame} {meth : Method} {c : Code} {D : va_G} {cI cJ cB : ClassId} {sa : Nat → Nat × Nat} {A : Nat → Prop} (fl : Nat) (q_p0 : Nat) (q_p0_term : Nat) (f_p0_term : Nat → Int64) (res : Int32 × Int32) (C0 : vz_Cx p s m meth c b_Po_makeNormal 2 none "LinkEngine$Polynomial" "makeNormal" D [(cI, .int), (cJ, .long), (cB, .byte)] sa A args) : ∀ (s0 : Int32) (x1 : Int32) (i_p0_raise : Int32) (i_p0_sign : Int32) (H : Heap) (locs : List Loc) (ls : Array Slot), B_Po_makeNormal_47 fl f_p0_term s0 x1 i_p0_raise i_p0_sign = some res → va_P D classes (ws_Po_makeNormal cI cJ cB q_p0 q_p0_term i_p0_raise i_p0_sign f_p0_term) H → va_D A (ws_Po_makeNormal cI cJ cB q_p0 q_p0_term i_p0_raise i_p0_sign f_p0_term) → va_S A s.heap H locs → lv_has ls 2 [(0, .ref q_p0), (1, .int x1)] → W p l e rm_Po_makeNormal s m args below meth c H locs 0 0 (MQ below (va_Qv (fun (w : va_W) => w = (ws_Po_makeNormal cI cJ cB q_p0 q_p0_term res.1 res.2 f_p0_term)) (vz_B D A) A) args s 0 0 A) (F0 m 47 ls [.int s0, .ref q_p0]) := by
  obtain ⟨hx, hb, hr, hml, hown, ht, hlocks, hin, hN, hK, hA, hZ⟩ := id C0
  intro s0 x1 i_p0_raise i_p0_sign H locs ls hm hP hD hS hl
  unfold B_Po_makeNormal_47 at hm
  refine va_put (D := D) (ci := 8) (v := .int s0) (ty := .int) (C := R_Po) (T := F_Po) (N := 3) hx hb ht i_Po t_Po t_Po_ok n_Po hown hK hP hD hS 0 rfl rfl 2 (Nat.le_of_ble_eq_true rfl) (ht _ m_30) (fun _ h9 => h9) rfl (by decide +kernel) rfl rfl (Nat.le_of_ble_eq_true rfl) d_Po_makeNormal_47 (fun H locs hP hD hS => ?_)
  have hP : va_P D classes (ws_Po_makeNormal cI cJ cB q_p0 q_p0_term i_p0_raise s0 f_p0_term) H := hP
  have hD : va_D A (ws_Po_makeNormal cI cJ cB q_p0 q_p0_term i_p0_raise s0 f_p0_term) := hD
  obtain rfl := Option.some.inj hm
  exact vz_vret hx hb hr hlocks hP hD hS (Nat.le_refl _) (Nat.le_refl _) d_Po_makeNormal_50 rfl
set_option maxHeartbeats 4000000 in
set_option maxRecDepth 100000 in
theorem w_Po_makeNormal_2 {p : Program} {l : Launch} {e : Env} {s : State} {m : MethodId} {args : Array Value} {below : List Frame} {meth : Method} {c : Code} {D : va_G} {cI cJ cB : ClassId} {sa : Nat → Nat × Nat} {A : Nat → Prop} (fl : Nat) (q_p0 : Nat) (q_p0_term : Nat) (f_p0_term : Nat → Int64) (res : Int32 × Int32) (C0 : vz_Cx p s m meth c b_Po_makeNormal 2 none "LinkEngine$Polynomial" "makeNormal" D [(cI, .int), (cJ, .long), (cB, .byte)] sa A args) : ∀ (nn : Nat), ∀ (x1 : Int32) (i_p0_raise : Int32) (i_p0_sign : Int32) (H : Heap) (locs : List Loc) (ls : Array Slot), B_Po_makeNormal_2 fl f_p0_term nn x1 i_p0_raise i_p0_sign = some res → va_P D classes (ws_Po_makeNormal cI cJ cB q_p0 q_p0_term i_p0_raise i_p0_sign f_p0_term) H → va_D A (ws_Po_makeNormal cI cJ cB q_p0 q_p0_term i_p0_raise i_p0_sign f_p0_term) → va_S A s.heap H locs → lv_has ls 2 [(0, .ref q_p0), (1, .int x1)] → W p l e rm_Po_makeNormal s m args below meth c H locs 0 0 (MQ below (va_Qv (fun (w : va_W) => w = (ws_Po_makeNormal cI cJ cB q_p0 q_p0_term res.1 res.2 f_p0_term)) (vz_B D A) A) args s 0 0 A) (F0 m 2 ls []) := by
  obtain ⟨hx, hb, hr, hml, hown, ht, hlocks, hin, hN, hK, hA, hZ⟩ := id C0
  intro nn
  induction nn with
  | zero =>
    intro x1 i_p0_raise i_p0_sign H locs ls hm hP hD hS hl
    rw [B_Po_makeNormal_2] at hm
    cases hm
  | succ nn ih =>
    intro x1 i_p0_raise i_p0_sign H locs ls hm hP hD hS hl
    rw [B_Po_makeNormal_2] at hm
    refine lv_iload_n hx hb d_Po_makeNormal_2 rfl (lv_at hl 1 rfl) ?_
    refine lv_aload_n hx hb d_Po_makeNormal_3 rfl (lv_at hl 0 rfl) ?_
    refine va_get (D := D) (ci := 8) (v := .ref q_p0_term) (C := R_Po) (T := F_Po) (N := 3) hx hb ht i_Po hown hK hP 0 rfl rfl 0 (Nat.le_of_ble_eq_true rfl) (ht _ m_29) (fun _ h9 => h9) rfl d_Po_makeNormal_4 ?_
    refine va_alen (v := 161) hx hb hK hP 1 1 rfl rfl rfl d_Po_makeNormal_7 ?_
    refine lv_icmp_ge (tgt := 57) hx hb d_Po_makeNormal_8 (by decide) (fun hc => ?_) (fun hc => ?_)
    · rw [if_pos hc] at hm
      obtain rfl := Option.some.inj hm
      exact vz_vret hx hb hr hlocks hP hD hS (Nat.le_refl _) (Nat.le_refl _) d_Po_makeNormal_57 rfl
    · rw [if_neg hc] at hm
      refine lv_aload_n hx hb d_Po_makeNormal_11 rfl (lv_at hl 0 rfl) ?_
      refine va_get (D := D) (ci := 8) (v := .ref q_p0_term) (C := R_Po) (T := F_Po) (N := 3) hx hb ht i_Po hown hK hP 0 rfl rfl 0 (Nat.le_of_ble_eq_true rfl) (ht _ m_29) (fun _ h9 => h9) rfl d_Po_makeNormal_12 ?_
      refine lv_iload_n hx hb d_Po_makeNormal_15 rfl (lv_at hl 1 rfl) ?_
      obtain ⟨hg, hm⟩ := vz_guard hm
      refine va_lald hx hb hK hP 1 1 rfl rfl hg d_Po_makeNormal_16 ?_
      refine lv_lconst (v := 0) hx hb d_Po_makeNormal_17 (by decide) ?_
      refine W.lcmp hx hb d_Po_makeNormal_18 ?_
      refine lv_if_eq (tgt := 51) hx hb d_Po_makeNormal_19 (by decide) (fun hc => ?_) (fun hc => ?_)
      · rw [if_pos hc] at hm
        refine lv_iinc (v := (x1 + 1)) (lv' := [(1, .int (x1 + 1)), (0, .ref q_p0)]) hx hb d_Po_makeNormal_51 hl (k := 1) rfl rfl (by decide) rfl (fun ls hl => ?_)
        refine lv_goto (tgt := 2) hx hb d_Po_makeNormal_54 (by decide) ?_
        exact ih (x1 + 1) i_p0_raise i_p0_sign _ _ _ hm hP hD hS (lv_sub hl [1, 0] rfl)
      · rw [if_neg hc] at hm
        refine lv_aload_n hx hb d_Po_makeNormal_22 rfl (lv_at hl 0 rfl) ?_
        refine lv_bipush (v := 80) hx hb d_Po_makeNormal_23 (by decide +kernel) ?_
        refine lv_iload_n hx hb d_Po_makeNormal_25 rfl (lv_at hl 1 rfl) ?_
        refine lv_isub hx hb d_Po_makeNormal_26 ?_
        refine va_put (D := D) (ci := 8) (v := .int ((80 : Int32) - x1)) (ty := .int) (C := R_Po) (T := F_Po) (N := 3) hx hb ht i_Po t_Po t_Po_ok n_Po hown hK hP hD hS 0 rfl rfl 1 (Nat.le_of_ble_eq_true rfl) (ht _ m_402) (fun _ h9 => h9) rfl (by decide +kernel) rfl rfl (Nat.le_of_ble_eq_true rfl) d_Po_makeNormal_27 (fun H locs hP hD hS => ?_)
        have hP : va_P D classes (ws_Po_makeNormal cI cJ cB q_p0 q_p0_term ((80 : Int32) - x1) i_p0_sign f_p0_term) H := hP
        have hD : va_D A (ws_Po_makeNormal cI cJ cB q_p0 q_p0_term ((80 : Int32) - x1) i_p0_sign f_p0_term) := hD
        refine lv_aload_n hx hb d_Po_makeNormal_30 rfl (lv_at hl 0 rfl) ?_
        refine lv_aload_n hx hb d_Po_makeNormal_31 rfl (lv_at hl 0 rfl) ?_
        refine va_get (D := D) (ci := 8) (v := .ref q_p0_term) (C := R_Po) (T := F_Po) (N := 3) hx hb ht i_Po hown hK hP 0 rfl rfl 0 (Nat.le_of_ble_eq_true rfl) (ht _ m_29) (fun _ h9 => h9) rfl d_Po_makeNormal_32 ?_
        refine lv_iload_n hx hb d_Po_makeNormal_35 rfl (lv_at hl 1 rfl) ?_
        obtain ⟨hg, hm⟩ := vz_guard hm
        refine va_lald hx hb hK hP 1 1 rfl rfl hg d_Po_makeNormal_36 ?_
        refine lv_lconst (v := 0) hx hb d_Po_makeNormal_37 (by decide) ?_
        refine W.lcmp hx hb d_Po_makeNormal_38 ?_
        refine lv_if_le (tgt := 46) hx hb d_Po_makeNormal_39 (by decide) (fun hc => ?_) (fun hc => ?_)
        · rw [if_pos hc] at hm
          refine lv_iconst (v := (-1)) hx hb d_Po_makeNormal_46 (by decide) ?_
          exact w_Po_makeNormal_47 fl q_p0 q_p0_term f_p0_term res C0 (-1) x1 ((80 : Int32) - x1) i_p0_sign _ _ _ hm hP hD hS (lv_sub hl [0, 1] rfl)
        · rw [if_neg hc] at hm
          refine lv_iconst (v := 1) hx hb d_Po_makeNormal_42 (by decide) ?_
          refine lv_goto (tgt := 47) hx hb d_Po_makeNormal_43 (by decide) ?_
          exact w_Po_makeNormal_47 fl q_p0 q_p0_term f_p0_term res C0 1 x1 ((80 : Int32) - x1) i_p0_sign _ _ _ hm hP hD hS (lv_sub hl [0, 1] rfl)
set_option maxHeartbeats 4000000 in
set_option maxRecDepth 100000 in
theorem w_Po_makeNormal_0 {p : Program} {l : Launch} {e : Env} {s : State} {m : MethodId} {args : Array Value} {below : List Frame} {meth : Method} {c : Code} {D : va_G} {cI cJ cB : ClassId} {sa : Nat → Nat × Nat} {A : Nat → Prop} (fl : Nat) (q_p0 : Nat) (q_p0_term : Nat) (f_p0_term : Nat → Int64) (res : Int32 × Int32) (C0 : vz_Cx p s m meth c b_Po_makeNormal 2 none "LinkEngine$Polynomial" "makeNormal" D [(cI, .int), (cJ, .long), (cB, .byte)] sa A args) : ∀ (i_p0_raise : Int32) (i_p0_sign : Int32) (H : Heap) (locs : List Loc) (ls : Array Slot), B_Po_makeNormal_0 fl f_p0_term i_p0_raise i_p0_sign = some res → va_P D classes (ws_Po_makeNormal cI cJ cB q_p0 q_p0_term i_p0_raise i_p0_sign f_p0_term) H → va_D A (ws_Po_makeNormal cI cJ cB q_p0 q_p0_term i_p0_raise i_p0_sign f_p0_term) → va_S A s.heap H locs → lv_has ls 2 [(0, .ref q_p0)] → W p l e rm_Po_makeNormal s m args below meth c H locs 0 0 (MQ below (va_Qv (fun (w : va_W) => w = (ws_Po_makeNormal cI cJ cB q_p0 q_p0_term res.1 res.2 f_p0_term)) (vz_B D A) A) args s 0 0 A) (F0 m 0 ls []) := by
  obtain ⟨hx, hb, hr, hml, hown, ht, hlocks, hin, hN, hK, hA, hZ⟩ := id C0
  intro i_p0_raise i_p0_sign H locs ls hm hP hD hS hl
  unfold B_Po_makeNormal_0 at hm
  refine lv_iconst (v := 0) hx hb d_Po_makeNormal_0 (by decide) ?_
  refine lv_istore_n (lv' := [(1, .int 0), (0, .ref q_p0)]) hx hb d_Po_makeNormal_1 rfl hl (by decide) rfl (fun ls hl => ?_)
  exact w_Po_makeNormal_2 fl q_p0 q_p0_term f_p0_term res C0 fl 0 i_p0_raise i_p0_sign _ _ _ hm hP hD hS (lv_sub hl [1, 0] rfl)
set_option maxHeartbeats 4000000 in
set_option maxRecDepth 100000 in
theorem k_Po_makeNormal (l : Launch) (D : va_G) (cI cJ cB : ClassId) (sa : Nat → Nat × Nat) (fl : Nat) (q_p0 : Nat) (q_p0_term : Nat) (f_p0_term : Nat → Int64) (i_p0_raise : Int32) (i_p0_sign : Int32)  (res : Int32 × Int32) (hm : m_Po_makeNormal fl f_p0_term i_p0_raise i_p0_sign = some res) : MtV l y_Po_makeNormal (.code y_Po_makeNormal b_Po_makeNormal 2 none :: CW) rm_Po_makeNormal D [(cI, .int), (cJ, .long), (cB, .byte)] sa [.ref q_p0] (ws_Po_makeNormal cI cJ cB q_p0 q_p0_term i_p0_raise i_p0_sign f_p0_term) (fun (w : va_W) => w = (ws_Po_makeNormal cI cJ cB q_p0 q_p0_term res.1 res.2 f_p0_term)) := by
  intro sz
  refine vz_start (Qc := fun A => va_Qv (fun (w : va_W) => w = (ws_Po_makeNormal cI cJ cB q_p0 q_p0_term res.1 res.2 f_p0_term)) (vz_B D A) A) (lv0 := [(0, .ref q_p0)]) (by decide +kernel) (Nat.le_of_ble_eq_true rfl) rfl ?_
  intro p e s m below meth c A ls C0 hl
  obtain ⟨hx, hb, hr, hml, hown, ht, hlocks, hin, hN, hK, hP, hD, hA, hS, hZ⟩ := C0
  exact w_Po_makeNormal_0 fl q_p0 q_p0_term f_p0_term res ⟨hx, hb, hr, hml, hown, ht, hlocks, hin, hN, hK, hA, hZ⟩ i_p0_raise i_p0_sign s.heap [] ls hm hP hD hS (lv_sub hl [0] rfl)
def ws_Ss_split (cI cJ cB : ClassId) (q_p0 : Nat) (q_p0_mate : Nat) (q_p0_states : Nat) (i_p0_crossings : Int32) (f_p0_mate : Nat → Int32) (f_p0_states : Nat → Int32) : va_W := [(q_p0, .inr (9, [.ref q_p0_mate, .ref q_p0_states, .int i_p0_crossings])), (q_p0_mate, .inl (cI, 40, .inl f_p0_mate)), (q_p0_states, .inl (cI, 630, .inl f_p0_states))]
def rm_Ss_split (dd : Nat) : Room := { frames := 2 * dd, cells := 0, slots := 0, locals := 100 * dd }
def ws_Ss_splitAs (cI cJ cB : ClassId) (q_p0 : Nat) (q_p0_mate : Nat) (q_p0_states : Nat) (i_p0_crossings : Int32) (f_p0_mate : Nat → Int32) (f_p0_states : Nat → Int32) : va_W := [(q_p0, .inr (9, [.ref q_p0_mate, .ref q_p0_states, .int i_p0_crossings])), (q_p0_mate, .inl (cI, 40, .inl f_p0_mate)), (q_p0_states, .inl (cI, 630, .inl f_p0_states))]
def rm_Ss_splitAs (dd : Nat) : Room := { frames := 2 * dd + 1, cells := 0, slots := 0, locals := 100 * dd + 40 }
def B_Ss_splitAs_126 (fl : Nat) (ks : Int32 → Int32 → Int32 → Int32 → (Nat → Int32) → (Nat → Int32) → Option ((Nat → Int32) × (Nat → Int32))) (i_p0_crossings : Int32) (s0 : Int32) (s1 : Int32) (x1 : Int32) (x2 : Int32) (x3 : Int32) (x4 : Int32) (x5 : Int32) (x6 : Int32) (x7 : Int32) (x8 : Int32) (x9 : Int32) (x10 : Int32) (x11 : Int32) (x12 : Int32) (f_p0_mate : Nat → Int32) (f_p0_states : Nat → Int32) : Option ((Nat → Int32) × (Nat → Int32)) := ((ks i_p0_crossings (x1 + (1 : Int32)) x3 (x4 + (s1 + s0)) f_p0_mate f_p0_states).bind fun o0 => (if ¬ (x11 < 0 ∨ 40 ≤ Int32.toNatClampNeg x11) then (if ¬ (x12 < 0 ∨ 40 ≤ Int32.toNatClampNeg x12) then (if ¬ (x9 < 0 ∨ 40 ≤ Int32.toNatClampNeg x9) then (if ¬ (x10 < 0 ∨ 40 ≤ Int32.toNatClampNeg x10) then (some ((upd (upd (upd (upd o0.1 (Int32.toNatClampNeg x11) x7) (Int32.toNatClampNeg x12) x8) (Int32.toNatClampNeg x9) x5) (Int32.toNatClampNeg x10) x6), o0.2)) else none) else none) else none) else none))
def B_Ss_splitAs_114 (fl : Nat) (ks : Int32 → Int32 → Int32 → Int32 → (Nat → Int32) → (Nat → Int32) → Option ((Nat → Int32) × (Nat → Int32))) (i_p0_crossings : Int32) (s0 : Int32) (x1 : Int32) (x2 : Int32) (x3 : Int32) (x4 : Int32) (x5 : Int32) (x6 : Int32) (x7 : Int32) (x8 : Int32) (x9 : Int32) (x10 : Int32) (x11 : Int32) (x12 : Int32) (f_p0_mate : Nat → Int32) (f_p0_states : Nat → Int32) : Option ((Nat → Int32) × (Nat → Int32)) := (if ¬ x11 = x8 then B_Ss_splitAs_126 fl ks i_p0_crossings 0 s0 x1 x2 x3 x4 x5 x6 x7 x8 x9 x10 x11 x12 f_p0_mate f_p0_states else B_Ss_splitAs_126 fl ks i_p0_crossings 1 s0 x1 x2 x3 x4 x5 x6 x7 x8 x9 x10 x11 x12 f_p0_mate f_p0_states)
def B_Ss_splitAs_0 (fl : Nat) (ks : Int32 → Int32 → Int32 → Int32 → (Nat → Int32) → (Nat → Int32) → Option ((Nat → Int32) × (Nat → Int32))) (i_p0_crossings : Int32) (x1 : Int32) (x2 : Int32) (x3 : Int32) (x4 : Int32) (f_p0_mate : Nat → Int32) (f_p0_states : Nat → Int32) : Option ((Nat → Int32) × (Nat → Int32)) := (if ¬ ((((4 : Int32) * x1) + x2) < 0 ∨ 40 ≤ Int32.toNatClampNeg (((4 : Int32) * x1) + x2)) then (if ¬ (((((4 : Int32) * x1) + x2) + (1 : Int32)) < 0 ∨ 40 ≤ Int32.toNatClampNeg ((((4 : Int32) * x1) + x2) + (1 : Int32))) then (if ¬ ((f_p0_mate (Int32.toNatClampNeg (((4 : Int32) * x1) + x2))) < 0 ∨ 40 ≤ Int32.toNatClampNeg (f_p0_mate (Int32.toNatClampNeg (((4 : Int32) * x1) + x2)))) then (if ¬ ((f_p0_mate (Int32.toNatClampNeg ((((4 : Int32) * x1) + x2) + (1 : Int32)))) < 0 ∨ 40 ≤ Int32.toNatClampNeg (f_p0_mate (Int32.toNatClampNeg ((((4 : Int32) * x1) + x2) + (1 : Int32))))) then (if ¬ (((((4 : Int32) * x1) + x2) + (2 : Int32)) < 0 ∨ 40 ≤ Int32.toNatClampNeg ((((4 : Int32) * x1) + x2) + (2 : Int32))) then (if ¬ ((((4 : Int32) * x1) + ((x2 + (3 : Int32)) &&& (3 : Int32))) < 0 ∨ 40 ≤ Int32.toNatClampNeg (((4 : Int32) * x1) + ((x2 + (3 : Int32)) &&& (3 : Int32)))) then (if ¬ (((upd (upd f_p0_mate (Int32.toNatClampNeg (f_p0_mate (Int32.toNatClampNeg (((4 : Int32) * x1) + x2)))) (f_p0_mate (Int32.toNatClampNeg ((((4 : Int32) * x1) + x2) + (1 : Int32))))) (Int32.toNatClampNeg (f_p0_mate (Int32.toNatClampNeg ((((4 : Int32) * x1) + x2) + (1 : Int32))))) (f_p0_mate (Int32.toNatClampNeg (((4 : Int32) * x1) + x2)))) (Int32.toNatClampNeg ((((4 : Int32) * x1) + x2) + (2 : Int32)))) < 0 ∨ 40 ≤ Int32.toNatClampNeg ((upd (upd f_p0_mate (Int32.toNatClampNeg (f_p0_mate (Int32.toNatClampNeg (((4 : Int32) * x1) + x2)))) (f_p0_mate (Int32.toNatClampNeg ((((4 : Int32) * x1) + x2) + (1 : Int32))))) (Int32.toNatClampNeg (f_p0_mate (Int32.toNatClampNeg ((((4 : Int32) * x1) + x2) + (1 : Int32))))) (f_p0_mate (Int32.toNatClampNeg (((4 : Int32) * x1) + x2)))) (Int32.toNatClampNeg ((((4 : Int32) * x1) + x2) + (2 : Int32))))) then (if ¬ (((upd (upd f_p0_mate (Int32.toNatClampNeg (f_p0_mate (Int32.toNatClampNeg (((4 : Int32) * x1) + x2)))) (f_p0_mate (Int32.toNatClampNeg ((((4 : Int32) * x1) + x2) + (1 : Int32))))) (Int32.toNatClampNeg (f_p0_mate (Int32.toNatClampNeg ((((4 : Int32) * x1) + x2) + (1 : Int32))))) (f_p0_mate (Int32.toNatClampNeg (((4 : Int32) * x1) + x2)))) (Int32.toNatClampNeg (((4 : Int32) * x1) + ((x2 + (3 : Int32)) &&& (3 : Int32))))) < 0 ∨ 40 ≤ Int32.toNatClampNeg ((upd (upd f_p0_mate (Int32.toNatClampNeg (f_p0_mate (Int32.toNatClampNeg (((4 : Int32) * x1) + x2)))) (f_p0_mate (Int32.toNatClampNeg ((((4 : Int32) * x1) + x2) + (1 : Int32))))) (Int32.toNatClampNeg (f_p0_mate (Int32.toNatClampNeg ((((4 : Int32) * x1) + x2) + (1 : Int32))))) (f_p0_mate (Int32.toNatClampNeg (((4 : Int32) * x1) + x2)))) (Int32.toNatClampNeg (((4 : Int32) * x1) + ((x2 + (3 : Int32)) &&& (3 : Int32)))))) then (if ¬ (f_p0_mate (Int32.toNatClampNeg (((4 : Int32) * x1) + x2))) = ((((4 : Int32) * x1) + x2) + (1 : Int32)) then B_Ss_splitAs_114 fl ks i_p0_crossings 0 x1 x2 x3 x4 (((4 : Int32) * x1) + x2) ((((4 : Int32) * x1) + x2) + (1 : Int32)) ((((4 : Int32) * x1) + x2) + (2 : Int32)) (((4 : Int32) * x1) + ((x2 + (3 : Int32)) &&& (3 : Int32))) (f_p0_mate (Int32.toNatClampNeg (((4 : Int32) * x1) + x2))) (f_p0_mate (Int32.toNatClampNeg ((((4 : Int32) * x1) + x2) + (1 : Int32)))) ((upd (upd f_p0_mate (Int32.toNatClampNeg (f_p0_mate (Int32.toNatClampNeg (((4 : Int32) * x1) + x2)))) (f_p0_mate (Int32.toNatClampNeg ((((4 : Int32) * x1) + x2) + (1 : Int32))))) (Int32.toNatClampNeg (f_p0_mate (Int32.toNatClampNeg ((((4 : Int32) * x1) + x2) + (1 : Int32))))) (f_p0_mate (Int32.toNatClampNeg (((4 : Int32) * x1) + x2)))) (Int32.toNatClampNeg ((((4 : Int32) * x1) + x2) + (2 : Int32)))) ((upd (upd f_p0_mate (Int32.toNatClampNeg (f_p0_mate (Int32.toNatClampNeg (((4 : Int32) * x1) + x2)))) (f_p0_mate (Int32.toNatClampNeg ((((4 : Int32) * x1) + x2) + (1 : Int32))))) (Int32.toNatClampNeg (f_p0_mate (Int32.toNatClampNeg ((((4 : Int32) * x1) + x2) + (1 : Int32))))) (f_p0_mate (Int32.toNatClampNeg (((4 : Int32) * x1) + x2)))) (Int32.toNatClampNeg (((4 : Int32) * x1) + ((x2 + (3 : Int32)) &&& (3 : Int32))))) (upd (upd (upd (upd f_p0_mate (Int32.toNatClampNeg (f_p0_mate (Int32.toNatClampNeg (((4 : Int32) * x1) + x2)))) (f_p0_mate (Int32.toNatClampNeg ((((4 : Int32) * x1) + x2) + (1 : Int32))))) (Int32.toNatClampNeg (f_p0_mate (Int32.toNatClampNeg ((((4 : Int32) * x1) + x2) + (1 : Int32))))) (f_p0_mate (Int32.toNatClampNeg (((4 : Int32) * x1) + x2)))) (Int32.toNatClampNeg ((upd (upd f_p0_mate (Int32.toNatClampNeg (f_p0_mate (Int32.toNatClampNeg (((4 : Int32) * x1) + x2)))) (f_p0_mate (Int32.toNatClampNeg ((((4 : Int32) * x1) + x2) + (1 : Int32))))) (Int32.toNatClampNeg (f_p0_mate (Int32.toNatClampNeg ((((4 : Int32) * x1) + x2) + (1 : Int32))))) (f_p0_mate (Int32.toNatClampNeg (((4 : Int32) * x1) + x2)))) (Int32.toNatClampNeg ((((4 : Int32) * x1) + x2) + (2 : Int32))))) ((upd (upd f_p0_mate (Int32.toNatClampNeg (f_p0_mate (Int32.toNatClampNeg (((4 : Int32) * x1) + x2)))) (f_p0_mate (Int32.toNatClampNeg ((((4 : Int32) * x1) + x2) + (1 : Int32))))) (Int32.toNatClampNeg (f_p0_mate (Int32.toNatClampNeg ((((4 : Int32) * x1) + x2) + (1 : Int32))))) (f_p0_mate (Int32.toNatClampNeg (((4 : Int32) * x1) + x2)))) (Int32.toNatClampNeg (((4 : Int32) * x1) + ((x2 + (3 : Int32)) &&& (3 : Int32)))))) (Int32.toNatClampNeg ((upd (upd f_p0_mate (Int32.toNatClampNeg (f_p0_mate (Int32.toNatClampNeg (((4 : Int32) * x1) + x2)))) (f_p0_mate (Int32.toNatClampNeg ((((4 : Int32) * x1) + x2) + (1 : Int32))))) (Int32.toNatClampNeg (f_p0_mate (Int32.toNatClampNeg ((((4 : Int32) * x1) + x2) + (1 : Int32))))) (f_p0_mate (Int32.toNatClampNeg (((4 : Int32) * x1) + x2)))) (Int32.toNatClampNeg (((4 : Int32) * x1) + ((x2 + (3 : Int32)) &&& (3 : Int32)))))) ((upd (upd f_p0_mate (Int32.toNatClampNeg (f_p0_mate (Int32.toNatClampNeg (((4 : Int32) * x1) + x2)))) (f_p0_mate (Int32.toNatClampNeg ((((4 : Int32) * x1) + x2) + (1 : Int32))))) (Int32.toNatClampNeg (f_p0_mate (Int32.toNatClampNeg ((((4 : Int32) * x1) + x2) + (1 : Int32))))) (f_p0_mate (Int32.toNatClampNeg (((4 : Int32) * x1) + x2)))) (Int32.toNatClampNeg ((((4 : Int32) * x1) + x2) + (2 : Int32))))) f_p0_states else B_Ss_splitAs_114 fl ks i_p0_crossings 1 x1 x2 x3 x4 (((4 : Int32) * x1) + x2) ((((4 : Int32) * x1) + x2) + (1 : Int32)) ((((4 : Int32) * x1) + x2) + (2 : Int32)) (((4 : Int32) * x1) + ((x2 + (3 : Int32)) &&& (3 : Int32))) (f_p0_mate (Int32.toNatClampNeg (((4 : Int32) * x1) + x2))) (f_p0_mate (Int32.toNatClampNeg ((((4 : Int32) * x1) + x2) + (1 : Int32)))) ((upd (upd f_p0_mate (Int32.toNatClampNeg (f_p0_mate (Int32.toNatClampNeg (((4 : Int32) * x1) + x2)))) (f_p0_mate (Int32.toNatClampNeg ((((4 : Int32) * x1) + x2) + (1 : Int32))))) (Int32.toNatClampNeg (f_p0_mate (Int32.toNatClampNeg ((((4 : Int32) * x1) + x2) + (1 : Int32))))) (f_p0_mate (Int32.toNatClampNeg (((4 : Int32) * x1) + x2)))) (Int32.toNatClampNeg ((((4 : Int32) * x1) + x2) + (2 : Int32)))) ((upd (upd f_p0_mate (Int32.toNatClampNeg (f_p0_mate (Int32.toNatClampNeg (((4 : Int32) * x1) + x2)))) (f_p0_mate (Int32.toNatClampNeg ((((4 : Int32) * x1) + x2) + (1 : Int32))))) (Int32.toNatClampNeg (f_p0_mate (Int32.toNatClampNeg ((((4 : Int32) * x1) + x2) + (1 : Int32))))) (f_p0_mate (Int32.toNatClampNeg (((4 : Int32) * x1) + x2)))) (Int32.toNatClampNeg (((4 : Int32) * x1) + ((x2 + (3 : Int32)) &&& (3 : Int32))))) (upd (upd (upd (upd f_p0_mate (Int32.toNatClampNeg (f_p0_mate (Int32.toNatClampNeg (((4 : Int32) * x1) + x2)))) (f_p0_mate (Int32.toNatClampNeg ((((4 : Int32) * x1) + x2) + (1 : Int32))))) (Int32.toNatClampNeg (f_p0_mate (Int32.toNatClampNeg ((((4 : Int32) * x1) + x2) + (1 : Int32))))) (f_p0_mate (Int32.toNatClampNeg (((4 : Int32) * x1) + x2)))) (Int32.toNatClampNeg ((upd (upd f_p0_mate (Int32.toNatClampNeg (f_p0_mate (Int32.toNatClampNeg (((4 : Int32) * x1) + x2)))) (f_p0_mate (Int32.toNatClampNeg ((((4 : Int32) * x1) + x2) + (1 : Int32))))) (Int32.toNatClampNeg (f_p0_mate (Int32.toNatClampNeg ((((4 : Int32) * x1) + x2) + (1 : Int32))))) (f_p0_mate (Int32.toNatClampNeg (((4 : Int32) * x1) + x2)))) (Int32.toNatClampNeg ((((4 : Int32) * x1) + x2) + (2 : Int32))))) ((upd (upd f_p0_mate (Int32.toNatClampNeg (f_p0_mate (Int32.toNatClampNeg (((4 : Int32) * x1) + x2)))) (f_p0_mate (Int32.toNatClampNeg ((((4 : Int32) * x1) + x2) + (1 : Int32))))) (Int32.toNatClampNeg (f_p0_mate (Int32.toNatClampNeg ((((4 : Int32) * x1) + x2) + (1 : Int32))))) (f_p0_mate (Int32.toNatClampNeg (((4 : Int32) * x1) + x2)))) (Int32.toNatClampNeg (((4 : Int32) * x1) + ((x2 + (3 : Int32)) &&& (3 : Int32)))))) (Int32.toNatClampNeg ((upd (upd f_p0_mate (Int32.toNatClampNeg (f_p0_mate (Int32.toNatClampNeg (((4 : Int32) * x1) + x2)))) (f_p0_mate (Int32.toNatClampNeg ((((4 : Int32) * x1) + x2) + (1 : Int32))))) (Int32.toNatClampNeg (f_p0_mate (Int32.toNatClampNeg ((((4 : Int32) * x1) + x2) + (1 : Int32))))) (f_p0_mate (Int32.toNatClampNeg (((4 : Int32) * x1) + x2)))) (Int32.toNatClampNeg (((4 : Int32) * x1) + ((x2 + (3 : Int32)) &&& (3 : Int32)))))) ((upd (upd f_p0_mate (Int32.toNatClampNeg (f_p0_mate (Int32.toNatClampNeg (((4 : Int32) * x1) + x2)))) (f_p0_mate (Int32.toNatClampNeg ((((4 : Int32) * x1) + x2) + (1 : Int32))))) (Int32.toNatClampNeg (f_p0_mate (Int32.toNatClampNeg ((((4 : Int32) * x1) + x2) + (1 : Int32))))) (f_p0_mate (Int32.toNatClampNeg (((4 : Int32) * x1) + x2)))) (Int32.toNatClampNeg ((((4 : Int32) * x1) + x2) + (2 : Int32))))) f_p0_states) else none) else none) else none) else none) else none) else none) else none) else none)
def m_Ss_splitAs (fl : Nat) (ks : Int32 → Int32 → Int32 → Int32 → (Nat → Int32) → (Nat → Int32) → Option ((Nat → Int32) × (Nat → Int32))) (i_p0_crossings : Int32) (x1 : Int32) (x2 : Int32) (x3 : Int32) (x4 : Int32) (f_p0_mate : Nat → Int32) (f_p0_states : Nat → Int32) : Option ((Nat → Int32) × (Nat → Int32)) := B_Ss_splitAs_0 fl ks i_p0_crossings x1 x2 x3 x4 f_p0_mate f_p0_states
set_option maxHeartbeats 4000000 in
set_option maxRecDepth 100000 in
theorem w_Ss_splitAs_126 {p : Program} {l : Launch} {e : Env} {s : State} {m : MethodId} {args : Array Value} {below : List Frame} {meth : Method} {c : Code} {D : va_G} {cI cJ cB : ClassId} {sa : Nat → Nat × Nat} {A : Nat → Prop} (fl : Nat) (dd : Nat) (ks : Int32 → Int32 → Int32 → Int32 → (Nat → Int32) → (Nat → Int32) → Option ((Nat → Int32) × (Nat → Int32))) (hks : ∀ (q_p0 : Nat) (q_p0_mate : Nat) (q_p0_states : Nat) (i_p0_crossings : Int32) (f_p0_mate : Nat → Int32) (f_p0_states : Nat → Int32) (y1 y2 y3 : Int32) (z : (Nat → Int32) × (Nat → Int32)), ks i_p0_crossings y1 y2 y3 f_p0_mate f_p0_states = some z → MtV l y_Ss_split (.code y_Ss_split b_Ss_split 4 none :: CW) (rm_Ss_split dd) D [(cI, .int), (cJ, .long), (cB, .byte)] sa [.ref q_p0, .int y1, .int y2, .int y3] (ws_Ss_split cI cJ cB q_p0 q_p0_mate q_p0_states i_p0_crossings f_p0_mate f_p0_states) (fun (w : va_W) => w = (ws_Ss_split cI cJ cB q_p0 q_p0_mate q_p0_states i_p0_crossings z.1 z.2))) (q_p0 : Nat) (q_p0_mate : Nat) (q_p0_states : Nat) (i_p0_crossings : Int32) (res : (Nat → Int32) × (Nat → Int32)) (C0 : vz_Cx p s m meth c b_Ss_splitAs 14 none "LinkEngine$StateSum" "splitAs" D [(cI, .int), (cJ, .long), (cB, .byte)] sa A args) : ∀ (s0 : Int32) (s1 : Int32) (x1 : Int32) (x2 : Int32) (x3 : Int32) (x4 : Int32) (x5 : Int32) (x6 : Int32) (x7 : Int32) (x8 : Int32) (x9 : Int32) (x10 : Int32) (x11 : Int32) (x12 : Int32) (f_p0_mate : Nat → Int32) (f_p0_states : Nat → Int32) (H : Heap) (locs : List Loc) (ls : Array Slot), B_Ss_splitAs_126 fl ks i_p0_crossings s0 s1 x1 x2 x3 x4 x5 x6 x7 x8 x9 x10 x11 x12 f_p0_mate f_p0_states = some res → va_P D classes (ws_Ss_splitAs cI cJ cB q_p0 q_p0_mate q_p0_states i_p0_crossings f_p0_mate f_p0_states) H → va_D A (ws_Ss_splitAs cI cJ cB q_p0 q_p0_mate q_p0_states i_p0_crossings f_p0_mate f_p0_states) → va_S A s.heap H locs → lv_has ls 14 [(0, .ref q_p0), (1, .int x1), (2, .int x2), (3, .int x3), (4, .int x4), (5, .int x5), (6, .int x6), (7, .int x7), (8, .int x8), (9, .int x9), (10, .int x10), (11, .int x11), (12, .int x12)] → W p l e (rm_Ss_splitAs dd) s m args below meth c H locs 0 0 (MQ below (va_Qv (fun (w : va_W) => w = (ws_Ss_splitAs cI cJ cB q_p0 q_p0_mate q_p0_states i_p0_crossings res.1 res.2)) (vz_B D A) A) args s 0 0 A) (F0 m 126 ls [.int s0, .int s1]) := by
  obtain ⟨hx, hb, hr, hml, hown, ht, hlocks, hin, hN, hK, hA, hZ⟩ := id C0
  intro s0 s1 x1 x2 x3 x4 x5 x6 x7 x8 x9 x10 x11 x12 f_p0_mate f_p0_states H locs ls hm hP hD hS hl
  unfold B_Ss_splitAs_126 at hm
  refine lv_iadd hx hb d_Ss_splitAs_126 ?_
  refine lv_istore (lv' := [(13, .int (s1 + s0)), (0, .ref q_p0), (1, .int x1), (2, .int x2), (3, .int x3), (4, .int x4), (5, .int x5), (6, .int x6), (7, .int x7), (8, .int x8), (9, .int x9), (10, .int x10), (11, .int x11), (12, .int x12)]) hx hb d_Ss_splitAs_127 hl (by decide) rfl (fun ls hl => ?_)
  refine lv_aload_n hx hb d_Ss_splitAs_129 rfl (lv_at hl 1 rfl) ?_
  refine lv_iload_n hx hb d_Ss_splitAs_130 rfl (lv_at hl 2 rfl) ?_
  refine lv_iconst (v := 1) hx hb d_Ss_splitAs_131 (by decide) ?_
  refine lv_iadd hx hb d_Ss_splitAs_132 ?_
  refine lv_iload_n hx hb d_Ss_splitAs_133 rfl (lv_at hl 4 rfl) ?_
  refine lv_iload hx hb d_Ss_splitAs_134 (lv_at hl 5 rfl) ?_
  refine lv_iload hx hb d_Ss_splitAs_136 (lv_at hl 0 rfl) ?_
  refine lv_iadd hx hb d_Ss_splitAs_138 ?_
  obtain ⟨o0, ho0, hm⟩ := vz_bind hm
  try dsimp only at hm
  refine vz_callVv (n := 3) (As := [.int (x1 + (1 : Int32)), .int x3, .int (x4 + (s1 + s0))]) (rest := []) (wc := (ws_Ss_split cI cJ cB q_p0 q_p0_mate q_p0_states i_p0_crossings f_p0_mate f_p0_states)) (wr := []) (k1 := 0) (n1 := 0) hx hb hml hown ht hN hZ hK hP hD hS hA (hks q_p0 q_p0_mate q_p0_states i_p0_crossings f_p0_mate f_p0_states (x1 + (1 : Int32)) x3 (x4 + (s1 + s0)) o0 ho0) m_409 m_81 m_406 m_407 m_408 (hc := (rfl : classes[9]? = some (R_Ss, F_Ss, 3))) 0 rfl (by decide +kernel) ⟨Nat.le_refl _, (show 8 + (4 + 11) + 100 * dd ≤ 100 * dd + 40 by omega)⟩ [0, 1, 2] [] rfl rfl (by decide) (by decide) (by decide) rfl hl.1 rfl (Nat.le_of_ble_eq_true rfl) rfl rfl ⟨Nat.zero_le _, Nat.zero_le _⟩ d_Ss_splitAs_139 (fun w1 H locs hw hP hD hS => ?_)
  subst hw
  have hP : va_P D classes (ws_Ss_splitAs cI cJ cB q_p0 q_p0_mate q_p0_states i_p0_crossings o0.1 o0.2) H := hP.sub [0, 1, 2] rfl
  have hD : va_D A (ws_Ss_splitAs cI cJ cB q_p0 q_p0_mate q_p0_states i_p0_crossings o0.1 o0.2) := hD.sub [0, 1, 2] (by decide) rfl
  refine lv_aload_n hx hb d_Ss_splitAs_142 rfl (lv_at hl 1 rfl) ?_
  refine va_get (D := D) (ci := 9) (v := .ref q_p0_mate) (C := R_Ss) (T := F_Ss) (N := 3) hx hb ht i_Ss hown hK hP 0 rfl rfl 0 (Nat.le_of_ble_eq_true rfl) (ht _ m_23) (fun _ h9 => h9) rfl d_Ss_splitAs_143 ?_
  refine lv_iload hx hb d_Ss_splitAs_146 (lv_at hl 12 rfl) ?_
  refine lv_iload hx hb d_Ss_splitAs_148 (lv_at hl 8 rfl) ?_
  obtain ⟨hg, hm⟩ := vz_guard hm
  refine va_iast hx hb hK hP hD hS 1 0 rfl rfl hg d_Ss_splitAs_150 (fun H locs hP hD hS => ?_)
  have hP : va_P D classes (ws_Ss_splitAs cI cJ cB q_p0 q_p0_mate q_p0_states i_p0_crossings (upd o0.1 (Int32.toNatClampNeg x11) x7) o0.2) H := hP
  have hD : va_D A (ws_Ss_splitAs cI cJ cB q_p0 q_p0_mate q_p0_states i_p0_crossings (upd o0.1 (Int32.toNatClampNeg x11) x7) o0.2) := hD
  refine lv_aload_n hx hb d_Ss_splitAs_151 rfl (lv_at hl 1 rfl) ?_
  refine va_get (D := D) (ci := 9) (v := .ref q_p0_mate) (C := R_Ss) (T := F_Ss) (N := 3) hx hb ht i_Ss hown hK hP 0 rfl rfl 0 (Nat.le_of_ble_eq_true rfl) (ht _ m_23) (fun _ h9 => h9) rfl d_Ss_splitAs_152 ?_
  refine lv_iload hx hb d_Ss_splitAs_155 (lv_at hl 13 rfl) ?_
  refine lv_iload hx hb d_Ss_splitAs_157 (lv_at hl 9 rfl) ?_
  obtain ⟨hg, hm⟩ := vz_guard hm
  refine va_iast hx hb hK hP hD hS 1 0 rfl rfl hg d_Ss_splitAs_159 (fun H locs hP hD hS => ?_)
  have hP : va_P D classes (ws_Ss_splitAs cI cJ cB q_p0 q_p0_mate q_p0_states i_p0_crossings (upd (upd o0.1 (Int32.toNatClampNeg x11) x7) (Int32.toNatClampNeg x12) x8) o0.2) H := hP
  have hD : va_D A (ws_Ss_splitAs cI cJ cB q_p0 q_p0_mate q_p0_states i_p0_crossings (upd (upd o0.1 (Int32.toNatClampNeg x11) x7) (Int32.toNatClampNeg x12) x8) o0.2) := hD
  refine lv_aload_n hx hb d_Ss_splitAs_160 rfl (lv_at hl 1 rfl) ?_
  refine va_get (D := D) (ci := 9) (v := .ref q_p0_mate) (C := R_Ss) (T := F_Ss) (N := 3) hx hb ht i_Ss hown hK hP 0 rfl rfl 0 (Nat.le_of_ble_eq_true rfl) (ht _ m_23) (fun _ h9 => h9) rfl d_Ss_splitAs_161 ?_
  refine lv_iload hx hb d_Ss_splitAs_164 (lv_at hl 10 rfl) ?_
  refine lv_iload hx hb d_Ss_splitAs_166 (lv_at hl 6 rfl) ?_
  obtain ⟨hg, hm⟩ := vz_guard hm
  refine va_iast hx hb hK hP hD hS 1 0 rfl rfl hg d_Ss_splitAs_168 (fun H locs hP hD hS => ?_)
  have hP : va_P D classes (ws_Ss_splitAs cI cJ cB q_p0 q_p0_mate q_p0_states i_p0_crossings (upd (upd (upd o0.1 (Int32.toNatClampNeg x11) x7) (Int32.toNatClampNeg x12) x8) (Int32.toNatClampNeg x9) x5) o0.2) H := hP
  have hD : va_D A (ws_Ss_splitAs cI cJ cB q_p0 q_p0_mate q_p0_states i_p0_crossings (upd (upd (upd o0.1 (Int32.toNatClampNeg x11) x7) (Int32.toNatClampNeg x12) x8) (Int32.toNatClampNeg x9) x5) o0.2) := hD
  refine lv_aload_n hx hb d_Ss_splitAs_169 rfl (lv_at hl 1 rfl) ?_
  refine va_get (D := D) (ci := 9) (v := .ref q_p0_mate) (C := R_Ss) (T := F_Ss) (N := 3) hx hb ht i_Ss hown hK hP 0 rfl rfl 0 (Nat.le_of_ble_eq_true rfl) (ht _ m_23) (fun _ h9 => h9) rfl d_Ss_splitAs_170 ?_
  refine lv_iload hx hb d_Ss_splitAs_173 (lv_at hl 11 rfl) ?_
  refine lv_iload hx hb d_Ss_splitAs_175 (lv_at hl 7 rfl) ?_
  obtain ⟨hg, hm⟩ := vz_guard hm
  refine va_iast hx hb hK hP hD hS 1 0 rfl rfl hg d_Ss_splitAs_177 (fun H locs hP hD hS => ?_)
  have hP : va_P D classes (ws_Ss_splitAs cI cJ cB q_p0 q_p0_mate q_p0_states i_p0_crossings (upd (upd (upd (upd o0.1 (Int32.toNatClampNeg x11) x7) (Int32.toNatClampNeg x12) x8) (Int32.toNatClampNeg x9) x5) (Int32.toNatClampNeg x10) x6) o0.2) H := hP
  have hD : va_D A (ws_Ss_splitAs cI cJ cB q_p0 q_p0_mate q_p0_states i_p0_crossings (upd (upd (upd (upd o0.1 (Int32.toNatClampNeg x11) x7) (Int32.toNatClampNeg x12) x8) (Int32.toNatClampNeg x9) x5) (Int32.toNatClampNeg x10) x6) o0.2) := hD
  obtain rfl := Option.some.inj hm
  exact vz_vret hx hb hr hlocks hP hD hS (Nat.le_refl _) (Nat.le_refl _) d_Ss_splitAs_178 rfl
set_option maxHeartbeats 4000000 in
set_option maxRecDepth 100000 in
theorem w_Ss_splitAs_114 {p : Program} {l : Launch} {e : Env} {s : State} {m : MethodId} {args : Array Value} {below : List Frame} {meth : Method} {c : Code} {D : va_G} {cI cJ cB : ClassId} {sa : Nat → Nat × Nat} {A : Nat → Prop} (fl : Nat) (dd : Nat) (ks : Int32 → Int32 → Int32 → Int32 → (Nat → Int32) → (Nat → Int32) → Option ((Nat → Int32) × (Nat → Int32))) (hks : ∀ (q_p0 : Nat) (q_p0_mate : Nat) (q_p0_states : Nat) (i_p0_crossings : Int32) (f_p0_mate : Nat → Int32) (f_p0_states : Nat → Int32) (y1 y2 y3 : Int32) (z : (Nat → Int32) × (Nat → Int32)), ks i_p0_crossings y1 y2 y3 f_p0_mate f_p0_states = some z → MtV l y_Ss_split (.code y_Ss_split b_Ss_split 4 none :: CW) (rm_Ss_split dd) D [(cI, .int), (cJ, .long), (cB, .byte)] sa [.ref q_p0, .int y1, .int y2, .int y3] (ws_Ss_split cI cJ cB q_p0 q_p0_mate q_p0_states i_p0_crossings f_p0_mate f_p0_states) (fun (w : va_W) => w = (ws_Ss_split cI cJ cB q_p0 q_p0_mate q_p0_states i_p0_crossings z.1 z.2))) (q_p0 : Nat) (q_p0_mate : Nat) (q_p0_states : Nat) (i_p0_crossings : Int32) (res : (Nat → Int32) × (Nat → Int32)) (C0 : vz_Cx p s m meth c b_Ss_splitAs 14 none "LinkEngine$StateSum" "splitAs" D [(cI, .int), (cJ, .long), (cB, .byte)] sa A args) : ∀ (s0 : Int32) (x1 : Int32) (x2 : Int32) (x3 : Int32) (x4 : Int32) (x5 : Int32) (x6 : Int32) (x7 : Int32) (x8 : Int32) (x9 : Int32) (x10 : Int32) (x11 : Int32) (x12 : Int32) (f_p0_mate : Nat → Int32) (f_p0_states : Nat → Int32) (H : Heap) (locs : List Loc) (ls : Array Slot), B_Ss_splitAs_114 fl ks i_p0_crossings s0 x1 x2 x3 x4 x5 x6 x7 x8 x9 x10 x11 x12 f_p0_mate f_p0_states = some res → va_P D classes (ws_Ss_splitAs cI cJ cB q_p0 q_p0_mate q_p0_states i_p0_crossings f_p0_mate f_p0_states) H → va_D A (ws_Ss_splitAs cI cJ cB q_p0 q_p0_mate q_p0_states i_p0_crossings f_p0_mate f_p0_states) → va_S A s.heap H locs → lv_has ls 14 [(0, .ref q_p0), (1, .int x1), (2, .int x2), (3, .int x3), (4, .int x4), (5, .int x5), (6, .int x6), (7, .int x7), (8, .int x8), (9, .int x9), (10, .int x10), (11, .int x11), (12, .int x12)] → W p l e (rm_Ss_splitAs dd) s m args below meth c H locs 0 0 (MQ below (va_Qv (fun (w : va_W) => w = (ws_Ss_splitAs cI cJ cB q_p0 q_p0_mate q_p0_states i_p0_crossings res.1 res.2)) (vz_B D A) A) args s 0 0 A) (F0 m 114 ls [.int s0]) := by
  obtain ⟨hx, hb, hr, hml, hown, ht, hlocks, hin, hN, hK, hA, hZ⟩ := id C0
  intro s0 x1 x2 x3 x4 x5 x6 x7 x8 x9 x10 x11 x12 f_p0_mate f_p0_states H locs ls hm hP hD hS hl
  unfold B_Ss_splitAs_114 at hm
  refine lv_iload hx hb d_Ss_splitAs_114 (lv_at hl 11 rfl) ?_
  refine lv_iload hx hb d_Ss_splitAs_116 (lv_at hl 8 rfl) ?_
  refine lv_icmp_ne (tgt := 125) hx hb d_Ss_splitAs_118 (by decide) (fun hc => ?_) (fun hc => ?_)
  · rw [if_pos hc] at hm
    refine lv_iconst (v := 0) hx hb d_Ss_splitAs_125 (by decide) ?_
    exact w_Ss_splitAs_126 fl dd ks hks q_p0 q_p0_mate q_p0_states i_p0_crossings res C0 0 s0 x1 x2 x3 x4 x5 x6 x7 x8 x9 x10 x11 x12 f_p0_mate f_p0_states _ _ _ hm hP hD hS (lv_sub hl [0, 1, 2, 3, 4, 5, 6, 7, 8, 9, 10, 11, 12] rfl)
  · rw [if_neg (fun q => q hc)] at hm
    refine lv_iconst (v := 1) hx hb d_Ss_splitAs_121 (by decide) ?_
    refine lv_goto (tgt := 126) hx hb d_Ss_splitAs_122 (by decide) ?_
    exact w_Ss_splitAs_126 fl dd ks hks q_p0 q_p0_mate q_p0_states i_p0_crossings res C0 1 s0 x1 x2 x3 x4 x5 x6 x7 x8 x9 x10 x11 x12 f_p0_mate f_p0_states _ _ _ hm hP hD hS (lv_sub hl [0, 1, 2, 3, 4, 5, 6, 7, 8, 9, 10, 11, 12] rfl)
set_option maxHeartbeats 4000000 in
set_option maxRecDepth 100000 in
theorem w_Ss_splitAs_0 {p : Program} {l : Launch} {e : Env} {s : State} {m : MethodId} {args : Array Value} {below : List Frame} {meth : Method} {c : Code} {D : va_G} {cI cJ cB : ClassId} {sa : Nat → Nat × Nat} {A : Nat → Prop} (fl : Nat) (dd : Nat) (ks : Int32 → Int32 → Int32 → Int32 → (Nat → Int32) → (Nat → Int32) → Option ((Nat → Int32) × (Nat → Int32))) (hks : ∀ (q_p0 : Nat) (q_p0_mate : Nat) (q_p0_states : Nat) (i_p0_crossings : Int32) (f_p0_mate : Nat → Int32) (f_p0_states : Nat → Int32) (y1 y2 y3 : Int32) (z : (Nat → Int32) × (Nat → Int32)), ks i_p0_crossings y1 y2 y3 f_p0_mate f_p0_states = some z → MtV l y_Ss_split (.code y_Ss_split b_Ss_split 4 none :: CW) (rm_Ss_split dd) D [(cI, .int), (cJ, .long), (cB, .byte)] sa [.ref q_p0, .int y1, .int y2, .int y3] (ws_Ss_split cI cJ cB q_p0 q_p0_mate q_p0_states i_p0_crossings f_p0_mate f_p0_states) (fun (w : va_W) => w = (ws_Ss_split cI cJ cB q_p0 q_p0_mate q_p0_states i_p0_crossings z.1 z.2))) (q_p0 : Nat) (q_p0_mate : Nat) (q_p0_states : Nat) (i_p0_crossings : Int32) (res : (Nat → Int32) × (Nat → Int32)) (C0 : vz_Cx p s m meth c b_Ss_splitAs 14 none "LinkEngine$StateSum" "splitAs" D [(cI, .int), (cJ, .long), (cB, .byte)] sa A args) : ∀ (x1 : Int32) (x2 : Int32) (x3 : Int32) (x4 : Int32) (f_p0_mate : Nat → Int32) (f_p0_states : Nat → Int32) (H : Heap) (locs : List Loc) (ls : Array Slot), B_Ss_splitAs_0 fl ks i_p0_crossings x1 x2 x3 x4 f_p0_mate f_p0_states = some res → va_P D classes (ws_Ss_splitAs cI cJ cB q_p0 q_p0_mate q_p0_states i_p0_crossings f_p0_mate f_p0_states) H → va_D A (ws_Ss_splitAs cI cJ cB q_p0 q_p0_mate q_p0_states i_p0_crossings f_p0_mate f_p0_states) → va_S A s.heap H locs → lv_has ls 14 [(0, .ref q_p0), (1, .int x1), (2, .int x2), (3, .int x3), (4, .int x4)] → W p l e (rm_Ss_splitAs dd) s m args below meth c H locs 0 0 (MQ below (va_Qv (fun (w : va_W) => w = (ws_Ss_splitAs cI cJ cB q_p0 q_p0_mate q_p0_states i_p0_crossings res.1 res.2)) (vz_B D A) A) args s 0 0 A) (F0 m 0 ls []) := by
  obtain ⟨hx, hb, hr, hml, hown, ht, hlocks, hin, hN, hK, hA, hZ⟩ := id C0
  intro x1 x2 x3 x4 f_p0_mate f_p0_states H locs ls hm hP hD hS hl
  unfold B_Ss_splitAs_0 at hm
  refine lv_iconst (v := 4) hx hb d_Ss_splitAs_0 (by decide) ?_
  refine lv_iload_n hx hb d_Ss_splitAs_1 rfl (lv_at hl 1 rfl) ?_
  refine lv_imul hx hb d_Ss_splitAs_2 ?_
  refine lv_iload_n hx hb d_Ss_splitAs_3 rfl (lv_at hl 2 rfl) ?_
  refine lv_iadd hx hb d_Ss_splitAs_4 ?_
  refine lv_istore (lv' := [(5, .int (((4 : Int32) * x1) + x2)), (0, .ref q_p0), (1, .int x1), (2, .int x2), (3, .int x3), (4, .int x4)]) hx hb d_Ss_splitAs_5 hl (by decide) rfl (fun ls hl => ?_)
  refine lv_iload hx hb d_Ss_splitAs_7 (lv_at hl 0 rfl) ?_
  refine lv_iconst (v := 1) hx hb d_Ss_splitAs_9 (by decide) ?_
  refine lv_iadd hx hb d_Ss_splitAs_10 ?_
  refine lv_istore (lv' := [(6, .int ((((4 : Int32) * x1) + x2) + (1 : Int32))), (5, .int (((4 : Int32) * x1) + x2)), (0, .ref q_p0), (1, .int x1), (2, .int x2), (3, .int x3), (4, .int x4)]) hx hb d_Ss_splitAs_11 hl (by decide) rfl (fun ls hl => ?_)
  refine lv_iload hx hb d_Ss_splitAs_13 (lv_at hl 1 rfl) ?_
  refine lv_iconst (v := 2) hx hb d_Ss_splitAs_15 (by decide) ?_
  refine lv_iadd hx hb d_Ss_splitAs_16 ?_
  refine lv_istore (lv' := [(7, .int ((((4 : Int32) * x1) + x2) + (2 : Int32))), (6, .int ((((4 : Int32) * x1) + x2) + (1 : Int32))), (5, .int (((4 : Int32) * x1) + x2)), (0, .ref q_p0), (1, .int x1), (2, .int x2), (3, .int x3), (4, .int x4)]) hx hb d_Ss_splitAs_17 hl (by decide) rfl (fun ls hl => ?_)
  refine lv_iconst (v := 4) hx hb d_Ss_splitAs_19 (by decide) ?_
  refine lv_iload_n hx hb d_Ss_splitAs_20 rfl (lv_at hl 4 rfl) ?_
  refine lv_imul hx hb d_Ss_splitAs_21 ?_
  refine lv_iload_n hx hb d_Ss_splitAs_22 rfl (lv_at hl 5 rfl) ?_
  refine lv_iconst (v := 3) hx hb d_Ss_splitAs_23 (by decide) ?_
  refine lv_iadd hx hb d_Ss_splitAs_24 ?_
  refine lv_iconst (v := 3) hx hb d_Ss_splitAs_25 (by decide) ?_
  refine lv_iand hx hb d_Ss_splitAs_26 ?_
  refine lv_iadd hx hb d_Ss_splitAs_27 ?_
  refine lv_istore (lv' := [(8, .int (((4 : Int32) * x1) + ((x2 + (3 : Int32)) &&& (3 : Int32)))), (7, .int ((((4 : Int32) * x1) + x2) + (2 : Int32))), (6, .int ((((4 : Int32) * x1) + x2) + (1 : Int32))), (5, .int (((4 : Int32) * x1) + x2)), (0, .ref q_p0), (1, .int x1), (2, .int x2), (3, .int x3), (4, .int x4)]) hx hb d_Ss_splitAs_28 hl (by decide) rfl (fun ls hl => ?_)
  refine lv_aload_n hx hb d_Ss_splitAs_30 rfl (lv_at hl 4 rfl) ?_
  refine va_get (D := D) (ci := 9) (v := .ref q_p0_mate) (C := R_Ss) (T := F_Ss) (N := 3) hx hb ht i_Ss hown hK hP 0 rfl rfl 0 (Nat.le_of_ble_eq_true rfl) (ht _ m_23) (fun _ h9 => h9) rfl d_Ss_splitAs_31 ?_
  refine lv_iload hx hb d_Ss_splitAs_34 (lv_at hl 3 rfl) ?_
  obtain ⟨hg, hm⟩ := vz_guard hm
  refine va_iald hx hb hK hP 1 0 rfl rfl hg d_Ss_splitAs_36 ?_
  refine lv_istore (lv' := [(9, .int (f_p0_mate (Int32.toNatClampNeg (((4 : Int32) * x1) + x2)))), (8, .int (((4 : Int32) * x1) + ((x2 + (3 : Int32)) &&& (3 : Int32)))), (7, .int ((((4 : Int32) * x1) + x2) + (2 : Int32))), (6, .int ((((4 : Int32) * x1) + x2) + (1 : Int32))), (5, .int (((4 : Int32) * x1) + x2)), (0, .ref q_p0), (1, .int x1), (2, .int x2), (3, .int x3), (4, .int x4)]) hx hb d_Ss_splitAs_37 hl (by decide) rfl (fun ls hl => ?_)
  refine lv_aload_n hx hb d_Ss_splitAs_39 rfl (lv_at hl 5 rfl) ?_
  refine va_get (D := D) (ci := 9) (v := .ref q_p0_mate) (C := R_Ss) (T := F_Ss) (N := 3) hx hb ht i_Ss hown hK hP 0 rfl rfl 0 (Nat.le_of_ble_eq_true rfl) (ht _ m_23) (fun _ h9 => h9) rfl d_Ss_splitAs_40 ?_
  refine lv_iload hx hb d_Ss_splitAs_43 (lv_at hl 3 rfl) ?_
  obtain ⟨hg, hm⟩ := vz_guard hm
  refine va_iald hx hb hK hP 1 0 rfl rfl hg d_Ss_splitAs_45 ?_
  refine lv_istore (lv' := [(10, .int (f_p0_mate (Int32.toNatClampNeg ((((4 : Int32) * x1) + x2) + (1 : Int32))))), (9, .int (f_p0_mate (Int32.toNatClampNeg (((4 : Int32) * x1) + x2)))), (8, .int (((4 : Int32) * x1) + ((x2 + (3 : Int32)) &&& (3 : Int32)))), (7, .int ((((4 : Int32) * x1) + x2) + (2 : Int32))), (6, .int ((((4 : Int32) * x1) + x2) + (1 : Int32))), (5, .int (((4 : Int32) * x1) + x2)), (0, .ref q_p0), (1, .int x1), (2, .int x2), (3, .int x3), (4, .int x4)]) hx hb d_Ss_splitAs_46 hl (by decide) rfl (fun ls hl => ?_)
  refine lv_aload_n hx hb d_Ss_splitAs_48 rfl (lv_at hl 6 rfl) ?_
  refine va_get (D := D) (ci := 9) (v := .ref q_p0_mate) (C := R_Ss) (T := F_Ss) (N := 3) hx hb ht i_Ss hown hK hP 0 rfl rfl 0 (Nat.le_of_ble_eq_true rfl) (ht _ m_23) (fun _ h9 => h9) rfl d_Ss_splitAs_49 ?_
  refine lv_iload hx hb d_Ss_splitAs_52 (lv_at hl 1 rfl) ?_
  refine lv_iload hx hb d_Ss_splitAs_54 (lv_at hl 0 rfl) ?_
  obtain ⟨hg, hm⟩ := vz_guard hm
  refine va_iast hx hb hK hP hD hS 1 0 rfl rfl hg d_Ss_splitAs_56 (fun H locs hP hD hS => ?_)
  have hP : va_P D classes (ws_Ss_splitAs cI cJ cB q_p0 q_p0_mate q_p0_states i_p0_crossings (upd f_p0_mate (Int32.toNatClampNeg (f_p0_mate (Int32.toNatClampNeg (((4 : Int32) * x1) + x2)))) (f_p0_mate (Int32.toNatClampNeg ((((4 : Int32) * x1) + x2) + (1 : Int32))))) f_p0_states) H := hP
  have hD : va_D A (ws_Ss_splitAs cI cJ cB q_p0 q_p0_mate q_p0_states i_p0_crossings (upd f_p0_mate (Int32.toNatClampNeg (f_p0_mate (Int32.toNatClampNeg (((4 : Int32) * x1) + x2)))) (f_p0_mate (Int32.toNatClampNeg ((((4 : Int32) * x1) + x2) + (1 : Int32))))) f_p0_states) := hD
  refine lv_aload_n hx hb d_Ss_splitAs_57 rfl (lv_at hl 6 rfl) ?_
  refine va_get (D := D) (ci := 9) (v := .ref q_p0_mate) (C := R_Ss) (T := F_Ss) (N := 3) hx hb ht i_Ss hown hK hP 0 rfl rfl 0 (Nat.le_of_ble_eq_true rfl) (ht _ m_23) (fun _ h9 => h9) rfl d_Ss_splitAs_58 ?_
  refine lv_iload hx hb d_Ss_splitAs_61 (lv_at hl 0 rfl) ?_
  refine lv_iload hx hb d_Ss_splitAs_63 (lv_at hl 1 rfl) ?_
  obtain ⟨hg, hm⟩ := vz_guard hm
  refine va_iast hx hb hK hP hD hS 1 0 rfl rfl hg d_Ss_splitAs_65 (fun H locs hP hD hS => ?_)
  have hP : va_P D classes (ws_Ss_splitAs cI cJ cB q_p0 q_p0_mate q_p0_states i_p0_crossings (upd (upd f_p0_mate (Int32.toNatClampNeg (f_p0_mate (Int32.toNatClampNeg (((4 : Int32) * x1) + x2)))) (f_p0_mate (Int32.toNatClampNeg ((((4 : Int32) * x1) + x2) + (1 : Int32))))) (Int32.toNatClampNeg (f_p0_mate (Int32.toNatClampNeg ((((4 : Int32) * x1) + x2) + (1 : Int32))))) (f_p0_mate (Int32.toNatClampNeg (((4 : Int32) * x1) + x2)))) f_p0_states) H := hP
  have hD : va_D A (ws_Ss_splitAs cI cJ cB q_p0 q_p0_mate q_p0_states i_p0_crossings (upd (upd f_p0_mate (Int32.toNatClampNeg (f_p0_mate (Int32.toNatClampNeg (((4 : Int32) * x1) + x2)))) (f_p0_mate (Int32.toNatClampNeg ((((4 : Int32) * x1) + x2) + (1 : Int32))))) (Int32.toNatClampNeg (f_p0_mate (Int32.toNatClampNeg ((((4 : Int32) * x1) + x2) + (1 : Int32))))) (f_p0_mate (Int32.toNatClampNeg (((4 : Int32) * x1) + x2)))) f_p0_states) := hD
  refine lv_aload_n hx hb d_Ss_splitAs_66 rfl (lv_at hl 6 rfl) ?_
  refine va_get (D := D) (ci := 9) (v := .ref q_p0_mate) (C := R_Ss) (T := F_Ss) (N := 3) hx hb ht i_Ss hown hK hP 0 rfl rfl 0 (Nat.le_of_ble_eq_true rfl) (ht _ m_23) (fun _ h9 => h9) rfl d_Ss_splitAs_67 ?_
  refine lv_iload hx hb d_Ss_splitAs_70 (lv_at hl 3 rfl) ?_
  obtain ⟨hg, hm⟩ := vz_guard hm
  refine va_iald hx hb hK hP 1 0 rfl rfl hg d_Ss_splitAs_72 ?_
  refine lv_istore (lv' := [(11, .int ((upd (upd f_p0_mate (Int32.toNatClampNeg (f_p0_mate (Int32.toNatClampNeg (((4 : Int32) * x1) + x2)))) (f_p0_mate (Int32.toNatClampNeg ((((4 : Int32) * x1) + x2) + (1 : Int32))))) (Int32.toNatClampNeg (f_p0_mate (Int32.toNatClampNeg ((((4 : Int32) * x1) + x2) + (1 : Int32))))) (f_p0_mate (Int32.toNatClampNeg (((4 : Int32) * x1) + x2)))) (Int32.toNatClampNeg ((((4 : Int32) * x1) + x2) + (2 : Int32))))), (10, .int (f_p0_mate (Int32.toNatClampNeg ((((4 : Int32) * x1) + x2) + (1 : Int32))))), (9, .int (f_p0_mate (Int32.toNatClampNeg (((4 : Int32) * x1) + x2)))), (8, .int (((4 : Int32) * x1) + ((x2 + (3 : Int32)) &&& (3 : Int32)))), (7, .int ((((4 : Int32) * x1) + x2) + (2 : Int32))), (6, .int ((((4 : Int32) * x1) + x2) + (1 : Int32))), (5, .int (((4 : Int32) * x1) + x2)), (0, .ref q_p0), (1, .int x1), (2, .int x2), (3, .int x3), (4, .int x4)]) hx hb d_Ss_splitAs_73 hl (by decide) rfl (fun ls hl => ?_)
  refine lv_aload_n hx hb d_Ss_splitAs_75 rfl (lv_at hl 7 rfl) ?_
  refine va_get (D := D) (ci := 9) (v := .ref q_p0_mate) (C := R_Ss) (T := F_Ss) (N := 3) hx hb ht i_Ss hown hK hP 0 rfl rfl 0 (Nat.le_of_ble_eq_true rfl) (ht _ m_23) (fun _ h9 => h9) rfl d_Ss_splitAs_76 ?_
  refine lv_iload hx hb d_Ss_splitAs_79 (lv_at hl 3 rfl) ?_
  obtain ⟨hg, hm⟩ := vz_guard hm
  refine va_iald hx hb hK hP 1 0 rfl rfl hg d_Ss_splitAs_81 ?_
  refine lv_istore (lv' := [(12, .int ((upd (upd f_p0_mate (Int32.toNatClampNeg (f_p0_mate (Int32.toNatClampNeg (((4 : Int32) * x1) + x2)))) (f_p0_mate (Int32.toNatClampNeg ((((4 : Int32) * x1) + x2) + (1 : Int32))))) (Int32.toNatClampNeg (f_p0_mate (Int32.toNatClampNeg ((((4 : Int32) * x1) + x2) + (1 : Int32))))) (f_p0_mate (Int32.toNatClampNeg (((4 : Int32) * x1) + x2)))) (Int32.toNatClampNeg (((4 : Int32) * x1) + ((x2 + (3 : Int32)) &&& (3 : Int32)))))), (11, .int ((upd (upd f_p0_mate (Int32.toNatClampNeg (f_p0_mate (Int32.toNatClampNeg (((4 : Int32) * x1) + x2)))) (f_p0_mate (Int32.toNatClampNeg ((((4 : Int32) * x1) + x2) + (1 : Int32))))) (Int32.toNatClampNeg (f_p0_mate (Int32.toNatClampNeg ((((4 : Int32) * x1) + x2) + (1 : Int32))))) (f_p0_mate (Int32.toNatClampNeg (((4 : Int32) * x1) + x2)))) (Int32.toNatClampNeg ((((4 : Int32) * x1) + x2) + (2 : Int32))))), (10, .int (f_p0_mate (Int32.toNatClampNeg ((((4 : Int32) * x1) + x2) + (1 : Int32))))), (9, .int (f_p0_mate (Int32.toNatClampNeg (((4 : Int32) * x1) + x2)))), (8, .int (((4 : Int32) * x1) + ((x2 + (3 : Int32)) &&& (3 : Int32)))), (7, .int ((((4 : Int32) * x1) + x2) + (2 : Int32))), (6, .int ((((4 : Int32) * x1) + x2) + (1 : Int32))), (5, .int (((4 : Int32) * x1) + x2)), (0, .ref q_p0), (1, .int x1), (2, .int x2), (3, .int x3), (4, .int x4)]) hx hb d_Ss_splitAs_82 hl (by decide) rfl (fun ls hl => ?_)
  refine lv_aload_n hx hb d_Ss_splitAs_84 rfl (lv_at hl 8 rfl) ?_
  refine va_get (D := D) (ci := 9) (v := .ref q_p0_mate) (C := R_Ss) (T := F_Ss) (N := 3) hx hb ht i_Ss hown hK hP 0 rfl rfl 0 (Nat.le_of_ble_eq_true rfl) (ht _ m_23) (fun _ h9 => h9) rfl d_Ss_splitAs_85 ?_
  refine lv_iload hx hb d_Ss_splitAs_88 (lv_at hl 1 rfl) ?_
  refine lv_iload hx hb d_Ss_splitAs_90 (lv_at hl 0 rfl) ?_
  obtain ⟨hg, hm⟩ := vz_guard hm
  refine va_iast hx hb hK hP hD hS 1 0 rfl rfl hg d_Ss_splitAs_92 (fun H locs hP hD hS => ?_)
  have hP : va_P D classes (ws_Ss_splitAs cI cJ cB q_p0 q_p0_mate q_p0_states i_p0_crossings (upd (upd (upd f_p0_mate (Int32.toNatClampNeg (f_p0_mate (Int32.toNatClampNeg (((4 : Int32) * x1) + x2)))) (f_p0_mate (Int32.toNatClampNeg ((((4 : Int32) * x1) + x2) + (1 : Int32))))) (Int32.toNatClampNeg (f_p0_mate (Int32.toNatClampNeg ((((4 : Int32) * x1) + x2) + (1 : Int32))))) (f_p0_mate (Int32.toNatClampNeg (((4 : Int32) * x1) + x2)))) (Int32.toNatClampNeg ((upd (upd f_p0_mate (Int32.toNatClampNeg (f_p0_mate (Int32.toNatClampNeg (((4 : Int32) * x1) + x2)))) (f_p0_mate (Int32.toNatClampNeg ((((4 : Int32) * x1) + x2) + (1 : Int32))))) (Int32.toNatClampNeg (f_p0_mate (Int32.toNatClampNeg ((((4 : Int32) * x1) + x2) + (1 : Int32))))) (f_p0_mate (Int32.toNatClampNeg (((4 : Int32) * x1) + x2)))) (Int32.toNatClampNeg ((((4 : Int32) * x1) + x2) + (2 : Int32))))) ((upd (upd f_p0_mate (Int32.toNatClampNeg (f_p0_mate (Int32.toNatClampNeg (((4 : Int32) * x1) + x2)))) (f_p0_mate (Int32.toNatClampNeg ((((4 : Int32) * x1) + x2) + (1 : Int32))))) (Int32.toNatClampNeg (f_p0_mate (Int32.toNatClampNeg ((((4 : Int32) * x1) + x2) + (1 : Int32))))) (f_p0_mate (Int32.toNatClampNeg (((4 : Int32) * x1) + x2)))) (Int32.toNatClampNeg (((4 : Int32) * x1) + ((x2 + (3 : Int32)) &&& (3 : Int32)))))) f_p0_states) H := hP
  have hD : va_D A (ws_Ss_splitAs cI cJ cB q_p0 q_p0_mate q_p0_states i_p0_crossings (upd (upd (upd f_p0_mate (Int32.toNatClampNeg (f_p0_mate (Int32.toNatClampNeg (((4 : Int32) * x1) + x2)))) (f_p0_mate (Int32.toNatClampNeg ((((4 : Int32) * x1) + x2) + (1 : Int32))))) (Int32.toNatClampNeg (f_p0_mate (Int32.toNatClampNeg ((((4 : Int32) * x1) + x2) + (1 : Int32))))) (f_p0_mate (Int32.toNatClampNeg (((4 : Int32) * x1) + x2)))) (Int32.toNatClampNeg ((upd (upd f_p0_mate (Int32.toNatClampNeg (f_p0_mate (Int32.toNatClampNeg (((4 : Int32) * x1) + x2)))) (f_p0_mate (Int32.toNatClampNeg ((((4 : Int32) * x1) + x2) + (1 : Int32))))) (Int32.toNatClampNeg (f_p0_mate (Int32.toNatClampNeg ((((4 : Int32) * x1) + x2) + (1 : Int32))))) (f_p0_mate (Int32.toNatClampNeg (((4 : Int32) * x1) + x2)))) (Int32.toNatClampNeg ((((4 : Int32) * x1) + x2) + (2 : Int32))))) ((upd (upd f_p0_mate (Int32.toNatClampNeg (f_p0_mate (Int32.toNatClampNeg (((4 : Int32) * x1) + x2)))) (f_p0_mate (Int32.toNatClampNeg ((((4 : Int32) * x1) + x2) + (1 : Int32))))) (Int32.toNatClampNeg (f_p0_mate (Int32.toNatClampNeg ((((4 : Int32) * x1) + x2) + (1 : Int32))))) (f_p0_mate (Int32.toNatClampNeg (((4 : Int32) * x1) + x2)))) (Int32.toNatClampNeg (((4 : Int32) * x1) + ((x2 + (3 : Int32)) &&& (3 : Int32)))))) f_p0_states) := hD
  refine lv_aload_n hx hb d_Ss_splitAs_93 rfl (lv_at hl 8 rfl) ?_
  refine va_get (D := D) (ci := 9) (v := .ref q_p0_mate) (C := R_Ss) (T := F_Ss) (N := 3) hx hb ht i_Ss hown hK hP 0 rfl rfl 0 (Nat.le_of_ble_eq_true rfl) (ht _ m_23) (fun _ h9 => h9) rfl d_Ss_splitAs_94 ?_
  refine lv_iload hx hb d_Ss_splitAs_97 (lv_at hl 0 rfl) ?_
  refine lv_iload hx hb d_Ss_splitAs_99 (lv_at hl 1 rfl) ?_
  obtain ⟨hg, hm⟩ := vz_guard hm
  refine va_iast hx hb hK hP hD hS 1 0 rfl rfl hg d_Ss_splitAs_101 (fun H locs hP hD hS => ?_)
  have hP : va_P D classes (ws_Ss_splitAs cI cJ cB q_p0 q_p0_mate q_p0_states i_p0_crossings (upd (upd (upd (upd f_p0_mate (Int32.toNatClampNeg (f_p0_mate (Int32.toNatClampNeg (((4 : Int32) * x1) + x2)))) (f_p0_mate (Int32.toNatClampNeg ((((4 : Int32) * x1) + x2) + (1 : Int32))))) (Int32.toNatClampNeg (f_p0_mate (Int32.toNatClampNeg ((((4 : Int32) * x1) + x2) + (1 : Int32))))) (f_p0_mate (Int32.toNatClampNeg (((4 : Int32) * x1) + x2)))) (Int32.toNatClampNeg ((upd (upd f_p0_mate (Int32.toNatClampNeg (f_p0_mate (Int32.toNatClampNeg (((4 : Int32) * x1) + x2)))) (f_p0_mate (Int32.toNatClampNeg ((((4 : Int32) * x1) + x2) + (1 : Int32))))) (Int32.toNatClampNeg (f_p0_mate (Int32.toNatClampNeg ((((4 : Int32) * x1) + x2) + (1 : Int32))))) (f_p0_mate (Int32.toNatClampNeg (((4 : Int32) * x1) + x2)))) (Int32.toNatClampNeg ((((4 : Int32) * x1) + x2) + (2 : Int32))))) ((upd (upd f_p0_mate (Int32.toNatClampNeg (f_p0_mate (Int32.toNatClampNeg (((4 : Int32) * x1) + x2)))) (f_p0_mate (Int32.toNatClampNeg ((((4 : Int32) * x1) + x2) + (1 : Int32))))) (Int32.toNatClampNeg (f_p0_mate (Int32.toNatClampNeg ((((4 : Int32) * x1) + x2) + (1 : Int32))))) (f_p0_mate (Int32.toNatClampNeg (((4 : Int32) * x1) + x2)))) (Int32.toNatClampNeg (((4 : Int32) * x1) + ((x2 + (3 : Int32)) &&& (3 : Int32)))))) (Int32.toNatClampNeg ((upd (upd f_p0_mate (Int32.toNatClampNeg (f_p0_mate (Int32.toNatClampNeg (((4 : Int32) * x1) + x2)))) (f_p0_mate (Int32.toNatClampNeg ((((4 : Int32) * x1) + x2) + (1 : Int32))))) (Int32.toNatClampNeg (f_p0_mate (Int32.toNatClampNeg ((((4 : Int32) * x1) + x2) + (1 : Int32))))) (f_p0_mate (Int32.toNatClampNeg (((4 : Int32) * x1) + x2)))) (Int32.toNatClampNeg (((4 : Int32) * x1) + ((x2 + (3 : Int32)) &&& (3 : Int32)))))) ((upd (upd f_p0_mate (Int32.toNatClampNeg (f_p0_mate (Int32.toNatClampNeg (((4 : Int32) * x1) + x2)))) (f_p0_mate (Int32.toNatClampNeg ((((4 : Int32) * x1) + x2) + (1 : Int32))))) (Int32.toNatClampNeg (f_p0_mate (Int32.toNatClampNeg ((((4 : Int32) * x1) + x2) + (1 : Int32))))) (f_p0_mate (Int32.toNatClampNeg (((4 : Int32) * x1) + x2)))) (Int32.toNatClampNeg ((((4 : Int32) * x1) + x2) + (2 : Int32))))) f_p0_states) H := hP
  have hD : va_D A (ws_Ss_splitAs cI cJ cB q_p0 q_p0_mate q_p0_states i_p0_crossings (upd (upd (upd (upd f_p0_mate (Int32.toNatClampNeg (f_p0_mate (Int32.toNatClampNeg (((4 : Int32) * x1) + x2)))) (f_p0_mate (Int32.toNatClampNeg ((((4 : Int32) * x1) + x2) + (1 : Int32))))) (Int32.toNatClampNeg (f_p0_mate (Int32.toNatClampNeg ((((4 : Int32) * x1) + x2) + (1 : Int32))))) (f_p0_mate (Int32.toNatClampNeg (((4 : Int32) * x1) + x2)))) (Int32.toNatClampNeg ((upd (upd f_p0_mate (Int32.toNatClampNeg (f_p0_mate (Int32.toNatClampNeg (((4 : Int32) * x1) + x2)))) (f_p0_mate (Int32.toNatClampNeg ((((4 : Int32) * x1) + x2) + (1 : Int32))))) (Int32.toNatClampNeg (f_p0_mate (Int32.toNatClampNeg ((((4 : Int32) * x1) + x2) + (1 : Int32))))) (f_p0_mate (Int32.toNatClampNeg (((4 : Int32) * x1) + x2)))) (Int32.toNatClampNeg ((((4 : Int32) * x1) + x2) + (2 : Int32))))) ((upd (upd f_p0_mate (Int32.toNatClampNeg (f_p0_mate (Int32.toNatClampNeg (((4 : Int32) * x1) + x2)))) (f_p0_mate (Int32.toNatClampNeg ((((4 : Int32) * x1) + x2) + (1 : Int32))))) (Int32.toNatClampNeg (f_p0_mate (Int32.toNatClampNeg ((((4 : Int32) * x1) + x2) + (1 : Int32))))) (f_p0_mate (Int32.toNatClampNeg (((4 : Int32) * x1) + x2)))) (Int32.toNatClampNeg (((4 : Int32) * x1) + ((x2 + (3 : Int32)) &&& (3 : Int32)))))) (Int32.toNatClampNeg ((upd (upd f_p0_mate (Int32.toNatClampNeg (f_p0_mate (Int32.toNatClampNeg (((4 : Int32) * x1) + x2)))) (f_p0_mate (Int32.toNatClampNeg ((((4 : Int32) * x1) + x2) + (1 : Int32))))) (Int32.toNatClampNeg (f_p0_mate (Int32.toNatClampNeg ((((4 : Int32) * x1) + x2) + (1 : Int32))))) (f_p0_mate (Int32.toNatClampNeg (((4 : Int32) * x1) + x2)))) (Int32.toNatClampNeg (((4 : Int32) * x1) + ((x2 + (3 : Int32)) &&& (3 : Int32)))))) ((upd (upd f_p0_mate (Int32.toNatClampNeg (f_p0_mate (Int32.toNatClampNeg (((4 : Int32) * x1) + x2)))) (f_p0_mate (Int32.toNatClampNeg ((((4 : Int32) * x1) + x2) + (1 : Int32))))) (Int32.toNatClampNeg (f_p0_mate (Int32.toNatClampNeg ((((4 : Int32) * x1) + x2) + (1 : Int32))))) (f_p0_mate (Int32.toNatClampNeg (((4 : Int32) * x1) + x2)))) (Int32.toNatClampNeg ((((4 : Int32) * x1) + x2) + (2 : Int32))))) f_p0_states) := hD
  refine lv_iload hx hb d_Ss_splitAs_102 (lv_at hl 3 rfl) ?_
  refine lv_iload hx hb d_Ss_splitAs_104 (lv_at hl 6 rfl) ?_
  refine lv_icmp_ne (tgt := 113) hx hb d_Ss_splitAs_106 (by decide) (fun hc => ?_) (fun hc => ?_)
  · rw [if_pos hc] at hm
    refine lv_iconst (v := 0) hx hb d_Ss_splitAs_113 (by decide) ?_
    exact w_Ss_splitAs_114 fl dd ks hks q_p0 q_p0_mate q_p0_states i_p0_crossings res C0 0 x1 x2 x3 x4 (((4 : Int32) * x1) + x2) ((((4 : Int32) * x1) + x2) + (1 : Int32)) ((((4 : Int32) * x1) + x2) + (2 : Int32)) (((4 : Int32) * x1) + ((x2 + (3 : Int32)) &&& (3 : Int32))) (f_p0_mate (Int32.toNatClampNeg (((4 : Int32) * x1) + x2))) (f_p0_mate (Int32.toNatClampNeg ((((4 : Int32) * x1) + x2) + (1 : Int32)))) ((upd (upd f_p0_mate (Int32.toNatClampNeg (f_p0_mate (Int32.toNatClampNeg (((4 : Int32) * x1) + x2)))) (f_p0_mate (Int32.toNatClampNeg ((((4 : Int32) * x1) + x2) + (1 : Int32))))) (Int32.toNatClampNeg (f_p0_mate (Int32.toNatClampNeg ((((4 : Int32) * x1) + x2) + (1 : Int32))))) (f_p0_mate (Int32.toNatClampNeg (((4 : Int32) * x1) + x2)))) (Int32.toNatClampNeg ((((4 : Int32) * x1) + x2) + (2 : Int32)))) ((upd (upd f_p0_mate (Int32.toNatClampNeg (f_p0_mate (Int32.toNatClampNeg (((4 : Int32) * x1) + x2)))) (f_p0_mate (Int32.toNatClampNeg ((((4 : Int32) * x1) + x2) + (1 : Int32))))) (Int32.toNatClampNeg (f_p0_mate (Int32.toNatClampNeg ((((4 : Int32) * x1) + x2) + (1 : Int32))))) (f_p0_mate (Int32.toNatClampNeg (((4 : Int32) * x1) + x2)))) (Int32.toNatClampNeg (((4 : Int32) * x1) + ((x2 + (3 : Int32)) &&& (3 : Int32))))) (upd (upd (upd (upd f_p0_mate (Int32.toNatClampNeg (f_p0_mate (Int32.toNatClampNeg (((4 : Int32) * x1) + x2)))) (f_p0_mate (Int32.toNatClampNeg ((((4 : Int32) * x1) + x2) + (1 : Int32))))) (Int32.toNatClampNeg (f_p0_mate (Int32.toNatClampNeg ((((4 : Int32) * x1) + x2) + (1 : Int32))))) (f_p0_mate (Int32.toNatClampNeg (((4 : Int32) * x1) + x2)))) (Int32.toNatClampNeg ((upd (upd f_p0_mate (Int32.toNatClampNeg (f_p0_mate (Int32.toNatClampNeg (((4 : Int32) * x1) + x2)))) (f_p0_mate (Int32.toNatClampNeg ((((4 : Int32) * x1) + x2) + (1 : Int32))))) (Int32.toNatClampNeg (f_p0_mate (Int32.toNatClampNeg ((((4 : Int32) * x1) + x2) + (1 : Int32))))) (f_p0_mate (Int32.toNatClampNeg (((4 : Int32) * x1) + x2)))) (Int32.toNatClampNeg ((((4 : Int32) * x1) + x2) + (2 : Int32))))) ((upd (upd f_p0_mate (Int32.toNatClampNeg (f_p0_mate (Int32.toNatClampNeg (((4 : Int32) * x1) + x2)))) (f_p0_mate (Int32.toNatClampNeg ((((4 : Int32) * x1) + x2) + (1 : Int32))))) (Int32.toNatClampNeg (f_p0_mate (Int32.toNatClampNeg ((((4 : Int32) * x1) + x2) + (1 : Int32))))) (f_p0_mate (Int32.toNatClampNeg (((4 : Int32) * x1) + x2)))) (Int32.toNatClampNeg (((4 : Int32) * x1) + ((x2 + (3 : Int32)) &&& (3 : Int32)))))) (Int32.toNatClampNeg ((upd (upd f_p0_mate (Int32.toNatClampNeg (f_p0_mate (Int32.toNatClampNeg (((4 : Int32) * x1) + x2)))) (f_p0_mate (Int32.toNatClampNeg ((((4 : Int32) * x1) + x2) + (1 : Int32))))) (Int32.toNatClampNeg (f_p0_mate (Int32.toNatClampNeg ((((4 : Int32) * x1) + x2) + (1 : Int32))))) (f_p0_mate (Int32.toNatClampNeg (((4 : Int32) * x1) + x2)))) (Int32.toNatClampNeg (((4 : Int32) * x1) + ((x2 + (3 : Int32)) &&& (3 : Int32)))))) ((upd (upd f_p0_mate (Int32.toNatClampNeg (f_p0_mate (Int32.toNatClampNeg (((4 : Int32) * x1) + x2)))) (f_p0_mate (Int32.toNatClampNeg ((((4 : Int32) * x1) + x2) + (1 : Int32))))) (Int32.toNatClampNeg (f_p0_mate (Int32.toNatClampNeg ((((4 : Int32) * x1) + x2) + (1 : Int32))))) (f_p0_mate (Int32.toNatClampNeg (((4 : Int32) * x1) + x2)))) (Int32.toNatClampNeg ((((4 : Int32) * x1) + x2) + (2 : Int32))))) f_p0_states _ _ _ hm hP hD hS (lv_sub hl [8, 9, 10, 11, 12, 7, 6, 5, 4, 3, 2, 1, 0] rfl)
  · rw [if_neg (fun q => q hc)] at hm
    refine lv_iconst (v := 1) hx hb d_Ss_splitAs_109 (by decide) ?_
    refine lv_goto (tgt := 114) hx hb d_Ss_splitAs_110 (by decide) ?_
    exact w_Ss_splitAs_114 fl dd ks hks q_p0 q_p0_mate q_p0_states i_p0_crossings res C0 1 x1 x2 x3 x4 (((4 : Int32) * x1) + x2) ((((4 : Int32) * x1) + x2) + (1 : Int32)) ((((4 : Int32) * x1) + x2) + (2 : Int32)) (((4 : Int32) * x1) + ((x2 + (3 : Int32)) &&& (3 : Int32))) (f_p0_mate (Int32.toNatClampNeg (((4 : Int32) * x1) + x2))) (f_p0_mate (Int32.toNatClampNeg ((((4 : Int32) * x1) + x2) + (1 : Int32)))) ((upd (upd f_p0_mate (Int32.toNatClampNeg (f_p0_mate (Int32.toNatClampNeg (((4 : Int32) * x1) + x2)))) (f_p0_mate (Int32.toNatClampNeg ((((4 : Int32) * x1) + x2) + (1 : Int32))))) (Int32.toNatClampNeg (f_p0_mate (Int32.toNatClampNeg ((((4 : Int32) * x1) + x2) + (1 : Int32))))) (f_p0_mate (Int32.toNatClampNeg (((4 : Int32) * x1) + x2)))) (Int32.toNatClampNeg ((((4 : Int32) * x1) + x2) + (2 : Int32)))) ((upd (upd f_p0_mate (Int32.toNatClampNeg (f_p0_mate (Int32.toNatClampNeg (((4 : Int32) * x1) + x2)))) (f_p0_mate (Int32.toNatClampNeg ((((4 : Int32) * x1) + x2) + (1 : Int32))))) (Int32.toNatClampNeg (f_p0_mate (Int32.toNatClampNeg ((((4 : Int32) * x1) + x2) + (1 : Int32))))) (f_p0_mate (Int32.toNatClampNeg (((4 : Int32) * x1) + x2)))) (Int32.toNatClampNeg (((4 : Int32) * x1) + ((x2 + (3 : Int32)) &&& (3 : Int32))))) (upd (upd (upd (upd f_p0_mate (Int32.toNatClampNeg (f_p0_mate (Int32.toNatClampNeg (((4 : Int32) * x1) + x2)))) (f_p0_mate (Int32.toNatClampNeg ((((4 : Int32) * x1) + x2) + (1 : Int32))))) (Int32.toNatClampNeg (f_p0_mate (Int32.toNatClampNeg ((((4 : Int32) * x1) + x2) + (1 : Int32))))) (f_p0_mate (Int32.toNatClampNeg (((4 : Int32) * x1) + x2)))) (Int32.toNatClampNeg ((upd (upd f_p0_mate (Int32.toNatClampNeg (f_p0_mate (Int32.toNatClampNeg (((4 : Int32) * x1) + x2)))) (f_p0_mate (Int32.toNatClampNeg ((((4 : Int32) * x1) + x2) + (1 : Int32))))) (Int32.toNatClampNeg (f_p0_mate (Int32.toNatClampNeg ((((4 : Int32) * x1) + x2) + (1 : Int32))))) (f_p0_mate (Int32.toNatClampNeg (((4 : Int32) * x1) + x2)))) (Int32.toNatClampNeg ((((4 : Int32) * x1) + x2) + (2 : Int32))))) ((upd (upd f_p0_mate (Int32.toNatClampNeg (f_p0_mate (Int32.toNatClampNeg (((4 : Int32) * x1) + x2)))) (f_p0_mate (Int32.toNatClampNeg ((((4 : Int32) * x1) + x2) + (1 : Int32))))) (Int32.toNatClampNeg (f_p0_mate (Int32.toNatClampNeg ((((4 : Int32) * x1) + x2) + (1 : Int32))))) (f_p0_mate (Int32.toNatClampNeg (((4 : Int32) * x1) + x2)))) (Int32.toNatClampNeg (((4 : Int32) * x1) + ((x2 + (3 : Int32)) &&& (3 : Int32)))))) (Int32.toNatClampNeg ((upd (upd f_p0_mate (Int32.toNatClampNeg (f_p0_mate (Int32.toNatClampNeg (((4 : Int32) * x1) + x2)))) (f_p0_mate (Int32.toNatClampNeg ((((4 : Int32) * x1) + x2) + (1 : Int32))))) (Int32.toNatClampNeg (f_p0_mate (Int32.toNatClampNeg ((((4 : Int32) * x1) + x2) + (1 : Int32))))) (f_p0_mate (Int32.toNatClampNeg (((4 : Int32) * x1) + x2)))) (Int32.toNatClampNeg (((4 : Int32) * x1) + ((x2 + (3 : Int32)) &&& (3 : Int32)))))) ((upd (upd f_p0_mate (Int32.toNatClampNeg (f_p0_mate (Int32.toNatClampNeg (((4 : Int32) * x1) + x2)))) (f_p0_mate (Int32.toNatClampNeg ((((4 : Int32) * x1) + x2) + (1 : Int32))))) (Int32.toNatClampNeg (f_p0_mate (Int32.toNatClampNeg ((((4 : Int32) * x1) + x2) + (1 : Int32))))) (f_p0_mate (Int32.toNatClampNeg (((4 : Int32) * x1) + x2)))) (Int32.toNatClampNeg ((((4 : Int32) * x1) + x2) + (2 : Int32))))) f_p0_states _ _ _ hm hP hD hS (lv_sub hl [8, 9, 10, 11, 12, 7, 6, 5, 4, 3, 2, 1, 0] rfl)
set_option maxHeartbeats 4000000 in
set_option maxRecDepth 100000 in
theorem k_Ss_splitAs (l : Launch) (D : va_G) (cI cJ cB : ClassId) (sa : Nat → Nat × Nat) (fl : Nat) (dd : Nat) (ks : Int32 → Int32 → Int32 → Int32 → (Nat → Int32) → (Nat → Int32) → Option ((Nat → Int32) × (Nat → Int32))) (hks : ∀ (q_p0 : Nat) (q_p0_mate : Nat) (q_p0_states : Nat) (i_p0_crossings : Int32) (f_p0_mate : Nat → Int32) (f_p0_states : Nat → Int32) (y1 y2 y3 : Int32) (z : (Nat → Int32) × (Nat → Int32)), ks i_p0_crossings y1 y2 y3 f_p0_mate f_p0_states = some z → MtV l y_Ss_split (.code y_Ss_split b_Ss_split 4 none :: CW) (rm_Ss_split dd) D [(cI, .int), (cJ, .long), (cB, .byte)] sa [.ref q_p0, .int y1, .int y2, .int y3] (ws_Ss_split cI cJ cB q_p0 q_p0_mate q_p0_states i_p0_crossings f_p0_mate f_p0_states) (fun (w : va_W) => w = (ws_Ss_split cI cJ cB q_p0 q_p0_mate q_p0_states i_p0_crossings z.1 z.2))) (q_p0 : Nat) (q_p0_mate : Nat) (q_p0_states : Nat) (i_p0_crossings : Int32) (f_p0_mate : Nat → Int32) (f_p0_states : Nat → Int32) (x1 : Int32) (x2 : Int32) (x3 : Int32) (x4 : Int32) (res : (Nat → Int32) × (Nat → Int32)) (hm : m_Ss_splitAs fl ks i_p0_crossings x1 x2 x3 x4 f_p0_mate f_p0_states = some res) : MtV l y_Ss_splitAs (.code y_Ss_splitAs b_Ss_splitAs 14 none :: CW) (rm_Ss_splitAs dd) D [(cI, .int), (cJ, .long), (cB, .byte)] sa [.ref q_p0, .int x1, .int x2, .int x3, .int x4] (ws_Ss_splitAs cI cJ cB q_p0 q_p0_mate q_p0_states i_p0_crossings f_p0_mate f_p0_states) (fun (w : va_W) => w = (ws_Ss_splitAs cI cJ cB q_p0 q_p0_mate q_p0_states i_p0_crossings res.1 res.2)) := by
  intro sz
  refine vz_start (Qc := fun A => va_Qv (fun (w : va_W) => w = (ws_Ss_splitAs cI cJ cB q_p0 q_p0_mate q_p0_states i_p0_crossings res.1 res.2)) (vz_B D A) A) (lv0 := [(0, .ref q_p0), (1, .int x1), (2, .int x2), (3, .int x3), (4, .int x4)]) (by decide +kernel) (Nat.le_of_ble_eq_true rfl) rfl ?_
  intro p e s m below meth c A ls C0 hl
  obtain ⟨hx, hb, hr, hml, hown, ht, hlocks, hin, hN, hK, hP, hD, hA, hS, hZ⟩ := C0
  exact w_Ss_splitAs_0 fl dd ks hks q_p0 q_p0_mate q_p0_states i_p0_crossings res ⟨hx, hb, hr, hml, hown, ht, hlocks, hin, hN, hK, hA, hZ⟩ x1 x2 x3 x4 f_p0_mate f_p0_states s.heap [] ls hm hP hD hS (lv_sub hl [0, 1, 2, 3, 4] rfl)
def ws_Ss_mostCircles (cI cJ cB : ClassId) (q_p0 : Nat) (q_p0_mate : Nat) (q_p0_states : Nat) (i_p0_crossings : Int32) (f_p0_states : Nat → Int32) : va_W := [(q_p0, .inr (9, [.ref q_p0_mate, .ref q_p0_states, .int i_p0_crossings])), (q_p0_states, .inl (cI, 630, .inl f_p0_states))]
def rm_Ss_mostCircles : Room := { frames := 0, cells := 0, slots := 0, locals := 0 }
def B_Ss_mostCircles_27 (fl : Nat) (f_p0_states : Nat → Int32) (kb_4 : Int32 → Int32 → Option (Int32)) (x1 : Int32) (x2 : Int32) : Option (Int32) := kb_4 x1 (x2 + 1)
def B_Ss_mostCircles_4 (fl : Nat) (f_p0_states : Nat → Int32) : Nat → Int32 → Int32 → Option (Int32)
  | 0, _, _ => none
  | nn + 1, x1, x2 => (if (630 : Int32) ≤ x2 then (some x1) else (if ¬ (x2 < 0 ∨ 630 ≤ Int32.toNatClampNeg x2) then (if (f_p0_states (Int32.toNatClampNeg x2)) = (0 : Int32) then B_Ss_mostCircles_27 fl f_p0_states (B_Ss_mostCircles_4 fl f_p0_states nn) x1 x2 else (if ¬ (21 : Int32) = 0 then B_Ss_mostCircles_27 fl f_p0_states (B_Ss_mostCircles_4 fl f_p0_states nn) (x2 / (21 : Int32)) x2 else none)) else none))
def B_Ss_mostCircles_0 (fl : Nat) (f_p0_states : Nat → Int32) : Option (Int32) := B_Ss_mostCircles_4 fl f_p0_states fl 0 0
def m_Ss_mostCircles (fl : Nat) (f_p0_states : Nat → Int32) : Option (Int32) := B_Ss_mostCircles_0 fl f_p0_states
set_option maxHeartbeats 4000000 in
set_option maxRecDepth 100000 in
theorem w_Ss_mostCircles_27 {p : Program} {l : Launch} {e : Env} {s : State} {m : MethodId} {args : Array Value} {below : List Frame} {meth : Method} {c : Code} {D : va_G} {cI cJ cB : ClassId} {sa : Nat → Nat × Nat} {A : Nat → Prop} (fl : Nat) (q_p0 : Nat) (q_p0_mate : Nat) (q_p0_states : Nat) (f_p0_states : Nat → Int32) (i_p0_crossings : Int32) (res : Int32) (C0 : vz_Cx p s m meth c b_Ss_mostCircles 3 (some .int) "LinkEngine$StateSum" "mostCircles" D [(cI, .int), (cJ, .long), (cB, .byte)] sa A args) (kb_4 : Int32 → Int32 → Option (Int32)) (hk_4 : ∀ (x1 : Int32) (x2 : Int32) (H : Heap) (locs : List Loc) (ls : Array Slot), kb_4 x1 x2 = some res → va_P D classes (ws_Ss_mostCircles cI cJ cB q_p0 q_p0_mate q_p0_states i_p0_crossings f_p0_states) H → va_D A (ws_Ss_mostCircles cI cJ cB q_p0 q_p0_mate q_p0_states i_p0_crossings f_p0_states) → va_S A s.heap H locs → lv_has ls 3 [(0, .ref q_p0), (1, .int x1), (2, .int x2)] → W p l e rm_Ss_mostCircles s m args below meth c H locs 0 0 (MQ below (va_Qi (fun (r : Int32) (w : va_W) => r = res ∧ w = (ws_Ss_mostCircles cI cJ cB q_p0 q_p0_mate q_p0_states i_p0_crossings f_p0_states)) (vz_B D A) A) args s 0 0 A) (F0 m 4 ls [])) : ∀ (x1 : Int32) (x2 : Int32) (H : Heap) (locs : List Loc) (ls : Array Slot), B_Ss_mostCircles_27 fl f_p0_states kb_4 x1 x2 = some res → va_P D classes (ws_Ss_mostCircles cI cJ cB q_p0 q_p0_mate q_p0_states i_p0_crossings f_p0_states) H → va_D A (ws_Ss_mostCircles cI cJ cB q_p0 q_p0_mate q_p0_states i_p0_crossings f_p0_states) → va_S A s.heap H locs → lv_has ls 3 [(0, .ref q_p0), (1, .int x1), (2, .int x2)] → W p l e rm_Ss_mostCircles s m args below meth c H locs 0 0 (MQ below (va_Qi (fun (r : Int32) (w : va_W) => r = res ∧ w = (ws_Ss_mostCircles cI cJ cB q_p0 q_p0_mate q_p0_states i_p0_crossings f_p0_states)) (vz_B D A) A) args s 0 0 A) (F0 m 27 ls []) := by
  obtain ⟨hx, hb, hr, hml, hown, ht, hlocks, hin, hN, hK, hA, hZ⟩ := id C0
  intro x1 x2 H locs ls hm hP hD hS hl
  unfold B_Ss_mostCircles_27 at hm
  refine lv_iinc (v := (x2 + 1)) (lv' := [(2, .int (x2 + 1)), (0, .ref q_p0), (1, .int x1)]) hx hb d_Ss_mostCircles_27 hl (k := 2) rfl rfl (by decide) rfl (fun ls hl => ?_)
  refine lv_goto (tgt := 4) hx hb d_Ss_mostCircles_30 (by decide) ?_
  exact hk_4 x1 (x2 + 1) _ _ _ hm hP hD hS (lv_sub hl [1, 2, 0] rfl)
set_option maxHeartbeats 4000000 in
set_option maxRecDepth 100000 in
theorem w_Ss_mostCircles_4 {p : Program} {l : Launch} {e : Env} {s : State} {m : MethodId} {args : Array Value} {below : List Frame} {meth : Method} {c : Code} {D : va_G} {cI cJ cB : ClassId} {sa : Nat → Nat × Nat} {A : Nat → Prop} (fl : Nat) (q_p0 : Nat) (q_p0_mate : Nat) (q_p0_states : Nat) (f_p0_states : Nat → Int32) (i_p0_crossings : Int32) (res : Int32) (C0 : vz_Cx p s m meth c b_Ss_mostCircles 3 (some .int) "LinkEngine$StateSum" "mostCircles" D [(cI, .int), (cJ, .long), (cB, .byte)] sa A args) : ∀ (nn : Nat), ∀ (x1 : Int32) (x2 : Int32) (H : Heap) (locs : List Loc) (ls : Array Slot), B_Ss_mostCircles_4 fl f_p0_states nn x1 x2 = some res → va_P D classes (ws_Ss_mostCircles cI cJ cB q_p0 q_p0_mate q_p0_states i_p0_crossings f_p0_states) H → va_D A (ws_Ss_mostCircles cI cJ cB q_p0 q_p0_mate q_p0_states i_p0_crossings f_p0_states) → va_S A s.heap H locs → lv_has ls 3 [(0, .ref q_p0), (1, .int x1), (2, .int x2)] → W p l e rm_Ss_mostCircles s m args below meth c H locs 0 0 (MQ below (va_Qi (fun (r : Int32) (w : va_W) => r = res ∧ w = (ws_Ss_mostCircles cI cJ cB q_p0 q_p0_mate q_p0_states i_p0_crossings f_p0_states)) (vz_B D A) A) args s 0 0 A) (F0 m 4 ls []) := by
  obtain ⟨hx, hb, hr, hml, hown, ht, hlocks, hin, hN, hK, hA, hZ⟩ := id C0
  intro nn
  induction nn with
  | zero =>
    intro x1 x2 H locs ls hm hP hD hS hl
    rw [B_Ss_mostCircles_4] at hm
    cases hm
  | succ nn ih =>
    intro x1 x2 H locs ls hm hP hD hS hl
    rw [B_Ss_mostCircles_4] at hm
    refine lv_iload_n hx hb d_Ss_mostCircles_4 rfl (lv_at hl 2 rfl) ?_
    refine lv_aload_n hx hb d_Ss_mostCircles_5 rfl (lv_at hl 0 rfl) ?_
    refine va_get (D := D) (ci := 9) (v := .ref q_p0_states) (C := R_Ss) (T := F_Ss) (N := 3) hx hb ht i_Ss hown hK hP 0 rfl rfl 1 (Nat.le_of_ble_eq_true rfl) (ht _ m_24) (fun _ h9 => h9) rfl d_Ss_mostCircles_6 ?_
    refine va_alen (v := 630) hx hb hK hP 1 0 rfl rfl rfl d_Ss_mostCircles_9 ?_
    refine lv_icmp_ge (tgt := 33) hx hb d_Ss_mostCircles_10 (by decide) (fun hc => ?_) (fun hc => ?_)
    · rw [if_pos hc] at hm
      refine lv_iload_n hx hb d_Ss_mostCircles_33 rfl (lv_at hl 1 rfl) ?_
      obtain rfl := Option.some.inj hm
      exact vz_iret hx hb hr rfl hlocks hP hD hS (Nat.le_refl _) (Nat.le_refl _) d_Ss_mostCircles_34 ⟨rfl, rfl⟩
    · rw [if_neg hc] at hm
      refine lv_aload_n hx hb d_Ss_mostCircles_13 rfl (lv_at hl 0 rfl) ?_
      refine va_get (D := D) (ci := 9) (v := .ref q_p0_states) (C := R_Ss) (T := F_Ss) (N := 3) hx hb ht i_Ss hown hK hP 0 rfl rfl 1 (Nat.le_of_ble_eq_true rfl) (ht _ m_24) (fun _ h9 => h9) rfl d_Ss_mostCircles_14 ?_
      refine lv_iload_n hx hb d_Ss_mostCircles_17 rfl (lv_at hl 2 rfl) ?_
      obtain ⟨hg, hm⟩ := vz_guard hm
      refine va_iald hx hb hK hP 1 0 rfl rfl hg d_Ss_mostCircles_18 ?_
      refine lv_if_eq (tgt := 27) hx hb d_Ss_mostCircles_19 (by decide) (fun hc => ?_) (fun hc => ?_)
      · rw [if_pos hc] at hm
        exact w_Ss_mostCircles_27 fl q_p0 q_p0_mate q_p0_states f_p0_states i_p0_crossings res C0 (B_Ss_mostCircles_4 fl f_p0_states nn) ih x1 x2 _ _ _ hm hP hD hS (lv_sub hl [0, 1, 2] rfl)
      · rw [if_neg hc] at hm
        refine lv_iload_n hx hb d_Ss_mostCircles_22 rfl (lv_at hl 2 rfl) ?_
        refine lv_bipush (v := 21) hx hb d_Ss_mostCircles_23 (by decide +kernel) ?_
        obtain ⟨hg, hm⟩ := vz_guard hm
        refine lv_idiv hx hb d_Ss_mostCircles_25 hg ?_
        refine lv_istore_n (lv' := [(1, .int (x2 / (21 : Int32))), (0, .ref q_p0), (2, .int x2)]) hx hb d_Ss_mostCircles_26 rfl hl (by decide) rfl (fun ls hl => ?_)
        exact w_Ss_mostCircles_27 fl q_p0 q_p0_mate q_p0_states f_p0_states i_p0_crossings res C0 (B_Ss_mostCircles_4 fl f_p0_states nn) ih (x2 / (21 : Int32)) x2 _ _ _ hm hP hD hS (lv_sub hl [1, 0, 2] rfl)
set_option maxHeartbeats 4000000 in
set_option maxRecDepth 100000 in
theorem w_Ss_mostCircles_0 {p : Program} {l : Launch} {e : Env} {s : State} {m : MethodId} {args : Array Value} {below : List Frame} {meth : Method} {c : Code} {D : va_G} {cI cJ cB : ClassId} {sa : Nat → Nat × Nat} {A : Nat → Prop} (fl : Nat) (q_p0 : Nat) (q_p0_mate : Nat) (q_p0_states : Nat) (f_p0_states : Nat → Int32) (i_p0_crossings : Int32) (res : Int32) (C0 : vz_Cx p s m meth c b_Ss_mostCircles 3 (some .int) "LinkEngine$StateSum" "mostCircles" D [(cI, .int), (cJ, .long), (cB, .byte)] sa A args) : ∀ (H : Heap) (locs : List Loc) (ls : Array Slot), B_Ss_mostCircles_0 fl f_p0_states = some res → va_P D classes (ws_Ss_mostCircles cI cJ cB q_p0 q_p0_mate q_p0_states i_p0_crossings f_p0_states) H → va_D A (ws_Ss_mostCircles cI cJ cB q_p0 q_p0_mate q_p0_states i_p0_crossings f_p0_states) → va_S A s.heap H locs → lv_has ls 3 [(0, .ref q_p0)] → W p l e rm_Ss_mostCircles s m args below meth c H locs 0 0 (MQ below (va_Qi (fun (r : Int32) (w : va_W) => r = res ∧ w = (ws_Ss_mostCircles cI cJ cB q_p0 q_p0_mate q_p0_states i_p0_crossings f_p0_states)) (vz_B D A) A) args s 0 0 A) (F0 m 0 ls []) := by
  obtain ⟨hx, hb, hr, hml, hown, ht, hlocks, hin, hN, hK, hA, hZ⟩ := id C0
  intro H locs ls hm hP hD hS hl
  unfold B_Ss_mostCircles_0 at hm
  refine lv_iconst (v := 0) hx hb d_Ss_mostCircles_0 (by decide) ?_
  refine lv_istore_n (lv' := [(1, .int 0), (0, .ref q_p0)]) hx hb d_Ss_mostCircles_1 rfl hl (by decide) rfl (fun ls hl => ?_)
  refine lv_iconst (v := 0) hx hb d_Ss_mostCircles_2 (by decide) ?_
  refine lv_istore_n (lv' := [(2, .int 0), (1, .int 0), (0, .ref q_p0)]) hx hb d_Ss_mostCircles_3 rfl hl (by decide) rfl (fun ls hl => ?_)
  exact w_Ss_mostCircles_4 fl q_p0 q_p0_mate q_p0_states f_p0_states i_p0_crossings res C0 fl 0 0 _ _ _ hm hP hD hS (lv_sub hl [2, 1, 0] rfl)
set_option maxHeartbeats 4000000 in
set_option maxRecDepth 100000 in
theorem k_Ss_mostCircles (l : Launch) (D : va_G) (cI cJ cB : ClassId) (sa : Nat → Nat × Nat) (fl : Nat) (q_p0 : Nat) (q_p0_mate : Nat) (q_p0_states : Nat) (f_p0_states : Nat → Int32) (i_p0_crossings : Int32)  (res : Int32) (hm : m_Ss_mostCircles fl f_p0_states = some res) : MtI l y_Ss_mostCircles (.code y_Ss_mostCircles b_Ss_mostCircles 3 (some .int) :: CW) rm_Ss_mostCircles D [(cI, .int), (cJ, .long), (cB, .byte)] sa [.ref q_p0] (ws_Ss_mostCircles cI cJ cB q_p0 q_p0_mate q_p0_states i_p0_crossings f_p0_states) (fun (r : Int32) (w : va_W) => r = res ∧ w = (ws_Ss_mostCircles cI cJ cB q_p0 q_p0_mate q_p0_states i_p0_crossings f_p0_states)) := by
  intro sz
  refine vz_start (Qc := fun A => va_Qi (fun (r : Int32) (w : va_W) => r = res ∧ w = (ws_Ss_mostCircles cI cJ cB q_p0 q_p0_mate q_p0_states i_p0_crossings f_p0_states)) (vz_B D A) A) (lv0 := [(0, .ref q_p0)]) (by decide +kernel) (Nat.le_of_ble_eq_true rfl) rfl ?_
  intro p e s m below meth c A ls C0 hl
  obtain ⟨hx, hb, hr, hml, hown, ht, hlocks, hin, hN, hK, hP, hD, hA, hS, hZ⟩ := C0
  exact w_Ss_mostCircles_0 fl q_p0 q_p0_mate q_p0_states f_p0_states i_p0_crossings res ⟨hx, hb, hr, hml, hown, ht, hlocks, hin, hN, hK, hA, hZ⟩  s.heap [] ls hm hP hD hS (lv_sub hl [0] rfl)
def ws_Po_timesCircle (cI cJ cB : ClassId) (q_p0 : Nat) (q_p0_term : Nat) (i_p0_raise : Int32) (i_p0_sign : Int32) (f_p0_term : Nat → Int64) : va_W := [(q_p0, .inr (8, [.ref q_p0_term, .int i_p0_raise, .int i_p0_sign])), (q_p0_term, .inl (cJ, 161, .inr (.inl f_p0_term)))]
def rm_Po_timesCircle : Room := { frames := 0, cells := 0, slots := 0, locals := 0 }
def B_Po_timesCircle_8 (fl : Nat) : Nat → Int32 → Int64 → Int32 → (Nat → Int64) → Option ((Nat → Int64))
  | 0, _, _, _, _ => none
  | nn + 1, x1, x2, x4, f_p0_term => (if (x1 + (2 : Int32)) < x4 then (some f_p0_term) else (if (80 : Int32) < (x1 + (4 : Int32)) then (some f_p0_term) else (if ¬ ((x4 + (80 : Int32)) < 0 ∨ 161 ≤ Int32.toNatClampNeg (x4 + (80 : Int32))) then (if ¬ (((x4 + (2 : Int32)) + (80 : Int32)) < 0 ∨ 161 ≤ Int32.toNatClampNeg ((x4 + (2 : Int32)) + (80 : Int32))) then (if ¬ ((x4 + (80 : Int32)) < 0 ∨ 161 ≤ Int32.toNatClampNeg (x4 + (80 : Int32))) then B_Po_timesCircle_8 fl nn x1 (f_p0_term (Int32.toNatClampNeg (x4 + (80 : Int32)))) (x4 + 2) (vp_updL f_p0_term (Int32.toNatClampNeg (x4 + (80 : Int32))) ((-x2) - (f_p0_term (Int32.toNatClampNeg ((x4 + (2 : Int32)) + (80 : Int32)))))) else none) else none) else none)))
def B_Po_timesCircle_0 (fl : Nat) (x1 : Int32) (f_p0_term : Nat → Int64) : Option ((Nat → Int64)) := B_Po_timesCircle_8 fl fl x1 0 ((-x1) - (2 : Int32)) f_p0_term
def m_Po_timesCircle (fl : Nat) (x1 : Int32) (f_p0_term : Nat → Int64) : Option ((Nat → Int64)) := B_Po_timesCircle_0 fl  x1 f_p0_term
set_option maxHeartbeats 4000000 in
set_option maxRecDepth 100000 in
theorem w_Po_timesCircle_8 {p : Program} {l : Launch} {e : Env} {s : State} {m : MethodId} {args : Array Value} {below : List Frame} {meth : Method} {c : Code} {D : va_G} {cI cJ cB : ClassId} {sa : Nat → Nat × Nat} {A : Nat → Prop} (fl : Nat) (q_p0 : Nat) (q_p0_term : Nat) (i_p0_raise : Int32) (i_p0_sign : Int32) (res : (Nat → Int64)) (C0 : vz_Cx p s m meth c b_Po_timesCircle 7 none "LinkEngine$Polynomial" "timesCircle" D [(cI, .int), (cJ, .long), (cB, .byte)] sa A args) : ∀ (nn : Nat), ∀ (x1 : Int32) (x2 : Int64) (x4 : Int32) (f_p0_term : Nat → Int64) (H : Heap) (locs : List Loc) (ls : Array Slot), B_Po_timesCircle_8 fl nn x1 x2 x4 f_p0_term = some res → va_P D classes (ws_Po_timesCircle cI cJ cB q_p0 q_p0_term i_p0_raise i_p0_sign f_p0_term) H → va_D A (ws_Po_timesCircle cI cJ cB q_p0 q_p0_term i_p0_raise i_p0_sign f_p0_term) → va_S A s.heap H locs → lv_has ls 7 [(0, .ref q_p0), (1, .int x1), (2, .long x2), (4, .int x4)] → W p l e rm_Po_timesCircle s m args below meth c H locs 0 0 (MQ below (va_Qv (fun (w : va_W) => w = (ws_Po_timesCircle cI cJ cB q_p0 q_p0_term i_p0_raise i_p0_sign res)) (vz_B D A) A) args s 0 0 A) (F0 m 8 ls []) := by
  obtain ⟨hx, hb, hr, hml, hown, ht, hlocks, hin, hN, hK, hA, hZ⟩ := id C0
  intro nn
  induction nn with
  | zero =>
    intro x1 x2 x4 f_p0_term H locs ls hm hP hD hS hl
    rw [B_Po_timesCircle_8] at hm
    cases hm
  | succ nn ih =>
    intro x1 x2 x4 f_p0_term H locs ls hm hP hD hS hl
    rw [B_Po_timesCircle_8] at hm
    refine lv_iload hx hb d_Po_timesCircle_8 (lv_at hl 3 rfl) ?_
    refine lv_iload_n hx hb d_Po_timesCircle_10 rfl (lv_at hl 1 rfl) ?_
    refine lv_iconst (v := 2) hx hb d_Po_timesCircle_11 (by decide) ?_
    refine lv_iadd hx hb d_Po_timesCircle_12 ?_
    refine lv_icmp_gt (tgt := 70) hx hb d_Po_timesCircle_13 (by decide) (fun hc => ?_) (fun hc => ?_)
    · rw [if_pos hc] at hm
      obtain rfl := Option.some.inj hm
      exact vz_vret hx hb hr hlocks hP hD hS (Nat.le_refl _) (Nat.le_refl _) d_Po_timesCircle_70 rfl
    · rw [if_neg hc] at hm
      refine lv_iload_n hx hb d_Po_timesCircle_16 rfl (lv_at hl 1 rfl) ?_
      refine lv_iconst (v := 4) hx hb d_Po_timesCircle_17 (by decide) ?_
      refine lv_iadd hx hb d_Po_timesCircle_18 ?_
      refine lv_bipush (v := 80) hx hb d_Po_timesCircle_19 (by decide +kernel) ?_
      refine lv_icmp_gt (tgt := 70) hx hb d_Po_timesCircle_21 (by decide) (fun hc => ?_) (fun hc => ?_)
      · rw [if_pos hc] at hm
        obtain rfl := Option.some.inj hm
        exact vz_vret hx hb hr hlocks hP hD hS (Nat.le_refl _) (Nat.le_refl _) d_Po_timesCircle_70 rfl
      · rw [if_neg hc] at hm
        refine lv_aload_n hx hb d_Po_timesCircle_24 rfl (lv_at hl 0 rfl) ?_
        refine va_get (D := D) (ci := 8) (v := .ref q_p0_term) (C := R_Po) (T := F_Po) (N := 3) hx hb ht i_Po hown hK hP 0 rfl rfl 0 (Nat.le_of_ble_eq_true rfl) (ht _ m_29) (fun _ h9 => h9) rfl d_Po_timesCircle_25 ?_
        refine lv_iload hx hb d_Po_timesCircle_28 (lv_at hl 3 rfl) ?_
        refine lv_bipush (v := 80) hx hb d_Po_timesCircle_30 (by decide +kernel) ?_
        refine lv_iadd hx hb d_Po_timesCircle_32 ?_
        obtain ⟨hg, hm⟩ := vz_guard hm
        refine va_lald hx hb hK hP 1 1 rfl rfl hg d_Po_timesCircle_33 ?_
        refine lv_lstore (lv' := [(5, .long (f_p0_term (Int32.toNatClampNeg (x4 + (80 : Int32))))), (0, .ref q_p0), (1, .int x1), (2, .long x2), (4, .int x4)]) hx hb d_Po_timesCircle_34 hl (by decide) rfl (fun ls hl => ?_)
        refine lv_aload_n hx hb d_Po_timesCircle_36 rfl (lv_at hl 1 rfl) ?_
        refine va_get (D := D) (ci := 8) (v := .ref q_p0_term) (C := R_Po) (T := F_Po) (N := 3) hx hb ht i_Po hown hK hP 0 rfl rfl 0 (Nat.le_of_ble_eq_true rfl) (ht _ m_29) (fun _ h9 => h9) rfl d_Po_timesCircle_37 ?_
        refine lv_iload hx hb d_Po_timesCircle_40 (lv_at hl 4 rfl) ?_
        refine lv_bipush (v := 80) hx hb d_Po_timesCircle_42 (by decide +kernel) ?_
        refine lv_iadd hx hb d_Po_timesCircle_44 ?_
        refine lv_lload_n hx hb d_Po_timesCircle_45 rfl (lv_at hl 3 rfl) ?_
        refine lv_lneg hx hb d_Po_timesCircle_46 ?_
        refine lv_aload_n hx hb d_Po_timesCircle_47 rfl (lv_at hl 1 rfl) ?_
        refine va_get (D := D) (ci := 8) (v := .ref q_p0_term) (C := R_Po) (T := F_Po) (N := 3) hx hb ht i_Po hown hK hP 0 rfl rfl 0 (Nat.le_of_ble_eq_true rfl) (ht _ m_29) (fun _ h9 => h9) rfl d_Po_timesCircle_48 ?_
        refine lv_iload hx hb d_Po_timesCircle_51 (lv_at hl 4 rfl) ?_
        refine lv_iconst (v := 2) hx hb d_Po_timesCircle_53 (by decide) ?_
        refine lv_iadd hx hb d_Po_timesCircle_54 ?_
        refine lv_bipush (v := 80) hx hb d_Po_timesCircle_55 (by decide +kernel) ?_
        refine lv_iadd hx hb d_Po_timesCircle_57 ?_
        obtain ⟨hg, hm⟩ := vz_guard hm
        refine va_lald hx hb hK hP 1 1 rfl rfl hg d_Po_timesCircle_58 ?_
        refine lv_lsub hx hb d_Po_timesCircle_59 ?_
        obtain ⟨hg, hm⟩ := vz_guard hm
        refine va_last hx hb hK hP hD hS 1 1 rfl rfl hg d_Po_timesCircle_60 (fun H locs hP hD hS => ?_)
        have hP : va_P D classes (ws_Po_timesCircle cI cJ cB q_p0 q_p0_term i_p0_raise i_p0_sign (vp_updL f_p0_term (Int32.toNatClampNeg (x4 + (80 : Int32))) ((-x2) - (f_p0_term (Int32.toNatClampNeg ((x4 + (2 : Int32)) + (80 : Int32))))))) H := hP
        have hD : va_D A (ws_Po_timesCircle cI cJ cB q_p0 q_p0_term i_p0_raise i_p0_sign (vp_updL f_p0_term (Int32.toNatClampNeg (x4 + (80 : Int32))) ((-x2) - (f_p0_term (Int32.toNatClampNeg ((x4 + (2 : Int32)) + (80 : Int32))))))) := hD
        refine lv_lload hx hb d_Po_timesCircle_61 (lv_at hl 0 rfl) ?_
        refine lv_lstore_n (lv' := [(2, .long (f_p0_term (Int32.toNatClampNeg (x4 + (80 : Int32))))), (5, .long (f_p0_term (Int32.toNatClampNeg (x4 + (80 : Int32))))), (0, .ref q_p0), (1, .int x1), (4, .int x4)]) hx hb d_Po_timesCircle_63 rfl hl (by decide) rfl (fun ls hl => ?_)
        refine lv_iinc (v := (x4 + 2)) (lv' := [(4, .int (x4 + 2)), (2, .long (f_p0_term (Int32.toNatClampNeg (x4 + (80 : Int32))))), (5, .long (f_p0_term (Int32.toNatClampNeg (x4 + (80 : Int32))))), (0, .ref q_p0), (1, .int x1)]) hx hb d_Po_timesCircle_64 hl (k := 4) rfl rfl (by decide) rfl (fun ls hl => ?_)
        refine lv_goto (tgt := 8) hx hb d_Po_timesCircle_67 (by decide) ?_
        exact ih x1 (f_p0_term (Int32.toNatClampNeg (x4 + (80 : Int32)))) (x4 + 2) (vp_updL f_p0_term (Int32.toNatClampNeg (x4 + (80 : Int32))) ((-x2) - (f_p0_term (Int32.toNatClampNeg ((x4 + (2 : Int32)) + (80 : Int32)))))) _ _ _ hm hP hD hS (lv_sub hl [3, 4, 1, 0] rfl)
set_option maxHeartbeats 4000000 in
set_option maxRecDepth 100000 in
theorem w_Po_timesCircle_0 {p : Program} {l : Launch} {e : Env} {s : State} {m : MethodId} {args : Array Value} {below : List Frame} {meth : Method} {c : Code} {D : va_G} {cI cJ cB : ClassId} {sa : Nat → Nat × Nat} {A : Nat → Prop} (fl : Nat) (q_p0 : Nat) (q_p0_term : Nat) (i_p0_raise : Int32) (i_p0_sign : Int32) (res : (Nat → Int64)) (C0 : vz_Cx p s m meth c b_Po_timesCircle 7 none "LinkEngine$Polynomial" "timesCircle" D [(cI, .int), (cJ, .long), (cB, .byte)] sa A args) : ∀ (x1 : Int32) (f_p0_term : Nat → Int64) (H : Heap) (locs : List Loc) (ls : Array Slot), B_Po_timesCircle_0 fl x1 f_p0_term = some res → va_P D classes (ws_Po_timesCircle cI cJ cB q_p0 q_p0_term i_p0_raise i_p0_sign f_p0_term) H → va_D A (ws_Po_timesCircle cI cJ cB q_p0 q_p0_term i_p0_raise i_p0_sign f_p0_term) → va_S A s.heap H locs → lv_has ls 7 [(0, .ref q_p0), (1, .int x1)] → W p l e rm_Po_timesCircle s m args below meth c H locs 0 0 (MQ below (va_Qv (fun (w : va_W) => w = (ws_Po_timesCircle cI cJ cB q_p0 q_p0_term i_p0_raise i_p0_sign res)) (vz_B D A) A) args s 0 0 A) (F0 m 0 ls []) := by
  obtain ⟨hx, hb, hr, hml, hown, ht, hlocks, hin, hN, hK, hA, hZ⟩ := id C0
  intro x1 f_p0_term H locs ls hm hP hD hS hl
  unfold B_Po_timesCircle_0 at hm
  refine lv_lconst (v := 0) hx hb d_Po_timesCircle_0 (by decide) ?_
  refine lv_lstore_n (lv' := [(2, .long 0), (0, .ref q_p0), (1, .int x1)]) hx hb d_Po_timesCircle_1 rfl hl (by decide) rfl (fun ls hl => ?_)
  refine lv_iload_n hx hb d_Po_timesCircle_2 rfl (lv_at hl 2 rfl) ?_
  refine lv_ineg hx hb d_Po_timesCircle_3 ?_
  refine lv_iconst (v := 2) hx hb d_Po_timesCircle_4 (by decide) ?_
  refine lv_isub hx hb d_Po_timesCircle_5 ?_
  refine lv_istore (lv' := [(4, .int ((-x1) - (2 : Int32))), (2, .long 0), (0, .ref q_p0), (1, .int x1)]) hx hb d_Po_timesCircle_6 hl (by decide) rfl (fun ls hl => ?_)
  exact w_Po_timesCircle_8 fl q_p0 q_p0_term i_p0_raise i_p0_sign res C0 fl x1 0 ((-x1) - (2 : Int32)) f_p0_term _ _ _ hm hP hD hS (lv_sub hl [2, 3, 1, 0] rfl)
set_option maxHeartbeats 4000000 in
set_option maxRecDepth 100000 in
theorem k_Po_timesCircle (l : Launch) (D : va_G) (cI cJ cB : ClassId) (sa : Nat → Nat × Nat) (fl : Nat) (q_p0 : Nat) (q_p0_term : Nat) (i_p0_raise : Int32) (i_p0_sign : Int32) (f_p0_term : Nat → Int64) (x1 : Int32) (res : (Nat → Int64)) (hm : m_Po_timesCircle fl x1 f_p0_term = some res) : MtV l y_Po_timesCircle (.code y_Po_timesCircle b_Po_timesCircle 7 none :: CW) rm_Po_timesCircle D [(cI, .int), (cJ, .long), (cB, .byte)] sa [.ref q_p0, .int x1] (ws_Po_timesCircle cI cJ cB q_p0 q_p0_term i_p0_raise i_p0_sign f_p0_term) (fun (w : va_W) => w = (ws_Po_timesCircle cI cJ cB q_p0 q_p0_term i_p0_raise i_p0_sign res)) := by
  intro sz
  refine vz_start (Qc := fun A => va_Qv (fun (w : va_W) => w = (ws_Po_timesCircle cI cJ cB q_p0 q_p0_term i_p0_raise i_p0_sign res)) (vz_B D A) A) (lv0 := [(0, .ref q_p0), (1, .int x1)]) (by decide +kernel) (Nat.le_of_ble_eq_true rfl) rfl ?_
  intro p e s m below meth c A ls C0 hl
  obtain ⟨hx, hb, hr, hml, hown, ht, hlocks, hin, hN, hK, hP, hD, hA, hS, hZ⟩ := C0
  exact w_Po_timesCircle_0 fl q_p0 q_p0_term i_p0_raise i_p0_sign res ⟨hx, hb, hr, hml, hown, ht, hlocks, hin, hN, hK, hA, hZ⟩ x1 f_p0_term s.heap [] ls hm hP hD hS (lv_sub hl [0, 1] rfl)
def ws_Po_timesFrame (cI cJ cB : ClassId) (q_p0 : Nat) (q_p0_term : Nat) (i_p0_raise : Int32) (i_p0_sign : Int32) : va_W := [(q_p0, .inr (8, [.ref q_p0_term, .int i_p0_raise, .int i_p0_sign]))]
def rm_Po_timesFrame : Room := { frames := 0, cells := 0, slots := 0, locals := 0 }
def B_Po_timesFrame_0 (fl : Nat) (x1 : Int32) (i_p0_raise : Int32) (i_p0_sign : Int32) : Option (Int32 × Int32) := (if ¬ (x1 &&& (1 : Int32)) = (1 : Int32) then (some ((i_p0_raise + ((3 : Int32) * x1)), i_p0_sign)) else (some ((i_p0_raise + ((3 : Int32) * x1)), (-i_p0_sign))))
def m_Po_timesFrame (fl : Nat) (x1 : Int32) (i_p0_raise : Int32) (i_p0_sign : Int32) : Option (Int32 × Int32) := B_Po_timesFrame_0 fl  x1 i_p0_raise i_p0_sign
set_option maxHeartbeats 4000000 in
set_option maxRecDepth 100000 in
theorem w_Po_timesFrame_0 {p : Program} {l : Launch} {e : Env} {s : State} {m : MethodId} {args : Array Value} {below : List Frame} {meth : Method} {c : Code} {D : va_G} {cI cJ cB : ClassId} {sa : Nat → Nat × Nat} {A : Nat → Prop} (fl : Nat) (q_p0 : Nat) (q_p0_term : Nat)  (res : Int32 × Int32) (C0 : vz_Cx p s m meth c b_Po_timesFrame 2 none "LinkEngine$Polynomial" "timesFrame" D [(cI, .int), (cJ, .long), (cB, .byte)] sa A args) : ∀ (x1 : Int32) (i_p0_raise : Int32) (i_p0_sign : Int32) (H : Heap) (locs : List Loc) (ls : Array Slot), B_Po_timesFrame_0 fl x1 i_p0_raise i_p0_sign = some res → va_P D classes (ws_Po_timesFrame cI cJ cB q_p0 q_p0_term i_p0_raise i_p0_sign) H → va_D A (ws_Po_timesFrame cI cJ cB q_p0 q_p0_term i_p0_raise i_p0_sign) → va_S A s.heap H locs → lv_has ls 2 [(0, .ref q_p0), (1, .int x1)] → W p l e rm_Po_timesFrame s m args below meth c H locs 0 0 (MQ below (va_Qv (fun (w : va_W) => w = (ws_Po_timesFrame cI cJ cB q_p0 q_p0_term res.1 res.2)) (vz_B D A) A) args s 0 0 A) (F0 m 0 ls []) := by
  obtain ⟨hx, hb, hr, hml, hown, ht, hlocks, hin, hN, hK, hA, hZ⟩ := id C0
  intro x1 i_p0_raise i_p0_sign H locs ls hm hP hD hS hl
  unfold B_Po_timesFrame_0 at hm
  refine lv_aload_n hx hb d_Po_timesFrame_0 rfl (lv_at hl 0 rfl) ?_
  refine lv_dup hx hb d_Po_timesFrame_1 rfl ?_
  refine va_get (D := D) (ci := 8) (v := .int i_p0_raise) (C := R_Po) (T := F_Po) (N := 3) hx hb ht i_Po hown hK hP 0 rfl rfl 1 (Nat.le_of_ble_eq_true rfl) (ht _ m_402) (fun _ h9 => h9) rfl d_Po_timesFrame_2 ?_
  refine lv_iconst (v := 3) hx hb d_Po_timesFrame_5 (by decide) ?_
  refine lv_iload_n hx hb d_Po_timesFrame_6 rfl (lv_at hl 1 rfl) ?_
  refine lv_imul hx hb d_Po_timesFrame_7 ?_
  refine lv_iadd hx hb d_Po_timesFrame_8 ?_
  refine va_put (D := D) (ci := 8) (v := .int (i_p0_raise + ((3 : Int32) * x1))) (ty := .int) (C := R_Po) (T := F_Po) (N := 3) hx hb ht i_Po t_Po t_Po_ok n_Po hown hK hP hD hS 0 rfl rfl 1 (Nat.le_of_ble_eq_true rfl) (ht _ m_402) (fun _ h9 => h9) rfl (by decide +kernel) rfl rfl (Nat.le_of_ble_eq_true rfl) d_Po_timesFrame_9 (fun H locs hP hD hS => ?_)
  have hP : va_P D classes (ws_Po_timesFrame cI cJ cB q_p0 q_p0_term (i_p0_raise + ((3 : Int32) * x1)) i_p0_sign) H := hP
  have hD : va_D A (ws_Po_timesFrame cI cJ cB q_p0 q_p0_term (i_p0_raise + ((3 : Int32) * x1)) i_p0_sign) := hD
  refine lv_iload_n hx hb d_Po_timesFrame_12 rfl (lv_at hl 1 rfl) ?_
  refine lv_iconst (v := 1) hx hb d_Po_timesFrame_13 (by decide) ?_
  refine lv_iand hx hb d_Po_timesFrame_14 ?_
  refine lv_iconst (v := 1) hx hb d_Po_timesFrame_15 (by decide) ?_
  refine lv_icmp_ne (tgt := 28) hx hb d_Po_timesFrame_16 (by decide) (fun hc => ?_) (fun hc => ?_)
  · rw [if_pos hc] at hm
    obtain rfl := Option.some.inj hm
    exact vz_vret hx hb hr hlocks hP hD hS (Nat.le_refl _) (Nat.le_refl _) d_Po_timesFrame_28 rfl
  · rw [if_neg (fun q => q hc)] at hm
    refine lv_aload_n hx hb d_Po_timesFrame_19 rfl (lv_at hl 0 rfl) ?_
    refine lv_aload_n hx hb d_Po_timesFrame_20 rfl (lv_at hl 0 rfl) ?_
    refine va_get (D := D) (ci := 8) (v := .int i_p0_sign) (C := R_Po) (T := F_Po) (N := 3) hx hb ht i_Po hown hK hP 0 rfl rfl 2 (Nat.le_of_ble_eq_true rfl) (ht _ m_30) (fun _ h9 => h9) rfl d_Po_timesFrame_21 ?_
    refine lv_ineg hx hb d_Po_timesFrame_24 ?_
    refine va_put (D := D) (ci := 8) (v := .int (-i_p0_sign)) (ty := .int) (C := R_Po) (T := F_Po) (N := 3) hx hb ht i_Po t_Po t_Po_ok n_Po hown hK hP hD hS 0 rfl rfl 2 (Nat.le_of_ble_eq_true rfl) (ht _ m_30) (fun _ h9 => h9) rfl (by decide +kernel) rfl rfl (Nat.le_of_ble_eq_true rfl) d_Po_timesFrame_25 (fun H locs hP hD hS => ?_)
    have hP : va_P D classes (ws_Po_timesFrame cI cJ cB q_p0 q_p0_term (i_p0_raise + ((3 : Int32) * x1)) (-i_p0_sign)) H := hP
    have hD : va_D A (ws_Po_timesFrame cI cJ cB q_p0 q_p0_term (i_p0_raise + ((3 : Int32) * x1)) (-i_p0_sign)) := hD
    obtain rfl := Option.some.inj hm
    exact vz_vret hx hb hr hlocks hP hD hS (Nat.le_refl _) (Nat.le_refl _) d_Po_timesFrame_28 rfl
set_option maxHeartbeats 4000000 in
set_option maxRecDepth 100000 in
theorem k_Po_timesFrame (l : Launch) (D : va_G) (cI cJ cB : ClassId) (sa : Nat → Nat × Nat) (fl : Nat) (q_p0 : Nat) (q_p0_term : Nat) (i_p0_raise : Int32) (i_p0_sign : Int32) (x1 : Int32) (res : Int32 × Int32) (hm : m_Po_timesFrame fl x1 i_p0_raise i_p0_sign = some res) : MtV l y_Po_timesFrame (.code y_Po_timesFrame b_Po_timesFrame 2 none :: CW) rm_Po_timesFrame D [(cI, .int), (cJ, .long), (cB, .byte)] sa [.ref q_p0, .int x1] (ws_Po_timesFrame cI cJ cB q_p0 q_p0_term i_p0_raise i_p0_sign) (fun (w : va_W) => w = (ws_Po_timesFrame cI cJ cB q_p0 q_p0_term res.1 res.2)) := by
  intro sz
  refine vz_start (Qc := fun A => va_Qv (fun (w : va_W) => w = (ws_Po_timesFrame cI cJ cB q_p0 q_p0_term res.1 res.2)) (vz_B D A) A) (lv0 := [(0, .ref q_p0), (1, .int x1)]) (by decide +kernel) (Nat.le_of_ble_eq_true rfl) rfl ?_
  intro p e s m below meth c A ls C0 hl
  obtain ⟨hx, hb, hr, hml, hown, ht, hlocks, hin, hN, hK, hP, hD, hA, hS, hZ⟩ := C0
  exact w_Po_timesFrame_0 fl q_p0 q_p0_term  res ⟨hx, hb, hr, hml, hown, ht, hlocks, hin, hN, hK, hA, hZ⟩ x1 i_p0_raise i_p0_sign s.heap [] ls hm hP hD hS (lv_sub hl [0, 1] rfl)
def ws_Po_lowest (cI cJ cB : ClassId) (q_p0 : Nat) (q_p0_term : Nat) (i_p0_raise : Int32) (i_p0_sign : Int32) : va_W := [(q_p0, .inr (8, [.ref q_p0_term, .int i_p0_raise, .int i_p0_sign]))]
def rm_Po_lowest : Room := { frames := 0, cells := 0, slots := 0, locals := 0 }
def B_Po_lowest_0 (fl : Nat) (i_p0_raise : Int32) : Option (Int32) := (some (i_p0_raise - (80 : Int32)))
def m_Po_lowest (fl : Nat) (i_p0_raise : Int32) : Option (Int32) := B_Po_lowest_0 fl i_p0_raise
set_option maxHeartbeats 4000000 in
set_option maxRecDepth 100000 in
theorem w_Po_lowest_0 {p : Program} {l : Launch} {e : Env} {s : State} {m : MethodId} {args : Array Value} {below : List Frame} {meth : Method} {c : Code} {D : va_G} {cI cJ cB : ClassId} {sa : Nat → Nat × Nat} {A : Nat → Prop} (fl : Nat) (q_p0 : Nat) (q_p0_term : Nat) (i_p0_raise : Int32) (i_p0_sign : Int32) (res : Int32) (C0 : vz_Cx p s m meth c b_Po_lowest 1 (some .int) "LinkEngine$Polynomial" "lowest" D [(cI, .int), (cJ, .long), (cB, .byte)] sa A args) : ∀ (H : Heap) (locs : List Loc) (ls : Array Slot), B_Po_lowest_0 fl i_p0_raise = some res → va_P D classes (ws_Po_lowest cI cJ cB q_p0 q_p0_term i_p0_raise i_p0_sign) H → va_D A (ws_Po_lowest cI cJ cB q_p0 q_p0_term i_p0_raise i_p0_sign) → va_S A s.heap H locs → lv_has ls 1 [(0, .ref q_p0)] → W p l e rm_Po_lowest s m args below meth c H locs 0 0 (MQ below (va_Qi (fun (r : Int32) (w : va_W) => r = res ∧ w = (ws_Po_lowest cI cJ cB q_p0 q_p0_term i_p0_raise i_p0_sign)) (vz_B D A) A) args s 0 0 A) (F0 m 0 ls []) := by
  obtain ⟨hx, hb, hr, hml, hown, ht, hlocks, hin, hN, hK, hA, hZ⟩ := id C0
  intro H locs ls hm hP hD hS hl
  unfold B_Po_lowest_0 at hm
  refine lv_aload_n hx hb d_Po_lowest_0 rfl (lv_at hl 0 rfl) ?_
  refine va_get (D := D) (ci := 8) (v := .int i_p0_raise) (C := R_Po) (T := F_Po) (N := 3) hx hb ht i_Po hown hK hP 0 rfl rfl 1 (Nat.le_of_ble_eq_true rfl) (ht _ m_402) (fun _ h9 => h9) rfl d_Po_lowest_1 ?_
  refine lv_bipush (v := 80) hx hb d_Po_lowest_4 (by decide +kernel) ?_
  refine lv_isub hx hb d_Po_lowest_6 ?_
  obtain rfl := Option.some.inj hm
  exact vz_iret hx hb hr rfl hlocks hP hD hS (Nat.le_refl _) (Nat.le_refl _) d_Po_lowest_7 ⟨rfl, rfl⟩
set_option maxHeartbeats 4000000 in
set_option maxRecDepth 100000 in
theorem k_Po_lowest (l : Launch) (D : va_G) (cI cJ cB : ClassId) (sa : Nat → Nat × Nat) (fl : Nat) (q_p0 : Nat) (q_p0_term : Nat) (i_p0_raise : Int32) (i_p0_sign : Int32)  (res : Int32) (hm : m_Po_lowest fl i_p0_raise = some res) : MtI l y_Po_lowest (.code y_Po_lowest b_Po_lowest 1 (some .int) :: CW) rm_Po_lowest D [(cI, .int), (cJ, .long), (cB, .byte)] sa [.ref q_p0] (ws_Po_lowest cI cJ cB q_p0 q_p0_term i_p0_raise i_p0_sign) (fun (r : Int32) (w : va_W) => r = res ∧ w = (ws_Po_lowest cI cJ cB q_p0 q_p0_term i_p0_raise i_p0_sign)) := by
  intro sz
  refine vz_start (Qc := fun A => va_Qi (fun (r : Int32) (w : va_W) => r = res ∧ w = (ws_Po_lowest cI cJ cB q_p0 q_p0_term i_p0_raise i_p0_sign)) (vz_B D A) A) (lv0 := [(0, .ref q_p0)]) (by decide +kernel) (Nat.le_of_ble_eq_true rfl) rfl ?_
  intro p e s m below meth c A ls C0 hl
  obtain ⟨hx, hb, hr, hml, hown, ht, hlocks, hin, hN, hK, hP, hD, hA, hS, hZ⟩ := C0
  exact w_Po_lowest_0 fl q_p0 q_p0_term i_p0_raise i_p0_sign res ⟨hx, hb, hr, hml, hown, ht, hlocks, hin, hN, hK, hA, hZ⟩  s.heap [] ls hm hP hD hS (lv_sub hl [0] rfl)
