def ws_Mo_twist (cI cJ cB : ClassId) (q_p0 : Nat) (q_p0_free : Nat) (q_p1 : Nat) (q_p1_key : Nat) (q_p1_name : Nat) (q_p1_from : Nat) (q_p1_to : Nat) (q_p1_edgeAt : Nat) (q_p1_componentOf : Nat) (q_p1_arcOf : Nat) (q_p1_pieceOf : Nat) (q_p1_faceOf : Nat) (q_p1_faceStart : Nat) (q_p1_faceSize : Nat) (q_p1_scratch : Nat) (q_p2 : Nat) (q_p2_sign : Nat) (q_p2_label : Nat) (q_p2_shape : Nat) (f_p0_free : Nat → Int32) (i_p1_edges : Int32) (i_p1_components : Int32) (i_p1_pieces : Int32) (i_p1_faces : Int32) (i_p1_brokenRule : Int32) (i_p1_culprit : Int32) (f_p1_name : Nat → Int32) (f_p1_to : Nat → Int32) (i_p2_count : Int32) (i_p2_circles : Int32) (i_p2_shapeIsKnown : Int32) (f_p2_label : Nat → Int32) (f_p2_sign : Nat → Int32) : va_W := [(q_p0, .inr (6, [.ref q_p0_free])), (q_p0_free, .inl (cI, 4, .inl f_p0_free)), (q_p1, .inr (5, [.ref q_p1_key, .ref q_p1_name, .ref q_p1_from, .ref q_p1_to, .ref q_p1_edgeAt, .ref q_p1_componentOf, .ref q_p1_arcOf, .ref q_p1_pieceOf, .ref q_p1_faceOf, .ref q_p1_faceStart, .ref q_p1_faceSize, .ref q_p1_scratch, .int i_p1_edges, .int i_p1_components, .int i_p1_pieces, .int i_p1_faces, .int i_p1_brokenRule, .int i_p1_culprit])), (q_p1_name, .inl (cI, 40, .inl f_p1_name)), (q_p1_to, .inl (cI, 40, .inl f_p1_to)), (q_p2, .inr (4, [.ref q_p2_sign, .ref q_p2_label, .ref q_p2_shape, .int i_p2_count, .int i_p2_circles, .int i_p2_shapeIsKnown])), (q_p2_label, .inl (cI, 80, .inl f_p2_label)), (q_p2_sign, .inl (cI, 20, .inl f_p2_sign))]
def rm_Mo_twist : Room := { frames := 2, cells := 0, slots := 0, locals := 48 }
def B_Mo_twist_0 (fl : Nat) (i_p1_edges : Int32) (f_p1_name : Nat → Int32) (f_p1_to : Nat → Int32) (x3 : Int32) (x4 : Int32) (x5 : Int32) (f_p0_free : Nat → Int32) (i_p2_count : Int32) (i_p2_circles : Int32) (i_p2_shapeIsKnown : Int32) (f_p2_label : Nat → Int32) (f_p2_sign : Nat → Int32) : Option (Int32 × (Nat → Int32) × Int32 × Int32 × Int32 × (Nat → Int32) × (Nat → Int32)) := (if i_p2_count < (20 : Int32) then ((m_Sh_findFree fl i_p1_edges f_p1_name f_p0_free).bind fun o0 => (if ¬ ((0 : Int32) < 0 ∨ 4 ≤ Int32.toNatClampNeg 0) then (if ¬ ((1 : Int32) < 0 ∨ 4 ≤ Int32.toNatClampNeg 1) then (if ¬ x3 = (0 : Int32) then ((m_Sh_edgeNamed fl i_p1_edges f_p1_name x3).bind fun o1 => (if (0 : Int32) ≤ o1 then (if ¬ (o1 < 0 ∨ 40 ≤ Int32.toNatClampNeg o1) then (if ¬ ((f_p1_to (Int32.toNatClampNeg o1)) < 0 ∨ 80 ≤ Int32.toNatClampNeg (f_p1_to (Int32.toNatClampNeg o1))) then ((m_Di_addCrossing fl x4 x5 x3 (o0 (Int32.toNatClampNeg 0)) (o0 (Int32.toNatClampNeg 0)) (o0 (Int32.toNatClampNeg 1)) i_p2_count i_p2_shapeIsKnown (upd f_p2_label (Int32.toNatClampNeg (f_p1_to (Int32.toNatClampNeg o1))) (o0 (Int32.toNatClampNeg 1))) f_p2_sign).bind fun o2 => (some (1, o0, o2.1, i_p2_circles, o2.2.1, o2.2.2.1, o2.2.2.2))) else none) else none) else (some (0, o0, i_p2_count, i_p2_circles, i_p2_shapeIsKnown, f_p2_label, f_p2_sign)))) else (if ¬ i_p2_circles = (0 : Int32) then ((m_Di_addCrossing fl x4 x5 (o0 (Int32.toNatClampNeg 1)) (o0 (Int32.toNatClampNeg 0)) (o0 (Int32.toNatClampNeg 0)) (o0 (Int32.toNatClampNeg 1)) i_p2_count i_p2_shapeIsKnown f_p2_label f_p2_sign).bind fun o3 => (some (1, o0, o3.1, (i_p2_circles - (1 : Int32)), o3.2.1, o3.2.2.1, o3.2.2.2))) else (some (0, o0, i_p2_count, i_p2_circles, i_p2_shapeIsKnown, f_p2_label, f_p2_sign)))) else none) else none)) else (some (0, f_p0_free, i_p2_count, i_p2_circles, i_p2_shapeIsKnown, f_p2_label, f_p2_sign)))
def m_Mo_twist (fl : Nat) (i_p1_edges : Int32) (f_p1_name : Nat → Int32) (f_p1_to : Nat → Int32) (x3 : Int32) (x4 : Int32) (x5 : Int32) (f_p0_free : Nat → Int32) (i_p2_count : Int32) (i_p2_circles : Int32) (i_p2_shapeIsKnown : Int32) (f_p2_label : Nat → Int32) (f_p2_sign : Nat → Int32) : Option (Int32 × (Nat → Int32) × Int32 × Int32 × Int32 × (Nat → Int32) × (Nat → Int32)) := B_Mo_twist_0 fl i_p1_edges f_p1_name f_p1_to x3 x4 x5 f_p0_free i_p2_count i_p2_circles i_p2_shapeIsKnown f_p2_label f_p2_sign
set_option maxHeartbeats 4000000 in
set_option maxRecDepth 100000 in
theorem w_Mo_twist_0 {p : Program} {l : Launch} {e : Env} {s : State} {m : MethodId} {args : Array Value} {below : List Frame} {meth : Method} {c : Code} {D : va_G} {cI cJ cB : ClassId} {sa : Nat → Nat × Nat} {A : Nat → Prop} (fl : Nat) (q_p0 : Nat) (q_p0_free : Nat) (q_p1 : Nat) (q_p1_key : Nat) (q_p1_name : Nat) (q_p1_from : Nat) (q_p1_to : Nat) (q_p1_edgeAt : Nat) (q_p1_componentOf : Nat) (q_p1_arcOf : Nat) (q_p1_pieceOf : Nat) (q_p1_faceOf : Nat) (q_p1_faceStart : Nat) (q_p1_faceSize : Nat) (q_p1_scratch : Nat) (q_p2 : Nat) (q_p2_sign : Nat) (q_p2_label : Nat) (q_p2_shape : Nat) (i_p1_edges : Int32) (f_p1_name : Nat → Int32) (f_p1_to : Nat → Int32) (i_p1_components : Int32) (i_p1_pieces : Int32) (i_p1_faces : Int32) (i_p1_brokenRule : Int32) (i_p1_culprit : Int32) (res : Int32 × (Nat → Int32) × Int32 × Int32 × Int32 × (Nat → Int32) × (Nat → Int32)) (C0 : vz_Cx p s m meth c b_Mo_twist 9 (some .boolean) "LinkEngine$Moves" "twist" D [(cI, .int), (cJ, .long), (cB, .byte)] sa A args) : ∀ (x3 : Int32) (x4 : Int32) (x5 : Int32) (f_p0_free : Nat → Int32) (i_p2_count : Int32) (i_p2_circles : Int32) (i_p2_shapeIsKnown : Int32) (f_p2_label : Nat → Int32) (f_p2_sign : Nat → Int32) (H : Heap) (locs : List Loc) (ls : Array Slot), B_Mo_twist_0 fl i_p1_edges f_p1_name f_p1_to x3 x4 x5 f_p0_free i_p2_count i_p2_circles i_p2_shapeIsKnown f_p2_label f_p2_sign = some res → va_P D classes (ws_Mo_twist cI cJ cB q_p0 q_p0_free q_p1 q_p1_key q_p1_name q_p1_from q_p1_to q_p1_edgeAt q_p1_componentOf q_p1_arcOf q_p1_pieceOf q_p1_faceOf q_p1_faceStart q_p1_faceSize q_p1_scratch q_p2 q_p2_sign q_p2_label q_p2_shape f_p0_free i_p1_edges i_p1_components i_p1_pieces i_p1_faces i_p1_brokenRule i_p1_culprit f_p1_name f_p1_to i_p2_count i_p2_circles i_p2_shapeIsKnown f_p2_label f_p2_sign) H → va_D A (ws_Mo_twist cI cJ cB q_p0 q_p0_free q_p1 q_p1_key q_p1_name q_p1_from q_p1_to q_p1_edgeAt q_p1_componentOf q_p1_arcOf q_p1_pieceOf q_p1_faceOf q_p1_faceStart q_p1_faceSize q_p1_scratch q_p2 q_p2_sign q_p2_label q_p2_shape f_p0_free i_p1_edges i_p1_components i_p1_pieces i_p1_faces i_p1_brokenRule i_p1_culprit f_p1_name f_p1_to i_p2_count i_p2_circles i_p2_shapeIsKnown f_p2_label f_p2_sign) → va_S A s.heap H locs → lv_has ls 9 [(0, .ref q_p0), (1, .ref q_p1), (2, .ref q_p2), (3, .int x3), (4, .int x4), (5, .int x5)] → W p l e rm_Mo_twist s m args below meth c H locs 0 0 (MQ below (va_Qi (fun (r : Int32) (w : va_W) => r = res.1 ∧ w = (ws_Mo_twist cI cJ cB q_p0 q_p0_free q_p1 q_p1_key q_p1_name q_p1_from q_p1_to q_p1_edgeAt q_p1_componentOf q_p1_arcOf q_p1_pieceOf q_p1_faceOf q_p1_faceStart q_p1_faceSize q_p1_scratch q_p2 q_p2_sign q_p2_label q_p2_shape res.2.1 i_p1_edges i_p1_components i_p1_pieces i_p1_faces i_p1_brokenRule i_p1_culprit f_p1_name f_p1_to res.2.2.1 res.2.2.2.1 res.2.2.2.2.1 res.2.2.2.2.2.1 res.2.2.2.2.2.2)) (vz_B D A) A) args s 0 0 A) (F0 m 0 ls []) := by
  obtain ⟨hx, hb, hr, hml, hown, ht, hlocks, hin, hN, hK, hA, hZ⟩ := id C0
  intro x3 x4 x5 f_p0_free i_p2_count i_p2_circles i_p2_shapeIsKnown f_p2_label f_p2_sign H locs ls hm hP hD hS hl
  unfold B_Mo_twist_0 at hm
  refine lv_aload_n hx hb d_Mo_twist_0 rfl (lv_at hl 2 rfl) ?_
  refine va_getN (D := D) (ci := 4) (v := .int i_p2_count) (C := R_Di) (T := F_Di) (N := 6) hx hb ht i_Di hown hK hP 5 rfl rfl 3 (Nat.le_of_ble_eq_true rfl) (va_Nw.use rfl (hN _ n_37)) (fun _ h9 => h9) rfl d_Mo_twist_1 ?_
  refine lv_bipush (v := 20) hx hb d_Mo_twist_4 (by decide +kernel) ?_
  refine lv_icmp_lt (tgt := 11) hx hb d_Mo_twist_6 (by decide) (fun hc => ?_) (fun hc => ?_)
  · rw [if_pos hc] at hm
    refine lv_aload_n hx hb d_Mo_twist_11 rfl (lv_at hl 1 rfl) ?_
    refine lv_aload_n hx hb d_Mo_twist_12 rfl (lv_at hl 0 rfl) ?_
    refine va_get (D := D) (ci := 6) (v := .ref q_p0_free) (C := R_Mo) (T := F_Mo) (N := 1) hx hb ht i_Mo hown hK hP 0 rfl rfl 0 (Nat.le_of_ble_eq_true rfl) (ht _ m_21) (fun _ h9 => h9) rfl d_Mo_twist_13 ?_
    obtain ⟨o0, ho0, hm⟩ := vz_bind hm
    try dsimp only at hm
    refine vz_callVv (n := 1) (As := [.ref q_p0_free]) (rest := []) (wc := (ws_Sh_findFree cI cJ cB q_p1 q_p1_key q_p1_name q_p1_from q_p1_to q_p1_edgeAt q_p1_componentOf q_p1_arcOf q_p1_pieceOf q_p1_faceOf q_p1_faceStart q_p1_faceSize q_p1_scratch q_p0_free i_p1_edges i_p1_components i_p1_pieces i_p1_faces i_p1_brokenRule i_p1_culprit f_p1_name f_p0_free)) (wr := [(q_p0, .inr (6, [.ref q_p0_free])), (q_p1_to, .inl (cI, 40, .inl f_p1_to)), (q_p2, .inr (4, [.ref q_p2_sign, .ref q_p2_label, .ref q_p2_shape, .int i_p2_count, .int i_p2_circles, .int i_p2_shapeIsKnown])), (q_p2_label, .inl (cI, 80, .inl f_p2_label)), (q_p2_sign, .inl (cI, 20, .inl f_p2_sign))]) (k1 := 0) (n1 := 0) hx hb hml hown ht hN hZ hK hP hD hS hA (k_Sh_findFree l D cI cJ cB sa fl q_p1 q_p1_key q_p1_name q_p1_from q_p1_to q_p1_edgeAt q_p1_componentOf q_p1_arcOf q_p1_pieceOf q_p1_faceOf q_p1_faceStart q_p1_faceSize q_p1_scratch q_p0_free i_p1_edges f_p1_name i_p1_components i_p1_pieces i_p1_faces i_p1_brokenRule i_p1_culprit f_p0_free o0 ho0) m_651 m_54 m_648 m_649 m_650 (hc := (rfl : classes[5]? = some (R_Sh, F_Sh, 18))) 2 rfl (by decide +kernel) ⟨Nat.le_of_ble_eq_true rfl, Nat.le_of_ble_eq_true rfl⟩ [2, 3, 1] [0, 4, 5, 6, 7] rfl rfl (by decide) (by decide) (by decide) rfl hl.1 rfl (Nat.le_of_ble_eq_true rfl) rfl rfl ⟨Nat.zero_le _, Nat.zero_le _⟩ d_Mo_twist_16 (fun w1 H locs hw hP hD hS => ?_)
    subst hw
    have hP : va_P D classes (ws_Mo_twist cI cJ cB q_p0 q_p0_free q_p1 q_p1_key q_p1_name q_p1_from q_p1_to q_p1_edgeAt q_p1_componentOf q_p1_arcOf q_p1_pieceOf q_p1_faceOf q_p1_faceStart q_p1_faceSize q_p1_scratch q_p2 q_p2_sign q_p2_label q_p2_shape o0 i_p1_edges i_p1_components i_p1_pieces i_p1_faces i_p1_brokenRule i_p1_culprit f_p1_name f_p1_to i_p2_count i_p2_circles i_p2_shapeIsKnown f_p2_label f_p2_sign) H := hP.sub [0, 7, 5, 6, 1, 2, 3, 4] rfl
    have hD : va_D A (ws_Mo_twist cI cJ cB q_p0 q_p0_free q_p1 q_p1_key q_p1_name q_p1_from q_p1_to q_p1_edgeAt q_p1_componentOf q_p1_arcOf q_p1_pieceOf q_p1_faceOf q_p1_faceStart q_p1_faceSize q_p1_scratch q_p2 q_p2_sign q_p2_label q_p2_shape o0 i_p1_edges i_p1_components i_p1_pieces i_p1_faces i_p1_brokenRule i_p1_culprit f_p1_name f_p1_to i_p2_count i_p2_circles i_p2_shapeIsKnown f_p2_label f_p2_sign) := hD.sub [0, 7, 5, 6, 1, 2, 3, 4] (by decide) rfl
    refine lv_aload_n hx hb d_Mo_twist_19 rfl (lv_at hl 0 rfl) ?_
    refine va_get (D := D) (ci := 6) (v := .ref q_p0_free) (C := R_Mo) (T := F_Mo) (N := 1) hx hb ht i_Mo hown hK hP 0 rfl rfl 0 (Nat.le_of_ble_eq_true rfl) (ht _ m_21) (fun _ h9 => h9) rfl d_Mo_twist_20 ?_
    refine lv_iconst (v := 0) hx hb d_Mo_twist_23 (by decide) ?_
    obtain ⟨hg, hm⟩ := vz_guard hm
    refine va_iald hx hb hK hP 1 0 rfl rfl hg d_Mo_twist_24 ?_
    refine lv_istore (lv' := [(6, .int (o0 (Int32.toNatClampNeg 0))), (0, .ref q_p0), (1, .ref q_p1), (2, .ref q_p2), (3, .int x3), (4, .int x4), (5, .int x5)]) hx hb d_Mo_twist_25 hl (by decide) rfl (fun ls hl => ?_)
    refine lv_aload_n hx hb d_Mo_twist_27 rfl (lv_at hl 1 rfl) ?_
    refine va_get (D := D) (ci := 6) (v := .ref q_p0_free) (C := R_Mo) (T := F_Mo) (N := 1) hx hb ht i_Mo hown hK hP 0 rfl rfl 0 (Nat.le_of_ble_eq_true rfl) (ht _ m_21) (fun _ h9 => h9) rfl d_Mo_twist_28 ?_
    refine lv_iconst (v := 1) hx hb d_Mo_twist_31 (by decide) ?_
    obtain ⟨hg, hm⟩ := vz_guard hm
    refine va_iald hx hb hK hP 1 0 rfl rfl hg d_Mo_twist_32 ?_
    refine lv_istore (lv' := [(7, .int (o0 (Int32.toNatClampNeg 1))), (6, .int (o0 (Int32.toNatClampNeg 0))), (0, .ref q_p0), (1, .ref q_p1), (2, .ref q_p2), (3, .int x3), (4, .int x4), (5, .int x5)]) hx hb d_Mo_twist_33 hl (by decide) rfl (fun ls hl => ?_)
    refine lv_iload_n hx hb d_Mo_twist_35 rfl (lv_at hl 5 rfl) ?_
    refine lv_if_ne (tgt := 76) hx hb d_Mo_twist_36 (by decide) (fun hc => ?_) (fun hc => ?_)
    · rw [if_pos hc] at hm
      refine lv_aload_n hx hb d_Mo_twist_76 rfl (lv_at hl 3 rfl) ?_
      refine lv_iload_n hx hb d_Mo_twist_77 rfl (lv_at hl 5 rfl) ?_
      obtain ⟨o1, ho1, hm⟩ := vz_bind hm
      try dsimp only at hm
      refine vz_callVi (n := 1) (As := [.int x3]) (rest := []) (wc := (ws_Sh_edgeNamed cI cJ cB q_p1 q_p1_key q_p1_name q_p1_from q_p1_to q_p1_edgeAt q_p1_componentOf q_p1_arcOf q_p1_pieceOf q_p1_faceOf q_p1_faceStart q_p1_faceSize q_p1_scratch i_p1_edges i_p1_components i_p1_pieces i_p1_faces i_p1_brokenRule i_p1_culprit f_p1_name)) (wr := [(q_p0, .inr (6, [.ref q_p0_free])), (q_p0_free, .inl (cI, 4, .inl o0)), (q_p1_to, .inl (cI, 40, .inl f_p1_to)), (q_p2, .inr (4, [.ref q_p2_sign, .ref q_p2_label, .ref q_p2_shape, .int i_p2_count, .int i_p2_circles, .int i_p2_shapeIsKnown])), (q_p2_label, .inl (cI, 80, .inl f_p2_label)), (q_p2_sign, .inl (cI, 20, .inl f_p2_sign))]) (k1 := 0) (n1 := 0) hx hb hml hown ht hN hZ hK hP hD hS hA (k_Sh_edgeNamed l D cI cJ cB sa fl q_p1 q_p1_key q_p1_name q_p1_from q_p1_to q_p1_edgeAt q_p1_componentOf q_p1_arcOf q_p1_pieceOf q_p1_faceOf q_p1_faceStart q_p1_faceSize q_p1_scratch i_p1_edges f_p1_name i_p1_components i_p1_pieces i_p1_faces i_p1_brokenRule i_p1_culprit x3 o1 ho1) m_655 m_54 m_652 m_653 m_654 (hc := (rfl : classes[5]? = some (R_Sh, F_Sh, 18))) 2 rfl (by decide +kernel) ⟨Nat.le_of_ble_eq_true rfl, Nat.le_of_ble_eq_true rfl⟩ [2, 3] [0, 1, 4, 5, 6, 7] rfl rfl (by decide) (by decide) (by decide) rfl hl.1 rfl (Nat.le_of_ble_eq_true rfl) rfl rfl ⟨Nat.zero_le _, Nat.zero_le _⟩ d_Mo_twist_78 (fun r1 w1 H locs hw hP hD hS => ?_)
      obtain ⟨hr1, rfl⟩ := hw
      have hr1 := hr1.symm
      subst hr1
      have hP : va_P D classes (ws_Mo_twist cI cJ cB q_p0 q_p0_free q_p1 q_p1_key q_p1_name q_p1_from q_p1_to q_p1_edgeAt q_p1_componentOf q_p1_arcOf q_p1_pieceOf q_p1_faceOf q_p1_faceStart q_p1_faceSize q_p1_scratch q_p2 q_p2_sign q_p2_label q_p2_shape o0 i_p1_edges i_p1_components i_p1_pieces i_p1_faces i_p1_brokenRule i_p1_culprit f_p1_name f_p1_to i_p2_count i_p2_circles i_p2_shapeIsKnown f_p2_label f_p2_sign) H := hP.sub [0, 1, 6, 7, 2, 3, 4, 5] rfl
      have hD : va_D A (ws_Mo_twist cI cJ cB q_p0 q_p0_free q_p1 q_p1_key q_p1_name q_p1_from q_p1_to q_p1_edgeAt q_p1_componentOf q_p1_arcOf q_p1_pieceOf q_p1_faceOf q_p1_faceStart q_p1_faceSize q_p1_scratch q_p2 q_p2_sign q_p2_label q_p2_shape o0 i_p1_edges i_p1_components i_p1_pieces i_p1_faces i_p1_brokenRule i_p1_culprit f_p1_name f_p1_to i_p2_count i_p2_circles i_p2_shapeIsKnown f_p2_label f_p2_sign) := hD.sub [0, 1, 6, 7, 2, 3, 4, 5] (by decide) rfl
      refine lv_istore (lv' := [(8, .int o1), (7, .int (o0 (Int32.toNatClampNeg 1))), (6, .int (o0 (Int32.toNatClampNeg 0))), (0, .ref q_p0), (1, .ref q_p1), (2, .ref q_p2), (3, .int x3), (4, .int x4), (5, .int x5)]) hx hb d_Mo_twist_81 hl (by decide) rfl (fun ls hl => ?_)
      refine lv_iload hx hb d_Mo_twist_83 (lv_at hl 0 rfl) ?_
      refine lv_if_ge (tgt := 90) hx hb d_Mo_twist_85 (by decide) (fun hc => ?_) (fun hc => ?_)
      · rw [if_pos hc] at hm
        refine lv_aload_n hx hb d_Mo_twist_90 rfl (lv_at hl 5 rfl) ?_
        refine va_getN (D := D) (ci := 4) (v := .ref q_p2_label) (C := R_Di) (T := F_Di) (N := 6) hx hb ht i_Di hown hK hP 5 rfl rfl 1 (Nat.le_of_ble_eq_true rfl) (va_Nw.use rfl (hN _ n_33)) (fun _ h9 => h9) rfl d_Mo_twist_91 ?_
        refine lv_aload_n hx hb d_Mo_twist_94 rfl (lv_at hl 4 rfl) ?_
        refine va_getN (D := D) (ci := 5) (v := .ref q_p1_to) (C := R_Sh) (T := F_Sh) (N := 18) hx hb ht i_Sh hown hK hP 2 rfl rfl 3 (Nat.le_of_ble_eq_true rfl) (va_Nw.use rfl (hN _ n_30)) (fun _ h9 => h9) rfl d_Mo_twist_95 ?_
        refine lv_iload hx hb d_Mo_twist_98 (lv_at hl 0 rfl) ?_
        obtain ⟨hg, hm⟩ := vz_guard hm
        refine va_iald hx hb hK hP 4 0 rfl rfl hg d_Mo_twist_100 ?_
        refine lv_iload hx hb d_Mo_twist_101 (lv_at hl 1 rfl) ?_
        obtain ⟨hg, hm⟩ := vz_guard hm
        refine va_iast hx hb hK hP hD hS 6 0 rfl rfl hg d_Mo_twist_103 (fun H locs hP hD hS => ?_)
        have hP : va_P D classes (ws_Mo_twist cI cJ cB q_p0 q_p0_free q_p1 q_p1_key q_p1_name q_p1_from q_p1_to q_p1_edgeAt q_p1_componentOf q_p1_arcOf q_p1_pieceOf q_p1_faceOf q_p1_faceStart q_p1_faceSize q_p1_scratch q_p2 q_p2_sign q_p2_label q_p2_shape o0 i_p1_edges i_p1_components i_p1_pieces i_p1_faces i_p1_brokenRule i_p1_culprit f_p1_name f_p1_to i_p2_count i_p2_circles i_p2_shapeIsKnown (upd f_p2_label (Int32.toNatClampNeg (f_p1_to (Int32.toNatClampNeg o1))) (o0 (Int32.toNatClampNeg 1))) f_p2_sign) H := hP
        have hD : va_D A (ws_Mo_twist cI cJ cB q_p0 q_p0_free q_p1 q_p1_key q_p1_name q_p1_from q_p1_to q_p1_edgeAt q_p1_componentOf q_p1_arcOf q_p1_pieceOf q_p1_faceOf q_p1_faceStart q_p1_faceSize q_p1_scratch q_p2 q_p2_sign q_p2_label q_p2_shape o0 i_p1_edges i_p1_components i_p1_pieces i_p1_faces i_p1_brokenRule i_p1_culprit f_p1_name f_p1_to i_p2_count i_p2_circles i_p2_shapeIsKnown (upd f_p2_label (Int32.toNatClampNeg (f_p1_to (Int32.toNatClampNeg o1))) (o0 (Int32.toNatClampNeg 1))) f_p2_sign) := hD
        refine lv_aload_n hx hb d_Mo_twist_104 rfl (lv_at hl 5 rfl) ?_
        refine lv_iload hx hb d_Mo_twist_105 (lv_at hl 7 rfl) ?_
        refine lv_iload hx hb d_Mo_twist_107 (lv_at hl 8 rfl) ?_
        refine lv_iload_n hx hb d_Mo_twist_109 rfl (lv_at hl 6 rfl) ?_
        refine lv_iload hx hb d_Mo_twist_110 (lv_at hl 2 rfl) ?_
        refine lv_iload hx hb d_Mo_twist_112 (lv_at hl 2 rfl) ?_
        refine lv_iload hx hb d_Mo_twist_114 (lv_at hl 1 rfl) ?_
        obtain ⟨o2, ho2, hm⟩ := vz_bind hm
        try dsimp only at hm
        refine vz_callVv (n := 6) (As := [.int x4, .int x5, .int x3, .int (o0 (Int32.toNatClampNeg 0)), .int (o0 (Int32.toNatClampNeg 0)), .int (o0 (Int32.toNatClampNeg 1))]) (rest := []) (wc := (ws_Di_addCrossing cI cJ cB q_p2 q_p2_sign q_p2_label q_p2_shape i_p2_count i_p2_circles i_p2_shapeIsKnown (upd f_p2_label (Int32.toNatClampNeg (f_p1_to (Int32.toNatClampNeg o1))) (o0 (Int32.toNatClampNeg 1))) f_p2_sign)) (wr := [(q_p0, .inr (6, [.ref q_p0_free])), (q_p0_free, .inl (cI, 4, .inl o0)), (q_p1, .inr (5, [.ref q_p1_key, .ref q_p1_name, .ref q_p1_from, .ref q_p1_to, .ref q_p1_edgeAt, .ref q_p1_componentOf, .ref q_p1_arcOf, .ref q_p1_pieceOf, .ref q_p1_faceOf, .ref q_p1_faceStart, .ref q_p1_faceSize, .ref q_p1_scratch, .int i_p1_edges, .int i_p1_components, .int i_p1_pieces, .int i_p1_faces, .int i_p1_brokenRule, .int i_p1_culprit])), (q_p1_name, .inl (cI, 40, .inl f_p1_name)), (q_p1_to, .inl (cI, 40, .inl f_p1_to))]) (k1 := 0) (n1 := 0) hx hb hml hown ht hN hZ hK hP hD hS hA (k_Di_addCrossing l D cI cJ cB sa fl q_p2 q_p2_sign q_p2_label q_p2_shape i_p2_circles i_p2_count i_p2_shapeIsKnown (upd f_p2_label (Int32.toNatClampNeg (f_p1_to (Int32.toNatClampNeg o1))) (o0 (Int32.toNatClampNeg 1))) f_p2_sign x4 x5 x3 (o0 (Int32.toNatClampNeg 0)) (o0 (Int32.toNatClampNeg 0)) (o0 (Int32.toNatClampNeg 1)) o2 ho2) m_659 m_99 m_656 m_657 m_658 (hc := (rfl : classes[4]? = some (R_Di, F_Di, 6))) 5 rfl (by decide +kernel) ⟨Nat.le_of_ble_eq_true rfl, Nat.le_of_ble_eq_true rfl⟩ [5, 6, 7] [0, 1, 2, 3, 4] rfl rfl (by decide) (by decide) (by decide) rfl hl.1 rfl (Nat.le_of_ble_eq_true rfl) rfl rfl ⟨Nat.zero_le _, Nat.zero_le _⟩ d_Mo_twist_116 (fun w1 H locs hw hP hD hS => ?_)
        subst hw
        have hP : va_P D classes (ws_Mo_twist cI cJ cB q_p0 q_p0_free q_p1 q_p1_key q_p1_name q_p1_from q_p1_to q_p1_edgeAt q_p1_componentOf q_p1_arcOf q_p1_pieceOf q_p1_faceOf q_p1_faceStart q_p1_faceSize q_p1_scratch q_p2 q_p2_sign q_p2_label q_p2_shape o0 i_p1_edges i_p1_components i_p1_pieces i_p1_faces i_p1_brokenRule i_p1_culprit f_p1_name f_p1_to o2.1 i_p2_circles o2.2.1 o2.2.2.1 o2.2.2.2) H := hP.sub [0, 1, 2, 3, 4, 5, 6, 7] rfl
        have hD : va_D A (ws_Mo_twist cI cJ cB q_p0 q_p0_free q_p1 q_p1_key q_p1_name q_p1_from q_p1_to q_p1_edgeAt q_p1_componentOf q_p1_arcOf q_p1_pieceOf q_p1_faceOf q_p1_faceStart q_p1_faceSize q_p1_scratch q_p2 q_p2_sign q_p2_label q_p2_shape o0 i_p1_edges i_p1_components i_p1_pieces i_p1_faces i_p1_brokenRule i_p1_culprit f_p1_name f_p1_to o2.1 i_p2_circles o2.2.1 o2.2.2.1 o2.2.2.2) := hD.sub [0, 1, 2, 3, 4, 5, 6, 7] (by decide) rfl
        refine lv_iconst (v := 1) hx hb d_Mo_twist_119 (by decide) ?_
        obtain rfl := Option.some.inj hm
        exact vz_iret hx hb hr rfl hlocks hP hD hS (Nat.le_refl _) (Nat.le_refl _) d_Mo_twist_120 ⟨rfl, rfl⟩
      · rw [if_neg hc] at hm
        refine lv_iconst (v := 0) hx hb d_Mo_twist_88 (by decide) ?_
        obtain rfl := Option.some.inj hm
        exact vz_iret hx hb hr rfl hlocks hP hD hS (Nat.le_refl _) (Nat.le_refl _) d_Mo_twist_89 ⟨rfl, rfl⟩
    · rw [if_neg (fun q => q hc)] at hm
      refine lv_aload_n hx hb d_Mo_twist_39 rfl (lv_at hl 4 rfl) ?_
      refine va_getN (D := D) (ci := 4) (v := .int i_p2_circles) (C := R_Di) (T := F_Di) (N := 6) hx hb ht i_Di hown hK hP 5 rfl rfl 4 (Nat.le_of_ble_eq_true rfl) (va_Nw.use rfl (hN _ n_39)) (fun _ h9 => h9) rfl d_Mo_twist_40 ?_
      refine lv_if_ne (tgt := 48) hx hb d_Mo_twist_43 (by decide) (fun hc => ?_) (fun hc => ?_)
      · rw [if_pos hc] at hm
        refine lv_aload_n hx hb d_Mo_twist_48 rfl (lv_at hl 4 rfl) ?_
        refine lv_dup hx hb d_Mo_twist_49 rfl ?_
        refine va_getN (D := D) (ci := 4) (v := .int i_p2_circles) (C := R_Di) (T := F_Di) (N := 6) hx hb ht i_Di hown hK hP 5 rfl rfl 4 (Nat.le_of_ble_eq_true rfl) (va_Nw.use rfl (hN _ n_39)) (fun _ h9 => h9) rfl d_Mo_twist_50 ?_
        refine lv_iconst (v := 1) hx hb d_Mo_twist_53 (by decide) ?_
        refine lv_isub hx hb d_Mo_twist_54 ?_
        refine va_putN (D := D) (ci := 4) (v := .int (i_p2_circles - (1 : Int32))) (ty := .int) (C := R_Di) (T := F_Di) (N := 6) hx hb ht i_Di t_Di t_Di_ok n_Di hown hK hP hD hS 5 rfl rfl 4 (Nat.le_of_ble_eq_true rfl) (va_Nw.use rfl (hN _ n_39)) (fun _ h9 => h9) rfl (by decide +kernel) rfl rfl (Nat.le_of_ble_eq_true rfl) d_Mo_twist_55 (fun H locs hP hD hS => ?_)
        have hP : va_P D classes (ws_Mo_twist cI cJ cB q_p0 q_p0_free q_p1 q_p1_key q_p1_name q_p1_from q_p1_to q_p1_edgeAt q_p1_componentOf q_p1_arcOf q_p1_pieceOf q_p1_faceOf q_p1_faceStart q_p1_faceSize q_p1_scratch q_p2 q_p2_sign q_p2_label q_p2_shape o0 i_p1_edges i_p1_components i_p1_pieces i_p1_faces i_p1_brokenRule i_p1_culprit f_p1_name f_p1_to i_p2_count (i_p2_circles - (1 : Int32)) i_p2_shapeIsKnown f_p2_label f_p2_sign) H := hP
        have hD : va_D A (ws_Mo_twist cI cJ cB q_p0 q_p0_free q_p1 q_p1_key q_p1_name q_p1_from q_p1_to q_p1_edgeAt q_p1_componentOf q_p1_arcOf q_p1_pieceOf q_p1_faceOf q_p1_faceStart q_p1_faceSize q_p1_scratch q_p2 q_p2_sign q_p2_label q_p2_shape o0 i_p1_edges i_p1_components i_p1_pieces i_p1_faces i_p1_brokenRule i_p1_culprit f_p1_name f_p1_to i_p2_count (i_p2_circles - (1 : Int32)) i_p2_shapeIsKnown f_p2_label f_p2_sign) := hD
        refine lv_aload_n hx hb d_Mo_twist_58 rfl (lv_at hl 4 rfl) ?_
        refine lv_iload hx hb d_Mo_twist_59 (lv_at hl 6 rfl) ?_
        refine lv_iload hx hb d_Mo_twist_61 (lv_at hl 7 rfl) ?_
        refine lv_iload hx hb d_Mo_twist_63 (lv_at hl 0 rfl) ?_
        refine lv_iload hx hb d_Mo_twist_65 (lv_at hl 1 rfl) ?_
        refine lv_iload hx hb d_Mo_twist_67 (lv_at hl 1 rfl) ?_
        refine lv_iload hx hb d_Mo_twist_69 (lv_at hl 0 rfl) ?_
        obtain ⟨o3, ho3, hm⟩ := vz_bind hm
        try dsimp only at hm
        refine vz_callVv (n := 6) (As := [.int x4, .int x5, .int (o0 (Int32.toNatClampNeg 1)), .int (o0 (Int32.toNatClampNeg 0)), .int (o0 (Int32.toNatClampNeg 0)), .int (o0 (Int32.toNatClampNeg 1))]) (rest := []) (wc := (ws_Di_addCrossing cI cJ cB q_p2 q_p2_sign q_p2_label q_p2_shape i_p2_count (i_p2_circles - (1 : Int32)) i_p2_shapeIsKnown f_p2_label f_p2_sign)) (wr := [(q_p0, .inr (6, [.ref q_p0_free])), (q_p0_free, .inl (cI, 4, .inl o0)), (q_p1, .inr (5, [.ref q_p1_key, .ref q_p1_name, .ref q_p1_from, .ref q_p1_to, .ref q_p1_edgeAt, .ref q_p1_componentOf, .ref q_p1_arcOf, .ref q_p1_pieceOf, .ref q_p1_faceOf, .ref q_p1_faceStart, .ref q_p1_faceSize, .ref q_p1_scratch, .int i_p1_edges, .int i_p1_components, .int i_p1_pieces, .int i_p1_faces, .int i_p1_brokenRule, .int i_p1_culprit])), (q_p1_name, .inl (cI, 40, .inl f_p1_name)), (q_p1_to, .inl (cI, 40, .inl f_p1_to))]) (k1 := 0) (n1 := 0) hx hb hml hown ht hN hZ hK hP hD hS hA (k_Di_addCrossing l D cI cJ cB sa fl q_p2 q_p2_sign q_p2_label q_p2_shape (i_p2_circles - (1 : Int32)) i_p2_count i_p2_shapeIsKnown f_p2_label f_p2_sign x4 x5 (o0 (Int32.toNatClampNeg 1)) (o0 (Int32.toNatClampNeg 0)) (o0 (Int32.toNatClampNeg 0)) (o0 (Int32.toNatClampNeg 1)) o3 ho3) m_659 m_99 m_656 m_657 m_658 (hc := (rfl : classes[4]? = some (R_Di, F_Di, 6))) 5 rfl (by decide +kernel) ⟨Nat.le_of_ble_eq_true rfl, Nat.le_of_ble_eq_true rfl⟩ [5, 6, 7] [0, 1, 2, 3, 4] rfl rfl (by decide) (by decide) (by decide) rfl hl.1 rfl (Nat.le_of_ble_eq_true rfl) rfl rfl ⟨Nat.zero_le _, Nat.zero_le _⟩ d_Mo_twist_71 (fun w1 H locs hw hP hD hS => ?_)
        subst hw
        have hP : va_P D classes (ws_Mo_twist cI cJ cB q_p0 q_p0_free q_p1 q_p1_key q_p1_name q_p1_from q_p1_to q_p1_edgeAt q_p1_componentOf q_p1_arcOf q_p1_pieceOf q_p1_faceOf q_p1_faceStart q_p1_faceSize q_p1_scratch q_p2 q_p2_sign q_p2_label q_p2_shape o0 i_p1_edges i_p1_components i_p1_pieces i_p1_faces i_p1_brokenRule i_p1_culprit f_p1_name f_p1_to o3.1 (i_p2_circles - (1 : Int32)) o3.2.1 o3.2.2.1 o3.2.2.2) H := hP.sub [0, 1, 2, 3, 4, 5, 6, 7] rfl
        have hD : va_D A (ws_Mo_twist cI cJ cB q_p0 q_p0_free q_p1 q_p1_key q_p1_name q_p1_from q_p1_to q_p1_edgeAt q_p1_componentOf q_p1_arcOf q_p1_pieceOf q_p1_faceOf q_p1_faceStart q_p1_faceSize q_p1_scratch q_p2 q_p2_sign q_p2_label q_p2_shape o0 i_p1_edges i_p1_components i_p1_pieces i_p1_faces i_p1_brokenRule i_p1_culprit f_p1_name f_p1_to o3.1 (i_p2_circles - (1 : Int32)) o3.2.1 o3.2.2.1 o3.2.2.2) := hD.sub [0, 1, 2, 3, 4, 5, 6, 7] (by decide) rfl
        refine lv_iconst (v := 1) hx hb d_Mo_twist_74 (by decide) ?_
        obtain rfl := Option.some.inj hm
        exact vz_iret hx hb hr rfl hlocks hP hD hS (Nat.le_refl _) (Nat.le_refl _) d_Mo_twist_75 ⟨rfl, rfl⟩
      · rw [if_neg (fun q => q hc)] at hm
        refine lv_iconst (v := 0) hx hb d_Mo_twist_46 (by decide) ?_
        obtain rfl := Option.some.inj hm
        exact vz_iret hx hb hr rfl hlocks hP hD hS (Nat.le_refl _) (Nat.le_refl _) d_Mo_twist_47 ⟨rfl, rfl⟩
  · rw [if_neg hc] at hm
    refine lv_iconst (v := 0) hx hb d_Mo_twist_9 (by decide) ?_
    obtain rfl := Option.some.inj hm
    exact vz_iret hx hb hr rfl hlocks hP hD hS (Nat.le_refl _) (Nat.le_refl _) d_Mo_twist_10 ⟨rfl, rfl⟩
set_option maxHeartbeats 4000000 in
set_option maxRecDepth 100000 in
theorem k_Mo_twist (l : Launch) (D : va_G) (cI cJ cB : ClassId) (sa : Nat → Nat × Nat) (fl : Nat) (q_p0 : Nat) (q_p0_free : Nat) (q_p1 : Nat) (q_p1_key : Nat) (q_p1_name : Nat) (q_p1_from : Nat) (q_p1_to : Nat) (q_p1_edgeAt : Nat) (q_p1_componentOf : Nat) (q_p1_arcOf : Nat) (q_p1_pieceOf : Nat) (q_p1_faceOf : Nat) (q_p1_faceStart : Nat) (q_p1_faceSize : Nat) (q_p1_scratch : Nat) (q_p2 : Nat) (q_p2_sign : Nat) (q_p2_label : Nat) (q_p2_shape : Nat) (i_p1_edges : Int32) (f_p1_name : Nat → Int32) (f_p1_to : Nat → Int32) (i_p1_components : Int32) (i_p1_pieces : Int32) (i_p1_faces : Int32) (i_p1_brokenRule : Int32) (i_p1_culprit : Int32) (f_p0_free : Nat → Int32) (i_p2_count : Int32) (i_p2_circles : Int32) (i_p2_shapeIsKnown : Int32) (f_p2_label : Nat → Int32) (f_p2_sign : Nat → Int32) (x3 : Int32) (x4 : Int32) (x5 : Int32) (res : Int32 × (Nat → Int32) × Int32 × Int32 × Int32 × (Nat → Int32) × (Nat → Int32)) (hm : m_Mo_twist fl i_p1_edges f_p1_name f_p1_to x3 x4 x5 f_p0_free i_p2_count i_p2_circles i_p2_shapeIsKnown f_p2_label f_p2_sign = some res) : MtI l y_Mo_twist (.code y_Mo_twist b_Mo_twist 9 (some .boolean) :: CW) rm_Mo_twist D [(cI, .int), (cJ, .long), (cB, .byte)] sa [.ref q_p0, .ref q_p1, .ref q_p2, .int x3, .int x4, .int x5] (ws_Mo_twist cI cJ cB q_p0 q_p0_free q_p1 q_p1_key q_p1_name q_p1_from q_p1_to q_p1_edgeAt q_p1_componentOf q_p1_arcOf q_p1_pieceOf q_p1_faceOf q_p1_faceStart q_p1_faceSize q_p1_scratch q_p2 q_p2_sign q_p2_label q_p2_shape f_p0_free i_p1_edges i_p1_components i_p1_pieces i_p1_faces i_p1_brokenRule i_p1_culprit f_p1_name f_p1_to i_p2_count i_p2_circles i_p2_shapeIsKnown f_p2_label f_p2_sign) (fun (r : Int32) (w : va_W) => r = res.1 ∧ w = (ws_Mo_twist cI cJ cB q_p0 q_p0_free q_p1 q_p1_key q_p1_name q_p1_from q_p1_to q_p1_edgeAt q_p1_componentOf q_p1_arcOf q_p1_pieceOf q_p1_faceOf q_p1_faceStart q_p1_faceSize q_p1_scratch q_p2 q_p2_sign q_p2_label q_p2_shape res.2.1 i_p1_edges i_p1_components i_p1_pieces i_p1_faces i_p1_brokenRule i_p1_culprit f_p1_name f_p1_to res.2.2.1 res.2.2.2.1 res.2.2.2.2.1 res.2.2.2.2.2.1 res.2.2.2.2.2.2)) := by
  intro sz
  refine vz_start (Qc := fun A => va_Qi (fun (r : Int32) (w : va_W) => r = res.1 ∧ w = (ws_Mo_twist cI cJ cB q_p0 q_p0_free q_p1 q_p1_key q_p1_name q_p1_from q_p1_to q_p1_edgeAt q_p1_componentOf q_p1_arcOf q_p1_pieceOf q_p1_faceOf q_p1_faceStart q_p1_faceSize q_p1_scratch q_p2 q_p2_sign q_p2_label q_p2_shape res.2.1 i_p1_edges i_p1_components i_p1_pieces i_p1_faces i_p1_brokenRule i_p1_culprit f_p1_name f_p1_to res.2.2.1 res.2.2.2.1 res.2.2.2.2.1 res.2.2.2.2.2.1 res.2.2.2.2.2.2)) (vz_B D A) A) (lv0 := [(0, .ref q_p0), (1, .ref q_p1), (2, .ref q_p2), (3, .int x3), (4, .int x4), (5, .int x5)]) (by decide +kernel) (Nat.le_of_ble_eq_true rfl) rfl ?_
  intro p e s m below meth c A ls C0 hl
  obtain ⟨hx, hb, hr, hml, hown, ht, hlocks, hin, hN, hK, hP, hD, hA, hS, hZ⟩ := C0
  exact w_Mo_twist_0 fl q_p0 q_p0_free q_p1 q_p1_key q_p1_name q_p1_from q_p1_to q_p1_edgeAt q_p1_componentOf q_p1_arcOf q_p1_pieceOf q_p1_faceOf q_p1_faceStart q_p1_faceSize q_p1_scratch q_p2 q_p2_sign q_p2_label q_p2_shape i_p1_edges f_p1_name f_p1_to i_p1_components i_p1_pieces i_p1_faces i_p1_brokenRule i_p1_culprit res ⟨hx, hb, hr, hml, hown, ht, hlocks, hin, hN, hK, hA, hZ⟩ x3 x4 x5 f_p0_free i_p2_count i_p2_circles i_p2_shapeIsKnown f_p2_label f_p2_sign s.heap [] ls hm hP hD hS (lv_sub hl [0, 1, 2, 3, 4, 5] rfl)
def ws_Mo_pushCrossing (cI cJ cB : ClassId) (q_p0 : Nat) (q_p0_free : Nat) (q_p1 : Nat) (q_p1_sign : Nat) (q_p1_label : Nat) (q_p1_shape : Nat) (f_p0_free : Nat → Int32) (i_p1_count : Int32) (i_p1_circles : Int32) (i_p1_shapeIsKnown : Int32) (f_p1_label : Nat → Int32) (f_p1_sign : Nat → Int32) : va_W := [(q_p0, .inr (6, [.ref q_p0_free])), (q_p0_free, .inl (cI, 4, .inl f_p0_free)), (q_p1, .inr (4, [.ref q_p1_sign, .ref q_p1_label, .ref q_p1_shape, .int i_p1_count, .int i_p1_circles, .int i_p1_shapeIsKnown])), (q_p1_label, .inl (cI, 80, .inl f_p1_label)), (q_p1_sign, .inl (cI, 20, .inl f_p1_sign))]
def rm_Mo_pushCrossing : Room := { frames := 2, cells := 0, slots := 0, locals := 48 }
def B_Mo_pushCrossing_128 (fl : Nat) (f_p0_free : Nat → Int32) (s0 : Int32) (x2 : Int32) (x3 : Int32) (x4 : Int32) (x5 : Int32) (x6 : Int32) (x7 : Int32) (x8 : Int32) (x9 : Int32) (x10 : Int32) (x11 : Int32) (i_p1_count : Int32) (i_p1_shapeIsKnown : Int32) (f_p1_label : Nat → Int32) (f_p1_sign : Nat → Int32) : Option (Int32 × Int32 × (Nat → Int32) × (Nat → Int32)) := ((m_Di_addCrossing fl x2 x3 x9 x10 x11 s0 i_p1_count i_p1_shapeIsKnown f_p1_label f_p1_sign).bind fun o0 => (some (o0.1, o0.2.1, o0.2.2.1, o0.2.2.2)))
def B_Mo_pushCrossing_106 (fl : Nat) (f_p0_free : Nat → Int32) (s0 : Int32) (x2 : Int32) (x3 : Int32) (x4 : Int32) (x5 : Int32) (x6 : Int32) (x7 : Int32) (x8 : Int32) (x9 : Int32) (x10 : Int32) (i_p1_count : Int32) (i_p1_shapeIsKnown : Int32) (f_p1_label : Nat → Int32) (f_p1_sign : Nat → Int32) : Option (Int32 × Int32 × (Nat → Int32) × (Nat → Int32)) := (if x8 = (0 : Int32) then (if ¬ ((3 : Int32) < 0 ∨ 4 ≤ Int32.toNatClampNeg 3) then B_Mo_pushCrossing_128 fl f_p0_free (f_p0_free (Int32.toNatClampNeg 3)) x2 x3 x4 x5 x6 x7 x8 x9 x10 s0 i_p1_count i_p1_shapeIsKnown f_p1_label f_p1_sign else none) else (if ¬ ((2 : Int32) < 0 ∨ 4 ≤ Int32.toNatClampNeg 2) then B_Mo_pushCrossing_128 fl f_p0_free (f_p0_free (Int32.toNatClampNeg 2)) x2 x3 x4 x5 x6 x7 x8 x9 x10 s0 i_p1_count i_p1_shapeIsKnown f_p1_label f_p1_sign else none))
def B_Mo_pushCrossing_85 (fl : Nat) (f_p0_free : Nat → Int32) (s0 : Int32) (x2 : Int32) (x3 : Int32) (x4 : Int32) (x5 : Int32) (x6 : Int32) (x7 : Int32) (x8 : Int32) (x9 : Int32) (i_p1_count : Int32) (i_p1_shapeIsKnown : Int32) (f_p1_label : Nat → Int32) (f_p1_sign : Nat → Int32) : Option (Int32 × Int32 × (Nat → Int32) × (Nat → Int32)) := (if x8 = (0 : Int32) then (if ¬ ((2 : Int32) < 0 ∨ 4 ≤ Int32.toNatClampNeg 2) then B_Mo_pushCrossing_106 fl f_p0_free (f_p0_free (Int32.toNatClampNeg 2)) x2 x3 x4 x5 x6 x7 x8 x9 s0 i_p1_count i_p1_shapeIsKnown f_p1_label f_p1_sign else none) else B_Mo_pushCrossing_106 fl f_p0_free (if 0 ≤ x5 then x5 else 0 - x5) x2 x3 x4 x5 x6 x7 x8 x9 s0 i_p1_count i_p1_shapeIsKnown f_p1_label f_p1_sign)
def B_Mo_pushCrossing_63 (fl : Nat) (f_p0_free : Nat → Int32) (s0 : Int32) (x2 : Int32) (x3 : Int32) (x4 : Int32) (x5 : Int32) (x6 : Int32) (x7 : Int32) (x8 : Int32) (i_p1_count : Int32) (i_p1_shapeIsKnown : Int32) (f_p1_label : Nat → Int32) (f_p1_sign : Nat → Int32) : Option (Int32 × Int32 × (Nat → Int32) × (Nat → Int32)) := (if x7 = (0 : Int32) then (if ¬ ((1 : Int32) < 0 ∨ 4 ≤ Int32.toNatClampNeg 1) then B_Mo_pushCrossing_85 fl f_p0_free (f_p0_free (Int32.toNatClampNeg 1)) x2 x3 x4 x5 x6 x7 x8 s0 i_p1_count i_p1_shapeIsKnown f_p1_label f_p1_sign else none) else (if ¬ ((0 : Int32) < 0 ∨ 4 ≤ Int32.toNatClampNeg 0) then B_Mo_pushCrossing_85 fl f_p0_free (f_p0_free (Int32.toNatClampNeg 0)) x2 x3 x4 x5 x6 x7 x8 s0 i_p1_count i_p1_shapeIsKnown f_p1_label f_p1_sign else none))
def B_Mo_pushCrossing_42 (fl : Nat) (f_p0_free : Nat → Int32) (s0 : Int32) (x2 : Int32) (x3 : Int32) (x4 : Int32) (x5 : Int32) (x6 : Int32) (x7 : Int32) (i_p1_count : Int32) (i_p1_shapeIsKnown : Int32) (f_p1_label : Nat → Int32) (f_p1_sign : Nat → Int32) : Option (Int32 × Int32 × (Nat → Int32) × (Nat → Int32)) := (if x7 = (0 : Int32) then (if ¬ ((0 : Int32) < 0 ∨ 4 ≤ Int32.toNatClampNeg 0) then B_Mo_pushCrossing_63 fl f_p0_free (f_p0_free (Int32.toNatClampNeg 0)) x2 x3 x4 x5 x6 x7 s0 i_p1_count i_p1_shapeIsKnown f_p1_label f_p1_sign else none) else B_Mo_pushCrossing_63 fl f_p0_free (if 0 ≤ x4 then x4 else 0 - x4) x2 x3 x4 x5 x6 x7 s0 i_p1_count i_p1_shapeIsKnown f_p1_label f_p1_sign)
def B_Mo_pushCrossing_32 (fl : Nat) (f_p0_free : Nat → Int32) (s0 : Int32) (x2 : Int32) (x3 : Int32) (x4 : Int32) (x5 : Int32) (x6 : Int32) (x7 : Int32) (i_p1_count : Int32) (i_p1_shapeIsKnown : Int32) (f_p1_label : Nat → Int32) (f_p1_sign : Nat → Int32) : Option (Int32 × Int32 × (Nat → Int32) × (Nat → Int32)) := (if s0 = x6 then B_Mo_pushCrossing_42 fl f_p0_free 0 x2 x3 x4 x5 x6 x7 i_p1_count i_p1_shapeIsKnown f_p1_label f_p1_sign else B_Mo_pushCrossing_42 fl f_p0_free 1 x2 x3 x4 x5 x6 x7 i_p1_count i_p1_shapeIsKnown f_p1_label f_p1_sign)
def B_Mo_pushCrossing_20 (fl : Nat) (f_p0_free : Nat → Int32) (s0 : Int32) (x2 : Int32) (x3 : Int32) (x4 : Int32) (x5 : Int32) (x6 : Int32) (i_p1_count : Int32) (i_p1_shapeIsKnown : Int32) (f_p1_label : Nat → Int32) (f_p1_sign : Nat → Int32) : Option (Int32 × Int32 × (Nat → Int32) × (Nat → Int32)) := (if x5 ≤ (0 : Int32) then B_Mo_pushCrossing_32 fl f_p0_free 0 x2 x3 x4 x5 x6 s0 i_p1_count i_p1_shapeIsKnown f_p1_label f_p1_sign else B_Mo_pushCrossing_32 fl f_p0_free 1 x2 x3 x4 x5 x6 s0 i_p1_count i_p1_shapeIsKnown f_p1_label f_p1_sign)
def B_Mo_pushCrossing_10 (fl : Nat) (f_p0_free : Nat → Int32) (s0 : Int32) (x2 : Int32) (x3 : Int32) (x4 : Int32) (x5 : Int32) (x6 : Int32) (i_p1_count : Int32) (i_p1_shapeIsKnown : Int32) (f_p1_label : Nat → Int32) (f_p1_sign : Nat → Int32) : Option (Int32 × Int32 × (Nat → Int32) × (Nat → Int32)) := (if ¬ s0 = x6 then B_Mo_pushCrossing_20 fl f_p0_free 0 x2 x3 x4 x5 x6 i_p1_count i_p1_shapeIsKnown f_p1_label f_p1_sign else B_Mo_pushCrossing_20 fl f_p0_free 1 x2 x3 x4 x5 x6 i_p1_count i_p1_shapeIsKnown f_p1_label f_p1_sign)
def B_Mo_pushCrossing_0 (fl : Nat) (f_p0_free : Nat → Int32) (x2 : Int32) (x3 : Int32) (x4 : Int32) (x5 : Int32) (x6 : Int32) (i_p1_count : Int32) (i_p1_shapeIsKnown : Int32) (f_p1_label : Nat → Int32) (f_p1_sign : Nat → Int32) : Option (Int32 × Int32 × (Nat → Int32) × (Nat → Int32)) := (if x4 ≤ (0 : Int32) then B_Mo_pushCrossing_10 fl f_p0_free 0 x2 x3 x4 x5 x6 i_p1_count i_p1_shapeIsKnown f_p1_label f_p1_sign else B_Mo_pushCrossing_10 fl f_p0_free 1 x2 x3 x4 x5 x6 i_p1_count i_p1_shapeIsKnown f_p1_label f_p1_sign)
def m_Mo_pushCrossing (fl : Nat) (f_p0_free : Nat → Int32) (x2 : Int32) (x3 : Int32) (x4 : Int32) (x5 : Int32) (x6 : Int32) (i_p1_count : Int32) (i_p1_shapeIsKnown : Int32) (f_p1_label : Nat → Int32) (f_p1_sign : Nat → Int32) : Option (Int32 × Int32 × (Nat → Int32) × (Nat → Int32)) := B_Mo_pushCrossing_0 fl f_p0_free x2 x3 x4 x5 x6 i_p1_count i_p1_shapeIsKnown f_p1_label f_p1_sign
set_option maxHeartbeats 4000000 in
set_option maxRecDepth 100000 in
theorem w_Mo_pushCrossing_128 {p : Program} {l : Launch} {e : Env} {s : State} {m : MethodId} {args : Array Value} {below : List Frame} {meth : Method} {c : Code} {D : va_G} {cI cJ cB : ClassId} {sa : Nat → Nat × Nat} {A : Nat → Prop} (fl : Nat) (q_p0 : Nat) (q_p0_free : Nat) (q_p1 : Nat) (q_p1_sign : Nat) (q_p1_label : Nat) (q_p1_shape : Nat) (f_p0_free : Nat → Int32) (i_p1_circles : Int32) (res : Int32 × Int32 × (Nat → Int32) × (Nat → Int32)) (C0 : vz_Cx p s m meth c b_Mo_pushCrossing 13 none "LinkEngine$Moves" "pushCrossing" D [(cI, .int), (cJ, .long), (cB, .byte)] sa A args) : ∀ (s0 : Int32) (x2 : Int32) (x3 : Int32) (x4 : Int32) (x5 : Int32) (x6 : Int32) (x7 : Int32) (x8 : Int32) (x9 : Int32) (x10 : Int32) (x11 : Int32) (i_p1_count : Int32) (i_p1_shapeIsKnown : Int32) (f_p1_label : Nat → Int32) (f_p1_sign : Nat → Int32) (H : Heap) (locs : List Loc) (ls : Array Slot), B_Mo_pushCrossing_128 fl f_p0_free s0 x2 x3 x4 x5 x6 x7 x8 x9 x10 x11 i_p1_count i_p1_shapeIsKnown f_p1_label f_p1_sign = some res → va_P D classes (ws_Mo_pushCrossing cI cJ cB q_p0 q_p0_free q_p1 q_p1_sign q_p1_label q_p1_shape f_p0_free i_p1_count i_p1_circles i_p1_shapeIsKnown f_p1_label f_p1_sign) H → va_D A (ws_Mo_pushCrossing cI cJ cB q_p0 q_p0_free q_p1 q_p1_sign q_p1_label q_p1_shape f_p0_free i_p1_count i_p1_circles i_p1_shapeIsKnown f_p1_label f_p1_sign) → va_S A s.heap H locs → lv_has ls 13 [(0, .ref q_p0), (1, .ref q_p1), (2, .int x2), (3, .int x3), (4, .int x4), (5, .int x5), (6, .int x6), (7, .int x7), (8, .int x8), (9, .int x9), (10, .int x10), (11, .int x11)] → W p l e rm_Mo_pushCrossing s m args below meth c H locs 0 0 (MQ below (va_Qv (fun (w : va_W) => w = (ws_Mo_pushCrossing cI cJ cB q_p0 q_p0_free q_p1 q_p1_sign q_p1_label q_p1_shape f_p0_free res.1 i_p1_circles res.2.1 res.2.2.1 res.2.2.2)) (vz_B D A) A) args s 0 0 A) (F0 m 128 ls [.int s0]) := by
  obtain ⟨hx, hb, hr, hml, hown, ht, hlocks, hin, hN, hK, hA, hZ⟩ := id C0
  intro s0 x2 x3 x4 x5 x6 x7 x8 x9 x10 x11 i_p1_count i_p1_shapeIsKnown f_p1_label f_p1_sign H locs ls hm hP hD hS hl
  unfold B_Mo_pushCrossing_128 at hm
  refine lv_istore (lv' := [(12, .int s0), (0, .ref q_p0), (1, .ref q_p1), (2, .int x2), (3, .int x3), (4, .int x4), (5, .int x5), (6, .int x6), (7, .int x7), (8, .int x8), (9, .int x9), (10, .int x10), (11, .int x11)]) hx hb d_Mo_pushCrossing_128 hl (by decide) rfl (fun ls hl => ?_)
  refine lv_aload_n hx hb d_Mo_pushCrossing_130 rfl (lv_at hl 2 rfl) ?_
  refine lv_iload_n hx hb d_Mo_pushCrossing_131 rfl (lv_at hl 3 rfl) ?_
  refine lv_iload_n hx hb d_Mo_pushCrossing_132 rfl (lv_at hl 4 rfl) ?_
  refine lv_iload hx hb d_Mo_pushCrossing_133 (lv_at hl 10 rfl) ?_
  refine lv_iload hx hb d_Mo_pushCrossing_135 (lv_at hl 11 rfl) ?_
  refine lv_iload hx hb d_Mo_pushCrossing_137 (lv_at hl 12 rfl) ?_
  refine lv_iload hx hb d_Mo_pushCrossing_139 (lv_at hl 0 rfl) ?_
  obtain ⟨o0, ho0, hm⟩ := vz_bind hm
  try dsimp only at hm
  refine vz_callVv (n := 6) (As := [.int x2, .int x3, .int x9, .int x10, .int x11, .int s0]) (rest := []) (wc := (ws_Di_addCrossing cI cJ cB q_p1 q_p1_sign q_p1_label q_p1_shape i_p1_count i_p1_circles i_p1_shapeIsKnown f_p1_label f_p1_sign)) (wr := [(q_p0, .inr (6, [.ref q_p0_free])), (q_p0_free, .inl (cI, 4, .inl f_p0_free))]) (k1 := 0) (n1 := 0) hx hb hml hown ht hN hZ hK hP hD hS hA (k_Di_addCrossing l D cI cJ cB sa fl q_p1 q_p1_sign q_p1_label q_p1_shape i_p1_circles i_p1_count i_p1_shapeIsKnown f_p1_label f_p1_sign x2 x3 x9 x10 x11 s0 o0 ho0) m_659 m_99 m_656 m_657 m_658 (hc := (rfl : classes[4]? = some (R_Di, F_Di, 6))) 2 rfl (by decide +kernel) ⟨Nat.le_of_ble_eq_true rfl, Nat.le_of_ble_eq_true rfl⟩ [2, 3, 4] [0, 1] rfl rfl (by decide) (by decide) (by decide) rfl hl.1 rfl (Nat.le_of_ble_eq_true rfl) rfl rfl ⟨Nat.zero_le _, Nat.zero_le _⟩ d_Mo_pushCrossing_141 (fun w1 H locs hw hP hD hS => ?_)
  subst hw
  have hP : va_P D classes (ws_Mo_pushCrossing cI cJ cB q_p0 q_p0_free q_p1 q_p1_sign q_p1_label q_p1_shape f_p0_free o0.1 i_p1_circles o0.2.1 o0.2.2.1 o0.2.2.2) H := hP.sub [0, 1, 2, 3, 4] rfl
  have hD : va_D A (ws_Mo_pushCrossing cI cJ cB q_p0 q_p0_free q_p1 q_p1_sign q_p1_label q_p1_shape f_p0_free o0.1 i_p1_circles o0.2.1 o0.2.2.1 o0.2.2.2) := hD.sub [0, 1, 2, 3, 4] (by decide) rfl
  obtain rfl := Option.some.inj hm
  exact vz_vret hx hb hr hlocks hP hD hS (Nat.le_refl _) (Nat.le_refl _) d_Mo_pushCrossing_144 rfl
set_option maxHeartbeats 4000000 in
set_option maxRecDepth 100000 in
theorem w_Mo_pushCrossing_106 {p : Program} {l : Launch} {e : Env} {s : State} {m : MethodId} {args : Array Value} {below : List Frame} {meth : Method} {c : Code} {D : va_G} {cI cJ cB : ClassId} {sa : Nat → Nat × Nat} {A : Nat → Prop} (fl : Nat) (q_p0 : Nat) (q_p0_free : Nat) (q_p1 : Nat) (q_p1_sign : Nat) (q_p1_label : Nat) (q_p1_shape : Nat) (f_p0_free : Nat → Int32) (i_p1_circles : Int32) (res : Int32 × Int32 × (Nat → Int32) × (Nat → Int32)) (C0 : vz_Cx p s m meth c b_Mo_pushCrossing 13 none "LinkEngine$Moves" "pushCrossing" D [(cI, .int), (cJ, .long), (cB, .byte)] sa A args) : ∀ (s0 : Int32) (x2 : Int32) (x3 : Int32) (x4 : Int32) (x5 : Int32) (x6 : Int32) (x7 : Int32) (x8 : Int32) (x9 : Int32) (x10 : Int32) (i_p1_count : Int32) (i_p1_shapeIsKnown : Int32) (f_p1_label : Nat → Int32) (f_p1_sign : Nat → Int32) (H : Heap) (locs : List Loc) (ls : Array Slot), B_Mo_pushCrossing_106 fl f_p0_free s0 x2 x3 x4 x5 x6 x7 x8 x9 x10 i_p1_count i_p1_shapeIsKnown f_p1_label f_p1_sign = some res → va_P D classes (ws_Mo_pushCrossing cI cJ cB q_p0 q_p0_free q_p1 q_p1_sign q_p1_label q_p1_shape f_p0_free i_p1_count i_p1_circles i_p1_shapeIsKnown f_p1_label f_p1_sign) H → va_D A (ws_Mo_pushCrossing cI cJ cB q_p0 q_p0_free q_p1 q_p1_sign q_p1_label q_p1_shape f_p0_free i_p1_count i_p1_circles i_p1_shapeIsKnown f_p1_label f_p1_sign) → va_S A s.heap H locs → lv_has ls 13 [(0, .ref q_p0), (1, .ref q_p1), (2, .int x2), (3, .int x3), (4, .int x4), (5, .int x5), (6, .int x6), (7, .int x7), (8, .int x8), (9, .int x9), (10, .int x10)] → W p l e rm_Mo_pushCrossing s m args below meth c H locs 0 0 (MQ below (va_Qv (fun (w : va_W) => w = (ws_Mo_pushCrossing cI cJ cB q_p0 q_p0_free q_p1 q_p1_sign q_p1_label q_p1_shape f_p0_free res.1 i_p1_circles res.2.1 res.2.2.1 res.2.2.2)) (vz_B D A) A) args s 0 0 A) (F0 m 106 ls [.int s0]) := by
  obtain ⟨hx, hb, hr, hml, hown, ht, hlocks, hin, hN, hK, hA, hZ⟩ := id C0
  intro s0 x2 x3 x4 x5 x6 x7 x8 x9 x10 i_p1_count i_p1_shapeIsKnown f_p1_label f_p1_sign H locs ls hm hP hD hS hl
  unfold B_Mo_pushCrossing_106 at hm
  refine lv_istore (lv' := [(11, .int s0), (0, .ref q_p0), (1, .ref q_p1), (2, .int x2), (3, .int x3), (4, .int x4), (5, .int x5), (6, .int x6), (7, .int x7), (8, .int x8), (9, .int x9), (10, .int x10)]) hx hb d_Mo_pushCrossing_106 hl (by decide) rfl (fun ls hl => ?_)
  refine lv_iload hx hb d_Mo_pushCrossing_108 (lv_at hl 9 rfl) ?_
  refine lv_if_eq (tgt := 122) hx hb d_Mo_pushCrossing_110 (by decide) (fun hc => ?_) (fun hc => ?_)
  · rw [if_pos hc] at hm
    refine lv_aload_n hx hb d_Mo_pushCrossing_122 rfl (lv_at hl 1 rfl) ?_
    refine va_get (D := D) (ci := 6) (v := .ref q_p0_free) (C := R_Mo) (T := F_Mo) (N := 1) hx hb ht i_Mo hown hK hP 0 rfl rfl 0 (Nat.le_of_ble_eq_true rfl) (ht _ m_21) (fun _ h9 => h9) rfl d_Mo_pushCrossing_123 ?_
    refine lv_iconst (v := 3) hx hb d_Mo_pushCrossing_126 (by decide) ?_
    obtain ⟨hg, hm⟩ := vz_guard hm
    refine va_iald hx hb hK hP 1 0 rfl rfl hg d_Mo_pushCrossing_127 ?_
    exact w_Mo_pushCrossing_128 fl q_p0 q_p0_free q_p1 q_p1_sign q_p1_label q_p1_shape f_p0_free i_p1_circles res C0 (f_p0_free (Int32.toNatClampNeg 3)) x2 x3 x4 x5 x6 x7 x8 x9 x10 s0 i_p1_count i_p1_shapeIsKnown f_p1_label f_p1_sign _ _ _ hm hP hD hS (lv_sub hl [1, 2, 3, 4, 5, 6, 7, 8, 9, 10, 11, 0] rfl)
  · rw [if_neg hc] at hm
    refine lv_aload_n hx hb d_Mo_pushCrossing_113 rfl (lv_at hl 1 rfl) ?_
    refine va_get (D := D) (ci := 6) (v := .ref q_p0_free) (C := R_Mo) (T := F_Mo) (N := 1) hx hb ht i_Mo hown hK hP 0 rfl rfl 0 (Nat.le_of_ble_eq_true rfl) (ht _ m_21) (fun _ h9 => h9) rfl d_Mo_pushCrossing_114 ?_
    refine lv_iconst (v := 2) hx hb d_Mo_pushCrossing_117 (by decide) ?_
    obtain ⟨hg, hm⟩ := vz_guard hm
    refine va_iald hx hb hK hP 1 0 rfl rfl hg d_Mo_pushCrossing_118 ?_
    refine lv_goto (tgt := 128) hx hb d_Mo_pushCrossing_119 (by decide) ?_
    exact w_Mo_pushCrossing_128 fl q_p0 q_p0_free q_p1 q_p1_sign q_p1_label q_p1_shape f_p0_free i_p1_circles res C0 (f_p0_free (Int32.toNatClampNeg 2)) x2 x3 x4 x5 x6 x7 x8 x9 x10 s0 i_p1_count i_p1_shapeIsKnown f_p1_label f_p1_sign _ _ _ hm hP hD hS (lv_sub hl [1, 2, 3, 4, 5, 6, 7, 8, 9, 10, 11, 0] rfl)
set_option maxHeartbeats 4000000 in
set_option maxRecDepth 100000 in
theorem w_Mo_pushCrossing_85 {p : Program} {l : Launch} {e : Env} {s : State} {m : MethodId} {args : Array Value} {below : List Frame} {meth : Method} {c : Code} {D : va_G} {cI cJ cB : ClassId} {sa : Nat → Nat × Nat} {A : Nat → Prop} (fl : Nat) (q_p0 : Nat) (q_p0_free : Nat) (q_p1 : Nat) (q_p1_sign : Nat) (q_p1_label : Nat) (q_p1_shape : Nat) (f_p0_free : Nat → Int32) (i_p1_circles : Int32) (res : Int32 × Int32 × (Nat → Int32) × (Nat → Int32)) (C0 : vz_Cx p s m meth c b_Mo_pushCrossing 13 none "LinkEngine$Moves" "pushCrossing" D [(cI, .int), (cJ, .long), (cB, .byte)] sa A args) : ∀ (s0 : Int32) (x2 : Int32) (x3 : Int32) (x4 : Int32) (x5 : Int32) (x6 : Int32) (x7 : Int32) (x8 : Int32) (x9 : Int32) (i_p1_count : Int32) (i_p1_shapeIsKnown : Int32) (f_p1_label : Nat → Int32) (f_p1_sign : Nat → Int32) (H : Heap) (locs : List Loc) (ls : Array Slot), B_Mo_pushCrossing_85 fl f_p0_free s0 x2 x3 x4 x5 x6 x7 x8 x9 i_p1_count i_p1_shapeIsKnown f_p1_label f_p1_sign = some res → va_P D classes (ws_Mo_pushCrossing cI cJ cB q_p0 q_p0_free q_p1 q_p1_sign q_p1_label q_p1_shape f_p0_free i_p1_count i_p1_circles i_p1_shapeIsKnown f_p1_label f_p1_sign) H → va_D A (ws_Mo_pushCrossing cI cJ cB q_p0 q_p0_free q_p1 q_p1_sign q_p1_label q_p1_shape f_p0_free i_p1_count i_p1_circles i_p1_shapeIsKnown f_p1_label f_p1_sign) → va_S A s.heap H locs → lv_has ls 13 [(0, .ref q_p0), (1, .ref q_p1), (2, .int x2), (3, .int x3), (4, .int x4), (5, .int x5), (6, .int x6), (7, .int x7), (8, .int x8), (9, .int x9)] → W p l e rm_Mo_pushCrossing s m args below meth c H locs 0 0 (MQ below (va_Qv (fun (w : va_W) => w = (ws_Mo_pushCrossing cI cJ cB q_p0 q_p0_free q_p1 q_p1_sign q_p1_label q_p1_shape f_p0_free res.1 i_p1_circles res.2.1 res.2.2.1 res.2.2.2)) (vz_B D A) A) args s 0 0 A) (F0 m 85 ls [.int s0]) := by
  obtain ⟨hx, hb, hr, hml, hown, ht, hlocks, hin, hN, hK, hA, hZ⟩ := id C0
  intro s0 x2 x3 x4 x5 x6 x7 x8 x9 i_p1_count i_p1_shapeIsKnown f_p1_label f_p1_sign H locs ls hm hP hD hS hl
  unfold B_Mo_pushCrossing_85 at hm
  refine lv_istore (lv' := [(10, .int s0), (0, .ref q_p0), (1, .ref q_p1), (2, .int x2), (3, .int x3), (4, .int x4), (5, .int x5), (6, .int x6), (7, .int x7), (8, .int x8), (9, .int x9)]) hx hb d_Mo_pushCrossing_85 hl (by decide) rfl (fun ls hl => ?_)
  refine lv_iload hx hb d_Mo_pushCrossing_87 (lv_at hl 9 rfl) ?_
  refine lv_if_eq (tgt := 100) hx hb d_Mo_pushCrossing_89 (by decide) (fun hc => ?_) (fun hc => ?_)
  · rw [if_pos hc] at hm
    refine lv_aload_n hx hb d_Mo_pushCrossing_100 rfl (lv_at hl 1 rfl) ?_
    refine va_get (D := D) (ci := 6) (v := .ref q_p0_free) (C := R_Mo) (T := F_Mo) (N := 1) hx hb ht i_Mo hown hK hP 0 rfl rfl 0 (Nat.le_of_ble_eq_true rfl) (ht _ m_21) (fun _ h9 => h9) rfl d_Mo_pushCrossing_101 ?_
    refine lv_iconst (v := 2) hx hb d_Mo_pushCrossing_104 (by decide) ?_
    obtain ⟨hg, hm⟩ := vz_guard hm
    refine va_iald hx hb hK hP 1 0 rfl rfl hg d_Mo_pushCrossing_105 ?_
    exact w_Mo_pushCrossing_106 fl q_p0 q_p0_free q_p1 q_p1_sign q_p1_label q_p1_shape f_p0_free i_p1_circles res C0 (f_p0_free (Int32.toNatClampNeg 2)) x2 x3 x4 x5 x6 x7 x8 x9 s0 i_p1_count i_p1_shapeIsKnown f_p1_label f_p1_sign _ _ _ hm hP hD hS (lv_sub hl [1, 2, 3, 4, 5, 6, 7, 8, 9, 10, 0] rfl)
  · rw [if_neg hc] at hm
    refine lv_iload hx hb d_Mo_pushCrossing_92 (lv_at hl 6 rfl) ?_
    refine va_mabs hx hb (hml.trans hl.1.symm) hown (ht _ m_660) (ht _ m_404) (ht _ m_373) (ht _ m_405) (Nat.le_of_ble_eq_true rfl) (Nat.le_of_ble_eq_true rfl) (Nat.zero_le _) (Nat.zero_le _) d_Mo_pushCrossing_94 ?_
    refine lv_goto (tgt := 106) hx hb d_Mo_pushCrossing_97 (by decide) ?_
    exact w_Mo_pushCrossing_106 fl q_p0 q_p0_free q_p1 q_p1_sign q_p1_label q_p1_shape f_p0_free i_p1_circles res C0 (if 0 ≤ x5 then x5 else 0 - x5) x2 x3 x4 x5 x6 x7 x8 x9 s0 i_p1_count i_p1_shapeIsKnown f_p1_label f_p1_sign _ _ _ hm hP hD hS (lv_sub hl [1, 2, 3, 4, 5, 6, 7, 8, 9, 10, 0] rfl)
set_option maxHeartbeats 4000000 in
set_option maxRecDepth 100000 in
theorem w_Mo_pushCrossing_63 {p : Program} {l : Launch} {e : Env} {s : State} {m : MethodId} {args : Array Value} {below : List Frame} {meth : Method} {c : Code} {D : va_G} {cI cJ cB : ClassId} {sa : Nat → Nat × Nat} {A : Nat → Prop} (fl : Nat) (q_p0 : Nat) (q_p0_free : Nat) (q_p1 : Nat) (q_p1_sign : Nat) (q_p1_label : Nat) (q_p1_shape : Nat) (f_p0_free : Nat → Int32) (i_p1_circles : Int32) (res : Int32 × Int32 × (Nat → Int32) × (Nat → Int32)) (C0 : vz_Cx p s m meth c b_Mo_pushCrossing 13 none "LinkEngine$Moves" "pushCrossing" D [(cI, .int), (cJ, .long), (cB, .byte)] sa A args) : ∀ (s0 : Int32) (x2 : Int32) (x3 : Int32) (x4 : Int32) (x5 : Int32) (x6 : Int32) (x7 : Int32) (x8 : Int32) (i_p1_count : Int32) (i_p1_shapeIsKnown : Int32) (f_p1_label : Nat → Int32) (f_p1_sign : Nat → Int32) (H : Heap) (locs : List Loc) (ls : Array Slot), B_Mo_pushCrossing_63 fl f_p0_free s0 x2 x3 x4 x5 x6 x7 x8 i_p1_count i_p1_shapeIsKnown f_p1_label f_p1_sign = some res → va_P D classes (ws_Mo_pushCrossing cI cJ cB q_p0 q_p0_free q_p1 q_p1_sign q_p1_label q_p1_shape f_p0_free i_p1_count i_p1_circles i_p1_shapeIsKnown f_p1_label f_p1_sign) H → va_D A (ws_Mo_pushCrossing cI cJ cB q_p0 q_p0_free q_p1 q_p1_sign q_p1_label q_p1_shape f_p0_free i_p1_count i_p1_circles i_p1_shapeIsKnown f_p1_label f_p1_sign) → va_S A s.heap H locs → lv_has ls 13 [(0, .ref q_p0), (1, .ref q_p1), (2, .int x2), (3, .int x3), (4, .int x4), (5, .int x5), (6, .int x6), (7, .int x7), (8, .int x8)] → W p l e rm_Mo_pushCrossing s m args below meth c H locs 0 0 (MQ below (va_Qv (fun (w : va_W) => w = (ws_Mo_pushCrossing cI cJ cB q_p0 q_p0_free q_p1 q_p1_sign q_p1_label q_p1_shape f_p0_free res.1 i_p1_circles res.2.1 res.2.2.1 res.2.2.2)) (vz_B D A) A) args s 0 0 A) (F0 m 63 ls [.int s0]) := by
  obtain ⟨hx, hb, hr, hml, hown, ht, hlocks, hin, hN, hK, hA, hZ⟩ := id C0
  intro s0 x2 x3 x4 x5 x6 x7 x8 i_p1_count i_p1_shapeIsKnown f_p1_label f_p1_sign H locs ls hm hP hD hS hl
  unfold B_Mo_pushCrossing_63 at hm
  refine lv_istore (lv' := [(9, .int s0), (0, .ref q_p0), (1, .ref q_p1), (2, .int x2), (3, .int x3), (4, .int x4), (5, .int x5), (6, .int x6), (7, .int x7), (8, .int x8)]) hx hb d_Mo_pushCrossing_63 hl (by decide) rfl (fun ls hl => ?_)
  refine lv_iload hx hb d_Mo_pushCrossing_65 (lv_at hl 8 rfl) ?_
  refine lv_if_eq (tgt := 79) hx hb d_Mo_pushCrossing_67 (by decide) (fun hc => ?_) (fun hc => ?_)
  · rw [if_pos hc] at hm
    refine lv_aload_n hx hb d_Mo_pushCrossing_79 rfl (lv_at hl 1 rfl) ?_
    refine va_get (D := D) (ci := 6) (v := .ref q_p0_free) (C := R_Mo) (T := F_Mo) (N := 1) hx hb ht i_Mo hown hK hP 0 rfl rfl 0 (Nat.le_of_ble_eq_true rfl) (ht _ m_21) (fun _ h9 => h9) rfl d_Mo_pushCrossing_80 ?_
    refine lv_iconst (v := 1) hx hb d_Mo_pushCrossing_83 (by decide) ?_
    obtain ⟨hg, hm⟩ := vz_guard hm
    refine va_iald hx hb hK hP 1 0 rfl rfl hg d_Mo_pushCrossing_84 ?_
    exact w_Mo_pushCrossing_85 fl q_p0 q_p0_free q_p1 q_p1_sign q_p1_label q_p1_shape f_p0_free i_p1_circles res C0 (f_p0_free (Int32.toNatClampNeg 1)) x2 x3 x4 x5 x6 x7 x8 s0 i_p1_count i_p1_shapeIsKnown f_p1_label f_p1_sign _ _ _ hm hP hD hS (lv_sub hl [1, 2, 3, 4, 5, 6, 7, 8, 9, 0] rfl)
  · rw [if_neg hc] at hm
    refine lv_aload_n hx hb d_Mo_pushCrossing_70 rfl (lv_at hl 1 rfl) ?_
    refine va_get (D := D) (ci := 6) (v := .ref q_p0_free) (C := R_Mo) (T := F_Mo) (N := 1) hx hb ht i_Mo hown hK hP 0 rfl rfl 0 (Nat.le_of_ble_eq_true rfl) (ht _ m_21) (fun _ h9 => h9) rfl d_Mo_pushCrossing_71 ?_
    refine lv_iconst (v := 0) hx hb d_Mo_pushCrossing_74 (by decide) ?_
    obtain ⟨hg, hm⟩ := vz_guard hm
    refine va_iald hx hb hK hP 1 0 rfl rfl hg d_Mo_pushCrossing_75 ?_
    refine lv_goto (tgt := 85) hx hb d_Mo_pushCrossing_76 (by decide) ?_
    exact w_Mo_pushCrossing_85 fl q_p0 q_p0_free q_p1 q_p1_sign q_p1_label q_p1_shape f_p0_free i_p1_circles res C0 (f_p0_free (Int32.toNatClampNeg 0)) x2 x3 x4 x5 x6 x7 x8 s0 i_p1_count i_p1_shapeIsKnown f_p1_label f_p1_sign _ _ _ hm hP hD hS (lv_sub hl [1, 2, 3, 4, 5, 6, 7, 8, 9, 0] rfl)
set_option maxHeartbeats 4000000 in
set_option maxRecDepth 100000 in
theorem w_Mo_pushCrossing_42 {p : Program} {l : Launch} {e : Env} {s : State} {m : MethodId} {args : Array Value} {below : List Frame} {meth : Method} {c : Code} {D : va_G} {cI cJ cB : ClassId} {sa : Nat → Nat × Nat} {A : Nat → Prop} (fl : Nat) (q_p0 : Nat) (q_p0_free : Nat) (q_p1 : Nat) (q_p1_sign : Nat) (q_p1_label : Nat) (q_p1_shape : Nat) (f_p0_free : Nat → Int32) (i_p1_circles : Int32) (res : Int32 × Int32 × (Nat → Int32) × (Nat → Int32)) (C0 : vz_Cx p s m meth c b_Mo_pushCrossing 13 none "LinkEngine$Moves" "pushCrossing" D [(cI, .int), (cJ, .long), (cB, .byte)] sa A args) : ∀ (s0 : Int32) (x2 : Int32) (x3 : Int32) (x4 : Int32) (x5 : Int32) (x6 : Int32) (x7 : Int32) (i_p1_count : Int32) (i_p1_shapeIsKnown : Int32) (f_p1_label : Nat → Int32) (f_p1_sign : Nat → Int32) (H : Heap) (locs : List Loc) (ls : Array Slot), B_Mo_pushCrossing_42 fl f_p0_free s0 x2 x3 x4 x5 x6 x7 i_p1_count i_p1_shapeIsKnown f_p1_label f_p1_sign = some res → va_P D classes (ws_Mo_pushCrossing cI cJ cB q_p0 q_p0_free q_p1 q_p1_sign q_p1_label q_p1_shape f_p0_free i_p1_count i_p1_circles i_p1_shapeIsKnown f_p1_label f_p1_sign) H → va_D A (ws_Mo_pushCrossing cI cJ cB q_p0 q_p0_free q_p1 q_p1_sign q_p1_label q_p1_shape f_p0_free i_p1_count i_p1_circles i_p1_shapeIsKnown f_p1_label f_p1_sign) → va_S A s.heap H locs → lv_has ls 13 [(0, .ref q_p0), (1, .ref q_p1), (2, .int x2), (3, .int x3), (4, .int x4), (5, .int x5), (6, .int x6), (7, .int x7)] → W p l e rm_Mo_pushCrossing s m args below meth c H locs 0 0 (MQ below (va_Qv (fun (w : va_W) => w = (ws_Mo_pushCrossing cI cJ cB q_p0 q_p0_free q_p1 q_p1_sign q_p1_label q_p1_shape f_p0_free res.1 i_p1_circles res.2.1 res.2.2.1 res.2.2.2)) (vz_B D A) A) args s 0 0 A) (F0 m 42 ls [.int s0]) := by
  obtain ⟨hx, hb, hr, hml, hown, ht, hlocks, hin, hN, hK, hA, hZ⟩ := id C0
  intro s0 x2 x3 x4 x5 x6 x7 i_p1_count i_p1_shapeIsKnown f_p1_label f_p1_sign H locs ls hm hP hD hS hl
  unfold B_Mo_pushCrossing_42 at hm
  refine lv_istore (lv' := [(8, .int s0), (0, .ref q_p0), (1, .ref q_p1), (2, .int x2), (3, .int x3), (4, .int x4), (5, .int x5), (6, .int x6), (7, .int x7)]) hx hb d_Mo_pushCrossing_42 hl (by decide) rfl (fun ls hl => ?_)
  refine lv_iload hx hb d_Mo_pushCrossing_44 (lv_at hl 8 rfl) ?_
  refine lv_if_eq (tgt := 57) hx hb d_Mo_pushCrossing_46 (by decide) (fun hc => ?_) (fun hc => ?_)
  · rw [if_pos hc] at hm
    refine lv_aload_n hx hb d_Mo_pushCrossing_57 rfl (lv_at hl 1 rfl) ?_
    refine va_get (D := D) (ci := 6) (v := .ref q_p0_free) (C := R_Mo) (T := F_Mo) (N := 1) hx hb ht i_Mo hown hK hP 0 rfl rfl 0 (Nat.le_of_ble_eq_true rfl) (ht _ m_21) (fun _ h9 => h9) rfl d_Mo_pushCrossing_58 ?_
    refine lv_iconst (v := 0) hx hb d_Mo_pushCrossing_61 (by decide) ?_
    obtain ⟨hg, hm⟩ := vz_guard hm
    refine va_iald hx hb hK hP 1 0 rfl rfl hg d_Mo_pushCrossing_62 ?_
    exact w_Mo_pushCrossing_63 fl q_p0 q_p0_free q_p1 q_p1_sign q_p1_label q_p1_shape f_p0_free i_p1_circles res C0 (f_p0_free (Int32.toNatClampNeg 0)) x2 x3 x4 x5 x6 x7 s0 i_p1_count i_p1_shapeIsKnown f_p1_label f_p1_sign _ _ _ hm hP hD hS (lv_sub hl [1, 2, 3, 4, 5, 6, 7, 8, 0] rfl)
  · rw [if_neg hc] at hm
    refine lv_iload hx hb d_Mo_pushCrossing_49 (lv_at hl 5 rfl) ?_
    refine va_mabs hx hb (hml.trans hl.1.symm) hown (ht _ m_660) (ht _ m_404) (ht _ m_373) (ht _ m_405) (Nat.le_of_ble_eq_true rfl) (Nat.le_of_ble_eq_true rfl) (Nat.zero_le _) (Nat.zero_le _) d_Mo_pushCrossing_51 ?_
    refine lv_goto (tgt := 63) hx hb d_Mo_pushCrossing_54 (by decide) ?_
    exact w_Mo_pushCrossing_63 fl q_p0 q_p0_free q_p1 q_p1_sign q_p1_label q_p1_shape f_p0_free i_p1_circles res C0 (if 0 ≤ x4 then x4 else 0 - x4) x2 x3 x4 x5 x6 x7 s0 i_p1_count i_p1_shapeIsKnown f_p1_label f_p1_sign _ _ _ hm hP hD hS (lv_sub hl [1, 2, 3, 4, 5, 6, 7, 8, 0] rfl)
set_option maxHeartbeats 4000000 in
set_option maxRecDepth 100000 in
theorem w_Mo_pushCrossing_32 {p : Program} {l : Launch} {e : Env} {s : State} {m : MethodId} {args : Array Value} {below : List Frame} {meth : Method} {c : Code} {D : va_G} {cI cJ cB : ClassId} {sa : Nat → Nat × Nat} {A : Nat → Prop} (fl : Nat) (q_p0 : Nat) (q_p0_free : Nat) (q_p1 : Nat) (q_p1_sign : Nat) (q_p1_label : Nat) (q_p1_shape : Nat) (f_p0_free : Nat → Int32) (i_p1_circles : Int32) (res : Int32 × Int32 × (Nat → Int32) × (Nat → Int32)) (C0 : vz_Cx p s m meth c b_Mo_pushCrossing 13 none "LinkEngine$Moves" "pushCrossing" D [(cI, .int), (cJ, .long), (cB, .byte)] sa A args) : ∀ (s0 : Int32) (x2 : Int32) (x3 : Int32) (x4 : Int32) (x5 : Int32) (x6 : Int32) (x7 : Int32) (i_p1_count : Int32) (i_p1_shapeIsKnown : Int32) (f_p1_label : Nat → Int32) (f_p1_sign : Nat → Int32) (H : Heap) (locs : List Loc) (ls : Array Slot), B_Mo_pushCrossing_32 fl f_p0_free s0 x2 x3 x4 x5 x6 x7 i_p1_count i_p1_shapeIsKnown f_p1_label f_p1_sign = some res → va_P D classes (ws_Mo_pushCrossing cI cJ cB q_p0 q_p0_free q_p1 q_p1_sign q_p1_label q_p1_shape f_p0_free i_p1_count i_p1_circles i_p1_shapeIsKnown f_p1_label f_p1_sign) H → va_D A (ws_Mo_pushCrossing cI cJ cB q_p0 q_p0_free q_p1 q_p1_sign q_p1_label q_p1_shape f_p0_free i_p1_count i_p1_circles i_p1_shapeIsKnown f_p1_label f_p1_sign) → va_S A s.heap H locs → lv_has ls 13 [(0, .ref q_p0), (1, .ref q_p1), (2, .int x2), (3, .int x3), (4, .int x4), (5, .int x5), (6, .int x6), (7, .int x7)] → W p l e rm_Mo_pushCrossing s m args below meth c H locs 0 0 (MQ below (va_Qv (fun (w : va_W) => w = (ws_Mo_pushCrossing cI cJ cB q_p0 q_p0_free q_p1 q_p1_sign q_p1_label q_p1_shape f_p0_free res.1 i_p1_circles res.2.1 res.2.2.1 res.2.2.2)) (vz_B D A) A) args s 0 0 A) (F0 m 32 ls [.int s0]) := by
  obtain ⟨hx, hb, hr, hml, hown, ht, hlocks, hin, hN, hK, hA, hZ⟩ := id C0
  intro s0 x2 x3 x4 x5 x6 x7 i_p1_count i_p1_shapeIsKnown f_p1_label f_p1_sign H locs ls hm hP hD hS hl
  unfold B_Mo_pushCrossing_32 at hm
  refine lv_iload hx hb d_Mo_pushCrossing_32 (lv_at hl 6 rfl) ?_
  refine lv_icmp_eq (tgt := 41) hx hb d_Mo_pushCrossing_34 (by decide) (fun hc => ?_) (fun hc => ?_)
  · rw [if_pos hc] at hm
    refine lv_iconst (v := 0) hx hb d_Mo_pushCrossing_41 (by decide) ?_
    exact w_Mo_pushCrossing_42 fl q_p0 q_p0_free q_p1 q_p1_sign q_p1_label q_p1_shape f_p0_free i_p1_circles res C0 0 x2 x3 x4 x5 x6 x7 i_p1_count i_p1_shapeIsKnown f_p1_label f_p1_sign _ _ _ hm hP hD hS (lv_sub hl [0, 1, 2, 3, 4, 5, 6, 7] rfl)
  · rw [if_neg hc] at hm
    refine lv_iconst (v := 1) hx hb d_Mo_pushCrossing_37 (by decide) ?_
    refine lv_goto (tgt := 42) hx hb d_Mo_pushCrossing_38 (by decide) ?_
    exact w_Mo_pushCrossing_42 fl q_p0 q_p0_free q_p1 q_p1_sign q_p1_label q_p1_shape f_p0_free i_p1_circles res C0 1 x2 x3 x4 x5 x6 x7 i_p1_count i_p1_shapeIsKnown f_p1_label f_p1_sign _ _ _ hm hP hD hS (lv_sub hl [0, 1, 2, 3, 4, 5, 6, 7] rfl)
set_option maxHeartbeats 4000000 in
set_option maxRecDepth 100000 in
theorem w_Mo_pushCrossing_20 {p : Program} {l : Launch} {e : Env} {s : State} {m : MethodId} {args : Array Value} {below : List Frame} {meth : Method} {c : Code} {D : va_G} {cI cJ cB : ClassId} {sa : Nat → Nat × Nat} {A : Nat → Prop} (fl : Nat) (q_p0 : Nat) (q_p0_free : Nat) (q_p1 : Nat) (q_p1_sign : Nat) (q_p1_label : Nat) (q_p1_shape : Nat) (f_p0_free : Nat → Int32) (i_p1_circles : Int32) (res : Int32 × Int32 × (Nat → Int32) × (Nat → Int32)) (C0 : vz_Cx p s m meth c b_Mo_pushCrossing 13 none "LinkEngine$Moves" "pushCrossing" D [(cI, .int), (cJ, .long), (cB, .byte)] sa A args) : ∀ (s0 : Int32) (x2 : Int32) (x3 : Int32) (x4 : Int32) (x5 : Int32) (x6 : Int32) (i_p1_count : Int32) (i_p1_shapeIsKnown : Int32) (f_p1_label : Nat → Int32) (f_p1_sign : Nat → Int32) (H : Heap) (locs : List Loc) (ls : Array Slot), B_Mo_pushCrossing_20 fl f_p0_free s0 x2 x3 x4 x5 x6 i_p1_count i_p1_shapeIsKnown f_p1_label f_p1_sign = some res → va_P D classes (ws_Mo_pushCrossing cI cJ cB q_p0 q_p0_free q_p1 q_p1_sign q_p1_label q_p1_shape f_p0_free i_p1_count i_p1_circles i_p1_shapeIsKnown f_p1_label f_p1_sign) H → va_D A (ws_Mo_pushCrossing cI cJ cB q_p0 q_p0_free q_p1 q_p1_sign q_p1_label q_p1_shape f_p0_free i_p1_count i_p1_circles i_p1_shapeIsKnown f_p1_label f_p1_sign) → va_S A s.heap H locs → lv_has ls 13 [(0, .ref q_p0), (1, .ref q_p1), (2, .int x2), (3, .int x3), (4, .int x4), (5, .int x5), (6, .int x6)] → W p l e rm_Mo_pushCrossing s m args below meth c H locs 0 0 (MQ below (va_Qv (fun (w : va_W) => w = (ws_Mo_pushCrossing cI cJ cB q_p0 q_p0_free q_p1 q_p1_sign q_p1_label q_p1_shape f_p0_free res.1 i_p1_circles res.2.1 res.2.2.1 res.2.2.2)) (vz_B D A) A) args s 0 0 A) (F0 m 20 ls [.int s0]) := by
  obtain ⟨hx, hb, hr, hml, hown, ht, hlocks, hin, hN, hK, hA, hZ⟩ := id C0
  intro s0 x2 x3 x4 x5 x6 i_p1_count i_p1_shapeIsKnown f_p1_label f_p1_sign H locs ls hm hP hD hS hl
  unfold B_Mo_pushCrossing_20 at hm
  refine lv_istore (lv' := [(7, .int s0), (0, .ref q_p0), (1, .ref q_p1), (2, .int x2), (3, .int x3), (4, .int x4), (5, .int x5), (6, .int x6)]) hx hb d_Mo_pushCrossing_20 hl (by decide) rfl (fun ls hl => ?_)
  refine lv_iload hx hb d_Mo_pushCrossing_22 (lv_at hl 6 rfl) ?_
  refine lv_if_le (tgt := 31) hx hb d_Mo_pushCrossing_24 (by decide) (fun hc => ?_) (fun hc => ?_)
  · rw [if_pos hc] at hm
    refine lv_iconst (v := 0) hx hb d_Mo_pushCrossing_31 (by decide) ?_
    exact w_Mo_pushCrossing_32 fl q_p0 q_p0_free q_p1 q_p1_sign q_p1_label q_p1_shape f_p0_free i_p1_circles res C0 0 x2 x3 x4 x5 x6 s0 i_p1_count i_p1_shapeIsKnown f_p1_label f_p1_sign _ _ _ hm hP hD hS (lv_sub hl [1, 2, 3, 4, 5, 6, 7, 0] rfl)
  · rw [if_neg hc] at hm
    refine lv_iconst (v := 1) hx hb d_Mo_pushCrossing_27 (by decide) ?_
    refine lv_goto (tgt := 32) hx hb d_Mo_pushCrossing_28 (by decide) ?_
    exact w_Mo_pushCrossing_32 fl q_p0 q_p0_free q_p1 q_p1_sign q_p1_label q_p1_shape f_p0_free i_p1_circles res C0 1 x2 x3 x4 x5 x6 s0 i_p1_count i_p1_shapeIsKnown f_p1_label f_p1_sign _ _ _ hm hP hD hS (lv_sub hl [1, 2, 3, 4, 5, 6, 7, 0] rfl)
set_option maxHeartbeats 4000000 in
set_option maxRecDepth 100000 in
theorem w_Mo_pushCrossing_10 {p : Program} {l : Launch} {e : Env} {s : State} {m : MethodId} {args : Array Value} {below : List Frame} {meth : Method} {c : Code} {D : va_G} {cI cJ cB : ClassId} {sa : Nat → Nat × Nat} {A : Nat → Prop} (fl : Nat) (q_p0 : Nat) (q_p0_free : Nat) (q_p1 : Nat) (q_p1_sign : Nat) (q_p1_label : Nat) (q_p1_shape : Nat) (f_p0_free : Nat → Int32) (i_p1_circles : Int32) (res : Int32 × Int32 × (Nat → Int32) × (Nat → Int32)) (C0 : vz_Cx p s m meth c b_Mo_pushCrossing 13 none "LinkEngine$Moves" "pushCrossing" D [(cI, .int), (cJ, .long), (cB, .byte)] sa A args) : ∀ (s0 : Int32) (x2 : Int32) (x3 : Int32) (x4 : Int32) (x5 : Int32) (x6 : Int32) (i_p1_count : Int32) (i_p1_shapeIsKnown : Int32) (f_p1_label : Nat → Int32) (f_p1_sign : Nat → Int32) (H : Heap) (locs : List Loc) (ls : Array Slot), B_Mo_pushCrossing_10 fl f_p0_free s0 x2 x3 x4 x5 x6 i_p1_count i_p1_shapeIsKnown f_p1_label f_p1_sign = some res → va_P D classes (ws_Mo_pushCrossing cI cJ cB q_p0 q_p0_free q_p1 q_p1_sign q_p1_label q_p1_shape f_p0_free i_p1_count i_p1_circles i_p1_shapeIsKnown f_p1_label f_p1_sign) H → va_D A (ws_Mo_pushCrossing cI cJ cB q_p0 q_p0_free q_p1 q_p1_sign q_p1_label q_p1_shape f_p0_free i_p1_count i_p1_circles i_p1_shapeIsKnown f_p1_label f_p1_sign) → va_S A s.heap H locs → lv_has ls 13 [(0, .ref q_p0), (1, .ref q_p1), (2, .int x2), (3, .int x3), (4, .int x4), (5, .int x5), (6, .int x6)] → W p l e rm_Mo_pushCrossing s m args below meth c H locs 0 0 (MQ below (va_Qv (fun (w : va_W) => w = (ws_Mo_pushCrossing cI cJ cB q_p0 q_p0_free q_p1 q_p1_sign q_p1_label q_p1_shape f_p0_free res.1 i_p1_circles res.2.1 res.2.2.1 res.2.2.2)) (vz_B D A) A) args s 0 0 A) (F0 m 10 ls [.int s0]) := by
  obtain ⟨hx, hb, hr, hml, hown, ht, hlocks, hin, hN, hK, hA, hZ⟩ := id C0
  intro s0 x2 x3 x4 x5 x6 i_p1_count i_p1_shapeIsKnown f_p1_label f_p1_sign H locs ls hm hP hD hS hl
  unfold B_Mo_pushCrossing_10 at hm
  refine lv_iload hx hb d_Mo_pushCrossing_10 (lv_at hl 6 rfl) ?_
  refine lv_icmp_ne (tgt := 19) hx hb d_Mo_pushCrossing_12 (by decide) (fun hc => ?_) (fun hc => ?_)
  · rw [if_pos hc] at hm
    refine lv_iconst (v := 0) hx hb d_Mo_pushCrossing_19 (by decide) ?_
    exact w_Mo_pushCrossing_20 fl q_p0 q_p0_free q_p1 q_p1_sign q_p1_label q_p1_shape f_p0_free i_p1_circles res C0 0 x2 x3 x4 x5 x6 i_p1_count i_p1_shapeIsKnown f_p1_label f_p1_sign _ _ _ hm hP hD hS (lv_sub hl [0, 1, 2, 3, 4, 5, 6] rfl)
  · rw [if_neg (fun q => q hc)] at hm
    refine lv_iconst (v := 1) hx hb d_Mo_pushCrossing_15 (by decide) ?_
    refine lv_goto (tgt := 20) hx hb d_Mo_pushCrossing_16 (by decide) ?_
    exact w_Mo_pushCrossing_20 fl q_p0 q_p0_free q_p1 q_p1_sign q_p1_label q_p1_shape f_p0_free i_p1_circles res C0 1 x2 x3 x4 x5 x6 i_p1_count i_p1_shapeIsKnown f_p1_label f_p1_sign _ _ _ hm hP hD hS (lv_sub hl [0, 1, 2, 3, 4, 5, 6] rfl)
set_option maxHeartbeats 4000000 in
set_option maxRecDepth 100000 in
theorem w_Mo_pushCrossing_0 {p : Program} {l : Launch} {e : Env} {s : State} {m : MethodId} {args : Array Value} {below : List Frame} {meth : Method} {c : Code} {D : va_G} {cI cJ cB : ClassId} {sa : Nat → Nat × Nat} {A : Nat → Prop} (fl : Nat) (q_p0 : Nat) (q_p0_free : Nat) (q_p1 : Nat) (q_p1_sign : Nat) (q_p1_label : Nat) (q_p1_shape : Nat) (f_p0_free : Nat → Int32) (i_p1_circles : Int32) (res : Int32 × Int32 × (Nat → Int32) × (Nat → Int32)) (C0 : vz_Cx p s m meth c b_Mo_pushCrossing 13 none "LinkEngine$Moves" "pushCrossing" D [(cI, .int), (cJ, .long), (cB, .byte)] sa A args) : ∀ (x2 : Int32) (x3 : Int32) (x4 : Int32) (x5 : Int32) (x6 : Int32) (i_p1_count : Int32) (i_p1_shapeIsKnown : Int32) (f_p1_label : Nat → Int32) (f_p1_sign : Nat → Int32) (H : Heap) (locs : List Loc) (ls : Array Slot), B_Mo_pushCrossing_0 fl f_p0_free x2 x3 x4 x5 x6 i_p1_count i_p1_shapeIsKnown f_p1_label f_p1_sign = some res → va_P D classes (ws_Mo_pushCrossing cI cJ cB q_p0 q_p0_free q_p1 q_p1_sign q_p1_label q_p1_shape f_p0_free i_p1_count i_p1_circles i_p1_shapeIsKnown f_p1_label f_p1_sign) H → va_D A (ws_Mo_pushCrossing cI cJ cB q_p0 q_p0_free q_p1 q_p1_sign q_p1_label q_p1_shape f_p0_free i_p1_count i_p1_circles i_p1_shapeIsKnown f_p1_label f_p1_sign) → va_S A s.heap H locs → lv_has ls 13 [(0, .ref q_p0), (1, .ref q_p1), (2, .int x2), (3, .int x3), (4, .int x4), (5, .int x5), (6, .int x6)] → W p l e rm_Mo_pushCrossing s m args below meth c H locs 0 0 (MQ below (va_Qv (fun (w : va_W) => w = (ws_Mo_pushCrossing cI cJ cB q_p0 q_p0_free q_p1 q_p1_sign q_p1_label q_p1_shape f_p0_free res.1 i_p1_circles res.2.1 res.2.2.1 res.2.2.2)) (vz_B D A) A) args s 0 0 A) (F0 m 0 ls []) := by
  obtain ⟨hx, hb, hr, hml, hown, ht, hlocks, hin, hN, hK, hA, hZ⟩ := id C0
  intro x2 x3 x4 x5 x6 i_p1_count i_p1_shapeIsKnown f_p1_label f_p1_sign H locs ls hm hP hD hS hl
  unfold B_Mo_pushCrossing_0 at hm
  refine lv_iload hx hb d_Mo_pushCrossing_0 (lv_at hl 4 rfl) ?_
  refine lv_if_le (tgt := 9) hx hb d_Mo_pushCrossing_2 (by decide) (fun hc => ?_) (fun hc => ?_)
  · rw [if_pos hc] at hm
    refine lv_iconst (v := 0) hx hb d_Mo_pushCrossing_9 (by decide) ?_
    exact w_Mo_pushCrossing_10 fl q_p0 q_p0_free q_p1 q_p1_sign q_p1_label q_p1_shape f_p0_free i_p1_circles res C0 0 x2 x3 x4 x5 x6 i_p1_count i_p1_shapeIsKnown f_p1_label f_p1_sign _ _ _ hm hP hD hS (lv_sub hl [0, 1, 2, 3, 4, 5, 6] rfl)
  · rw [if_neg hc] at hm
    refine lv_iconst (v := 1) hx hb d_Mo_pushCrossing_5 (by decide) ?_
    refine lv_goto (tgt := 10) hx hb d_Mo_pushCrossing_6 (by decide) ?_
    exact w_Mo_pushCrossing_10 fl q_p0 q_p0_free q_p1 q_p1_sign q_p1_label q_p1_shape f_p0_free i_p1_circles res C0 1 x2 x3 x4 x5 x6 i_p1_count i_p1_shapeIsKnown f_p1_label f_p1_sign _ _ _ hm hP hD hS (lv_sub hl [0, 1, 2, 3, 4, 5, 6] rfl)
set_option maxHeartbeats 4000000 in
set_option maxRecDepth 100000 in
theorem k_Mo_pushCrossing (l : Launch) (D : va_G) (cI cJ cB : ClassId) (sa : Nat → Nat × Nat) (fl : Nat) (q_p0 : Nat) (q_p0_free : Nat) (q_p1 : Nat) (q_p1_sign : Nat) (q_p1_label : Nat) (q_p1_shape : Nat) (f_p0_free : Nat → Int32) (i_p1_circles : Int32) (i_p1_count : Int32) (i_p1_shapeIsKnown : Int32) (f_p1_label : Nat → Int32) (f_p1_sign : Nat → Int32) (x2 : Int32) (x3 : Int32) (x4 : Int32) (x5 : Int32) (x6 : Int32) (res : Int32 × Int32 × (Nat → Int32) × (Nat → Int32)) (hm : m_Mo_pushCrossing fl f_p0_free x2 x3 x4 x5 x6 i_p1_count i_p1_shapeIsKnown f_p1_label f_p1_sign = some res) : MtV l y_Mo_pushCrossing (.code y_Mo_pushCrossing b_Mo_pushCrossing 13 none :: CW) rm_Mo_pushCrossing D [(cI, .int), (cJ, .long), (cB, .byte)] sa [.ref q_p0, .ref q_p1, .int x2, .int x3, .int x4, .int x5, .int x6] (ws_Mo_pushCrossing cI cJ cB q_p0 q_p0_free q_p1 q_p1_sign q_p1_label q_p1_shape f_p0_free i_p1_count i_p1_circles i_p1_shapeIsKnown f_p1_label f_p1_sign) (fun (w : va_W) => w = (ws_Mo_pushCrossing cI cJ cB q_p0 q_p0_free q_p1 q_p1_sign q_p1_label q_p1_shape f_p0_free res.1 i_p1_circles res.2.1 res.2.2.1 res.2.2.2)) := by
  intro sz
  refine vz_start (Qc := fun A => va_Qv (fun (w : va_W) => w = (ws_Mo_pushCrossing cI cJ cB q_p0 q_p0_free q_p1 q_p1_sign q_p1_label q_p1_shape f_p0_free res.1 i_p1_circles res.2.1 res.2.2.1 res.2.2.2)) (vz_B D A) A) (lv0 := [(0, .ref q_p0), (1, .ref q_p1), (2, .int x2), (3, .int x3), (4, .int x4), (5, .int x5), (6, .int x6)]) (by decide +kernel) (Nat.le_of_ble_eq_true rfl) rfl ?_
  intro p e s m below meth c A ls C0 hl
  obtain ⟨hx, hb, hr, hml, hown, ht, hlocks, hin, hN, hK, hP, hD, hA, hS, hZ⟩ := C0
  exact w_Mo_pushCrossing_0 fl q_p0 q_p0_free q_p1 q_p1_sign q_p1_label q_p1_shape f_p0_free i_p1_circles res ⟨hx, hb, hr, hml, hown, ht, hlocks, hin, hN, hK, hA, hZ⟩ x2 x3 x4 x5 x6 i_p1_count i_p1_shapeIsKnown f_p1_label f_p1_sign s.heap [] ls hm hP hD hS (lv_sub hl [0, 1, 2, 3, 4, 5, 6] rfl)
def ws_Di_change (cI cJ cB : ClassId) (q_p0 : Nat) (q_p0_sign : Nat) (q_p0_label : Nat) (q_p0_shape : Nat) (i_p0_count : Int32) (i_p0_circles : Int32) (i_p0_shapeIsKnown : Int32) (f_p0_label : Nat → Int32) (f_p0_sign : Nat → Int32) : va_W := [(q_p0, .inr (4, [.ref q_p0_sign, .ref q_p0_label, .ref q_p0_shape, .int i_p0_count, .int i_p0_circles, .int i_p0_shapeIsKnown])), (q_p0_label, .inl (cI, 80, .inl f_p0_label)), (q_p0_sign, .inl (cI, 20, .inl f_p0_sign))]
def rm_Di_change : Room := { frames := 1, cells := 0, slots := 0, locals := 24 }
def B_Di_change_0 (fl : Nat) (i_p0_count : Int32) (x1 : Int32) (i_p0_shapeIsKnown : Int32) (f_p0_label : Nat → Int32) (f_p0_sign : Nat → Int32) : Option (Int32 × Int32 × (Nat → Int32) × (Nat → Int32)) := (if x1 < (0 : Int32) then (some (0, i_p0_shapeIsKnown, f_p0_label, f_p0_sign)) else (if x1 < i_p0_count then ((m_Di_upperIn fl f_p0_sign x1).bind fun o0 => ((m_Di_turnPlaces fl x1 (o0 &&& (3 : Int32)) i_p0_shapeIsKnown f_p0_label).bind fun o1 => (if ¬ (x1 < 0 ∨ 20 ≤ Int32.toNatClampNeg x1) then (if ¬ (x1 < 0 ∨ 20 ≤ Int32.toNatClampNeg x1) then (some (1, o1.1, o1.2, (upd f_p0_sign (Int32.toNatClampNeg x1) (-(f_p0_sign (Int32.toNatClampNeg x1)))))) else none) else none))) else (some (0, i_p0_shapeIsKnown, f_p0_label, f_p0_sign))))
def m_Di_change (fl : Nat) (i_p0_count : Int32) (x1 : Int32) (i_p0_shapeIsKnown : Int32) (f_p0_label : Nat → Int32) (f_p0_sign : Nat → Int32) : Option (Int32 × Int32 × (Nat → Int32) × (Nat → Int32)) := B_Di_change_0 fl i_p0_count x1 i_p0_shapeIsKnown f_p0_label f_p0_sign
set_option maxHeartbeats 4000000 in
set_option maxRecDepth 100000 in
theorem w_Di_change_0 {p : Program} {l : Launch} {e : Env} {s : State} {m : MethodId} {args : Array Value} {below : List Frame} {meth : Method} {c : Code} {D : va_G} {cI cJ cB : ClassId} {sa : Nat → Nat × Nat} {A : Nat → Prop} (fl : Nat) (q_p0 : Nat) (q_p0_sign : Nat) (q_p0_label : Nat) (q_p0_shape : Nat) (i_p0_count : Int32) (i_p0_circles : Int32) (res : Int32 × Int32 × (Nat → Int32) × (Nat → Int32)) (C0 : vz_Cx p s m meth c b_Di_change 2 (some .boolean) "LinkEngine$Diagram" "change" D [(cI, .int), (cJ, .long), (cB, .byte)] sa A args) : ∀ (x1 : Int32) (i_p0_shapeIsKnown : Int32) (f_p0_label : Nat → Int32) (f_p0_sign : Nat → Int32) (H : Heap) (locs : List Loc) (ls : Array Slot), B_Di_change_0 fl i_p0_count x1 i_p0_shapeIsKnown f_p0_label f_p0_sign = some res → va_P D classes (ws_Di_change cI cJ cB q_p0 q_p0_sign q_p0_label q_p0_shape i_p0_count i_p0_circles i_p0_shapeIsKnown f_p0_label f_p0_sign) H → va_D A (ws_Di_change cI cJ cB q_p0 q_p0_sign q_p0_label q_p0_shape i_p0_count i_p0_circles i_p0_shapeIsKnown f_p0_label f_p0_sign) → va_S A s.heap H locs → lv_has ls 2 [(0, .ref q_p0), (1, .int x1)] → W p l e rm_Di_change s m args below meth c H locs 0 0 (MQ below (va_Qi (fun (r : Int32) (w : va_W) => r = res.1 ∧ w = (ws_Di_change cI cJ cB q_p0 q_p0_sign q_p0_label q_p0_shape i_p0_count i_p0_circles res.2.1 res.2.2.1 res.2.2.2)) (vz_B D A) A) args s 0 0 A) (F0 m 0 ls []) := by
  obtain ⟨hx, hb, hr, hml, hown, ht, hlocks, hin, hN, hK, hA, hZ⟩ := id C0
  intro x1 i_p0_shapeIsKnown f_p0_label f_p0_sign H locs ls hm hP hD hS hl
  unfold B_Di_change_0 at hm
  refine lv_iload_n hx hb d_Di_change_0 rfl (lv_at hl 1 rfl) ?_
  refine lv_if_lt (tgt := 12) hx hb d_Di_change_1 (by decide) (fun hc => ?_) (fun hc => ?_)
  · rw [if_pos hc] at hm
    refine lv_iconst (v := 0) hx hb d_Di_change_12 (by decide) ?_
    obtain rfl := Option.some.inj hm
    exact vz_iret hx hb hr rfl hlocks hP hD hS (Nat.le_refl _) (Nat.le_refl _) d_Di_change_13 ⟨rfl, rfl⟩
  · rw [if_neg hc] at hm
    refine lv_iload_n hx hb d_Di_change_4 rfl (lv_at hl 1 rfl) ?_
    refine lv_aload_n hx hb d_Di_change_5 rfl (lv_at hl 0 rfl) ?_
    refine va_get (D := D) (ci := 4) (v := .int i_p0_count) (C := R_Di) (T := F_Di) (N := 6) hx hb ht i_Di hown hK hP 0 rfl rfl 3 (Nat.le_of_ble_eq_true rfl) (ht _ m_238) (fun _ h9 => h9) rfl d_Di_change_6 ?_
    refine lv_icmp_lt (tgt := 14) hx hb d_Di_change_9 (by decide) (fun hc => ?_) (fun hc => ?_)
    · rw [if_pos hc] at hm
      refine lv_aload_n hx hb d_Di_change_14 rfl (lv_at hl 0 rfl) ?_
      refine lv_iload_n hx hb d_Di_change_15 rfl (lv_at hl 1 rfl) ?_
      refine lv_aload_n hx hb d_Di_change_16 rfl (lv_at hl 0 rfl) ?_
      refine lv_iload_n hx hb d_Di_change_17 rfl (lv_at hl 1 rfl) ?_
      obtain ⟨o0, ho0, hm⟩ := vz_bind hm
      try dsimp only at hm
      refine vz_callVi (n := 1) (As := [.int x1]) (rest := [.int x1, .ref q_p0]) (wc := (ws_Di_upperIn cI cJ cB q_p0 q_p0_sign q_p0_label q_p0_shape i_p0_count i_p0_circles i_p0_shapeIsKnown f_p0_sign)) (wr := [(q_p0_label, .inl (cI, 80, .inl f_p0_label))]) (k1 := 0) (n1 := 0) hx hb hml hown ht hN hZ hK hP hD hS hA (k_Di_upperIn l D cI cJ cB sa fl q_p0 q_p0_sign q_p0_label q_p0_shape f_p0_sign i_p0_count i_p0_circles i_p0_shapeIsKnown x1 o0 ho0) m_438 m_99 m_435 m_436 m_437 (hc := (rfl : classes[4]? = some (R_Di, F_Di, 6))) 0 rfl (by decide +kernel) ⟨Nat.le_of_ble_eq_true rfl, Nat.le_of_ble_eq_true rfl⟩ [0, 2] [1] rfl rfl (by decide) (by decide) (by decide) rfl hl.1 rfl (Nat.le_of_ble_eq_true rfl) rfl rfl ⟨Nat.zero_le _, Nat.zero_le _⟩ d_Di_change_18 (fun r1 w1 H locs hw hP hD hS => ?_)
      obtain ⟨hr1, rfl⟩ := hw
      have hr1 := hr1.symm
      subst hr1
      have hP : va_P D classes (ws_Di_change cI cJ cB q_p0 q_p0_sign q_p0_label q_p0_shape i_p0_count i_p0_circles i_p0_shapeIsKnown f_p0_label f_p0_sign) H := hP.sub [1, 0, 2] rfl
      have hD : va_D A (ws_Di_change cI cJ cB q_p0 q_p0_sign q_p0_label q_p0_shape i_p0_count i_p0_circles i_p0_shapeIsKnown f_p0_label f_p0_sign) := hD.sub [1, 0, 2] (by decide) rfl
      refine lv_iconst (v := 3) hx hb d_Di_change_21 (by decide) ?_
      refine lv_iand hx hb d_Di_change_22 ?_
      obtain ⟨o1, ho1, hm⟩ := vz_bind hm
      try dsimp only at hm
      refine vz_callVv (n := 2) (As := [.int x1, .int (o0 &&& (3 : Int32))]) (rest := []) (wc := (ws_Di_turnPlaces cI cJ cB q_p0 q_p0_sign q_p0_label q_p0_shape i_p0_count i_p0_circles i_p0_shapeIsKnown f_p0_label)) (wr := [(q_p0_sign, .inl (cI, 20, .inl f_p0_sign))]) (k1 := 0) (n1 := 0) hx hb hml hown ht hN hZ hK hP hD hS hA (k_Di_turnPlaces l D cI cJ cB sa fl q_p0 q_p0_sign q_p0_label q_p0_shape i_p0_count i_p0_circles i_p0_shapeIsKnown f_p0_label x1 (o0 &&& (3 : Int32)) o1 ho1) m_425 m_99 m_661 m_423 m_424 (hc := (rfl : classes[4]? = some (R_Di, F_Di, 6))) 0 rfl (by decide +kernel) ⟨Nat.le_of_ble_eq_true rfl, Nat.le_of_ble_eq_true rfl⟩ [0, 1] [2] rfl rfl (by decide) (by decide) (by decide) rfl hl.1 rfl (Nat.le_of_ble_eq_true rfl) rfl rfl ⟨Nat.zero_le _, Nat.zero_le _⟩ d_Di_change_23 (fun w1 H locs hw hP hD hS => ?_)
      subst hw
      have hP : va_P D classes (ws_Di_change cI cJ cB q_p0 q_p0_sign q_p0_label q_p0_shape i_p0_count i_p0_circles o1.1 o1.2 f_p0_sign) H := hP.sub [1, 2, 0] rfl
      have hD : va_D A (ws_Di_change cI cJ cB q_p0 q_p0_sign q_p0_label q_p0_shape i_p0_count i_p0_circles o1.1 o1.2 f_p0_sign) := hD.sub [1, 2, 0] (by decide) rfl
      refine lv_aload_n hx hb d_Di_change_26 rfl (lv_at hl 0 rfl) ?_
      refine va_get (D := D) (ci := 4) (v := .ref q_p0_sign) (C := R_Di) (T := F_Di) (N := 6) hx hb ht i_Di hown hK hP 0 rfl rfl 0 (Nat.le_of_ble_eq_true rfl) (ht _ m_50) (fun _ h9 => h9) rfl d_Di_change_27 ?_
      refine lv_iload_n hx hb d_Di_change_30 rfl (lv_at hl 1 rfl) ?_
      refine lv_aload_n hx hb d_Di_change_31 rfl (lv_at hl 0 rfl) ?_
      refine va_get (D := D) (ci := 4) (v := .ref q_p0_sign) (C := R_Di) (T := F_Di) (N := 6) hx hb ht i_Di hown hK hP 0 rfl rfl 0 (Nat.le_of_ble_eq_true rfl) (ht _ m_50) (fun _ h9 => h9) rfl d_Di_change_32 ?_
      refine lv_iload_n hx hb d_Di_change_35 rfl (lv_at hl 1 rfl) ?_
      obtain ⟨hg, hm⟩ := vz_guard hm
      refine va_iald hx hb hK hP 2 0 rfl rfl hg d_Di_change_36 ?_
      refine lv_ineg hx hb d_Di_change_37 ?_
      obtain ⟨hg, hm⟩ := vz_guard hm
      refine va_iast hx hb hK hP hD hS 2 0 rfl rfl hg d_Di_change_38 (fun H locs hP hD hS => ?_)
      have hP : va_P D classes (ws_Di_change cI cJ cB q_p0 q_p0_sign q_p0_label q_p0_shape i_p0_count i_p0_circles o1.1 o1.2 (upd f_p0_sign (Int32.toNatClampNeg x1) (-(f_p0_sign (Int32.toNatClampNeg x1))))) H := hP
      have hD : va_D A (ws_Di_change cI cJ cB q_p0 q_p0_sign q_p0_label q_p0_shape i_p0_count i_p0_circles o1.1 o1.2 (upd f_p0_sign (Int32.toNatClampNeg x1) (-(f_p0_sign (Int32.toNatClampNeg x1))))) := hD
      refine lv_iconst (v := 1) hx hb d_Di_change_39 (by decide) ?_
      obtain rfl := Option.some.inj hm
      exact vz_iret hx hb hr rfl hlocks hP hD hS (Nat.le_refl _) (Nat.le_refl _) d_Di_change_40 ⟨rfl, rfl⟩
    · rw [if_neg hc] at hm
      refine lv_iconst (v := 0) hx hb d_Di_change_12 (by decide) ?_
      obtain rfl := Option.some.inj hm
      exact vz_iret hx hb hr rfl hlocks hP hD hS (Nat.le_refl _) (Nat.le_refl _) d_Di_change_13 ⟨rfl, rfl⟩
set_option maxHeartbeats 4000000 in
set_option maxRecDepth 100000 in
theorem k_Di_change (l : Launch) (D : va_G) (cI cJ cB : ClassId) (sa : Nat → Nat × Nat) (fl : Nat) (q_p0 : Nat) (q_p0_sign : Nat) (q_p0_label : Nat) (q_p0_shape : Nat) (i_p0_count : Int32) (i_p0_circles : Int32) (i_p0_shapeIsKnown : Int32) (f_p0_label : Nat → Int32) (f_p0_sign : Nat → Int32) (x1 : Int32) (res : Int32 × Int32 × (Nat → Int32) × (Nat → Int32)) (hm : m_Di_change fl i_p0_count x1 i_p0_shapeIsKnown f_p0_label f_p0_sign = some res) : MtI l y_Di_change (.code y_Di_change b_Di_change 2 (some .boolean) :: CW) rm_Di_change D [(cI, .int), (cJ, .long), (cB, .byte)] sa [.ref q_p0, .int x1] (ws_Di_change cI cJ cB q_p0 q_p0_sign q_p0_label q_p0_shape i_p0_count i_p0_circles i_p0_shapeIsKnown f_p0_label f_p0_sign) (fun (r : Int32) (w : va_W) => r = res.1 ∧ w = (ws_Di_change cI cJ cB q_p0 q_p0_sign q_p0_label q_p0_shape i_p0_count i_p0_circles res.2.1 res.2.2.1 res.2.2.2)) := by
  intro sz
  refine vz_start (Qc := fun A => va_Qi (fun (r : Int32) (w : va_W) => r = res.1 ∧ w = (ws_Di_change cI cJ cB q_p0 q_p0_sign q_p0_label q_p0_shape i_p0_count i_p0_circles res.2.1 res.2.2.1 res.2.2.2)) (vz_B D A) A) (lv0 := [(0, .ref q_p0), (1, .int x1)]) (by decide +kernel) (Nat.le_of_ble_eq_true rfl) rfl ?_
  intro p e s m below meth c A ls C0 hl
  obtain ⟨hx, hb, hr, hml, hown, ht, hlocks, hin, hN, hK, hP, hD, hA, hS, hZ⟩ := C0
  exact w_Di_change_0 fl q_p0 q_p0_sign q_p0_label q_p0_shape i_p0_count i_p0_circles res ⟨hx, hb, hr, hml, hown, ht, hlocks, hin, hN, hK, hA, hZ⟩ x1 i_p0_shapeIsKnown f_p0_label f_p0_sign s.heap [] ls hm hP hD hS (lv_sub hl [0, 1] rfl)
def ws_En_leaveLine (cI cJ cB : ClassId) (q_p0 : Nat) (q_p0_reader : Nat) (q_p0_reader_text : Nat) (q_p0_reader_lines : Nat) (q_p0_paper : Nat) (q_p0_moves : Nat) (q_p0_stateSum : Nat) (q_p0_minor : Nat) (q_p0_polynomial : Nat) (q_p0_now : Nat) (q_p0_next : Nat) (q_p0_trial : Nat) (q_p0_latest : Nat) (q_p0_earlier : Nat) (q_p0_spare : Nat) (q_p0_reader_lines_kind : Nat) (q_p0_reader_lines_start : Nat) (q_p0_reader_lines_value : Nat) (i_p0_onTape : Int32) (i_p0_hasRead : Int32) (i_p0_linesDone : Int32) (i_p0_sumsDone : Int32) (i_p0_reader_lines_count : Int32) (i_p0_reader_lines_done : Int32) : va_W := [(q_p0, .inr (0, [.ref q_p0_reader, .ref q_p0_reader_text, .ref q_p0_reader_lines, .ref q_p0_paper, .ref q_p0_moves, .ref q_p0_stateSum, .ref q_p0_minor, .ref q_p0_polynomial, .ref q_p0_now, .ref q_p0_next, .ref q_p0_trial, .ref q_p0_latest, .ref q_p0_earlier, .ref q_p0_spare, .int i_p0_onTape, .int i_p0_hasRead, .int i_p0_linesDone, .int i_p0_sumsDone])), (q_p0_reader_lines, .inr (1, [.ref q_p0_reader_lines_kind, .ref q_p0_reader_lines_start, .ref q_p0_reader_lines_value, .int i_p0_reader_lines_count, .int i_p0_reader_lines_done]))]
def rm_En_leaveLine : Room := { frames := 1, cells := 0, slots := 0, locals := 20 }
def B_En_leaveLine_0 (fl : Nat) (i_p0_reader_lines_count : Int32) (x1 : Int32) (i_p0_linesDone : Int32) (i_p0_sumsDone : Int32) (i_p0_reader_lines_done : Int32) : Option (Int32 × Int32 × Int32) := ((m_Li_leaveNext fl i_p0_reader_lines_count i_p0_reader_lines_done).bind fun o0 => (if x1 < (16 : Int32) then (some ((i_p0_linesDone + (1 : Int32)), i_p0_sumsDone, o0)) else (some ((i_p0_linesDone + (1 : Int32)), (i_p0_sumsDone + (1 : Int32)), o0))))
def m_En_leaveLine (fl : Nat) (i_p0_reader_lines_count : Int32) (x1 : Int32) (i_p0_linesDone : Int32) (i_p0_sumsDone : Int32) (i_p0_reader_lines_done : Int32) : Option (Int32 × Int32 × Int32) := B_En_leaveLine_0 fl i_p0_reader_lines_count x1 i_p0_linesDone i_p0_sumsDone i_p0_reader_lines_done
set_option maxHeartbeats 4000000 in
set_option maxRecDepth 100000 in
theorem w_En_leaveLine_0 {p : Program} {l : Launch} {e : Env} {s : State} {m : MethodId} {args : Array Value} {below : List Frame} {meth : Method} {c : Code} {D : va_G} {cI cJ cB : ClassId} {sa : Nat → Nat × Nat} {A : Nat → Prop} (fl : Nat) (q_p0 : Nat) (q_p0_reader : Nat) (q_p0_reader_text : Nat) (q_p0_reader_lines : Nat) (q_p0_paper : Nat) (q_p0_moves : Nat) (q_p0_stateSum : Nat) (q_p0_minor : Nat) (q_p0_polynomial : Nat) (q_p0_now : Nat) (q_p0_next : Nat) (q_p0_trial : Nat) (q_p0_latest : Nat) (q_p0_earlier : Nat) (q_p0_spare : Nat) (q_p0_reader_lines_kind : Nat) (q_p0_reader_lines_start : Nat) (q_p0_reader_lines_value : Nat) (i_p0_reader_lines_count : Int32) (i_p0_onTape : Int32) (i_p0_hasRead : Int32) (res : Int32 × Int32 × Int32) (C0 : vz_Cx p s m meth c b_En_leaveLine 2 none "LinkEngine" "leaveLine" D [(cI, .int), (cJ, .long), (cB, .byte)] sa A args) : ∀ (x1 : Int32) (i_p0_linesDone : Int32) (i_p0_sumsDone : Int32) (i_p0_reader_lines_done : Int32) (H : Heap) (locs : List Loc) (ls : Array Slot), B_En_leaveLine_0 fl i_p0_reader_lines_count x1 i_p0_linesDone i_p0_sumsDone i_p0_reader_lines_done = some res → va_P D classes (ws_En_leaveLine cI cJ cB q_p0 q_p0_reader q_p0_reader_text q_p0_reader_lines q_p0_paper q_p0_moves q_p0_stateSum q_p0_minor q_p0_polynomial q_p0_now q_p0_next q_p0_trial q_p0_latest q_p0_earlier q_p0_spare q_p0_reader_lines_kind q_p0_reader_lines_start q_p0_reader_lines_value i_p0_onTape i_p0_hasRead i_p0_linesDone i_p0_sumsDone i_p0_reader_lines_count i_p0_reader_lines_done) H → va_D A (ws_En_leaveLine cI cJ cB q_p0 q_p0_reader q_p0_reader_text q_p0_reader_lines q_p0_paper q_p0_moves q_p0_stateSum q_p0_minor q_p0_polynomial q_p0_now q_p0_next q_p0_trial q_p0_latest q_p0_earlier q_p0_spare q_p0_reader_lines_kind q_p0_reader_lines_start q_p0_reader_lines_value i_p0_onTape i_p0_hasRead i_p0_linesDone i_p0_sumsDone i_p0_reader_lines_count i_p0_reader_lines_done) → va_S A s.heap H locs → lv_has ls 2 [(0, .ref q_p0), (1, .int x1)] → W p l e rm_En_leaveLine s m args below meth c H locs 0 0 (MQ below (va_Qv (fun (w : va_W) => w = (ws_En_leaveLine cI cJ cB q_p0 q_p0_reader q_p0_reader_text q_p0_reader_lines q_p0_paper q_p0_moves q_p0_stateSum q_p0_minor q_p0_polynomial q_p0_now q_p0_next q_p0_trial q_p0_latest q_p0_earlier q_p0_spare q_p0_reader_lines_kind q_p0_reader_lines_start q_p0_reader_lines_value i_p0_onTape i_p0_hasRead res.1 res.2.1 i_p0_reader_lines_count res.2.2)) (vz_B D A) A) args s 0 0 A) (F0 m 0 ls []) := by
  obtain ⟨hx, hb, hr, hml, hown, ht, hlocks, hin, hN, hK, hA, hZ⟩ := id C0
  intro x1 i_p0_linesDone i_p0_sumsDone i_p0_reader_lines_done H locs ls hm hP hD hS hl
  unfold B_En_leaveLine_0 at hm
  refine lv_aload_n hx hb d_En_leaveLine_0 rfl (lv_at hl 0 rfl) ?_
  refine va_get (D := D) (ci := 0) (v := .ref q_p0_reader_lines) (C := R_En) (T := F_En) (N := 18) hx hb ht i_En hown hK hP 0 rfl rfl 2 (Nat.le_of_ble_eq_true rfl) (ht _ m_66) (fun _ h9 => h9) rfl d_En_leaveLine_1 ?_
  obtain ⟨o0, ho0, hm⟩ := vz_bind hm
  try dsimp only at hm
  refine vz_callVv (n := 0) (As := []) (rest := []) (wc := (ws_Li_leaveNext cI cJ cB q_p0_reader_lines q_p0_reader_lines_kind q_p0_reader_lines_start q_p0_reader_lines_value i_p0_reader_lines_count i_p0_reader_lines_done)) (wr := [(q_p0, .inr (0, [.ref q_p0_reader, .ref q_p0_reader_text, .ref q_p0_reader_lines, .ref q_p0_paper, .ref q_p0_moves, .ref q_p0_stateSum, .ref q_p0_minor, .ref q_p0_polynomial, .ref q_p0_now, .ref q_p0_next, .ref q_p0_trial, .ref q_p0_latest, .ref q_p0_earlier, .ref q_p0_spare, .int i_p0_onTape, .int i_p0_hasRead, .int i_p0_linesDone, .int i_p0_sumsDone]))]) (k1 := 0) (n1 := 0) hx hb hml hown ht hN hZ hK hP hD hS hA (k_Li_leaveNext l D cI cJ cB sa fl q_p0_reader_lines q_p0_reader_lines_kind q_p0_reader_lines_start q_p0_reader_lines_value i_p0_reader_lines_count i_p0_reader_lines_done o0 ho0) m_665 m_12 m_662 m_663 m_664 (hc := (rfl : classes[1]? = some (R_Li, F_Li, 5))) 1 rfl (by decide +kernel) ⟨Nat.le_of_ble_eq_true rfl, Nat.le_of_ble_eq_true rfl⟩ [1] [0] rfl rfl (by decide) (by decide) (by decide) rfl hl.1 rfl (Nat.le_of_ble_eq_true rfl) rfl rfl ⟨Nat.zero_le _, Nat.zero_le _⟩ d_En_leaveLine_4 (fun w1 H locs hw hP hD hS => ?_)
  subst hw
  have hP : va_P D classes (ws_En_leaveLine cI cJ cB q_p0 q_p0_reader q_p0_reader_text q_p0_reader_lines q_p0_paper q_p0_moves q_p0_stateSum q_p0_minor q_p0_polynomial q_p0_now q_p0_next q_p0_trial q_p0_latest q_p0_earlier q_p0_spare q_p0_reader_lines_kind q_p0_reader_lines_start q_p0_reader_lines_value i_p0_onTape i_p0_hasRead i_p0_linesDone i_p0_sumsDone i_p0_reader_lines_count o0) H := hP.sub [0, 1] rfl
  have hD : va_D A (ws_En_leaveLine cI cJ cB q_p0 q_p0_reader q_p0_reader_text q_p0_reader_lines q_p0_paper q_p0_moves q_p0_stateSum q_p0_minor q_p0_polynomial q_p0_now q_p0_next q_p0_trial q_p0_latest q_p0_earlier q_p0_spare q_p0_reader_lines_kind q_p0_reader_lines_start q_p0_reader_lines_value i_p0_onTape i_p0_hasRead i_p0_linesDone i_p0_sumsDone i_p0_reader_lines_count o0) := hD.sub [0, 1] (by decide) rfl
  refine lv_aload_n hx hb d_En_leaveLine_7 rfl (lv_at hl 0 rfl) ?_
  refine lv_dup hx hb d_En_leaveLine_8 rfl ?_
  refine va_get (D := D) (ci := 0) (v := .int i_p0_linesDone) (C := R_En) (T := F_En) (N := 18) hx hb ht i_En hown hK hP 0 rfl rfl 16 (Nat.le_of_ble_eq_true rfl) (ht _ m_560) (fun _ h9 => h9) rfl d_En_leaveLine_9 ?_
  refine lv_iconst (v := 1) hx hb d_En_leaveLine_12 (by decide) ?_
  refine lv_iadd hx hb d_En_leaveLine_13 ?_
  refine va_put (D := D) (ci := 0) (v := .int (i_p0_linesDone + (1 : Int32))) (ty := .int) (C := R_En) (T := F_En) (N := 18) hx hb ht i_En t_En t_En_ok n_En hown hK hP hD hS 0 rfl rfl 16 (Nat.le_of_ble_eq_true rfl) (ht _ m_560) (fun _ h9 => h9) rfl (by decide +kernel) rfl rfl (Nat.le_of_ble_eq_true rfl) d_En_leaveLine_14 (fun H locs hP hD hS => ?_)
  have hP : va_P D classes (ws_En_leaveLine cI cJ cB q_p0 q_p0_reader q_p0_reader_text q_p0_reader_lines q_p0_paper q_p0_moves q_p0_stateSum q_p0_minor q_p0_polynomial q_p0_now q_p0_next q_p0_trial q_p0_latest q_p0_earlier q_p0_spare q_p0_reader_lines_kind q_p0_reader_lines_start q_p0_reader_lines_value i_p0_onTape i_p0_hasRead (i_p0_linesDone + (1 : Int32)) i_p0_sumsDone i_p0_reader_lines_count o0) H := hP
  have hD : va_D A (ws_En_leaveLine cI cJ cB q_p0 q_p0_reader q_p0_reader_text q_p0_reader_lines q_p0_paper q_p0_moves q_p0_stateSum q_p0_minor q_p0_polynomial q_p0_now q_p0_next q_p0_trial q_p0_latest q_p0_earlier q_p0_spare q_p0_reader_lines_kind q_p0_reader_lines_start q_p0_reader_lines_value i_p0_onTape i_p0_hasRead (i_p0_linesDone + (1 : Int32)) i_p0_sumsDone i_p0_reader_lines_count o0) := hD
  refine lv_iload_n hx hb d_En_leaveLine_17 rfl (lv_at hl 1 rfl) ?_
  refine lv_bipush (v := 16) hx hb d_En_leaveLine_18 (by decide +kernel) ?_
  refine lv_icmp_lt (tgt := 33) hx hb d_En_leaveLine_20 (by decide) (fun hc => ?_) (fun hc => ?_)
  · rw [if_pos hc] at hm
    obtain rfl := Option.some.inj hm
    exact vz_vret hx hb hr hlocks hP hD hS (Nat.le_refl _) (Nat.le_refl _) d_En_leaveLine_33 rfl
  · rw [if_neg hc] at hm
    refine lv_aload_n hx hb d_En_leaveLine_23 rfl (lv_at hl 0 rfl) ?_
    refine lv_dup hx hb d_En_leaveLine_24 rfl ?_
    refine va_get (D := D) (ci := 0) (v := .int i_p0_sumsDone) (C := R_En) (T := F_En) (N := 18) hx hb ht i_En hown hK hP 0 rfl rfl 17 (Nat.le_of_ble_eq_true rfl) (ht _ m_561) (fun _ h9 => h9) rfl d_En_leaveLine_25 ?_
    refine lv_iconst (v := 1) hx hb d_En_leaveLine_28 (by decide) ?_
    refine lv_iadd hx hb d_En_leaveLine_29 ?_
    refine va_put (D := D) (ci := 0) (v := .int (i_p0_sumsDone + (1 : Int32))) (ty := .int) (C := R_En) (T := F_En) (N := 18) hx hb ht i_En t_En t_En_ok n_En hown hK hP hD hS 0 rfl rfl 17 (Nat.le_of_ble_eq_true rfl) (ht _ m_561) (fun _ h9 => h9) rfl (by decide +kernel) rfl rfl (Nat.le_of_ble_eq_true rfl) d_En_leaveLine_30 (fun H locs hP hD hS => ?_)
    have hP : va_P D classes (ws_En_leaveLine cI cJ cB q_p0 q_p0_reader q_p0_reader_text q_p0_reader_lines q_p0_paper q_p0_moves q_p0_stateSum q_p0_minor q_p0_polynomial q_p0_now q_p0_next q_p0_trial q_p0_latest q_p0_earlier q_p0_spare q_p0_reader_lines_kind q_p0_reader_lines_start q_p0_reader_lines_value i_p0_onTape i_p0_hasRead (i_p0_linesDone + (1 : Int32)) (i_p0_sumsDone + (1 : Int32)) i_p0_reader_lines_count o0) H := hP
    have hD : va_D A (ws_En_leaveLine cI cJ cB q_p0 q_p0_reader q_p0_reader_text q_p0_reader_lines q_p0_paper q_p0_moves q_p0_stateSum q_p0_minor q_p0_polynomial q_p0_now q_p0_next q_p0_trial q_p0_latest q_p0_earlier q_p0_spare q_p0_reader_lines_kind q_p0_reader_lines_start q_p0_reader_lines_value i_p0_onTape i_p0_hasRead (i_p0_linesDone + (1 : Int32)) (i_p0_sumsDone + (1 : Int32)) i_p0_reader_lines_count o0) := hD
    obtain rfl := Option.some.inj hm
    exact vz_vret hx hb hr hlocks hP hD hS (Nat.le_refl _) (Nat.le_refl _) d_En_leaveLine_33 rfl
set_option maxHeartbeats 4000000 in
set_option maxRecDepth 100000 in
theorem k_En_leaveLine (l : Launch) (D : va_G) (cI cJ cB : ClassId) (sa : Nat → Nat × Nat) (fl : Nat) (q_p0 : Nat) (q_p0_reader : Nat) (q_p0_reader_text : Nat) (q_p0_reader_lines : Nat) (q_p0_paper : Nat) (q_p0_moves : Nat) (q_p0_stateSum : Nat) (q_p0_minor : Nat) (q_p0_polynomial : Nat) (q_p0_now : Nat) (q_p0_next : Nat) (q_p0_trial : Nat) (q_p0_latest : Nat) (q_p0_earlier : Nat) (q_p0_spare : Nat) (q_p0_reader_lines_kind : Nat) (q_p0_reader_lines_start : Nat) (q_p0_reader_lines_value : Nat) (i_p0_reader_lines_count : Int32) (i_p0_onTape : Int32) (i_p0_hasRead : Int32) (i_p0_linesDone : Int32) (i_p0_sumsDone : Int32) (i_p0_reader_lines_done : Int32) (x1 : Int32) (res : Int32 × Int32 × Int32) (hm : m_En_leaveLine fl i_p0_reader_lines_count x1 i_p0_linesDone i_p0_sumsDone i_p0_reader_lines_done = some res) : MtV l y_En_leaveLine (.code y_En_leaveLine b_En_leaveLine 2 none :: CW) rm_En_leaveLine D [(cI, .int), (cJ, .long), (cB, .byte)] sa [.ref q_p0, .int x1] (ws_En_leaveLine cI cJ cB q_p0 q_p0_reader q_p0_reader_text q_p0_reader_lines q_p0_paper q_p0_moves q_p0_stateSum q_p0_minor q_p0_polynomial q_p0_now q_p0_next q_p0_trial q_p0_latest q_p0_earlier q_p0_spare q_p0_reader_lines_kind q_p0_reader_lines_start q_p0_reader_lines_value i_p0_onTape i_p0_hasRead i_p0_linesDone i_p0_sumsDone i_p0_reader_lines_count i_p0_reader_lines_done) (fun (w : va_W) => w = (ws_En_leaveLine cI cJ cB q_p0 q_p0_reader q_p0_reader_text q_p0_reader_lines q_p0_paper q_p0_moves q_p0_stateSum q_p0_minor q_p0_polynomial q_p0_now q_p0_next q_p0_trial q_p0_latest q_p0_earlier q_p0_spare q_p0_reader_lines_kind q_p0_reader_lines_start q_p0_reader_lines_value i_p0_onTape i_p0_hasRead res.1 res.2.1 i_p0_reader_lines_count res.2.2)) := by
  intro sz
  refine vz_start (Qc := fun A => va_Qv (fun (w : va_W) => w = (ws_En_leaveLine cI cJ cB q_p0 q_p0_reader q_p0_reader_text q_p0_reader_lines q_p0_paper q_p0_moves q_p0_stateSum q_p0_minor q_p0_polynomial q_p0_now q_p0_next q_p0_trial q_p0_latest q_p0_earlier q_p0_spare q_p0_reader_lines_kind q_p0_reader_lines_start q_p0_reader_lines_value i_p0_onTape i_p0_hasRead res.1 res.2.1 i_p0_reader_lines_count res.2.2)) (vz_B D A) A) (lv0 := [(0, .ref q_p0), (1, .int x1)]) (by decide +kernel) (Nat.le_of_ble_eq_true rfl) rfl ?_
  intro p e s m below meth c A ls C0 hl
  obtain ⟨hx, hb, hr, hml, hown, ht, hlocks, hin, hN, hK, hP, hD, hA, hS, hZ⟩ := C0
  exact w_En_leaveLine_0 fl q_p0 q_p0_reader q_p0_reader_text q_p0_reader_lines q_p0_paper q_p0_moves q_p0_stateSum q_p0_minor q_p0_polynomial q_p0_now q_p0_next q_p0_trial q_p0_latest q_p0_earlier q_p0_spare q_p0_reader_lines_kind q_p0_reader_lines_start q_p0_reader_lines_value i_p0_reader_lines_count i_p0_onTape i_p0_hasRead res ⟨hx, hb, hr, hml, hown, ht, hlocks, hin, hN, hK, hA, hZ⟩ x1 i_p0_linesDone i_p0_sumsDone i_p0_reader_lines_done s.heap [] ls hm hP hD hS (lv_sub hl [0, 1] rfl)
def ws_Br_appendInverseSwap (cI cJ cB : ClassId) (q_p0 : Nat) (q_p0_letter : Nat) (q_p0_image : Nat) (q_p0_end : Nat) (i_p0_strands : Int32) (i_p0_letters : Int32) (i_p0_turns : Int32) (i_p0_factors : Int32) (i_p0_formIsKnown : Int32) (f_p0_image : Nat → Int32) : va_W := [(q_p0, .inr (7, [.ref q_p0_letter, .ref q_p0_image, .ref q_p0_end, .int i_p0_strands, .int i_p0_letters, .int i_p0_turns, .int i_p0_factors, .int i_p0_formIsKnown])), (q_p0_image, .inl (cI, 168, .inl f_p0_image))]
def rm_Br_appendInverseSwap : Room := { frames := 1, cells := 0, slots := 0, locals := 24 }
def B_Br_appendInverseSwap_44 (fl : Nat) (i_p0_strands : Int32) : Nat → Int32 → Int32 → Int32 → Int32 → Int32 → (Nat → Int32) → Option (Int32 × Int32 × (Nat → Int32))
  | 0, _, _, _, _, _, _ => none
  | nn + 1, x1, x2, x3, i_p0_turns, i_p0_factors, f_p0_image => (if i_p0_strands ≤ x3 then (if ¬ ((((x2 + i_p0_strands) - (1 : Int32)) - x1) < 0 ∨ 168 ≤ Int32.toNatClampNeg (((x2 + i_p0_strands) - (1 : Int32)) - x1)) then (if ¬ ((((x2 + i_p0_strands) - (2 : Int32)) - x1) < 0 ∨ 168 ≤ Int32.toNatClampNeg (((x2 + i_p0_strands) - (2 : Int32)) - x1)) then (some (i_p0_turns, (i_p0_factors + (1 : Int32)), (upd (upd f_p0_image (Int32.toNatClampNeg (((x2 + i_p0_strands) - (1 : Int32)) - x1)) (x1 + (1 : Int32))) (Int32.toNatClampNeg (((x2 + i_p0_strands) - (2 : Int32)) - x1)) x1))) else none) else none) else (if ¬ ((x2 + x3) < 0 ∨ 168 ≤ Int32.toNatClampNeg (x2 + x3)) then B_Br_appendInverseSwap_44 fl i_p0_strands nn x1 x2 (x3 + 1) i_p0_turns i_p0_factors (upd f_p0_image (Int32.toNatClampNeg (x2 + x3)) ((i_p0_strands - (1 : Int32)) - x3)) else none))
def B_Br_appendInverseSwap_2 (fl : Nat) (i_p0_strands : Int32) : Nat → Int32 → Int32 → Int32 → Int32 → (Nat → Int32) → Option (Int32 × Int32 × (Nat → Int32))
  | 0, _, _, _, _, _ => none
  | nn + 1, x1, x2, i_p0_turns, i_p0_factors, f_p0_image => (if i_p0_factors ≤ x2 then B_Br_appendInverseSwap_44 fl i_p0_strands fl x1 (i_p0_factors * (8 : Int32)) 0 (i_p0_turns - (1 : Int32)) i_p0_factors f_p0_image else ((m_Br_conjugateByTurn fl i_p0_strands (x2 * (8 : Int32)) f_p0_image).bind fun o0 => B_Br_appendInverseSwap_2 fl i_p0_strands nn x1 (x2 + 1) i_p0_turns i_p0_factors o0))
def B_Br_appendInverseSwap_0 (fl : Nat) (i_p0_strands : Int32) (x1 : Int32) (i_p0_turns : Int32) (i_p0_factors : Int32) (f_p0_image : Nat → Int32) : Option (Int32 × Int32 × (Nat → Int32)) := B_Br_appendInverseSwap_2 fl i_p0_strands fl x1 0 i_p0_turns i_p0_factors f_p0_image
def m_Br_appendInverseSwap (fl : Nat) (i_p0_strands : Int32) (x1 : Int32) (i_p0_turns : Int32) (i_p0_factors : Int32) (f_p0_image : Nat → Int32) : Option (Int32 × Int32 × (Nat → Int32)) := B_Br_appendInverseSwap_0 fl i_p0_strands x1 i_p0_turns i_p0_factors f_p0_image
set_option maxHeartbeats 4000000 in
set_option maxRecDepth 100000 in
theorem w_Br_appendInverseSwap_44 {p : Program} {l : Launch} {e : Env} {s : State} {m : MethodId} {args : Array Value} {below : List Frame} {meth : Method} {c : Code} {D : va_G} {cI cJ cB : ClassId} {sa : Nat → Nat × Nat} {A : Nat → Prop} (fl : Nat) (q_p0 : Nat) (q_p0_letter : Nat) (q_p0_image : Nat) (q_p0_end : Nat) (i_p0_strands : Int32) (i_p0_letters : Int32) (i_p0_formIsKnown : Int32) (res : Int32 × Int32 × (Nat → Int32)) (C0 : vz_Cx p s m meth c b_Br_appendInverseSwap 4 none "LinkEngine$Braid" "appendInverseSwap" D [(cI, .int), (cJ, .long), (cB, .byte)] sa A args) : ∀ (nn : Nat), ∀ (x1 : Int32) (x2 : Int32) (x3 : Int32) (i_p0_turns : Int32) (i_p0_factors : Int32) (f_p0_image : Nat → Int32) (H : Heap) (locs : List Loc) (ls : Array Slot), B_Br_appendInverseSwap_44 fl i_p0_strands nn x1 x2 x3 i_p0_turns i_p0_factors f_p0_image = some res → va_P D classes (ws_Br_appendInverseSwap cI cJ cB q_p0 q_p0_letter q_p0_image q_p0_end i_p0_strands i_p0_letters i_p0_turns i_p0_factors i_p0_formIsKnown f_p0_image) H → va_D A (ws_Br_appendInverseSwap cI cJ cB q_p0 q_p0_letter q_p0_image q_p0_end i_p0_strands i_p0_letters i_p0_turns i_p0_factors i_p0_formIsKnown f_p0_image) → va_S A s.heap H locs → lv_has ls 4 [(0, .ref q_p0), (1, .int x1), (2, .int x2), (3, .int x3)] → W p l e rm_Br_appendInverseSwap s m args below meth c H locs 0 0 (MQ below (va_Qv (fun (w : va_W) => w = (ws_Br_appendInverseSwap cI cJ cB q_p0 q_p0_letter q_p0_image q_p0_end i_p0_strands i_p0_letters res.1 res.2.1 i_p0_formIsKnown res.2.2)) (vz_B D A) A) args s 0 0 A) (F0 m 44 ls []) := by
  obtain ⟨hx, hb, hr, hml, hown, ht, hlocks, hin, hN, hK, hA, hZ⟩ := id C0
  intro nn
  induction nn with
  | zero =>
    intro x1 x2 x3 i_p0_turns i_p0_factors f_p0_image H locs ls hm hP hD hS hl
    rw [B_Br_appendInverseSwap_44] at hm
    cases hm
  | succ nn ih =>
    intro x1 x2 x3 i_p0_turns i_p0_factors f_p0_image H locs ls hm hP hD hS hl
    rw [B_Br_appendInverseSwap_44] at hm
    refine lv_iload_n hx hb d_Br_appendInverseSwap_44 rfl (lv_at hl 3 rfl) ?_
    refine lv_aload_n hx hb d_Br_appendInverseSwap_45 rfl (lv_at hl 0 rfl) ?_
    refine va_get (D := D) (ci := 7) (v := .int i_p0_strands) (C := R_Br) (T := F_Br) (N := 8) hx hb ht i_Br hown hK hP 0 rfl rfl 3 (Nat.le_of_ble_eq_true rfl) (ht _ m_48) (fun _ h9 => h9) rfl d_Br_appendInverseSwap_46 ?_
    refine lv_icmp_ge (tgt := 74) hx hb d_Br_appendInverseSwap_49 (by decide) (fun hc => ?_) (fun hc => ?_)
    · rw [if_pos hc] at hm
      refine lv_aload_n hx hb d_Br_appendInverseSwap_74 rfl (lv_at hl 0 rfl) ?_
      refine va_get (D := D) (ci := 7) (v := .ref q_p0_image) (C := R_Br) (T := F_Br) (N := 8) hx hb ht i_Br hown hK hP 0 rfl rfl 1 (Nat.le_of_ble_eq_true rfl) (ht _ m_46) (fun _ h9 => h9) rfl d_Br_appendInverseSwap_75 ?_
      refine lv_iload_n hx hb d_Br_appendInverseSwap_78 rfl (lv_at hl 2 rfl) ?_
      refine lv_aload_n hx hb d_Br_appendInverseSwap_79 rfl (lv_at hl 0 rfl) ?_
      refine va_get (D := D) (ci := 7) (v := .int i_p0_strands) (C := R_Br) (T := F_Br) (N := 8) hx hb ht i_Br hown hK hP 0 rfl rfl 3 (Nat.le_of_ble_eq_true rfl) (ht _ m_48) (fun _ h9 => h9) rfl d_Br_appendInverseSwap_80 ?_
      refine lv_iadd hx hb d_Br_appendInverseSwap_83 ?_
      refine lv_iconst (v := 1) hx hb d_Br_appendInverseSwap_84 (by decide) ?_
      refine lv_isub hx hb d_Br_appendInverseSwap_85 ?_
      refine lv_iload_n hx hb d_Br_appendInverseSwap_86 rfl (lv_at hl 1 rfl) ?_
      refine lv_isub hx hb d_Br_appendInverseSwap_87 ?_
      refine lv_iload_n hx hb d_Br_appendInverseSwap_88 rfl (lv_at hl 1 rfl) ?_
      refine lv_iconst (v := 1) hx hb d_Br_appendInverseSwap_89 (by decide) ?_
      refine lv_iadd hx hb d_Br_appendInverseSwap_90 ?_
      obtain ⟨hg, hm⟩ := vz_guard hm
      refine va_iast hx hb hK hP hD hS 1 0 rfl rfl hg d_Br_appendInverseSwap_91 (fun H locs hP hD hS => ?_)
      have hP : va_P D classes (ws_Br_appendInverseSwap cI cJ cB q_p0 q_p0_letter q_p0_image q_p0_end i_p0_strands i_p0_letters i_p0_turns i_p0_factors i_p0_formIsKnown (upd f_p0_image (Int32.toNatClampNeg (((x2 + i_p0_strands) - (1 : Int32)) - x1)) (x1 + (1 : Int32)))) H := hP
      have hD : va_D A (ws_Br_appendInverseSwap cI cJ cB q_p0 q_p0_letter q_p0_image q_p0_end i_p0_strands i_p0_letters i_p0_turns i_p0_factors i_p0_formIsKnown (upd f_p0_image (Int32.toNatClampNeg (((x2 + i_p0_strands) - (1 : Int32)) - x1)) (x1 + (1 : Int32)))) := hD
      refine lv_aload_n hx hb d_Br_appendInverseSwap_92 rfl (lv_at hl 0 rfl) ?_
      refine va_get (D := D) (ci := 7) (v := .ref q_p0_image) (C := R_Br) (T := F_Br) (N := 8) hx hb ht i_Br hown hK hP 0 rfl rfl 1 (Nat.le_of_ble_eq_true rfl) (ht _ m_46) (fun _ h9 => h9) rfl d_Br_appendInverseSwap_93 ?_
      refine lv_iload_n hx hb d_Br_appendInverseSwap_96 rfl (lv_at hl 2 rfl) ?_
      refine lv_aload_n hx hb d_Br_appendInverseSwap_97 rfl (lv_at hl 0 rfl) ?_
      refine va_get (D := D) (ci := 7) (v := .int i_p0_strands) (C := R_Br) (T := F_Br) (N := 8) hx hb ht i_Br hown hK hP 0 rfl rfl 3 (Nat.le_of_ble_eq_true rfl) (ht _ m_48) (fun _ h9 => h9) rfl d_Br_appendInverseSwap_98 ?_
      refine lv_iadd hx hb d_Br_appendInverseSwap_101 ?_
      refine lv_iconst (v := 2) hx hb d_Br_appendInverseSwap_102 (by decide) ?_
      refine lv_isub hx hb d_Br_appendInverseSwap_103 ?_
      refine lv_iload_n hx hb d_Br_appendInverseSwap_104 rfl (lv_at hl 1 rfl) ?_
      refine lv_isub hx hb d_Br_appendInverseSwap_105 ?_
      refine lv_iload_n hx hb d_Br_appendInverseSwap_106 rfl (lv_at hl 1 rfl) ?_
      obtain ⟨hg, hm⟩ := vz_guard hm
      refine va_iast hx hb hK hP hD hS 1 0 rfl rfl hg d_Br_appendInverseSwap_107 (fun H locs hP hD hS => ?_)
      have hP : va_P D classes (ws_Br_appendInverseSwap cI cJ cB q_p0 q_p0_letter q_p0_image q_p0_end i_p0_strands i_p0_letters i_p0_turns i_p0_factors i_p0_formIsKnown (upd (upd f_p0_image (Int32.toNatClampNeg (((x2 + i_p0_strands) - (1 : Int32)) - x1)) (x1 + (1 : Int32))) (Int32.toNatClampNeg (((x2 + i_p0_strands) - (2 : Int32)) - x1)) x1)) H := hP
      have hD : va_D A (ws_Br_appendInverseSwap cI cJ cB q_p0 q_p0_letter q_p0_image q_p0_end i_p0_strands i_p0_letters i_p0_turns i_p0_factors i_p0_formIsKnown (upd (upd f_p0_image (Int32.toNatClampNeg (((x2 + i_p0_strands) - (1 : Int32)) - x1)) (x1 + (1 : Int32))) (Int32.toNatClampNeg (((x2 + i_p0_strands) - (2 : Int32)) - x1)) x1)) := hD
      refine lv_aload_n hx hb d_Br_appendInverseSwap_108 rfl (lv_at hl 0 rfl) ?_
      refine lv_dup hx hb d_Br_appendInverseSwap_109 rfl ?_
      refine va_get (D := D) (ci := 7) (v := .int i_p0_factors) (C := R_Br) (T := F_Br) (N := 8) hx hb ht i_Br hown hK hP 0 rfl rfl 6 (Nat.le_of_ble_eq_true rfl) (ht _ m_201) (fun _ h9 => h9) rfl d_Br_appendInverseSwap_110 ?_
      refine lv_iconst (v := 1) hx hb d_Br_appendInverseSwap_113 (by decide) ?_
      refine lv_iadd hx hb d_Br_appendInverseSwap_114 ?_
      refine va_put (D := D) (ci := 7) (v := .int (i_p0_factors + (1 : Int32))) (ty := .int) (C := R_Br) (T := F_Br) (N := 8) hx hb ht i_Br t_Br t_Br_ok n_Br hown hK hP hD hS 0 rfl rfl 6 (Nat.le_of_ble_eq_true rfl) (ht _ m_201) (fun _ h9 => h9) rfl (by decide +kernel) rfl rfl (Nat.le_of_ble_eq_true rfl) d_Br_appendInverseSwap_115 (fun H locs hP hD hS => ?_)
      have hP : va_P D classes (ws_Br_appendInverseSwap cI cJ cB q_p0 q_p0_letter q_p0_image q_p0_end i_p0_strands i_p0_letters i_p0_turns (i_p0_factors + (1 : Int32)) i_p0_formIsKnown (upd (upd f_p0_image (Int32.toNatClampNeg (((x2 + i_p0_strands) - (1 : Int32)) - x1)) (x1 + (1 : Int32))) (Int32.toNatClampNeg (((x2 + i_p0_strands) - (2 : Int32)) - x1)) x1)) H := hP
      have hD : va_D A (ws_Br_appendInverseSwap cI cJ cB q_p0 q_p0_letter q_p0_image q_p0_end i_p0_strands i_p0_letters i_p0_turns (i_p0_factors + (1 : Int32)) i_p0_formIsKnown (upd (upd f_p0_image (Int32.toNatClampNeg (((x2 + i_p0_strands) - (1 : Int32)) - x1)) (x1 + (1 : Int32))) (Int32.toNatClampNeg (((x2 + i_p0_strands) - (2 : Int32)) - x1)) x1)) := hD
      obtain rfl := Option.some.inj hm
      exact vz_vret hx hb hr hlocks hP hD hS (Nat.le_refl _) (Nat.le_refl _) d_Br_appendInverseSwap_118 rfl
    · rw [if_neg hc] at hm
      refine lv_aload_n hx hb d_Br_appendInverseSwap_52 rfl (lv_at hl 0 rfl) ?_
      refine va_get (D := D) (ci := 7) (v := .ref q_p0_image) (C := R_Br) (T := F_Br) (N := 8) hx hb ht i_Br hown hK hP 0 rfl rfl 1 (Nat.le_of_ble_eq_true rfl) (ht _ m_46) (fun _ h9 => h9) rfl d_Br_appendInverseSwap_53 ?_
      refine lv_iload_n hx hb d_Br_appendInverseSwap_56 rfl (lv_at hl 2 rfl) ?_
      refine lv_iload_n hx hb d_Br_appendInverseSwap_57 rfl (lv_at hl 3 rfl) ?_
      refine lv_iadd hx hb d_Br_appendInverseSwap_58 ?_
      refine lv_aload_n hx hb d_Br_appendInverseSwap_59 rfl (lv_at hl 0 rfl) ?_
      refine va_get (D := D) (ci := 7) (v := .int i_p0_strands) (C := R_Br) (T := F_Br) (N := 8) hx hb ht i_Br hown hK hP 0 rfl rfl 3 (Nat.le_of_ble_eq_true rfl) (ht _ m_48) (fun _ h9 => h9) rfl d_Br_appendInverseSwap_60 ?_
      refine lv_iconst (v := 1) hx hb d_Br_appendInverseSwap_63 (by decide) ?_
      refine lv_isub hx hb d_Br_appendInverseSwap_64 ?_
      refine lv_iload_n hx hb d_Br_appendInverseSwap_65 rfl (lv_at hl 3 rfl) ?_
      refine lv_isub hx hb d_Br_appendInverseSwap_66 ?_
      obtain ⟨hg, hm⟩ := vz_guard hm
      refine va_iast hx hb hK hP hD hS 1 0 rfl rfl hg d_Br_appendInverseSwap_67 (fun H locs hP hD hS => ?_)
      have hP : va_P D classes (ws_Br_appendInverseSwap cI cJ cB q_p0 q_p0_letter q_p0_image q_p0_end i_p0_strands i_p0_letters i_p0_turns i_p0_factors i_p0_formIsKnown (upd f_p0_image (Int32.toNatClampNeg (x2 + x3)) ((i_p0_strands - (1 : Int32)) - x3))) H := hP
      have hD : va_D A (ws_Br_appendInverseSwap cI cJ cB q_p0 q_p0_letter q_p0_image q_p0_end i_p0_strands i_p0_letters i_p0_turns i_p0_factors i_p0_formIsKnown (upd f_p0_image (Int32.toNatClampNeg (x2 + x3)) ((i_p0_strands - (1 : Int32)) - x3))) := hD
      refine lv_iinc (v := (x3 + 1)) (lv' := [(3, .int (x3 + 1)), (0, .ref q_p0), (1, .int x1), (2, .int x2)]) hx hb d_Br_appendInverseSwap_68 hl (k := 3) rfl rfl (by decide) rfl (fun ls hl => ?_)
      refine lv_goto (tgt := 44) hx hb d_Br_appendInverseSwap_71 (by decide) ?_
      exact ih x1 x2 (x3 + 1) i_p0_turns i_p0_factors (upd f_p0_image (Int32.toNatClampNeg (x2 + x3)) ((i_p0_strands - (1 : Int32)) - x3)) _ _ _ hm hP hD hS (lv_sub hl [1, 2, 3, 0] rfl)
set_option maxHeartbeats 4000000 in
set_option maxRecDepth 100000 in
theorem w_Br_appendInverseSwap_2 {p : Program} {l : Launch} {e : Env} {s : State} {m : MethodId} {args : Array Value} {below : List Frame} {meth : Method} {c : Code} {D : va_G} {cI cJ cB : ClassId} {sa : Nat → Nat × Nat} {A : Nat → Prop} (fl : Nat) (q_p0 : Nat) (q_p0_letter : Nat) (q_p0_image : Nat) (q_p0_end : Nat) (i_p0_strands : Int32) (i_p0_letters : Int32) (i_p0_formIsKnown : Int32) (res : Int32 × Int32 × (Nat → Int32)) (C0 : vz_Cx p s m meth c b_Br_appendInverseSwap 4 none "LinkEngine$Braid" "appendInverseSwap" D [(cI, .int), (cJ, .long), (cB, .byte)] sa A args) : ∀ (nn : Nat), ∀ (x1 : Int32) (x2 : Int32) (i_p0_turns : Int32) (i_p0_factors : Int32) (f_p0_image : Nat → Int32) (H : Heap) (locs : List Loc) (ls : Array Slot), B_Br_appendInverseSwap_2 fl i_p0_strands nn x1 x2 i_p0_turns i_p0_factors f_p0_image = some res → va_P D classes (ws_Br_appendInverseSwap cI cJ cB q_p0 q_p0_letter q_p0_image q_p0_end i_p0_strands i_p0_letters i_p0_turns i_p0_factors i_p0_formIsKnown f_p0_image) H → va_D A (ws_Br_appendInverseSwap cI cJ cB q_p0 q_p0_letter q_p0_image q_p0_end i_p0_strands i_p0_letters i_p0_turns i_p0_factors i_p0_formIsKnown f_p0_image) → va_S A s.heap H locs → lv_has ls 4 [(0, .ref q_p0), (1, .int x1), (2, .int x2)] → W p l e rm_Br_appendInverseSwap s m args below meth c H locs 0 0 (MQ below (va_Qv (fun (w : va_W) => w = (ws_Br_appendInverseSwap cI cJ cB q_p0 q_p0_letter q_p0_image q_p0_end i_p0_strands i_p0_letters res.1 res.2.1 i_p0_formIsKnown res.2.2)) (vz_B D A) A) args s 0 0 A) (F0 m 2 ls []) := by
  obtain ⟨hx, hb, hr, hml, hown, ht, hlocks, hin, hN, hK, hA, hZ⟩ := id C0
  intro nn
  induction nn with
  | zero =>
    intro x1 x2 i_p0_turns i_p0_factors f_p0_image H locs ls hm hP hD hS hl
    rw [B_Br_appendInverseSwap_2] at hm
    cases hm
  | succ nn ih =>
    intro x1 x2 i_p0_turns i_p0_factors f_p0_image H locs ls hm hP hD hS hl
    rw [B_Br_appendInverseSwap_2] at hm
    refine lv_iload_n hx hb d_Br_appendInverseSwap_2 rfl (lv_at hl 2 rfl) ?_
    refine lv_aload_n hx hb d_Br_appendInverseSwap_3 rfl (lv_at hl 0 rfl) ?_
    refine va_get (D := D) (ci := 7) (v := .int i_p0_factors) (C := R_Br) (T := F_Br) (N := 8) hx hb ht i_Br hown hK hP 0 rfl rfl 6 (Nat.le_of_ble_eq_true rfl) (ht _ m_201) (fun _ h9 => h9) rfl d_Br_appendInverseSwap_4 ?_
    refine lv_icmp_ge (tgt := 24) hx hb d_Br_appendInverseSwap_7 (by decide) (fun hc => ?_) (fun hc => ?_)
    · rw [if_pos hc] at hm
      refine lv_aload_n hx hb d_Br_appendInverseSwap_24 rfl (lv_at hl 0 rfl) ?_
      refine lv_dup hx hb d_Br_appendInverseSwap_25 rfl ?_
      refine va_get (D := D) (ci := 7) (v := .int i_p0_turns) (C := R_Br) (T := F_Br) (N := 8) hx hb ht i_Br hown hK hP 0 rfl rfl 5 (Nat.le_of_ble_eq_true rfl) (ht _ m_200) (fun _ h9 => h9) rfl d_Br_appendInverseSwap_26 ?_
      refine lv_iconst (v := 1) hx hb d_Br_appendInverseSwap_29 (by decide) ?_
      refine lv_isub hx hb d_Br_appendInverseSwap_30 ?_
      refine va_put (D := D) (ci := 7) (v := .int (i_p0_turns - (1 : Int32))) (ty := .int) (C := R_Br) (T := F_Br) (N := 8) hx hb ht i_Br t_Br t_Br_ok n_Br hown hK hP hD hS 0 rfl rfl 5 (Nat.le_of_ble_eq_true rfl) (ht _ m_200) (fun _ h9 => h9) rfl (by decide +kernel) rfl rfl (Nat.le_of_ble_eq_true rfl) d_Br_appendInverseSwap_31 (fun H locs hP hD hS => ?_)
      have hP : va_P D classes (ws_Br_appendInverseSwap cI cJ cB q_p0 q_p0_letter q_p0_image q_p0_end i_p0_strands i_p0_letters (i_p0_turns - (1 : Int32)) i_p0_factors i_p0_formIsKnown f_p0_image) H := hP
      have hD : va_D A (ws_Br_appendInverseSwap cI cJ cB q_p0 q_p0_letter q_p0_image q_p0_end i_p0_strands i_p0_letters (i_p0_turns - (1 : Int32)) i_p0_factors i_p0_formIsKnown f_p0_image) := hD
      refine lv_aload_n hx hb d_Br_appendInverseSwap_34 rfl (lv_at hl 0 rfl) ?_
      refine va_get (D := D) (ci := 7) (v := .int i_p0_factors) (C := R_Br) (T := F_Br) (N := 8) hx hb ht i_Br hown hK hP 0 rfl rfl 6 (Nat.le_of_ble_eq_true rfl) (ht _ m_201) (fun _ h9 => h9) rfl d_Br_appendInverseSwap_35 ?_
      refine lv_bipush (v := 8) hx hb d_Br_appendInverseSwap_38 (by decide +kernel) ?_
      refine lv_imul hx hb d_Br_appendInverseSwap_40 ?_
      refine lv_istore_n (lv' := [(2, .int (i_p0_factors * (8 : Int32))), (0, .ref q_p0), (1, .int x1)]) hx hb d_Br_appendInverseSwap_41 rfl hl (by decide) rfl (fun ls hl => ?_)
      refine lv_iconst (v := 0) hx hb d_Br_appendInverseSwap_42 (by decide) ?_
      refine lv_istore_n (lv' := [(3, .int 0), (2, .int (i_p0_factors * (8 : Int32))), (0, .ref q_p0), (1, .int x1)]) hx hb d_Br_appendInverseSwap_43 rfl hl (by decide) rfl (fun ls hl => ?_)
      exact w_Br_appendInverseSwap_44 fl q_p0 q_p0_letter q_p0_image q_p0_end i_p0_strands i_p0_letters i_p0_formIsKnown res C0 fl x1 (i_p0_factors * (8 : Int32)) 0 (i_p0_turns - (1 : Int32)) i_p0_factors f_p0_image _ _ _ hm hP hD hS (lv_sub hl [2, 3, 1, 0] rfl)
    · rw [if_neg hc] at hm
      refine lv_aload_n hx hb d_Br_appendInverseSwap_10 rfl (lv_at hl 0 rfl) ?_
      refine lv_iload_n hx hb d_Br_appendInverseSwap_11 rfl (lv_at hl 2 rfl) ?_
      refine lv_bipush (v := 8) hx hb d_Br_appendInverseSwap_12 (by decide +kernel) ?_
      refine lv_imul hx hb d_Br_appendInverseSwap_14 ?_
      obtain ⟨o0, ho0, hm⟩ := vz_bind hm
      try dsimp only at hm
      refine vz_callVv (n := 1) (As := [.int (x2 * (8 : Int32))]) (rest := []) (wc := (ws_Br_conjugateByTurn cI cJ cB q_p0 q_p0_letter q_p0_image q_p0_end i_p0_strands i_p0_letters i_p0_turns i_p0_factors i_p0_formIsKnown f_p0_image)) (wr := []) (k1 := 0) (n1 := 0) hx hb hml hown ht hN hZ hK hP hD hS hA (k_Br_conjugateByTurn l D cI cJ cB sa fl q_p0 q_p0_letter q_p0_image q_p0_end i_p0_strands i_p0_letters i_p0_turns i_p0_factors i_p0_formIsKnown f_p0_image (x2 * (8 : Int32)) o0 ho0) m_669 m_107 m_666 m_667 m_668 (hc := (rfl : classes[7]? = some (R_Br, F_Br, 8))) 0 rfl (by decide +kernel) ⟨Nat.le_of_ble_eq_true rfl, Nat.le_of_ble_eq_true rfl⟩ [0, 1] [] rfl rfl (by decide) (by decide) (by decide) rfl hl.1 rfl (Nat.le_of_ble_eq_true rfl) rfl rfl ⟨Nat.zero_le _, Nat.zero_le _⟩ d_Br_appendInverseSwap_15 (fun w1 H locs hw hP hD hS => ?_)
      subst hw
      have hP : va_P D classes (ws_Br_appendInverseSwap cI cJ cB q_p0 q_p0_letter q_p0_image q_p0_end i_p0_strands i_p0_letters i_p0_turns i_p0_factors i_p0_formIsKnown o0) H := hP.sub [0, 1] rfl
      have hD : va_D A (ws_Br_appendInverseSwap cI cJ cB q_p0 q_p0_letter q_p0_image q_p0_end i_p0_strands i_p0_letters i_p0_turns i_p0_factors i_p0_formIsKnown o0) := hD.sub [0, 1] (by decide) rfl
      refine lv_iinc (v := (x2 + 1)) (lv' := [(2, .int (x2 + 1)), (0, .ref q_p0), (1, .int x1)]) hx hb d_Br_appendInverseSwap_18 hl (k := 2) rfl rfl (by decide) rfl (fun ls hl => ?_)
      refine lv_goto (tgt := 2) hx hb d_Br_appendInverseSwap_21 (by decide) ?_
      exact ih x1 (x2 + 1) i_p0_turns i_p0_factors o0 _ _ _ hm hP hD hS (lv_sub hl [1, 2, 0] rfl)
set_option maxHeartbeats 4000000 in
set_option maxRecDepth 100000 in
theorem w_Br_appendInverseSwap_0 {p : Program} {l : Launch} {e : Env} {s : State} {m : MethodId} {args : Array Value} {below : List Frame} {meth : Method} {c : Code} {D : va_G} {cI cJ cB : ClassId} {sa : Nat → Nat × Nat} {A : Nat → Prop} (fl : Nat) (q_p0 : Nat) (q_p0_letter : Nat) (q_p0_image : Nat) (q_p0_end : Nat) (i_p0_strands : Int32) (i_p0_letters : Int32) (i_p0_formIsKnown : Int32) (res : Int32 × Int32 × (Nat → Int32)) (C0 : vz_Cx p s m meth c b_Br_appendInverseSwap 4 none "LinkEngine$Braid" "appendInverseSwap" D [(cI, .int), (cJ, .long), (cB, .byte)] sa A args) : ∀ (x1 : Int32) (i_p0_turns : Int32) (i_p0_factors : Int32) (f_p0_image : Nat → Int32) (H : Heap) (locs : List Loc) (ls : Array Slot), B_Br_appendInverseSwap_0 fl i_p0_strands x1 i_p0_turns i_p0_factors f_p0_image = some res → va_P D classes (ws_Br_appendInverseSwap cI cJ cB q_p0 q_p0_letter q_p0_image q_p0_end i_p0_strands i_p0_letters i_p0_turns i_p0_factors i_p0_formIsKnown f_p0_image) H → va_D A (ws_Br_appendInverseSwap cI cJ cB q_p0 q_p0_letter q_p0_image q_p0_end i_p0_strands i_p0_letters i_p0_turns i_p0_factors i_p0_formIsKnown f_p0_image) → va_S A s.heap H locs → lv_has ls 4 [(0, .ref q_p0), (1, .int x1)] → W p l e rm_Br_appendInverseSwap s m args below meth c H locs 0 0 (MQ below (va_Qv (fun (w : va_W) => w = (ws_Br_appendInverseSwap cI cJ cB q_p0 q_p0_letter q_p0_image q_p0_end i_p0_strands i_p0_letters res.1 res.2.1 i_p0_formIsKnown res.2.2)) (vz_B D A) A) args s 0 0 A) (F0 m 0 ls []) := by
  obtain ⟨hx, hb, hr, hml, hown, ht, hlocks, hin, hN, hK, hA, hZ⟩ := id C0
  intro x1 i_p0_turns i_p0_factors f_p0_image H locs ls hm hP hD hS hl
  unfold B_Br_appendInverseSwap_0 at hm
  refine lv_iconst (v := 0) hx hb d_Br_appendInverseSwap_0 (by decide) ?_
  refine lv_istore_n (lv' := [(2, .int 0), (0, .ref q_p0), (1, .int x1)]) hx hb d_Br_appendInverseSwap_1 rfl hl (by decide) rfl (fun ls hl => ?_)
  exact w_Br_appendInverseSwap_2 fl q_p0 q_p0_letter q_p0_image q_p0_end i_p0_strands i_p0_letters i_p0_formIsKnown res C0 fl x1 0 i_p0_turns i_p0_factors f_p0_image _ _ _ hm hP hD hS (lv_sub hl [1, 2, 0] rfl)
set_option maxHeartbeats 4000000 in
set_option maxRecDepth 100000 in
theorem k_Br_appendInverseSwap (l : Launch) (D : va_G) (cI cJ cB : ClassId) (sa : Nat → Nat × Nat) (fl : Nat) (q_p0 : Nat) (q_p0_letter : Nat) (q_p0_image : Nat) (q_p0_end : Nat) (i_p0_strands : Int32) (i_p0_letters : Int32) (i_p0_formIsKnown : Int32) (i_p0_turns : Int32) (i_p0_factors : Int32) (f_p0_image : Nat → Int32) (x1 : Int32) (res : Int32 × Int32 × (Nat → Int32)) (hm : m_Br_appendInverseSwap fl i_p0_strands x1 i_p0_turns i_p0_factors f_p0_image = some res) : MtV l y_Br_appendInverseSwap (.code y_Br_appendInverseSwap b_Br_appendInverseSwap 4 none :: CW) rm_Br_appendInverseSwap D [(cI, .int), (cJ, .long), (cB, .byte)] sa [.ref q_p0, .int x1] (ws_Br_appendInverseSwap cI cJ cB q_p0 q_p0_letter q_p0_image q_p0_end i_p0_strands i_p0_letters i_p0_turns i_p0_factors i_p0_formIsKnown f_p0_image) (fun (w : va_W) => w = (ws_Br_appendInverseSwap cI cJ cB q_p0 q_p0_letter q_p0_image q_p0_end i_p0_strands i_p0_letters res.1 res.2.1 i_p0_formIsKnown res.2.2)) := by
  intro sz
  refine vz_start (Qc := fun A => va_Qv (fun (w : va_W) => w = (ws_Br_appendInverseSwap cI cJ cB q_p0 q_p0_letter q_p0_image q_p0_end i_p0_strands i_p0_letters res.1 res.2.1 i_p0_formIsKnown res.2.2)) (vz_B D A) A) (lv0 := [(0, .ref q_p0), (1, .int x1)]) (by decide +kernel) (Nat.le_of_ble_eq_true rfl) rfl ?_
  intro p e s m below meth c A ls C0 hl
  obtain ⟨hx, hb, hr, hml, hown, ht, hlocks, hin, hN, hK, hP, hD, hA, hS, hZ⟩ := C0
  exact w_Br_appendInverseSwap_0 fl q_p0 q_p0_letter q_p0_image q_p0_end i_p0_strands i_p0_letters i_p0_formIsKnown res ⟨hx, hb, hr, hml, hown, ht, hlocks, hin, hN, hK, hA, hZ⟩ x1 i_p0_turns i_p0_factors f_p0_image s.heap [] ls hm hP hD hS (lv_sub hl [0, 1] rfl)
def ws_Br_shiftCrossings (cI cJ cB : ClassId) (q_p0 : Nat) (q_p0_letter : Nat) (q_p0_image : Nat) (q_p0_end : Nat) (i_p0_strands : Int32) (i_p0_letters : Int32) (i_p0_turns : Int32) (i_p0_factors : Int32) (i_p0_formIsKnown : Int32) (f_p0_end : Nat → Int32) (f_p0_image : Nat → Int32) : va_W := [(q_p0, .inr (7, [.ref q_p0_letter, .ref q_p0_image, .ref q_p0_end, .int i_p0_strands, .int i_p0_letters, .int i_p0_turns, .int i_p0_factors, .int i_p0_formIsKnown])), (q_p0_end, .inl (cI, 8, .inl f_p0_end)), (q_p0_image, .inl (cI, 168, .inl f_p0_image))]
def rm_Br_shiftCrossings : Room := { frames := 1, cells := 0, slots := 0, locals := 26 }
def B_Br_shiftCrossings_127 (fl : Nat) (i_p0_strands : Int32) (kb_43 : Int32 → Int32 → Int32 → Int32 → Int32 → (Nat → Int32) → (Nat → Int32) → Option (Int32 × (Nat → Int32) × (Nat → Int32))) (kb_61 : Int32 → Int32 → Int32 → Int32 → Int32 → Int32 → (Nat → Int32) → (Nat → Int32) → Option (Int32 × (Nat → Int32) × (Nat → Int32))) (x1 : Int32) (x2 : Int32) (x3 : Int32) (x4 : Int32) (x5 : Int32) (x6 : Int32) (f_p0_end : Nat → Int32) (f_p0_image : Nat → Int32) : Option (Int32 × (Nat → Int32) × (Nat → Int32)) := kb_61 x1 x2 x3 x4 x5 (x6 + 1) f_p0_end f_p0_image
def B_Br_shiftCrossings_61 (fl : Nat) (i_p0_strands : Int32) (kb_43 : Int32 → Int32 → Int32 → Int32 → Int32 → (Nat → Int32) → (Nat → Int32) → Option (Int32 × (Nat → Int32) × (Nat → Int32))) : Nat → Int32 → Int32 → Int32 → Int32 → Int32 → Int32 → (Nat → Int32) → (Nat → Int32) → Option (Int32 × (Nat → Int32) × (Nat → Int32))
  | 0, _, _, _, _, _, _, _, _ => none
  | nn + 1, x1, x2, x3, x4, x5, x6, f_p0_end, f_p0_image => (if i_p0_strands ≤ (x6 + (1 : Int32)) then kb_43 x1 x2 x3 x4 (x5 + 1) f_p0_end f_p0_image else (if ¬ ((x2 + x6) < 0 ∨ 168 ≤ Int32.toNatClampNeg (x2 + x6)) then (if ¬ (((x2 + x6) + (1 : Int32)) < 0 ∨ 168 ≤ Int32.toNatClampNeg ((x2 + x6) + (1 : Int32))) then (if (f_p0_image (Int32.toNatClampNeg (x2 + x6))) ≤ (f_p0_image (Int32.toNatClampNeg ((x2 + x6) + (1 : Int32)))) then B_Br_shiftCrossings_127 fl i_p0_strands kb_43 (B_Br_shiftCrossings_61 fl i_p0_strands kb_43 nn) x1 x2 x3 x4 x5 x6 f_p0_end f_p0_image else (if ¬ (x6 < 0 ∨ 8 ≤ Int32.toNatClampNeg x6) then (if ¬ ((x6 + (1 : Int32)) < 0 ∨ 8 ≤ Int32.toNatClampNeg (x6 + (1 : Int32))) then (if (f_p0_end (Int32.toNatClampNeg (x6 + (1 : Int32)))) ≤ (f_p0_end (Int32.toNatClampNeg x6)) then B_Br_shiftCrossings_127 fl i_p0_strands kb_43 (B_Br_shiftCrossings_61 fl i_p0_strands kb_43 nn) x1 x2 x3 x4 x5 x6 f_p0_end f_p0_image else ((m_Br_moveSwap fl x1 x2 x6 f_p0_end f_p0_image).bind fun o0 => B_Br_shiftCrossings_127 fl i_p0_strands kb_43 (B_Br_shiftCrossings_61 fl i_p0_strands kb_43 nn) x1 x2 1 1 x5 x6 o0.1 o0.2)) else none) else none)) else none) else none))
def B_Br_shiftCrossings_43 (fl : Nat) (i_p0_strands : Int32) : Nat → Int32 → Int32 → Int32 → Int32 → Int32 → (Nat → Int32) → (Nat → Int32) → Option (Int32 × (Nat → Int32) × (Nat → Int32))
  | 0, _, _, _, _, _, _, _ => none
  | nn + 1, x1, x2, x3, x4, x5, f_p0_end, f_p0_image => (if (64 : Int32) ≤ x5 then (if x3 = 0 ∨ x3 = 1 then (some (x3, f_p0_end, f_p0_image)) else none) else (if x4 = (0 : Int32) then (if x3 = 0 ∨ x3 = 1 then (some (x3, f_p0_end, f_p0_image)) else none) else B_Br_shiftCrossings_61 fl i_p0_strands (B_Br_shiftCrossings_43 fl i_p0_strands nn) fl x1 x2 x3 0 x5 0 f_p0_end f_p0_image))
def B_Br_shiftCrossings_7 (fl : Nat) (i_p0_strands : Int32) : Nat → Int32 → Int32 → Int32 → (Nat → Int32) → (Nat → Int32) → Option (Int32 × (Nat → Int32) × (Nat → Int32))
  | 0, _, _, _, _, _ => none
  | nn + 1, x1, x2, x3, f_p0_end, f_p0_image => (if i_p0_strands ≤ x3 then B_Br_shiftCrossings_43 fl i_p0_strands fl x1 x2 0 1 0 f_p0_end f_p0_image else (if ¬ ((x1 + x3) < 0 ∨ 168 ≤ Int32.toNatClampNeg (x1 + x3)) then (if ¬ ((f_p0_image (Int32.toNatClampNeg (x1 + x3))) < 0 ∨ 8 ≤ Int32.toNatClampNeg (f_p0_image (Int32.toNatClampNeg (x1 + x3)))) then B_Br_shiftCrossings_7 fl i_p0_strands nn x1 x2 (x3 + 1) (upd f_p0_end (Int32.toNatClampNeg (f_p0_image (Int32.toNatClampNeg (x1 + x3)))) x3) f_p0_image else none) else none))
def B_Br_shiftCrossings_0 (fl : Nat) (i_p0_strands : Int32) (x1 : Int32) (f_p0_end : Nat → Int32) (f_p0_image : Nat → Int32) : Option (Int32 × (Nat → Int32) × (Nat → Int32)) := B_Br_shiftCrossings_7 fl i_p0_strands fl x1 (x1 + (8 : Int32)) 0 f_p0_end f_p0_image
def m_Br_shiftCrossings (fl : Nat) (i_p0_strands : Int32) (x1 : Int32) (f_p0_end : Nat → Int32) (f_p0_image : Nat → Int32) : Option (Int32 × (Nat → Int32) × (Nat → Int32)) := B_Br_shiftCrossings_0 fl i_p0_strands x1 f_p0_end f_p0_image
set_option maxHeartbeats 4000000 in
set_option maxRecDepth 100000 in
theorem w_Br_shiftCrossings_127 {p : Program} {l : Launch} {e : Env} {s : State} {m : MethodId} {args : Array Value} {below : List Frame} {meth : Method} {c : Code} {D : va_G} {cI cJ cB : ClassId} {sa : Nat → Nat × Nat} {A : Nat → Prop} (fl : Nat) (q_p0 : Nat) (q_p0_letter : Nat) (q_p0_image : Nat) (q_p0_end : Nat) (i_p0_strands : Int32) (i_p0_letters : Int32) (i_p0_turns : Int32) (i_p0_factors : Int32) (i_p0_formIsKnown : Int32) (res : Int32 × (Nat → Int32) × (Nat → Int32)) (C0 : vz_Cx p s m meth c b_Br_shiftCrossings 7 (some .boolean) "LinkEngine$Braid" "shiftCrossings" D [(cI, .int), (cJ, .long), (cB, .byte)] sa A args) (kb_43 : Int32 → Int32 → Int32 → Int32 → Int32 → (Nat → Int32) → (Nat → Int32) → Option (Int32 × (Nat → Int32) × (Nat → Int32))) (hk_43 : ∀ (x1 : Int32) (x2 : Int32) (x3 : Int32) (x4 : Int32) (x5 : Int32) (f_p0_end : Nat → Int32) (f_p0_image : Nat → Int32) (H : Heap) (locs : List Loc) (ls : Array Slot), kb_43 x1 x2 x3 x4 x5 f_p0_end f_p0_image = some res → va_P D classes (ws_Br_shiftCrossings cI cJ cB q_p0 q_p0_letter q_p0_image q_p0_end i_p0_strands i_p0_letters i_p0_turns i_p0_factors i_p0_formIsKnown f_p0_end f_p0_image) H → va_D A (ws_Br_shiftCrossings cI cJ cB q_p0 q_p0_letter q_p0_image q_p0_end i_p0_strands i_p0_letters i_p0_turns i_p0_factors i_p0_formIsKnown f_p0_end f_p0_image) → va_S A s.heap H locs → lv_has ls 7 [(0, .ref q_p0), (1, .int x1), (2, .int x2), (3, .int x3), (4, .int x4), (5, .int x5)] → W p l e rm_Br_shiftCrossings s m args below meth c H locs 0 0 (MQ below (va_Qi (fun (r : Int32) (w : va_W) => r = res.1 ∧ w = (ws_Br_shiftCrossings cI cJ cB q_p0 q_p0_letter q_p0_image q_p0_end i_p0_strands i_p0_letters i_p0_turns i_p0_factors i_p0_formIsKnown res.2.1 res.2.2)) (vz_B D A) A) args s 0 0 A) (F0 m 43 ls [])) (kb_61 : Int32 → Int32 → Int32 → Int32 → Int32 → Int32 → (Nat → Int32) → (Nat → Int32) → Option (Int32 × (Nat → Int32) × (Nat → Int32))) (hk_61 : ∀ (x1 : Int32) (x2 : Int32) (x3 : Int32) (x4 : Int32) (x5 : Int32) (x6 : Int32) (f_p0_end : Nat → Int32) (f_p0_image : Nat → Int32) (H : Heap) (locs : List Loc) (ls : Array Slot), kb_61 x1 x2 x3 x4 x5 x6 f_p0_end f_p0_image = some res → va_P D classes (ws_Br_shiftCrossings cI cJ cB q_p0 q_p0_letter q_p0_image q_p0_end i_p0_strands i_p0_letters i_p0_turns i_p0_factors i_p0_formIsKnown f_p0_end f_p0_image) H → va_D A (ws_Br_shiftCrossings cI cJ cB q_p0 q_p0_letter q_p0_image q_p0_end i_p0_strands i_p0_letters i_p0_turns i_p0_factors i_p0_formIsKnown f_p0_end f_p0_image) → va_S A s.heap H locs → lv_has ls 7 [(0, .ref q_p0), (1, .int x1), (2, .int x2), (3, .int x3), (4, .int x4), (5, .int x5), (6, .int x6)] → W p l e rm_Br_shiftCrossings s m args below meth c H locs 0 0 (MQ below (va_Qi (fun (r : Int32) (w : va_W) => r = res.1 ∧ w = (ws_Br_shiftCrossings cI cJ cB q_p0 q_p0_letter q_p0_image q_p0_end i_p0_strands i_p0_letters i_p0_turns i_p0_factors i_p0_formIsKnown res.2.1 res.2.2)) (vz_B D A) A) args s 0 0 A) (F0 m 61 ls [])) : ∀ (x1 : Int32) (x2 : Int32) (x3 : Int32) (x4 : Int32) (x5 : Int32) (x6 : Int32) (f_p0_end : Nat → Int32) (f_p0_image : Nat → Int32) (H : Heap) (locs : List Loc) (ls : Array Slot), B_Br_shiftCrossings_127 fl i_p0_strands kb_43 kb_61 x1 x2 x3 x4 x5 x6 f_p0_end f_p0_image = some res → va_P D classes (ws_Br_shiftCrossings cI cJ cB q_p0 q_p0_letter q_p0_image q_p0_end i_p0_strands i_p0_letters i_p0_turns i_p0_factors i_p0_formIsKnown f_p0_end f_p0_image) H → va_D A (ws_Br_shiftCrossings cI cJ cB q_p0 q_p0_letter q_p0_image q_p0_end i_p0_strands i_p0_letters i_p0_turns i_p0_factors i_p0_formIsKnown f_p0_end f_p0_image) → va_S A s.heap H locs → lv_has ls 7 [(0, .ref q_p0), (1, .int x1), (2, .int x2), (3, .int x3), (4, .int x4), (5, .int x5), (6, .int x6)] → W p l e rm_Br_shiftCrossings s m args below meth c H locs 0 0 (MQ below (va_Qi (fun (r : Int32) (w : va_W) => r = res.1 ∧ w = (ws_Br_shiftCrossings cI cJ cB q_p0 q_p0_letter q_p0_image q_p0_end i_p0_strands i_p0_letters i_p0_turns i_p0_factors i_p0_formIsKnown res.2.1 res.2.2)) (vz_B D A) A) args s 0 0 A) (F0 m 127 ls []) := by
  obtain ⟨hx, hb, hr, hml, hown, ht, hlocks, hin, hN, hK, hA, hZ⟩ := id C0
  intro x1 x2 x3 x4 x5 x6 f_p0_end f_p0_image H locs ls hm hP hD hS hl
  unfold B_Br_shiftCrossings_127 at hm
  refine lv_iinc (v := (x6 + 1)) (lv' := [(6, .int (x6 + 1)), (0, .ref q_p0), (1, .int x1), (2, .int x2), (3, .int x3), (4, .int x4), (5, .int x5)]) hx hb d_Br_shiftCrossings_127 hl (k := 6) rfl rfl (by decide) rfl (fun ls hl => ?_)
  refine lv_goto (tgt := 61) hx hb d_Br_shiftCrossings_130 (by decide) ?_
  exact hk_61 x1 x2 x3 x4 x5 (x6 + 1) f_p0_end f_p0_image _ _ _ hm hP hD hS (lv_sub hl [1, 2, 3, 4, 5, 6, 0] rfl)
set_option maxHeartbeats 4000000 in
set_option maxRecDepth 100000 in
theorem w_Br_shiftCrossings_61 {p : Program} {l : Launch} {e : Env} {s : State} {m : MethodId} {args : Array Value} {below : List Frame} {meth : Method} {c : Code} {D : va_G} {cI cJ cB : ClassId} {sa : Nat → Nat × Nat} {A : Nat → Prop} (fl : Nat) (q_p0 : Nat) (q_p0_letter : Nat) (q_p0_image : Nat) (q_p0_end : Nat) (i_p0_strands : Int32) (i_p0_letters : Int32) (i_p0_turns : Int32) (i_p0_factors : Int32) (i_p0_formIsKnown : Int32) (res : Int32 × (Nat → Int32) × (Nat → Int32)) (C0 : vz_Cx p s m meth c b_Br_shiftCrossings 7 (some .boolean) "LinkEngine$Braid" "shiftCrossings" D [(cI, .int), (cJ, .long), (cB, .byte)] sa A args) (kb_43 : Int32 → Int32 → Int32 → Int32 → Int32 → (Nat → Int32) → (Nat → Int32) → Option (Int32 × (Nat → Int32) × (Nat → Int32))) (hk_43 : ∀ (x1 : Int32) (x2 : Int32) (x3 : Int32) (x4 : Int32) (x5 : Int32) (f_p0_end : Nat → Int32) (f_p0_image : Nat → Int32) (H : Heap) (locs : List Loc) (ls : Array Slot), kb_43 x1 x2 x3 x4 x5 f_p0_end f_p0_image = some res → va_P D classes (ws_Br_shiftCrossings cI cJ cB q_p0 q_p0_letter q_p0_image q_p0_end i_p0_strands i_p0_letters i_p0_turns i_p0_factors i_p0_formIsKnown f_p0_end f_p0_image) H → va_D A (ws_Br_shiftCrossings cI cJ cB q_p0 q_p0_letter q_p0_image q_p0_end i_p0_strands i_p0_letters i_p0_turns i_p0_factors i_p0_formIsKnown f_p0_end f_p0_image) → va_S A s.heap H locs → lv_has ls 7 [(0, .ref q_p0), (1, .int x1), (2, .int x2), (3, .int x3), (4, .int x4), (5, .int x5)] → W p l e rm_Br_shiftCrossings s m args below meth c H locs 0 0 (MQ below (va_Qi (fun (r : Int32) (w : va_W) => r = res.1 ∧ w = (ws_Br_shiftCrossings cI cJ cB q_p0 q_p0_letter q_p0_image q_p0_end i_p0_strands i_p0_letters i_p0_turns i_p0_factors i_p0_formIsKnown res.2.1 res.2.2)) (vz_B D A) A) args s 0 0 A) (F0 m 43 ls [])) : ∀ (nn : Nat), ∀ (x1 : Int32) (x2 : Int32) (x3 : Int32) (x4 : Int32) (x5 : Int32) (x6 : Int32) (f_p0_end : Nat → Int32) (f_p0_image : Nat → Int32) (H : Heap) (locs : List Loc) (ls : Array Slot), B_Br_shiftCrossings_61 fl i_p0_strands kb_43 nn x1 x2 x3 x4 x5 x6 f_p0_end f_p0_image = some res → va_P D classes (ws_Br_shiftCrossings cI cJ cB q_p0 q_p0_letter q_p0_image q_p0_end i_p0_strands i_p0_letters i_p0_turns i_p0_factors i_p0_formIsKnown f_p0_end f_p0_image) H → va_D A (ws_Br_shiftCrossings cI cJ cB q_p0 q_p0_letter q_p0_image q_p0_end i_p0_strands i_p0_letters i_p0_turns i_p0_factors i_p0_formIsKnown f_p0_end f_p0_image) → va_S A s.heap H locs → lv_has ls 7 [(0, .ref q_p0), (1, .int x1), (2, .int x2), (3, .int x3), (4, .int x4), (5, .int x5), (6, .int x6)] → W p l e rm_Br_shiftCrossings s m args below meth c H locs 0 0 (MQ below (va_Qi (fun (r : Int32) (w : va_W) => r = res.1 ∧ w = (ws_Br_shiftCrossings cI cJ cB q_p0 q_p0_letter q_p0_image q_p0_end i_p0_strands i_p0_letters i_p0_turns i_p0_factors i_p0_formIsKnown res.2.1 res.2.2)) (vz_B D A) A) args s 0 0 A) (F0 m 61 ls []) := by
  obtain ⟨hx, hb, hr, hml, hown, ht, hlocks, hin, hN, hK, hA, hZ⟩ := id C0
  intro nn
  induction nn with
  | zero =>
    intro x1 x2 x3 x4 x5 x6 f_p0_end f_p0_image H locs ls hm hP hD hS hl
    rw [B_Br_shiftCrossings_61] at hm
    cases hm
  | succ nn ih =>
    intro x1 x2 x3 x4 x5 x6 f_p0_end f_p0_image H locs ls hm hP hD hS hl
    rw [B_Br_shiftCrossings_61] at hm
    refine lv_iload hx hb d_Br_shiftCrossings_61 (lv_at hl 6 rfl) ?_
    refine lv_iconst (v := 1) hx hb d_Br_shiftCrossings_63 (by decide) ?_
    refine lv_iadd hx hb d_Br_shiftCrossings_64 ?_
    refine lv_aload_n hx hb d_Br_shiftCrossings_65 rfl (lv_at hl 0 rfl) ?_
    refine va_get (D := D) (ci := 7) (v := .int i_p0_strands) (C := R_Br) (T := F_Br) (N := 8) hx hb ht i_Br hown hK hP 0 rfl rfl 3 (Nat.le_of_ble_eq_true rfl) (ht _ m_48) (fun _ h9 => h9) rfl d_Br_shiftCrossings_66 ?_
    refine lv_icmp_ge (tgt := 133) hx hb d_Br_shiftCrossings_69 (by decide) (fun hc => ?_) (fun hc => ?_)
    · rw [if_pos hc] at hm
      refine lv_iinc (v := (x5 + 1)) (lv' := [(5, .int (x5 + 1)), (0, .ref q_p0), (1, .int x1), (2, .int x2), (3, .int x3), (4, .int x4), (6, .int x6)]) hx hb d_Br_shiftCrossings_133 hl (k := 5) rfl rfl (by decide) rfl (fun ls hl => ?_)
      refine lv_goto (tgt := 43) hx hb d_Br_shiftCrossings_136 (by decide) ?_
      exact hk_43 x1 x2 x3 x4 (x5 + 1) f_p0_end f_p0_image _ _ _ hm hP hD hS (lv_sub hl [1, 2, 3, 4, 5, 0] rfl)
    · rw [if_neg hc] at hm
      refine lv_aload_n hx hb d_Br_shiftCrossings_72 rfl (lv_at hl 0 rfl) ?_
      refine va_get (D := D) (ci := 7) (v := .ref q_p0_image) (C := R_Br) (T := F_Br) (N := 8) hx hb ht i_Br hown hK hP 0 rfl rfl 1 (Nat.le_of_ble_eq_true rfl) (ht _ m_46) (fun _ h9 => h9) rfl d_Br_shiftCrossings_73 ?_
      refine lv_iload_n hx hb d_Br_shiftCrossings_76 rfl (lv_at hl 2 rfl) ?_
      refine lv_iload hx hb d_Br_shiftCrossings_77 (lv_at hl 6 rfl) ?_
      refine lv_iadd hx hb d_Br_shiftCrossings_79 ?_
      obtain ⟨hg, hm⟩ := vz_guard hm
      refine va_iald hx hb hK hP 2 0 rfl rfl hg d_Br_shiftCrossings_80 ?_
      refine lv_aload_n hx hb d_Br_shiftCrossings_81 rfl (lv_at hl 0 rfl) ?_
      refine va_get (D := D) (ci := 7) (v := .ref q_p0_image) (C := R_Br) (T := F_Br) (N := 8) hx hb ht i_Br hown hK hP 0 rfl rfl 1 (Nat.le_of_ble_eq_true rfl) (ht _ m_46) (fun _ h9 => h9) rfl d_Br_shiftCrossings_82 ?_
      refine lv_iload_n hx hb d_Br_shiftCrossings_85 rfl (lv_at hl 2 rfl) ?_
      refine lv_iload hx hb d_Br_shiftCrossings_86 (lv_at hl 6 rfl) ?_
      refine lv_iadd hx hb d_Br_shiftCrossings_88 ?_
      refine lv_iconst (v := 1) hx hb d_Br_shiftCrossings_89 (by decide) ?_
      refine lv_iadd hx hb d_Br_shiftCrossings_90 ?_
      obtain ⟨hg, hm⟩ := vz_guard hm
      refine va_iald hx hb hK hP 2 0 rfl rfl hg d_Br_shiftCrossings_91 ?_
      refine lv_icmp_le (tgt := 127) hx hb d_Br_shiftCrossings_92 (by decide) (fun hc => ?_) (fun hc => ?_)
      · rw [if_pos hc] at hm
        exact w_Br_shiftCrossings_127 fl q_p0 q_p0_letter q_p0_image q_p0_end i_p0_strands i_p0_letters i_p0_turns i_p0_factors i_p0_formIsKnown res C0 kb_43 hk_43 (B_Br_shiftCrossings_61 fl i_p0_strands kb_43 nn) ih x1 x2 x3 x4 x5 x6 f_p0_end f_p0_image _ _ _ hm hP hD hS (lv_sub hl [0, 1, 2, 3, 4, 5, 6] rfl)
      · rw [if_neg hc] at hm
        refine lv_aload_n hx hb d_Br_shiftCrossings_95 rfl (lv_at hl 0 rfl) ?_
        refine va_get (D := D) (ci := 7) (v := .ref q_p0_end) (C := R_Br) (T := F_Br) (N := 8) hx hb ht i_Br hown hK hP 0 rfl rfl 2 (Nat.le_of_ble_eq_true rfl) (ht _ m_47) (fun _ h9 => h9) rfl d_Br_shiftCrossings_96 ?_
        refine lv_iload hx hb d_Br_shiftCrossings_99 (lv_at hl 6 rfl) ?_
        obtain ⟨hg, hm⟩ := vz_guard hm
        refine va_iald hx hb hK hP 1 0 rfl rfl hg d_Br_shiftCrossings_101 ?_
        refine lv_aload_n hx hb d_Br_shiftCrossings_102 rfl (lv_at hl 0 rfl) ?_
        refine va_get (D := D) (ci := 7) (v := .ref q_p0_end) (C := R_Br) (T := F_Br) (N := 8) hx hb ht i_Br hown hK hP 0 rfl rfl 2 (Nat.le_of_ble_eq_true rfl) (ht _ m_47) (fun _ h9 => h9) rfl d_Br_shiftCrossings_103 ?_
        refine lv_iload hx hb d_Br_shiftCrossings_106 (lv_at hl 6 rfl) ?_
        refine lv_iconst (v := 1) hx hb d_Br_shiftCrossings_108 (by decide) ?_
        refine lv_iadd hx hb d_Br_shiftCrossings_109 ?_
        obtain ⟨hg, hm⟩ := vz_guard hm
        refine va_iald hx hb hK hP 1 0 rfl rfl hg d_Br_shiftCrossings_110 ?_
        refine lv_icmp_ge (tgt := 127) hx hb d_Br_shiftCrossings_111 (by decide) (fun hc => ?_) (fun hc => ?_)
        · rw [if_pos hc] at hm
          exact w_Br_shiftCrossings_127 fl q_p0 q_p0_letter q_p0_image q_p0_end i_p0_strands i_p0_letters i_p0_turns i_p0_factors i_p0_formIsKnown res C0 kb_43 hk_43 (B_Br_shiftCrossings_61 fl i_p0_strands kb_43 nn) ih x1 x2 x3 x4 x5 x6 f_p0_end f_p0_image _ _ _ hm hP hD hS (lv_sub hl [0, 1, 2, 3, 4, 5, 6] rfl)
        · rw [if_neg hc] at hm
          refine lv_aload_n hx hb d_Br_shiftCrossings_114 rfl (lv_at hl 0 rfl) ?_
          refine lv_iload_n hx hb d_Br_shiftCrossings_115 rfl (lv_at hl 1 rfl) ?_
          refine lv_iload_n hx hb d_Br_shiftCrossings_116 rfl (lv_at hl 2 rfl) ?_
          refine lv_iload hx hb d_Br_shiftCrossings_117 (lv_at hl 6 rfl) ?_
          obtain ⟨o0, ho0, hm⟩ := vz_bind hm
          try dsimp only at hm
          refine vz_callVv (n := 3) (As := [.int x1, .int x2, .int x6]) (rest := []) (wc := (ws_Br_moveSwap cI cJ cB q_p0 q_p0_letter q_p0_image q_p0_end i_p0_strands i_p0_letters i_p0_turns i_p0_factors i_p0_formIsKnown f_p0_end f_p0_image)) (wr := []) (k1 := 0) (n1 := 0) hx hb hml hown ht hN hZ hK hP hD hS hA (k_Br_moveSwap l D cI cJ cB sa fl q_p0 q_p0_letter q_p0_image q_p0_end i_p0_strands i_p0_letters i_p0_turns i_p0_factors i_p0_formIsKnown f_p0_end f_p0_image x1 x2 x6 o0 ho0) m_673 m_107 m_670 m_671 m_672 (hc := (rfl : classes[7]? = some (R_Br, F_Br, 8))) 0 rfl (by decide +kernel) ⟨Nat.le_of_ble_eq_true rfl, Nat.le_of_ble_eq_true rfl⟩ [0, 1, 2] [] rfl rfl (by decide) (by decide) (by decide) rfl hl.1 rfl (Nat.le_of_ble_eq_true rfl) rfl rfl ⟨Nat.zero_le _, Nat.zero_le _⟩ d_Br_shiftCrossings_119 (fun w1 H locs hw hP hD hS => ?_)
          subst hw
          have hP : va_P D classes (ws_Br_shiftCrossings cI cJ cB q_p0 q_p0_letter q_p0_image q_p0_end i_p0_strands i_p0_letters i_p0_turns i_p0_factors i_p0_formIsKnown o0.1 o0.2) H := hP.sub [0, 1, 2] rfl
          have hD : va_D A (ws_Br_shiftCrossings cI cJ cB q_p0 q_p0_letter q_p0_image q_p0_end i_p0_strands i_p0_letters i_p0_turns i_p0_factors i_p0_formIsKnown o0.1 o0.2) := hD.sub [0, 1, 2] (by decide) rfl
          refine lv_iconst (v := 1) hx hb d_Br_shiftCrossings_122 (by decide) ?_
          refine lv_istore (lv' := [(4, .int 1), (0, .ref q_p0), (1, .int x1), (2, .int x2), (3, .int x3), (5, .int x5), (6, .int x6)]) hx hb d_Br_shiftCrossings_123 hl (by decide) rfl (fun ls hl => ?_)
          refine lv_iconst (v := 1) hx hb d_Br_shiftCrossings_125 (by decide) ?_
          refine lv_istore_n (lv' := [(3, .int 1), (4, .int 1), (0, .ref q_p0), (1, .int x1), (2, .int x2), (5, .int x5), (6, .int x6)]) hx hb d_Br_shiftCrossings_126 rfl hl (by decide) rfl (fun ls hl => ?_)
          exact w_Br_shiftCrossings_127 fl q_p0 q_p0_letter q_p0_image q_p0_end i_p0_strands i_p0_letters i_p0_turns i_p0_factors i_p0_formIsKnown res C0 kb_43 hk_43 (B_Br_shiftCrossings_61 fl i_p0_strands kb_43 nn) ih x1 x2 1 1 x5 x6 o0.1 o0.2 _ _ _ hm hP hD hS (lv_sub hl [2, 3, 4, 0, 1, 5, 6] rfl)
set_option maxHeartbeats 4000000 in
set_option maxRecDepth 100000 in
theorem w_Br_shiftCrossings_43 {p : Program} {l : Launch} {e : Env} {s : State} {m : MethodId} {args : Array Value} {below : List Frame} {meth : Method} {c : Code} {D : va_G} {cI cJ cB : ClassId} {sa : Nat → Nat × Nat} {A : Nat → Prop} (fl : Nat) (q_p0 : Nat) (q_p0_letter : Nat) (q_p0_image : Nat) (q_p0_end : Nat) (i_p0_strands : Int32) (i_p0_letters : Int32) (i_p0_turns : Int32) (i_p0_factors : Int32) (i_p0_formIsKnown : Int32) (res : Int32 × (Nat → Int32) × (Nat → Int32)) (C0 : vz_Cx p s m meth c b_Br_shiftCrossings 7 (some .boolean) "LinkEngine$Braid" "shiftCrossings" D [(cI, .int), (cJ, .long), (cB, .byte)] sa A args) : ∀ (nn : Nat), ∀ (x1 : Int32) (x2 : Int32) (x3 : Int32) (x4 : Int32) (x5 : Int32) (f_p0_end : Nat → Int32) (f_p0_image : Nat → Int32) (H : Heap) (locs : List Loc) (ls : Array Slot), B_Br_shiftCrossings_43 fl i_p0_strands nn x1 x2 x3 x4 x5 f_p0_end f_p0_image = some res → va_P D classes (ws_Br_shiftCrossings cI cJ cB q_p0 q_p0_letter q_p0_image q_p0_end i_p0_strands i_p0_letters i_p0_turns i_p0_factors i_p0_formIsKnown f_p0_end f_p0_image) H → va_D A (ws_Br_shiftCrossings cI cJ cB q_p0 q_p0_letter q_p0_image q_p0_end i_p0_strands i_p0_letters i_p0_turns i_p0_factors i_p0_formIsKnown f_p0_end f_p0_image) → va_S A s.heap H locs → lv_has ls 7 [(0, .ref q_p0), (1, .int x1), (2, .int x2), (3, .int x3), (4, .int x4), (5, .int x5)] → W p l e rm_Br_shiftCrossings s m args below meth c H locs 0 0 (MQ below (va_Qi (fun (r : Int32) (w : va_W) => r = res.1 ∧ w = (ws_Br_shiftCrossings cI cJ cB q_p0 q_p0_letter q_p0_image q_p0_end i_p0_strands i_p0_letters i_p0_turns i_p0_factors i_p0_formIsKnown res.2.1 res.2.2)) (vz_B D A) A) args s 0 0 A) (F0 m 43 ls []) := by
  obtain ⟨hx, hb, hr, hml, hown, ht, hlocks, hin, hN, hK, hA, hZ⟩ := id C0
  intro nn
  induction nn with
  | zero =>
    intro x1 x2 x3 x4 x5 f_p0_end f_p0_image H locs ls hm hP hD hS hl
    rw [B_Br_shiftCrossings_43] at hm
    cases hm
  | succ nn ih =>
    intro x1 x2 x3 x4 x5 f_p0_end f_p0_image H locs ls hm hP hD hS hl
    rw [B_Br_shiftCrossings_43] at hm
    refine lv_iload hx hb d_Br_shiftCrossings_43 (lv_at hl 5 rfl) ?_
    refine lv_bipush (v := 64) hx hb d_Br_shiftCrossings_45 (by decide +kernel) ?_
    refine lv_icmp_ge (tgt := 139) hx hb d_Br_shiftCrossings_47 (by decide) (fun hc => ?_) (fun hc => ?_)
    · rw [if_pos hc] at hm
      refine lv_iload_n hx hb d_Br_shiftCrossings_139 rfl (lv_at hl 3 rfl) ?_
      obtain ⟨hg, hm⟩ := vz_guard hm
      obtain rfl := Option.some.inj hm
      exact vz_iret hx hb hr (vz_nb hg) hlocks hP hD hS (Nat.le_refl _) (Nat.le_refl _) d_Br_shiftCrossings_140 ⟨rfl, rfl⟩
    · rw [if_neg hc] at hm
      refine lv_iload hx hb d_Br_shiftCrossings_50 (lv_at hl 4 rfl) ?_
      refine lv_if_eq (tgt := 139) hx hb d_Br_shiftCrossings_52 (by decide) (fun hc => ?_) (fun hc => ?_)
      · rw [if_pos hc] at hm
        refine lv_iload_n hx hb d_Br_shiftCrossings_139 rfl (lv_at hl 3 rfl) ?_
        obtain ⟨hg, hm⟩ := vz_guard hm
        obtain rfl := Option.some.inj hm
        exact vz_iret hx hb hr (vz_nb hg) hlocks hP hD hS (Nat.le_refl _) (Nat.le_refl _) d_Br_shiftCrossings_140 ⟨rfl, rfl⟩
      · rw [if_neg hc] at hm
        refine lv_iconst (v := 0) hx hb d_Br_shiftCrossings_55 (by decide) ?_
        refine lv_istore (lv' := [(4, .int 0), (0, .ref q_p0), (1, .int x1), (2, .int x2), (3, .int x3), (5, .int x5)]) hx hb d_Br_shiftCrossings_56 hl (by decide) rfl (fun ls hl => ?_)
        refine lv_iconst (v := 0) hx hb d_Br_shiftCrossings_58 (by decide) ?_
        refine lv_istore (lv' := [(6, .int 0), (4, .int 0), (0, .ref q_p0), (1, .int x1), (2, .int x2), (3, .int x3), (5, .int x5)]) hx hb d_Br_shiftCrossings_59 hl (by decide) rfl (fun ls hl => ?_)
        exact w_Br_shiftCrossings_61 fl q_p0 q_p0_letter q_p0_image q_p0_end i_p0_strands i_p0_letters i_p0_turns i_p0_factors i_p0_formIsKnown res C0 (B_Br_shiftCrossings_43 fl i_p0_strands nn) ih fl x1 x2 x3 0 x5 0 f_p0_end f_p0_image _ _ _ hm hP hD hS (lv_sub hl [2, 3, 4, 5, 1, 6, 0] rfl)
set_option maxHeartbeats 4000000 in
set_option maxRecDepth 100000 in
theorem w_Br_shiftCrossings_7 {p : Program} {l : Launch} {e : Env} {s : State} {m : MethodId} {args : Array Value} {below : List Frame} {meth : Method} {c : Code} {D : va_G} {cI cJ cB : ClassId} {sa : Nat → Nat × Nat} {A : Nat → Prop} (fl : Nat) (q_p0 : Nat) (q_p0_letter : Nat) (q_p0_image : Nat) (q_p0_end : Nat) (i_p0_strands : Int32) (i_p0_letters : Int32) (i_p0_turns : Int32) (i_p0_factors : Int32) (i_p0_formIsKnown : Int32) (res : Int32 × (Nat → Int32) × (Nat → Int32)) (C0 : vz_Cx p s m meth c b_Br_shiftCrossings 7 (some .boolean) "LinkEngine$Braid" "shiftCrossings" D [(cI, .int), (cJ, .long), (cB, .byte)] sa A args) : ∀ (nn : Nat), ∀ (x1 : Int32) (x2 : Int32) (x3 : Int32) (f_p0_end : Nat → Int32) (f_p0_image : Nat → Int32) (H : Heap) (locs : List Loc) (ls : Array Slot), B_Br_shiftCrossings_7 fl i_p0_strands nn x1 x2 x3 f_p0_end f_p0_image = some res → va_P D classes (ws_Br_shiftCrossings cI cJ cB q_p0 q_p0_letter q_p0_image q_p0_end i_p0_strands i_p0_letters i_p0_turns i_p0_factors i_p0_formIsKnown f_p0_end f_p0_image) H → va_D A (ws_Br_shiftCrossings cI cJ cB q_p0 q_p0_letter q_p0_image q_p0_end i_p0_strands i_p0_letters i_p0_turns i_p0_factors i_p0_formIsKnown f_p0_end f_p0_image) → va_S A s.heap H locs → lv_has ls 7 [(0, .ref q_p0), (1, .int x1), (2, .int x2), (3, .int x3)] → W p l e rm_Br_shiftCrossings s m args below meth c H locs 0 0 (MQ below (va_Qi (fun (r : Int32) (w : va_W) => r = res.1 ∧ w = (ws_Br_shiftCrossings cI cJ cB q_p0 q_p0_letter q_p0_image q_p0_end i_p0_strands i_p0_letters i_p0_turns i_p0_factors i_p0_formIsKnown res.2.1 res.2.2)) (vz_B D A) A) args s 0 0 A) (F0 m 7 ls []) := by
  obtain ⟨hx, hb, hr, hml, hown, ht, hlocks, hin, hN, hK, hA, hZ⟩ := id C0
  intro nn
  induction nn with
  | zero =>
    intro x1 x2 x3 f_p0_end f_p0_image H locs ls hm hP hD hS hl
    rw [B_Br_shiftCrossings_7] at hm
    cases hm
  | succ nn ih =>
    intro x1 x2 x3 f_p0_end f_p0_image H locs ls hm hP hD hS hl
    rw [B_Br_shiftCrossings_7] at hm
    refine lv_iload_n hx hb d_Br_shiftCrossings_7 rfl (lv_at hl 3 rfl) ?_
    refine lv_aload_n hx hb d_Br_shiftCrossings_8 rfl (lv_at hl 0 rfl) ?_
    refine va_get (D := D) (ci := 7) (v := .int i_p0_strands) (C := R_Br) (T := F_Br) (N := 8) hx hb ht i_Br hown hK hP 0 rfl rfl 3 (Nat.le_of_ble_eq_true rfl) (ht _ m_48) (fun _ h9 => h9) rfl d_Br_shiftCrossings_9 ?_
    refine lv_icmp_ge (tgt := 35) hx hb d_Br_shiftCrossings_12 (by decide) (fun hc => ?_) (fun hc => ?_)
    · rw [if_pos hc] at hm
      refine lv_iconst (v := 0) hx hb d_Br_shiftCrossings_35 (by decide) ?_
      refine lv_istore_n (lv' := [(3, .int 0), (0, .ref q_p0), (1, .int x1), (2, .int x2)]) hx hb d_Br_shiftCrossings_36 rfl hl (by decide) rfl (fun ls hl => ?_)
      refine lv_iconst (v := 1) hx hb d_Br_shiftCrossings_37 (by decide) ?_
      refine lv_istore (lv' := [(4, .int 1), (3, .int 0), (0, .ref q_p0), (1, .int x1), (2, .int x2)]) hx hb d_Br_shiftCrossings_38 hl (by decide) rfl (fun ls hl => ?_)
      refine lv_iconst (v := 0) hx hb d_Br_shiftCrossings_40 (by decide) ?_
      refine lv_istore (lv' := [(5, .int 0), (4, .int 1), (3, .int 0), (0, .ref q_p0), (1, .int x1), (2, .int x2)]) hx hb d_Br_shiftCrossings_41 hl (by decide) rfl (fun ls hl => ?_)
      exact w_Br_shiftCrossings_43 fl q_p0 q_p0_letter q_p0_image q_p0_end i_p0_strands i_p0_letters i_p0_turns i_p0_factors i_p0_formIsKnown res C0 fl x1 x2 0 1 0 f_p0_end f_p0_image _ _ _ hm hP hD hS (lv_sub hl [3, 4, 5, 2, 1, 0] rfl)
    · rw [if_neg hc] at hm
      refine lv_aload_n hx hb d_Br_shiftCrossings_15 rfl (lv_at hl 0 rfl) ?_
      refine va_get (D := D) (ci := 7) (v := .ref q_p0_end) (C := R_Br) (T := F_Br) (N := 8) hx hb ht i_Br hown hK hP 0 rfl rfl 2 (Nat.le_of_ble_eq_true rfl) (ht _ m_47) (fun _ h9 => h9) rfl d_Br_shiftCrossings_16 ?_
      refine lv_aload_n hx hb d_Br_shiftCrossings_19 rfl (lv_at hl 0 rfl) ?_
      refine va_get (D := D) (ci := 7) (v := .ref q_p0_image) (C := R_Br) (T := F_Br) (N := 8) hx hb ht i_Br hown hK hP 0 rfl rfl 1 (Nat.le_of_ble_eq_true rfl) (ht _ m_46) (fun _ h9 => h9) rfl d_Br_shiftCrossings_20 ?_
      refine lv_iload_n hx hb d_Br_shiftCrossings_23 rfl (lv_at hl 1 rfl) ?_
      refine lv_iload_n hx hb d_Br_shiftCrossings_24 rfl (lv_at hl 3 rfl) ?_
      refine lv_iadd hx hb d_Br_shiftCrossings_25 ?_
      obtain ⟨hg, hm⟩ := vz_guard hm
      refine va_iald hx hb hK hP 2 0 rfl rfl hg d_Br_shiftCrossings_26 ?_
      refine lv_iload_n hx hb d_Br_shiftCrossings_27 rfl (lv_at hl 3 rfl) ?_
      obtain ⟨hg, hm⟩ := vz_guard hm
      refine va_iast hx hb hK hP hD hS 1 0 rfl rfl hg d_Br_shiftCrossings_28 (fun H locs hP hD hS => ?_)
      have hP : va_P D classes (ws_Br_shiftCrossings cI cJ cB q_p0 q_p0_letter q_p0_image q_p0_end i_p0_strands i_p0_letters i_p0_turns i_p0_factors i_p0_formIsKnown (upd f_p0_end (Int32.toNatClampNeg (f_p0_image (Int32.toNatClampNeg (x1 + x3)))) x3) f_p0_image) H := hP
      have hD : va_D A (ws_Br_shiftCrossings cI cJ cB q_p0 q_p0_letter q_p0_image q_p0_end i_p0_strands i_p0_letters i_p0_turns i_p0_factors i_p0_formIsKnown (upd f_p0_end (Int32.toNatClampNeg (f_p0_image (Int32.toNatClampNeg (x1 + x3)))) x3) f_p0_image) := hD
      refine lv_iinc (v := (x3 + 1)) (lv' := [(3, .int (x3 + 1)), (0, .ref q_p0), (1, .int x1), (2, .int x2)]) hx hb d_Br_shiftCrossings_29 hl (k := 3) rfl rfl (by decide) rfl (fun ls hl => ?_)
      refine lv_goto (tgt := 7) hx hb d_Br_shiftCrossings_32 (by decide) ?_
      exact ih x1 x2 (x3 + 1) (upd f_p0_end (Int32.toNatClampNeg (f_p0_image (Int32.toNatClampNeg (x1 + x3)))) x3) f_p0_image _ _ _ hm hP hD hS (lv_sub hl [1, 2, 3, 0] rfl)
set_option maxHeartbeats 4000000 in
set_option maxRecDepth 100000 in
theorem w_Br_shiftCrossings_0 {p : Program} {l : Launch} {e : Env} {s : State} {m : MethodId} {args : Array Value} {below : List Frame} {meth : Method} {c : Code} {D : va_G} {cI cJ cB : ClassId} {sa : Nat → Nat × Nat} {A : Nat → Prop} (fl : Nat) (q_p0 : Nat) (q_p0_letter : Nat) (q_p0_image : Nat) (q_p0_end : Nat) (i_p0_strands : Int32) (i_p0_letters : Int32) (i_p0_turns : Int32) (i_p0_factors : Int32) (i_p0_formIsKnown : Int32) (res : Int32 × (Nat → Int32) × (Nat → Int32)) (C0 : vz_Cx p s m meth c b_Br_shiftCrossings 7 (some .boolean) "LinkEngine$Braid" "shiftCrossings" D [(cI, .int), (cJ, .long), (cB, .byte)] sa A args) : ∀ (x1 : Int32) (f_p0_end : Nat → Int32) (f_p0_image : Nat → Int32) (H : Heap) (locs : List Loc) (ls : Array Slot), B_Br_shiftCrossings_0 fl i_p0_strands x1 f_p0_end f_p0_image = some res → va_P D classes (ws_Br_shiftCrossings cI cJ cB q_p0 q_p0_letter q_p0_image q_p0_end i_p0_strands i_p0_letters i_p0_turns i_p0_factors i_p0_formIsKnown f_p0_end f_p0_image) H → va_D A (ws_Br_shiftCrossings cI cJ cB q_p0 q_p0_letter q_p0_image q_p0_end i_p0_strands i_p0_letters i_p0_turns i_p0_factors i_p0_formIsKnown f_p0_end f_p0_image) → va_S A s.heap H locs → lv_has ls 7 [(0, .ref q_p0), (1, .int x1)] → W p l e rm_Br_shiftCrossings s m args below meth c H locs 0 0 (MQ below (va_Qi (fun (r : Int32) (w : va_W) => r = res.1 ∧ w = (ws_Br_shiftCrossings cI cJ cB q_p0 q_p0_letter q_p0_image q_p0_end i_p0_strands i_p0_letters i_p0_turns i_p0_factors i_p0_formIsKnown res.2.1 res.2.2)) (vz_B D A) A) args s 0 0 A) (F0 m 0 ls []) := by
  obtain ⟨hx, hb, hr, hml, hown, ht, hlocks, hin, hN, hK, hA, hZ⟩ := id C0
  intro x1 f_p0_end f_p0_image H locs ls hm hP hD hS hl
  unfold B_Br_shiftCrossings_0 at hm
  refine lv_iload_n hx hb d_Br_shiftCrossings_0 rfl (lv_at hl 1 rfl) ?_
  refine lv_bipush (v := 8) hx hb d_Br_shiftCrossings_1 (by decide +kernel) ?_
  refine lv_iadd hx hb d_Br_shiftCrossings_3 ?_
  refine lv_istore_n (lv' := [(2, .int (x1 + (8 : Int32))), (0, .ref q_p0), (1, .int x1)]) hx hb d_Br_shiftCrossings_4 rfl hl (by decide) rfl (fun ls hl => ?_)
  refine lv_iconst (v := 0) hx hb d_Br_shiftCrossings_5 (by decide) ?_
  refine lv_istore_n (lv' := [(3, .int 0), (2, .int (x1 + (8 : Int32))), (0, .ref q_p0), (1, .int x1)]) hx hb d_Br_shiftCrossings_6 rfl hl (by decide) rfl (fun ls hl => ?_)
  exact w_Br_shiftCrossings_7 fl q_p0 q_p0_letter q_p0_image q_p0_end i_p0_strands i_p0_letters i_p0_turns i_p0_factors i_p0_formIsKnown res C0 fl x1 (x1 + (8 : Int32)) 0 f_p0_end f_p0_image _ _ _ hm hP hD hS (lv_sub hl [2, 3, 1, 0] rfl)
set_option maxHeartbeats 4000000 in
set_option maxRecDepth 100000 in
theorem k_Br_shiftCrossings (l : Launch) (D : va_G) (cI cJ cB : ClassId) (sa : Nat → Nat × Nat) (fl : Nat) (q_p0 : Nat) (q_p0_letter : Nat) (q_p0_image : Nat) (q_p0_end : Nat) (i_p0_strands : Int32) (i_p0_letters : Int32) (i_p0_turns : Int32) (i_p0_factors : Int32) (i_p0_formIsKnown : Int32) (f_p0_end : Nat → Int32) (f_p0_image : Nat → Int32) (x1 : Int32) (res : Int32 × (Nat → Int32) × (Nat → Int32)) (hm : m_Br_shiftCrossings fl i_p0_strands x1 f_p0_end f_p0_image = some res) : MtI l y_Br_shiftCrossings (.code y_Br_shiftCrossings b_Br_shiftCrossings 7 (some .boolean) :: CW) rm_Br_shiftCrossings D [(cI, .int), (cJ, .long), (cB, .byte)] sa [.ref q_p0, .int x1] (ws_Br_shiftCrossings cI cJ cB q_p0 q_p0_letter q_p0_image q_p0_end i_p0_strands i_p0_letters i_p0_turns i_p0_factors i_p0_formIsKnown f_p0_end f_p0_image) (fun (r : Int32) (w : va_W) => r = res.1 ∧ w = (ws_Br_shiftCrossings cI cJ cB q_p0 q_p0_letter q_p0_image q_p0_end i_p0_strands i_p0_letters i_p0_turns i_p0_factors i_p0_formIsKnown res.2.1 res.2.2)) := by
  intro sz
  refine vz_start (Qc := fun A => va_Qi (fun (r : Int32) (w : va_W) => r = res.1 ∧ w = (ws_Br_shiftCrossings cI cJ cB q_p0 q_p0_letter q_p0_image q_p0_end i_p0_strands i_p0_letters i_p0_turns i_p0_factors i_p0_formIsKnown res.2.1 res.2.2)) (vz_B D A) A) (lv0 := [(0, .ref q_p0), (1, .int x1)]) (by decide +kernel) (Nat.le_of_ble_eq_true rfl) rfl ?_
  intro p e s m below meth c A ls C0 hl
  obtain ⟨hx, hb, hr, hml, hown, ht, hlocks, hin, hN, hK, hP, hD, hA, hS, hZ⟩ := C0
  exact w_Br_shiftCrossings_0 fl q_p0 q_p0_letter q_p0_image q_p0_end i_p0_strands i_p0_letters i_p0_turns i_p0_factors i_p0_formIsKnown res ⟨hx, hb, hr, hml, hown, ht, hlocks, hin, hN, hK, hA, hZ⟩ x1 f_p0_end f_p0_image s.heap [] ls hm hP hD hS (lv_sub hl [0, 1] rfl)
