def ws_Md_fault (cI cJ cB : ClassId) (q_p0 : Nat) (q_p0_tape : Nat) (q_p0_out : Nat) (q_p0_text : Nat) (q_p0_kinds : Nat) (q_p0_begins : Nat) (q_p0_numbers : Nat) (q_p0_d : Nat) (q_p0_old : Nat) (q_p0_before : Nat) (q_p0_latest : Nat) (q_p0_earlier : Nat) (q_p0_keptLatest : Nat) (q_p0_keptEarlier : Nat) (q_p0_made : Nat) (q_p0_labelOf : Nat) (q_p0_begin : Nat) (q_p0_finish : Nat) (q_p0_follow : Nat) (q_p0_compOf : Nat) (q_p0_placed : Nat) (q_p0_faceOf : Nat) (q_p0_firstDart : Nat) (q_p0_pieceOf : Nat) (q_p0_top : Nat) (q_p0_poly : Nat) (q_p0_other : Nat) (q_p0_root : Nat) (q_p0_ways : Nat) (q_p0_arcOf : Nat) (q_p0_low : Nat) (q_p0_high : Nat) (q_p0_minor : Nat) (q_p0_gcd : Nat) (q_p0_one : Nat) (i_p0_taped : Int32) (i_p0_outSize : Int32) (i_p0_size : Int32) (i_p0_at : Int32) (i_p0_token : Int32) (i_p0_from : Int32) (i_p0_wasRead : Int32) (i_p0_fault : Int32) (i_p0_place : Int32) (i_p0_lines : Int32) (i_p0_next : Int32) (i_p0_putAt : Int32) (i_p0_done : Int32) (i_p0_hard : Int32) (i_p0_madeSize : Int32) (i_p0_edges : Int32) (i_p0_comps : Int32) (i_p0_faces : Int32) (i_p0_pieces : Int32) (i_p0_arcs : Int32) : va_W := [(q_p0, .inr (11, [.ref q_p0_tape, .int i_p0_taped, .ref q_p0_out, .int i_p0_outSize, .ref q_p0_text, .int i_p0_size, .int i_p0_at, .int i_p0_token, .int i_p0_from, .int i_p0_wasRead, .int i_p0_fault, .int i_p0_place, .ref q_p0_kinds, .ref q_p0_begins, .ref q_p0_numbers, .int i_p0_lines, .int i_p0_next, .int i_p0_putAt, .ref q_p0_d, .ref q_p0_old, .ref q_p0_before, .ref q_p0_latest, .ref q_p0_earlier, .ref q_p0_keptLatest, .ref q_p0_keptEarlier, .int i_p0_done, .int i_p0_hard, .ref q_p0_made, .int i_p0_madeSize, .int i_p0_edges, .ref q_p0_labelOf, .ref q_p0_begin, .ref q_p0_finish, .ref q_p0_follow, .ref q_p0_compOf, .ref q_p0_placed, .int i_p0_comps, .int i_p0_faces, .ref q_p0_faceOf, .ref q_p0_firstDart, .ref q_p0_pieceOf, .int i_p0_pieces, .ref q_p0_top, .ref q_p0_poly, .ref q_p0_other, .ref q_p0_root, .ref q_p0_ways, .int i_p0_arcs, .ref q_p0_arcOf, .ref q_p0_low, .ref q_p0_high, .ref q_p0_minor, .ref q_p0_gcd, .ref q_p0_one]))]
def rm_Md_fault : Room := { frames := 0, cells := 0, slots := 0, locals := 0 }
def B_Md_fault_0 (fl : Nat) (i_p0_wasRead : Int32) (i_p0_fault : Int32) (i_p0_place : Int32) (x1 : Int32) : Option (Int32) := (if ¬ i_p0_wasRead = (0 : Int32) then (if ¬ x1 = (0 : Int32) then (if ¬ x1 = (1 : Int32) then (some (-1)) else (some i_p0_place)) else (some i_p0_fault)) else (some (-1)))
def m_Md_fault (fl : Nat) (i_p0_wasRead : Int32) (i_p0_fault : Int32) (i_p0_place : Int32) (x1 : Int32) : Option (Int32) := B_Md_fault_0 fl i_p0_wasRead i_p0_fault i_p0_place x1
set_option maxHeartbeats 4000000 in
set_option maxRecDepth 100000 in
theorem w_Md_fault_0 {p : Program} {l : Launch} {e : Env} {s : State} {m : MethodId} {args : Array Value} {below : List Frame} {meth : Method} {c : Code} {D : va_G} {cI cJ cB : ClassId} {sa : Nat → Nat × Nat} {A : Nat → Prop} (fl : Nat) (q_p0 : Nat) (q_p0_tape : Nat) (q_p0_out : Nat) (q_p0_text : Nat) (q_p0_kinds : Nat) (q_p0_begins : Nat) (q_p0_numbers : Nat) (q_p0_d : Nat) (q_p0_old : Nat) (q_p0_before : Nat) (q_p0_latest : Nat) (q_p0_earlier : Nat) (q_p0_keptLatest : Nat) (q_p0_keptEarlier : Nat) (q_p0_made : Nat) (q_p0_labelOf : Nat) (q_p0_begin : Nat) (q_p0_finish : Nat) (q_p0_follow : Nat) (q_p0_compOf : Nat) (q_p0_placed : Nat) (q_p0_faceOf : Nat) (q_p0_firstDart : Nat) (q_p0_pieceOf : Nat) (q_p0_top : Nat) (q_p0_poly : Nat) (q_p0_other : Nat) (q_p0_root : Nat) (q_p0_ways : Nat) (q_p0_arcOf : Nat) (q_p0_low : Nat) (q_p0_high : Nat) (q_p0_minor : Nat) (q_p0_gcd : Nat) (q_p0_one : Nat) (i_p0_wasRead : Int32) (i_p0_fault : Int32) (i_p0_place : Int32) (i_p0_taped : Int32) (i_p0_outSize : Int32) (i_p0_size : Int32) (i_p0_at : Int32) (i_p0_token : Int32) (i_p0_from : Int32) (i_p0_lines : Int32) (i_p0_next : Int32) (i_p0_putAt : Int32) (i_p0_done : Int32) (i_p0_hard : Int32) (i_p0_madeSize : Int32) (i_p0_edges : Int32) (i_p0_comps : Int32) (i_p0_faces : Int32) (i_p0_pieces : Int32) (i_p0_arcs : Int32) (res : Int32) (C0 : vz_Cx p s m meth c b_Md_fault 2 (some .int) "LinkEngineModel" "fault" D [(cI, .int), (cJ, .long), (cB, .byte)] sa A args) : ∀ (x1 : Int32) (H : Heap) (locs : List Loc) (ls : Array Slot), B_Md_fault_0 fl i_p0_wasRead i_p0_fault i_p0_place x1 = some res → va_P D classes (ws_Md_fault cI cJ cB q_p0 q_p0_tape q_p0_out q_p0_text q_p0_kinds q_p0_begins q_p0_numbers q_p0_d q_p0_old q_p0_before q_p0_latest q_p0_earlier q_p0_keptLatest q_p0_keptEarlier q_p0_made q_p0_labelOf q_p0_begin q_p0_finish q_p0_follow q_p0_compOf q_p0_placed q_p0_faceOf q_p0_firstDart q_p0_pieceOf q_p0_top q_p0_poly q_p0_other q_p0_root q_p0_ways q_p0_arcOf q_p0_low q_p0_high q_p0_minor q_p0_gcd q_p0_one i_p0_taped i_p0_outSize i_p0_size i_p0_at i_p0_token i_p0_from i_p0_wasRead i_p0_fault i_p0_place i_p0_lines i_p0_next i_p0_putAt i_p0_done i_p0_hard i_p0_madeSize i_p0_edges i_p0_comps i_p0_faces i_p0_pieces i_p0_arcs) H → va_D A (ws_Md_fault cI cJ cB q_p0 q_p0_tape q_p0_out q_p0_text q_p0_kinds q_p0_begins q_p0_numbers q_p0_d q_p0_old q_p0_before q_p0_latest q_p0_earlier q_p0_keptLatest q_p0_keptEarlier q_p0_made q_p0_labelOf q_p0_begin q_p0_finish q_p0_follow q_p0_compOf q_p0_placed q_p0_faceOf q_p0_firstDart q_p0_pieceOf q_p0_top q_p0_poly q_p0_other q_p0_root q_p0_ways q_p0_arcOf q_p0_low q_p0_high q_p0_minor q_p0_gcd q_p0_one i_p0_taped i_p0_outSize i_p0_size i_p0_at i_p0_token i_p0_from i_p0_wasRead i_p0_fault i_p0_place i_p0_lines i_p0_next i_p0_putAt i_p0_done i_p0_hard i_p0_madeSize i_p0_edges i_p0_comps i_p0_faces i_p0_pieces i_p0_arcs) → va_S A s.heap H locs → lv_has ls 2 [(0, .ref q_p0), (1, .int x1)] → W p l e rm_Md_fault s m args below meth c H locs 0 0 (MQ below (va_Qi (fun (r : Int32) (w : va_W) => r = res ∧ w = (ws_Md_fault cI cJ cB q_p0 q_p0_tape q_p0_out q_p0_text q_p0_kinds q_p0_begins q_p0_numbers q_p0_d q_p0_old q_p0_before q_p0_latest q_p0_earlier q_p0_keptLatest q_p0_keptEarlier q_p0_made q_p0_labelOf q_p0_begin q_p0_finish q_p0_follow q_p0_compOf q_p0_placed q_p0_faceOf q_p0_firstDart q_p0_pieceOf q_p0_top q_p0_poly q_p0_other q_p0_root q_p0_ways q_p0_arcOf q_p0_low q_p0_high q_p0_minor q_p0_gcd q_p0_one i_p0_taped i_p0_outSize i_p0_size i_p0_at i_p0_token i_p0_from i_p0_wasRead i_p0_fault i_p0_place i_p0_lines i_p0_next i_p0_putAt i_p0_done i_p0_hard i_p0_madeSize i_p0_edges i_p0_comps i_p0_faces i_p0_pieces i_p0_arcs)) (vz_B D A) A) args s 0 0 A) (F0 m 0 ls []) := by
  obtain ⟨hx, hb, hr, hml, hown, ht, hlocks, hin, hN, hK, hA, hZ⟩ := id C0
  intro x1 H locs ls hm hP hD hS hl
  unfold B_Md_fault_0 at hm
  refine lv_aload_n hx hb d_Md_fault_0 rfl (lv_at hl 0 rfl) ?_
  refine va_get (D := D) (ci := 11) (v := .int i_p0_wasRead) (C := R_Md) (T := F_Md) (N := 54) hx hb ht i_Md hown hK hP 0 rfl rfl 9 (Nat.le_of_ble_eq_true rfl) (ht _ m_281) (fun _ h9 => h9) rfl d_Md_fault_1 ?_
  refine lv_if_ne (tgt := 11) hx hb d_Md_fault_4 (by decide) (fun hc => ?_) (fun hc => ?_)
  · rw [if_pos hc] at hm
    refine lv_iload_n hx hb d_Md_fault_11 rfl (lv_at hl 1 rfl) ?_
    refine lv_if_ne (tgt := 22) hx hb d_Md_fault_12 (by decide) (fun hc => ?_) (fun hc => ?_)
    · rw [if_pos hc] at hm
      refine lv_iload_n hx hb d_Md_fault_22 rfl (lv_at hl 1 rfl) ?_
      refine lv_iconst (v := 1) hx hb d_Md_fault_23 (by decide) ?_
      refine lv_icmp_ne (tgt := 34) hx hb d_Md_fault_24 (by decide) (fun hc => ?_) (fun hc => ?_)
      · rw [if_pos hc] at hm
        refine lv_iconst (v := (-1)) hx hb d_Md_fault_34 (by decide) ?_
        obtain rfl := Option.some.inj hm
        exact vz_iret hx hb hr rfl hlocks hP hD hS (Nat.le_refl _) (Nat.le_refl _) d_Md_fault_35 ⟨rfl, rfl⟩
      · rw [if_neg (fun q => q hc)] at hm
        refine lv_aload_n hx hb d_Md_fault_27 rfl (lv_at hl 0 rfl) ?_
        refine va_get (D := D) (ci := 11) (v := .int i_p0_place) (C := R_Md) (T := F_Md) (N := 54) hx hb ht i_Md hown hK hP 0 rfl rfl 11 (Nat.le_of_ble_eq_true rfl) (ht _ m_125) (fun _ h9 => h9) rfl d_Md_fault_28 ?_
        refine lv_goto (tgt := 35) hx hb d_Md_fault_31 (by decide) ?_
        obtain rfl := Option.some.inj hm
        exact vz_iret hx hb hr rfl hlocks hP hD hS (Nat.le_refl _) (Nat.le_refl _) d_Md_fault_35 ⟨rfl, rfl⟩
    · rw [if_neg (fun q => q hc)] at hm
      refine lv_aload_n hx hb d_Md_fault_15 rfl (lv_at hl 0 rfl) ?_
      refine va_get (D := D) (ci := 11) (v := .int i_p0_fault) (C := R_Md) (T := F_Md) (N := 54) hx hb ht i_Md hown hK hP 0 rfl rfl 10 (Nat.le_of_ble_eq_true rfl) (ht _ m_283) (fun _ h9 => h9) rfl d_Md_fault_16 ?_
      refine lv_goto (tgt := 35) hx hb d_Md_fault_19 (by decide) ?_
      obtain rfl := Option.some.inj hm
      exact vz_iret hx hb hr rfl hlocks hP hD hS (Nat.le_refl _) (Nat.le_refl _) d_Md_fault_35 ⟨rfl, rfl⟩
  · rw [if_neg (fun q => q hc)] at hm
    refine lv_iconst (v := (-1)) hx hb d_Md_fault_7 (by decide) ?_
    refine lv_goto (tgt := 35) hx hb d_Md_fault_8 (by decide) ?_
    obtain rfl := Option.some.inj hm
    exact vz_iret hx hb hr rfl hlocks hP hD hS (Nat.le_refl _) (Nat.le_refl _) d_Md_fault_35 ⟨rfl, rfl⟩
set_option maxHeartbeats 4000000 in
set_option maxRecDepth 100000 in
theorem k_Md_fault (l : Launch) (D : va_G) (cI cJ cB : ClassId) (sa : Nat → Nat × Nat) (fl : Nat) (q_p0 : Nat) (q_p0_tape : Nat) (q_p0_out : Nat) (q_p0_text : Nat) (q_p0_kinds : Nat) (q_p0_begins : Nat) (q_p0_numbers : Nat) (q_p0_d : Nat) (q_p0_old : Nat) (q_p0_before : Nat) (q_p0_latest : Nat) (q_p0_earlier : Nat) (q_p0_keptLatest : Nat) (q_p0_keptEarlier : Nat) (q_p0_made : Nat) (q_p0_labelOf : Nat) (q_p0_begin : Nat) (q_p0_finish : Nat) (q_p0_follow : Nat) (q_p0_compOf : Nat) (q_p0_placed : Nat) (q_p0_faceOf : Nat) (q_p0_firstDart : Nat) (q_p0_pieceOf : Nat) (q_p0_top : Nat) (q_p0_poly : Nat) (q_p0_other : Nat) (q_p0_root : Nat) (q_p0_ways : Nat) (q_p0_arcOf : Nat) (q_p0_low : Nat) (q_p0_high : Nat) (q_p0_minor : Nat) (q_p0_gcd : Nat) (q_p0_one : Nat) (i_p0_wasRead : Int32) (i_p0_fault : Int32) (i_p0_place : Int32) (i_p0_taped : Int32) (i_p0_outSize : Int32) (i_p0_size : Int32) (i_p0_at : Int32) (i_p0_token : Int32) (i_p0_from : Int32) (i_p0_lines : Int32) (i_p0_next : Int32) (i_p0_putAt : Int32) (i_p0_done : Int32) (i_p0_hard : Int32) (i_p0_madeSize : Int32) (i_p0_edges : Int32) (i_p0_comps : Int32) (i_p0_faces : Int32) (i_p0_pieces : Int32) (i_p0_arcs : Int32) (x1 : Int32) (res : Int32) (hm : m_Md_fault fl i_p0_wasRead i_p0_fault i_p0_place x1 = some res) : MtI l y_Md_fault (.code y_Md_fault b_Md_fault 2 (some .int) :: CW) rm_Md_fault D [(cI, .int), (cJ, .long), (cB, .byte)] sa [.ref q_p0, .int x1] (ws_Md_fault cI cJ cB q_p0 q_p0_tape q_p0_out q_p0_text q_p0_kinds q_p0_begins q_p0_numbers q_p0_d q_p0_old q_p0_before q_p0_latest q_p0_earlier q_p0_keptLatest q_p0_keptEarlier q_p0_made q_p0_labelOf q_p0_begin q_p0_finish q_p0_follow q_p0_compOf q_p0_placed q_p0_faceOf q_p0_firstDart q_p0_pieceOf q_p0_top q_p0_poly q_p0_other q_p0_root q_p0_ways q_p0_arcOf q_p0_low q_p0_high q_p0_minor q_p0_gcd q_p0_one i_p0_taped i_p0_outSize i_p0_size i_p0_at i_p0_token i_p0_from i_p0_wasRead i_p0_fault i_p0_place i_p0_lines i_p0_next i_p0_putAt i_p0_done i_p0_hard i_p0_madeSize i_p0_edges i_p0_comps i_p0_faces i_p0_pieces i_p0_arcs) (fun (r : Int32) (w : va_W) => r = res ∧ w = (ws_Md_fault cI cJ cB q_p0 q_p0_tape q_p0_out q_p0_text q_p0_kinds q_p0_begins q_p0_numbers q_p0_d q_p0_old q_p0_before q_p0_latest q_p0_earlier q_p0_keptLatest q_p0_keptEarlier q_p0_made q_p0_labelOf q_p0_begin q_p0_finish q_p0_follow q_p0_compOf q_p0_placed q_p0_faceOf q_p0_firstDart q_p0_pieceOf q_p0_top q_p0_poly q_p0_other q_p0_root q_p0_ways q_p0_arcOf q_p0_low q_p0_high q_p0_minor q_p0_gcd q_p0_one i_p0_taped i_p0_outSize i_p0_size i_p0_at i_p0_token i_p0_from i_p0_wasRead i_p0_fault i_p0_place i_p0_lines i_p0_next i_p0_putAt i_p0_done i_p0_hard i_p0_madeSize i_p0_edges i_p0_comps i_p0_faces i_p0_pieces i_p0_arcs)) := by
  intro sz
  refine vz_start (Qc := fun A => va_Qi (fun (r : Int32) (w : va_W) => r = res ∧ w = (ws_Md_fault cI cJ cB q_p0 q_p0_tape q_p0_out q_p0_text q_p0_kinds q_p0_begins q_p0_numbers q_p0_d q_p0_old q_p0_before q_p0_latest q_p0_earlier q_p0_keptLatest q_p0_keptEarlier q_p0_made q_p0_labelOf q_p0_begin q_p0_finish q_p0_follow q_p0_compOf q_p0_placed q_p0_faceOf q_p0_firstDart q_p0_pieceOf q_p0_top q_p0_poly q_p0_other q_p0_root q_p0_ways q_p0_arcOf q_p0_low q_p0_high q_p0_minor q_p0_gcd q_p0_one i_p0_taped i_p0_outSize i_p0_size i_p0_at i_p0_token i_p0_from i_p0_wasRead i_p0_fault i_p0_place i_p0_lines i_p0_next i_p0_putAt i_p0_done i_p0_hard i_p0_madeSize i_p0_edges i_p0_comps i_p0_faces i_p0_pieces i_p0_arcs)) (vz_B D A) A) (lv0 := [(0, .ref q_p0), (1, .int x1)]) (by decide +kernel) (Nat.le_of_ble_eq_true rfl) rfl ?_
  intro p e s m below meth c A ls C0 hl
  obtain ⟨hx, hb, hr, hml, hown, ht, hlocks, hin, hN, hK, hP, hD, hA, hS, hZ⟩ := C0
  exact w_Md_fault_0 fl q_p0 q_p0_tape q_p0_out q_p0_text q_p0_kinds q_p0_begins q_p0_numbers q_p0_d q_p0_old q_p0_before q_p0_latest q_p0_earlier q_p0_keptLatest q_p0_keptEarlier q_p0_made q_p0_labelOf q_p0_begin q_p0_finish q_p0_follow q_p0_compOf q_p0_placed q_p0_faceOf q_p0_firstDart q_p0_pieceOf q_p0_top q_p0_poly q_p0_other q_p0_root q_p0_ways q_p0_arcOf q_p0_low q_p0_high q_p0_minor q_p0_gcd q_p0_one i_p0_wasRead i_p0_fault i_p0_place i_p0_taped i_p0_outSize i_p0_size i_p0_at i_p0_token i_p0_from i_p0_lines i_p0_next i_p0_putAt i_p0_done i_p0_hard i_p0_madeSize i_p0_edges i_p0_comps i_p0_faces i_p0_pieces i_p0_arcs res ⟨hx, hb, hr, hml, hown, ht, hlocks, hin, hN, hK, hA, hZ⟩ x1 s.heap [] ls hm hP hD hS (lv_sub hl [0, 1] rfl)
def ws_Md_turnOver (cI cJ cB : ClassId) (q_p0 : Nat) (q_p0_letters : Nat) (q_p0_simple : Nat) (i_p0_strands : Int32) (i_p0_count : Int32) (i_p0_power : Int32) (i_p0_many : Int32) (f_p0_simple : Nat → Int32) : va_W := [(q_p0, .inr (13, [.int i_p0_strands, .int i_p0_count, .ref q_p0_letters, .int i_p0_power, .int i_p0_many, .ref q_p0_simple])), (q_p0_simple, .inl (cI, 216, .inl f_p0_simple))]
def rm_Md_turnOver : Room := { frames := 0, cells := 0, slots := 0, locals := 0 }
def B_Md_turnOver_7 (fl : Nat) (i_p0_strands : Int32) : Nat → Int32 → Int32 → Int32 → (Nat → Int32) → Option ((Nat → Int32))
  | 0, _, _, _, _ => none
  | nn + 1, x1, x2, x3, f_p0_simple => (if (x2 + (1 : Int32)) < ((2 : Int32) * x3) then (some f_p0_simple) else (if ¬ ((((9 : Int32) * x1) + x3) < 0 ∨ 216 ≤ Int32.toNatClampNeg (((9 : Int32) * x1) + x3)) then (if ¬ ((((((9 : Int32) * x1) + x2) + (1 : Int32)) - x3) < 0 ∨ 216 ≤ Int32.toNatClampNeg (((((9 : Int32) * x1) + x2) + (1 : Int32)) - x3)) then (if ¬ ((((9 : Int32) * x1) + x3) < 0 ∨ 216 ≤ Int32.toNatClampNeg (((9 : Int32) * x1) + x3)) then (if ¬ ((((((9 : Int32) * x1) + x2) + (1 : Int32)) - x3) < 0 ∨ 216 ≤ Int32.toNatClampNeg (((((9 : Int32) * x1) + x2) + (1 : Int32)) - x3)) then B_Md_turnOver_7 fl i_p0_strands nn x1 x2 (x3 + 1) (upd (upd f_p0_simple (Int32.toNatClampNeg (((9 : Int32) * x1) + x3)) ((x2 + (1 : Int32)) - (f_p0_simple (Int32.toNatClampNeg (((((9 : Int32) * x1) + x2) + (1 : Int32)) - x3))))) (Int32.toNatClampNeg (((((9 : Int32) * x1) + x2) + (1 : Int32)) - x3)) ((x2 + (1 : Int32)) - (f_p0_simple (Int32.toNatClampNeg (((9 : Int32) * x1) + x3))))) else none) else none) else none) else none))
def B_Md_turnOver_0 (fl : Nat) (i_p0_strands : Int32) (x1 : Int32) (f_p0_simple : Nat → Int32) : Option ((Nat → Int32)) := B_Md_turnOver_7 fl i_p0_strands fl x1 i_p0_strands 1 f_p0_simple
def m_Md_turnOver (fl : Nat) (i_p0_strands : Int32) (x1 : Int32) (f_p0_simple : Nat → Int32) : Option ((Nat → Int32)) := B_Md_turnOver_0 fl i_p0_strands x1 f_p0_simple
set_option maxHeartbeats 4000000 in
set_option maxRecDepth 100000 in
theorem w_Md_turnOver_7 {p : Program} {l : Launch} {e : Env} {s : State} {m : MethodId} {args : Array Value} {below : List Frame} {meth : Method} {c : Code} {D : va_G} {cI cJ cB : ClassId} {sa : Nat → Nat × Nat} {A : Nat → Prop} (fl : Nat) (q_p0 : Nat) (q_p0_letters : Nat) (q_p0_simple : Nat) (i_p0_strands : Int32) (i_p0_count : Int32) (i_p0_power : Int32) (i_p0_many : Int32) (res : (Nat → Int32)) (C0 : vz_Cx p s m meth c b_Md_turnOver 6 none "LinkEngineModel" "turnOver" D [(cI, .int), (cJ, .long), (cB, .byte)] sa A args) : ∀ (nn : Nat), ∀ (x1 : Int32) (x2 : Int32) (x3 : Int32) (f_p0_simple : Nat → Int32) (H : Heap) (locs : List Loc) (ls : Array Slot), B_Md_turnOver_7 fl i_p0_strands nn x1 x2 x3 f_p0_simple = some res → va_P D classes (ws_Md_turnOver cI cJ cB q_p0 q_p0_letters q_p0_simple i_p0_strands i_p0_count i_p0_power i_p0_many f_p0_simple) H → va_D A (ws_Md_turnOver cI cJ cB q_p0 q_p0_letters q_p0_simple i_p0_strands i_p0_count i_p0_power i_p0_many f_p0_simple) → va_S A s.heap H locs → lv_has ls 6 [(0, .ref q_p0), (1, .int x1), (2, .int x2), (3, .int x3)] → W p l e rm_Md_turnOver s m args below meth c H locs 0 0 (MQ below (va_Qv (fun (w : va_W) => w = (ws_Md_turnOver cI cJ cB q_p0 q_p0_letters q_p0_simple i_p0_strands i_p0_count i_p0_power i_p0_many res)) (vz_B D A) A) args s 0 0 A) (F0 m 7 ls []) := by
  obtain ⟨hx, hb, hr, hml, hown, ht, hlocks, hin, hN, hK, hA, hZ⟩ := id C0
  intro nn
  induction nn with
  | zero =>
    intro x1 x2 x3 f_p0_simple H locs ls hm hP hD hS hl
    rw [B_Md_turnOver_7] at hm
    cases hm
  | succ nn ih =>
    intro x1 x2 x3 f_p0_simple H locs ls hm hP hD hS hl
    rw [B_Md_turnOver_7] at hm
    refine lv_iconst (v := 2) hx hb d_Md_turnOver_7 (by decide) ?_
    refine lv_iload_n hx hb d_Md_turnOver_8 rfl (lv_at hl 3 rfl) ?_
    refine lv_imul hx hb d_Md_turnOver_9 ?_
    refine lv_iload_n hx hb d_Md_turnOver_10 rfl (lv_at hl 2 rfl) ?_
    refine lv_iconst (v := 1) hx hb d_Md_turnOver_11 (by decide) ?_
    refine lv_iadd hx hb d_Md_turnOver_12 ?_
    refine lv_icmp_gt (tgt := 90) hx hb d_Md_turnOver_13 (by decide) (fun hc => ?_) (fun hc => ?_)
    · rw [if_pos hc] at hm
      obtain rfl := Option.some.inj hm
      exact vz_vret hx hb hr hlocks hP hD hS (Nat.le_refl _) (Nat.le_refl _) d_Md_turnOver_90 rfl
    · rw [if_neg hc] at hm
      refine lv_aload_n hx hb d_Md_turnOver_16 rfl (lv_at hl 0 rfl) ?_
      refine va_getN (D := D) (ci := 13) (v := .ref q_p0_simple) (C := R_Md_Wo) (T := F_Md_Wo) (N := 6) hx hb ht i_Md_Wo hown hK hP 0 rfl rfl 5 (Nat.le_of_ble_eq_true rfl) (va_Nw.use rfl (hN _ n_43)) (fun _ h9 => h9) rfl d_Md_turnOver_17 ?_
      refine lv_bipush (v := 9) hx hb d_Md_turnOver_20 (by decide +kernel) ?_
      refine lv_iload_n hx hb d_Md_turnOver_22 rfl (lv_at hl 1 rfl) ?_
      refine lv_imul hx hb d_Md_turnOver_23 ?_
      refine lv_iload_n hx hb d_Md_turnOver_24 rfl (lv_at hl 3 rfl) ?_
      refine lv_iadd hx hb d_Md_turnOver_25 ?_
      obtain ⟨hg, hm⟩ := vz_guard hm
      refine va_iald hx hb hK hP 1 0 rfl rfl hg d_Md_turnOver_26 ?_
      refine lv_istore (lv' := [(4, .int (f_p0_simple (Int32.toNatClampNeg (((9 : Int32) * x1) + x3)))), (0, .ref q_p0), (1, .int x1), (2, .int x2), (3, .int x3)]) hx hb d_Md_turnOver_27 hl (by decide) rfl (fun ls hl => ?_)
      refine lv_aload_n hx hb d_Md_turnOver_29 rfl (lv_at hl 1 rfl) ?_
      refine va_getN (D := D) (ci := 13) (v := .ref q_p0_simple) (C := R_Md_Wo) (T := F_Md_Wo) (N := 6) hx hb ht i_Md_Wo hown hK hP 0 rfl rfl 5 (Nat.le_of_ble_eq_true rfl) (va_Nw.use rfl (hN _ n_43)) (fun _ h9 => h9) rfl d_Md_turnOver_30 ?_
      refine lv_bipush (v := 9) hx hb d_Md_turnOver_33 (by decide +kernel) ?_
      refine lv_iload_n hx hb d_Md_turnOver_35 rfl (lv_at hl 2 rfl) ?_
      refine lv_imul hx hb d_Md_turnOver_36 ?_
      refine lv_iload_n hx hb d_Md_turnOver_37 rfl (lv_at hl 3 rfl) ?_
      refine lv_iadd hx hb d_Md_turnOver_38 ?_
      refine lv_iconst (v := 1) hx hb d_Md_turnOver_39 (by decide) ?_
      refine lv_iadd hx hb d_Md_turnOver_40 ?_
      refine lv_iload_n hx hb d_Md_turnOver_41 rfl (lv_at hl 4 rfl) ?_
      refine lv_isub hx hb d_Md_turnOver_42 ?_
      obtain ⟨hg, hm⟩ := vz_guard hm
      refine va_iald hx hb hK hP 1 0 rfl rfl hg d_Md_turnOver_43 ?_
      refine lv_istore (lv' := [(5, .int (f_p0_simple (Int32.toNatClampNeg (((((9 : Int32) * x1) + x2) + (1 : Int32)) - x3)))), (4, .int (f_p0_simple (Int32.toNatClampNeg (((9 : Int32) * x1) + x3)))), (0, .ref q_p0), (1, .int x1), (2, .int x2), (3, .int x3)]) hx hb d_Md_turnOver_44 hl (by decide) rfl (fun ls hl => ?_)
      refine lv_aload_n hx hb d_Md_turnOver_46 rfl (lv_at hl 2 rfl) ?_
      refine va_getN (D := D) (ci := 13) (v := .ref q_p0_simple) (C := R_Md_Wo) (T := F_Md_Wo) (N := 6) hx hb ht i_Md_Wo hown hK hP 0 rfl rfl 5 (Nat.le_of_ble_eq_true rfl) (va_Nw.use rfl (hN _ n_43)) (fun _ h9 => h9) rfl d_Md_turnOver_47 ?_
      refine lv_bipush (v := 9) hx hb d_Md_turnOver_50 (by decide +kernel) ?_
      refine lv_iload_n hx hb d_Md_turnOver_52 rfl (lv_at hl 3 rfl) ?_
      refine lv_imul hx hb d_Md_turnOver_53 ?_
      refine lv_iload_n hx hb d_Md_turnOver_54 rfl (lv_at hl 5 rfl) ?_
      refine lv_iadd hx hb d_Md_turnOver_55 ?_
      refine lv_iload_n hx hb d_Md_turnOver_56 rfl (lv_at hl 4 rfl) ?_
      refine lv_iconst (v := 1) hx hb d_Md_turnOver_57 (by decide) ?_
      refine lv_iadd hx hb d_Md_turnOver_58 ?_
      refine lv_iload hx hb d_Md_turnOver_59 (lv_at hl 0 rfl) ?_
      refine lv_isub hx hb d_Md_turnOver_61 ?_
      obtain ⟨hg, hm⟩ := vz_guard hm
      refine va_iast hx hb hK hP hD hS 1 0 rfl rfl hg d_Md_turnOver_62 (fun H locs hP hD hS => ?_)
      have hP : va_P D classes (ws_Md_turnOver cI cJ cB q_p0 q_p0_letters q_p0_simple i_p0_strands i_p0_count i_p0_power i_p0_many (upd f_p0_simple (Int32.toNatClampNeg (((9 : Int32) * x1) + x3)) ((x2 + (1 : Int32)) - (f_p0_simple (Int32.toNatClampNeg (((((9 : Int32) * x1) + x2) + (1 : Int32)) - x3)))))) H := hP
      have hD : va_D A (ws_Md_turnOver cI cJ cB q_p0 q_p0_letters q_p0_simple i_p0_strands i_p0_count i_p0_power i_p0_many (upd f_p0_simple (Int32.toNatClampNeg (((9 : Int32) * x1) + x3)) ((x2 + (1 : Int32)) - (f_p0_simple (Int32.toNatClampNeg (((((9 : Int32) * x1) + x2) + (1 : Int32)) - x3)))))) := hD
      refine lv_aload_n hx hb d_Md_turnOver_63 rfl (lv_at hl 2 rfl) ?_
      refine va_getN (D := D) (ci := 13) (v := .ref q_p0_simple) (C := R_Md_Wo) (T := F_Md_Wo) (N := 6) hx hb ht i_Md_Wo hown hK hP 0 rfl rfl 5 (Nat.le_of_ble_eq_true rfl) (va_Nw.use rfl (hN _ n_43)) (fun _ h9 => h9) rfl d_Md_turnOver_64 ?_
      refine lv_bipush (v := 9) hx hb d_Md_turnOver_67 (by decide +kernel) ?_
      refine lv_iload_n hx hb d_Md_turnOver_69 rfl (lv_at hl 3 rfl) ?_
      refine lv_imul hx hb d_Md_turnOver_70 ?_
      refine lv_iload_n hx hb d_Md_turnOver_71 rfl (lv_at hl 4 rfl) ?_
      refine lv_iadd hx hb d_Md_turnOver_72 ?_
      refine lv_iconst (v := 1) hx hb d_Md_turnOver_73 (by decide) ?_
      refine lv_iadd hx hb d_Md_turnOver_74 ?_
      refine lv_iload_n hx hb d_Md_turnOver_75 rfl (lv_at hl 5 rfl) ?_
      refine lv_isub hx hb d_Md_turnOver_76 ?_
      refine lv_iload_n hx hb d_Md_turnOver_77 rfl (lv_at hl 4 rfl) ?_
      refine lv_iconst (v := 1) hx hb d_Md_turnOver_78 (by decide) ?_
      refine lv_iadd hx hb d_Md_turnOver_79 ?_
      refine lv_iload hx hb d_Md_turnOver_80 (lv_at hl 1 rfl) ?_
      refine lv_isub hx hb d_Md_turnOver_82 ?_
      obtain ⟨hg, hm⟩ := vz_guard hm
      refine va_iast hx hb hK hP hD hS 1 0 rfl rfl hg d_Md_turnOver_83 (fun H locs hP hD hS => ?_)
      have hP : va_P D classes (ws_Md_turnOver cI cJ cB q_p0 q_p0_letters q_p0_simple i_p0_strands i_p0_count i_p0_power i_p0_many (upd (upd f_p0_simple (Int32.toNatClampNeg (((9 : Int32) * x1) + x3)) ((x2 + (1 : Int32)) - (f_p0_simple (Int32.toNatClampNeg (((((9 : Int32) * x1) + x2) + (1 : Int32)) - x3))))) (Int32.toNatClampNeg (((((9 : Int32) * x1) + x2) + (1 : Int32)) - x3)) ((x2 + (1 : Int32)) - (f_p0_simple (Int32.toNatClampNeg (((9 : Int32) * x1) + x3)))))) H := hP
      have hD : va_D A (ws_Md_turnOver cI cJ cB q_p0 q_p0_letters q_p0_simple i_p0_strands i_p0_count i_p0_power i_p0_many (upd (upd f_p0_simple (Int32.toNatClampNeg (((9 : Int32) * x1) + x3)) ((x2 + (1 : Int32)) - (f_p0_simple (Int32.toNatClampNeg (((((9 : Int32) * x1) + x2) + (1 : Int32)) - x3))))) (Int32.toNatClampNeg (((((9 : Int32) * x1) + x2) + (1 : Int32)) - x3)) ((x2 + (1 : Int32)) - (f_p0_simple (Int32.toNatClampNeg (((9 : Int32) * x1) + x3)))))) := hD
      refine lv_iinc (v := (x3 + 1)) (lv' := [(3, .int (x3 + 1)), (5, .int (f_p0_simple (Int32.toNatClampNeg (((((9 : Int32) * x1) + x2) + (1 : Int32)) - x3)))), (4, .int (f_p0_simple (Int32.toNatClampNeg (((9 : Int32) * x1) + x3)))), (0, .ref q_p0), (1, .int x1), (2, .int x2)]) hx hb d_Md_turnOver_84 hl (k := 5) rfl rfl (by decide) rfl (fun ls hl => ?_)
      refine lv_goto (tgt := 7) hx hb d_Md_turnOver_87 (by decide) ?_
      exact ih x1 x2 (x3 + 1) (upd (upd f_p0_simple (Int32.toNatClampNeg (((9 : Int32) * x1) + x3)) ((x2 + (1 : Int32)) - (f_p0_simple (Int32.toNatClampNeg (((((9 : Int32) * x1) + x2) + (1 : Int32)) - x3))))) (Int32.toNatClampNeg (((((9 : Int32) * x1) + x2) + (1 : Int32)) - x3)) ((x2 + (1 : Int32)) - (f_p0_simple (Int32.toNatClampNeg (((9 : Int32) * x1) + x3))))) _ _ _ hm hP hD hS (lv_sub hl [3, 4, 5, 0] rfl)
set_option maxHeartbeats 4000000 in
set_option maxRecDepth 100000 in
theorem w_Md_turnOver_0 {p : Program} {l : Launch} {e : Env} {s : State} {m : MethodId} {args : Array Value} {below : List Frame} {meth : Method} {c : Code} {D : va_G} {cI cJ cB : ClassId} {sa : Nat → Nat × Nat} {A : Nat → Prop} (fl : Nat) (q_p0 : Nat) (q_p0_letters : Nat) (q_p0_simple : Nat) (i_p0_strands : Int32) (i_p0_count : Int32) (i_p0_power : Int32) (i_p0_many : Int32) (res : (Nat → Int32)) (C0 : vz_Cx p s m meth c b_Md_turnOver 6 none "LinkEngineModel" "turnOver" D [(cI, .int), (cJ, .long), (cB, .byte)] sa A args) : ∀ (x1 : Int32) (f_p0_simple : Nat → Int32) (H : Heap) (locs : List Loc) (ls : Array Slot), B_Md_turnOver_0 fl i_p0_strands x1 f_p0_simple = some res → va_P D classes (ws_Md_turnOver cI cJ cB q_p0 q_p0_letters q_p0_simple i_p0_strands i_p0_count i_p0_power i_p0_many f_p0_simple) H → va_D A (ws_Md_turnOver cI cJ cB q_p0 q_p0_letters q_p0_simple i_p0_strands i_p0_count i_p0_power i_p0_many f_p0_simple) → va_S A s.heap H locs → lv_has ls 6 [(0, .ref q_p0), (1, .int x1)] → W p l e rm_Md_turnOver s m args below meth c H locs 0 0 (MQ below (va_Qv (fun (w : va_W) => w = (ws_Md_turnOver cI cJ cB q_p0 q_p0_letters q_p0_simple i_p0_strands i_p0_count i_p0_power i_p0_many res)) (vz_B D A) A) args s 0 0 A) (F0 m 0 ls []) := by
  obtain ⟨hx, hb, hr, hml, hown, ht, hlocks, hin, hN, hK, hA, hZ⟩ := id C0
  intro x1 f_p0_simple H locs ls hm hP hD hS hl
  unfold B_Md_turnOver_0 at hm
  refine lv_aload_n hx hb d_Md_turnOver_0 rfl (lv_at hl 0 rfl) ?_
  refine va_getN (D := D) (ci := 13) (v := .int i_p0_strands) (C := R_Md_Wo) (T := F_Md_Wo) (N := 6) hx hb ht i_Md_Wo hown hK hP 0 rfl rfl 0 (Nat.le_of_ble_eq_true rfl) (va_Nw.use rfl (hN _ n_25)) (fun _ h9 => h9) rfl d_Md_turnOver_1 ?_
  refine lv_istore_n (lv' := [(2, .int i_p0_strands), (0, .ref q_p0), (1, .int x1)]) hx hb d_Md_turnOver_4 rfl hl (by decide) rfl (fun ls hl => ?_)
  refine lv_iconst (v := 1) hx hb d_Md_turnOver_5 (by decide) ?_
  refine lv_istore_n (lv' := [(3, .int 1), (2, .int i_p0_strands), (0, .ref q_p0), (1, .int x1)]) hx hb d_Md_turnOver_6 rfl hl (by decide) rfl (fun ls hl => ?_)
  exact w_Md_turnOver_7 fl q_p0 q_p0_letters q_p0_simple i_p0_strands i_p0_count i_p0_power i_p0_many res C0 fl x1 i_p0_strands 1 f_p0_simple _ _ _ hm hP hD hS (lv_sub hl [2, 3, 1, 0] rfl)
set_option maxHeartbeats 4000000 in
set_option maxRecDepth 100000 in
theorem k_Md_turnOver (l : Launch) (D : va_G) (cI cJ cB : ClassId) (sa : Nat → Nat × Nat) (fl : Nat) (q_p0 : Nat) (q_p0_letters : Nat) (q_p0_simple : Nat) (i_p0_strands : Int32) (i_p0_count : Int32) (i_p0_power : Int32) (i_p0_many : Int32) (f_p0_simple : Nat → Int32) (x1 : Int32) (res : (Nat → Int32)) (hm : m_Md_turnOver fl i_p0_strands x1 f_p0_simple = some res) : MtV l y_Md_turnOver (.code y_Md_turnOver b_Md_turnOver 6 none :: CW) rm_Md_turnOver D [(cI, .int), (cJ, .long), (cB, .byte)] sa [.ref q_p0, .int x1] (ws_Md_turnOver cI cJ cB q_p0 q_p0_letters q_p0_simple i_p0_strands i_p0_count i_p0_power i_p0_many f_p0_simple) (fun (w : va_W) => w = (ws_Md_turnOver cI cJ cB q_p0 q_p0_letters q_p0_simple i_p0_strands i_p0_count i_p0_power i_p0_many res)) := by
  intro sz
  refine vz_start (Qc := fun A => va_Qv (fun (w : va_W) => w = (ws_Md_turnOver cI cJ cB q_p0 q_p0_letters q_p0_simple i_p0_strands i_p0_count i_p0_power i_p0_many res)) (vz_B D A) A) (lv0 := [(0, .ref q_p0), (1, .int x1)]) (by decide +kernel) (Nat.le_of_ble_eq_true rfl) rfl ?_
  intro p e s m below meth c A ls C0 hl
  obtain ⟨hx, hb, hr, hml, hown, ht, hlocks, hin, hN, hK, hP, hD, hA, hS, hZ⟩ := C0
  exact w_Md_turnOver_0 fl q_p0 q_p0_letters q_p0_simple i_p0_strands i_p0_count i_p0_power i_p0_many res ⟨hx, hb, hr, hml, hown, ht, hlocks, hin, hN, hK, hA, hZ⟩ x1 f_p0_simple s.heap [] ls hm hP hD hS (lv_sub hl [0, 1] rfl)
def ws_Md_crossAbove (cI cJ cB : ClassId) (q_p0 : Nat) (q_p0_letters : Nat) (q_p0_simple : Nat) (i_p0_strands : Int32) (i_p0_count : Int32) (i_p0_power : Int32) (i_p0_many : Int32) (f_p0_simple : Nat → Int32) : va_W := [(q_p0, .inr (13, [.int i_p0_strands, .int i_p0_count, .ref q_p0_letters, .int i_p0_power, .int i_p0_many, .ref q_p0_simple])), (q_p0_simple, .inl (cI, 216, .inl f_p0_simple))]
def rm_Md_crossAbove : Room := { frames := 0, cells := 0, slots := 0, locals := 0 }
def B_Md_crossAbove_0 (fl : Nat) (f_p0_simple : Nat → Int32) (x1 : Int32) (x2 : Int32) : Option (Int32) := (if ¬ ((((9 : Int32) * x1) + x2) < 0 ∨ 216 ≤ Int32.toNatClampNeg (((9 : Int32) * x1) + x2)) then (if ¬ (((((9 : Int32) * x1) + x2) + (1 : Int32)) < 0 ∨ 216 ≤ Int32.toNatClampNeg ((((9 : Int32) * x1) + x2) + (1 : Int32))) then (if (f_p0_simple (Int32.toNatClampNeg (((9 : Int32) * x1) + x2))) ≤ (f_p0_simple (Int32.toNatClampNeg ((((9 : Int32) * x1) + x2) + (1 : Int32)))) then (some 0) else (some 1)) else none) else none)
def m_Md_crossAbove (fl : Nat) (f_p0_simple : Nat → Int32) (x1 : Int32) (x2 : Int32) : Option (Int32) := B_Md_crossAbove_0 fl f_p0_simple x1 x2
set_option maxHeartbeats 4000000 in
set_option maxRecDepth 100000 in
theorem w_Md_crossAbove_0 {p : Program} {l : Launch} {e : Env} {s : State} {m : MethodId} {args : Array Value} {below : List Frame} {meth : Method} {c : Code} {D : va_G} {cI cJ cB : ClassId} {sa : Nat → Nat × Nat} {A : Nat → Prop} (fl : Nat) (q_p0 : Nat) (q_p0_letters : Nat) (q_p0_simple : Nat) (f_p0_simple : Nat → Int32) (i_p0_strands : Int32) (i_p0_count : Int32) (i_p0_power : Int32) (i_p0_many : Int32) (res : Int32) (C0 : vz_Cx p s m meth c b_Md_crossAbove 3 (some .boolean) "LinkEngineModel" "crossAbove" D [(cI, .int), (cJ, .long), (cB, .byte)] sa A args) : ∀ (x1 : Int32) (x2 : Int32) (H : Heap) (locs : List Loc) (ls : Array Slot), B_Md_crossAbove_0 fl f_p0_simple x1 x2 = some res → va_P D classes (ws_Md_crossAbove cI cJ cB q_p0 q_p0_letters q_p0_simple i_p0_strands i_p0_count i_p0_power i_p0_many f_p0_simple) H → va_D A (ws_Md_crossAbove cI cJ cB q_p0 q_p0_letters q_p0_simple i_p0_strands i_p0_count i_p0_power i_p0_many f_p0_simple) → va_S A s.heap H locs → lv_has ls 3 [(0, .ref q_p0), (1, .int x1), (2, .int x2)] → W p l e rm_Md_crossAbove s m args below meth c H locs 0 0 (MQ below (va_Qi (fun (r : Int32) (w : va_W) => r = res ∧ w = (ws_Md_crossAbove cI cJ cB q_p0 q_p0_letters q_p0_simple i_p0_strands i_p0_count i_p0_power i_p0_many f_p0_simple)) (vz_B D A) A) args s 0 0 A) (F0 m 0 ls []) := by
  obtain ⟨hx, hb, hr, hml, hown, ht, hlocks, hin, hN, hK, hA, hZ⟩ := id C0
  intro x1 x2 H locs ls hm hP hD hS hl
  unfold B_Md_crossAbove_0 at hm
  refine lv_aload_n hx hb d_Md_crossAbove_0 rfl (lv_at hl 0 rfl) ?_
  refine va_getN (D := D) (ci := 13) (v := .ref q_p0_simple) (C := R_Md_Wo) (T := F_Md_Wo) (N := 6) hx hb ht i_Md_Wo hown hK hP 0 rfl rfl 5 (Nat.le_of_ble_eq_true rfl) (va_Nw.use rfl (hN _ n_43)) (fun _ h9 => h9) rfl d_Md_crossAbove_1 ?_
  refine lv_bipush (v := 9) hx hb d_Md_crossAbove_4 (by decide +kernel) ?_
  refine lv_iload_n hx hb d_Md_crossAbove_6 rfl (lv_at hl 1 rfl) ?_
  refine lv_imul hx hb d_Md_crossAbove_7 ?_
  refine lv_iload_n hx hb d_Md_crossAbove_8 rfl (lv_at hl 2 rfl) ?_
  refine lv_iadd hx hb d_Md_crossAbove_9 ?_
  obtain ⟨hg, hm⟩ := vz_guard hm
  refine va_iald hx hb hK hP 1 0 rfl rfl hg d_Md_crossAbove_10 ?_
  refine lv_aload_n hx hb d_Md_crossAbove_11 rfl (lv_at hl 0 rfl) ?_
  refine va_getN (D := D) (ci := 13) (v := .ref q_p0_simple) (C := R_Md_Wo) (T := F_Md_Wo) (N := 6) hx hb ht i_Md_Wo hown hK hP 0 rfl rfl 5 (Nat.le_of_ble_eq_true rfl) (va_Nw.use rfl (hN _ n_43)) (fun _ h9 => h9) rfl d_Md_crossAbove_12 ?_
  refine lv_bipush (v := 9) hx hb d_Md_crossAbove_15 (by decide +kernel) ?_
  refine lv_iload_n hx hb d_Md_crossAbove_17 rfl (lv_at hl 1 rfl) ?_
  refine lv_imul hx hb d_Md_crossAbove_18 ?_
  refine lv_iload_n hx hb d_Md_crossAbove_19 rfl (lv_at hl 2 rfl) ?_
  refine lv_iadd hx hb d_Md_crossAbove_20 ?_
  refine lv_iconst (v := 1) hx hb d_Md_crossAbove_21 (by decide) ?_
  refine lv_iadd hx hb d_Md_crossAbove_22 ?_
  obtain ⟨hg, hm⟩ := vz_guard hm
  refine va_iald hx hb hK hP 1 0 rfl rfl hg d_Md_crossAbove_23 ?_
  refine lv_icmp_le (tgt := 31) hx hb d_Md_crossAbove_24 (by decide) (fun hc => ?_) (fun hc => ?_)
  · rw [if_pos hc] at hm
    refine lv_iconst (v := 0) hx hb d_Md_crossAbove_31 (by decide) ?_
    obtain rfl := Option.some.inj hm
    exact vz_iret hx hb hr rfl hlocks hP hD hS (Nat.le_refl _) (Nat.le_refl _) d_Md_crossAbove_32 ⟨rfl, rfl⟩
  · rw [if_neg hc] at hm
    refine lv_iconst (v := 1) hx hb d_Md_crossAbove_27 (by decide) ?_
    refine lv_goto (tgt := 32) hx hb d_Md_crossAbove_28 (by decide) ?_
    obtain rfl := Option.some.inj hm
    exact vz_iret hx hb hr rfl hlocks hP hD hS (Nat.le_refl _) (Nat.le_refl _) d_Md_crossAbove_32 ⟨rfl, rfl⟩
set_option maxHeartbeats 4000000 in
set_option maxRecDepth 100000 in
theorem k_Md_crossAbove (l : Launch) (D : va_G) (cI cJ cB : ClassId) (sa : Nat → Nat × Nat) (fl : Nat) (q_p0 : Nat) (q_p0_letters : Nat) (q_p0_simple : Nat) (f_p0_simple : Nat → Int32) (i_p0_strands : Int32) (i_p0_count : Int32) (i_p0_power : Int32) (i_p0_many : Int32) (x1 : Int32) (x2 : Int32) (res : Int32) (hm : m_Md_crossAbove fl f_p0_simple x1 x2 = some res) : MtI l y_Md_crossAbove (.code y_Md_crossAbove b_Md_crossAbove 3 (some .boolean) :: CW) rm_Md_crossAbove D [(cI, .int), (cJ, .long), (cB, .byte)] sa [.ref q_p0, .int x1, .int x2] (ws_Md_crossAbove cI cJ cB q_p0 q_p0_letters q_p0_simple i_p0_strands i_p0_count i_p0_power i_p0_many f_p0_simple) (fun (r : Int32) (w : va_W) => r = res ∧ w = (ws_Md_crossAbove cI cJ cB q_p0 q_p0_letters q_p0_simple i_p0_strands i_p0_count i_p0_power i_p0_many f_p0_simple)) := by
  intro sz
  refine vz_start (Qc := fun A => va_Qi (fun (r : Int32) (w : va_W) => r = res ∧ w = (ws_Md_crossAbove cI cJ cB q_p0 q_p0_letters q_p0_simple i_p0_strands i_p0_count i_p0_power i_p0_many f_p0_simple)) (vz_B D A) A) (lv0 := [(0, .ref q_p0), (1, .int x1), (2, .int x2)]) (by decide +kernel) (Nat.le_of_ble_eq_true rfl) rfl ?_
  intro p e s m below meth c A ls C0 hl
  obtain ⟨hx, hb, hr, hml, hown, ht, hlocks, hin, hN, hK, hP, hD, hA, hS, hZ⟩ := C0
  exact w_Md_crossAbove_0 fl q_p0 q_p0_letters q_p0_simple f_p0_simple i_p0_strands i_p0_count i_p0_power i_p0_many res ⟨hx, hb, hr, hml, hown, ht, hlocks, hin, hN, hK, hA, hZ⟩ x1 x2 s.heap [] ls hm hP hD hS (lv_sub hl [0, 1, 2] rfl)
def ws_Md_crossBelow (cI cJ cB : ClassId) (q_p0 : Nat) (q_p0_letters : Nat) (q_p0_simple : Nat) (i_p0_strands : Int32) (i_p0_count : Int32) (i_p0_power : Int32) (i_p0_many : Int32) (f_p0_simple : Nat → Int32) : va_W := [(q_p0, .inr (13, [.int i_p0_strands, .int i_p0_count, .ref q_p0_letters, .int i_p0_power, .int i_p0_many, .ref q_p0_simple])), (q_p0_simple, .inl (cI, 216, .inl f_p0_simple))]
def rm_Md_crossBelow : Room := { frames := 0, cells := 0, slots := 0, locals := 0 }
def B_Md_crossBelow_65 (fl : Nat) (i_p0_strands : Int32) (f_p0_simple : Nat → Int32) (kb_8 : Int32 → Int32 → Int32 → Int32 → Int32 → Option (Int32)) (s0 : Int32) (x1 : Int32) (x2 : Int32) (x3 : Int32) (x4 : Int32) (x5 : Int32) : Option (Int32) := kb_8 x1 x2 x3 s0 (x5 + 1)
def B_Md_crossBelow_39 (fl : Nat) (i_p0_strands : Int32) (f_p0_simple : Nat → Int32) (kb_8 : Int32 → Int32 → Int32 → Int32 → Int32 → Option (Int32)) (s0 : Int32) (x1 : Int32) (x2 : Int32) (x3 : Int32) (x4 : Int32) (x5 : Int32) : Option (Int32) := (if ¬ ((((9 : Int32) * x1) + x5) < 0 ∨ 216 ≤ Int32.toNatClampNeg (((9 : Int32) * x1) + x5)) then (if ¬ (f_p0_simple (Int32.toNatClampNeg (((9 : Int32) * x1) + x5))) = (x2 + (1 : Int32)) then B_Md_crossBelow_65 fl i_p0_strands f_p0_simple kb_8 x4 x1 x2 s0 x4 x5 else B_Md_crossBelow_65 fl i_p0_strands f_p0_simple kb_8 x5 x1 x2 s0 x4 x5) else none)
def B_Md_crossBelow_8 (fl : Nat) (i_p0_strands : Int32) (f_p0_simple : Nat → Int32) : Nat → Int32 → Int32 → Int32 → Int32 → Int32 → Option (Int32)
  | 0, _, _, _, _, _ => none
  | nn + 1, x1, x2, x3, x4, x5 => (if i_p0_strands < x5 then (if x3 ≤ x4 then (some 0) else (some 1)) else (if ¬ ((((9 : Int32) * x1) + x5) < 0 ∨ 216 ≤ Int32.toNatClampNeg (((9 : Int32) * x1) + x5)) then (if ¬ (f_p0_simple (Int32.toNatClampNeg (((9 : Int32) * x1) + x5))) = x2 then B_Md_crossBelow_39 fl i_p0_strands f_p0_simple (B_Md_crossBelow_8 fl i_p0_strands f_p0_simple nn) x3 x1 x2 x3 x4 x5 else B_Md_crossBelow_39 fl i_p0_strands f_p0_simple (B_Md_crossBelow_8 fl i_p0_strands f_p0_simple nn) x5 x1 x2 x3 x4 x5) else none))
def B_Md_crossBelow_0 (fl : Nat) (i_p0_strands : Int32) (f_p0_simple : Nat → Int32) (x1 : Int32) (x2 : Int32) : Option (Int32) := B_Md_crossBelow_8 fl i_p0_strands f_p0_simple fl x1 x2 0 0 1
def m_Md_crossBelow (fl : Nat) (i_p0_strands : Int32) (f_p0_simple : Nat → Int32) (x1 : Int32) (x2 : Int32) : Option (Int32) := B_Md_crossBelow_0 fl i_p0_strands f_p0_simple x1 x2
set_option maxHeartbeats 4000000 in
set_option maxRecDepth 100000 in
theorem w_Md_crossBelow_65 {p : Program} {l : Launch} {e : Env} {s : State} {m : MethodId} {args : Array Value} {below : List Frame} {meth : Method} {c : Code} {D : va_G} {cI cJ cB : ClassId} {sa : Nat → Nat × Nat} {A : Nat → Prop} (fl : Nat) (q_p0 : Nat) (q_p0_letters : Nat) (q_p0_simple : Nat) (i_p0_strands : Int32) (f_p0_simple : Nat → Int32) (i_p0_count : Int32) (i_p0_power : Int32) (i_p0_many : Int32) (res : Int32) (C0 : vz_Cx p s m meth c b_Md_crossBelow 6 (some .boolean) "LinkEngineModel" "crossBelow" D [(cI, .int), (cJ, .long), (cB, .byte)] sa A args) (kb_8 : Int32 → Int32 → Int32 → Int32 → Int32 → Option (Int32)) (hk_8 : ∀ (x1 : Int32) (x2 : Int32) (x3 : Int32) (x4 : Int32) (x5 : Int32) (H : Heap) (locs : List Loc) (ls : Array Slot), kb_8 x1 x2 x3 x4 x5 = some res → va_P D classes (ws_Md_crossBelow cI cJ cB q_p0 q_p0_letters q_p0_simple i_p0_strands i_p0_count i_p0_power i_p0_many f_p0_simple) H → va_D A (ws_Md_crossBelow cI cJ cB q_p0 q_p0_letters q_p0_simple i_p0_strands i_p0_count i_p0_power i_p0_many f_p0_simple) → va_S A s.heap H locs → lv_has ls 6 [(0, .ref q_p0), (1, .int x1), (2, .int x2), (3, .int x3), (4, .int x4), (5, .int x5)] → W p l e rm_Md_crossBelow s m args below meth c H locs 0 0 (MQ below (va_Qi (fun (r : Int32) (w : va_W) => r = res ∧ w = (ws_Md_crossBelow cI cJ cB q_p0 q_p0_letters q_p0_simple i_p0_strands i_p0_count i_p0_power i_p0_many f_p0_simple)) (vz_B D A) A) args s 0 0 A) (F0 m 8 ls [])) : ∀ (s0 : Int32) (x1 : Int32) (x2 : Int32) (x3 : Int32) (x4 : Int32) (x5 : Int32) (H : Heap) (locs : List Loc) (ls : Array Slot), B_Md_crossBelow_65 fl i_p0_strands f_p0_simple kb_8 s0 x1 x2 x3 x4 x5 = some res → va_P D classes (ws_Md_crossBelow cI cJ cB q_p0 q_p0_letters q_p0_simple i_p0_strands i_p0_count i_p0_power i_p0_many f_p0_simple) H → va_D A (ws_Md_crossBelow cI cJ cB q_p0 q_p0_letters q_p0_simple i_p0_strands i_p0_count i_p0_power i_p0_many f_p0_simple) → va_S A s.heap H locs → lv_has ls 6 [(0, .ref q_p0), (1, .int x1), (2, .int x2), (3, .int x3), (4, .int x4), (5, .int x5)] → W p l e rm_Md_crossBelow s m args below meth c H locs 0 0 (MQ below (va_Qi (fun (r : Int32) (w : va_W) => r = res ∧ w = (ws_Md_crossBelow cI cJ cB q_p0 q_p0_letters q_p0_simple i_p0_strands i_p0_count i_p0_power i_p0_many f_p0_simple)) (vz_B D A) A) args s 0 0 A) (F0 m 65 ls [.int s0]) := by
  obtain ⟨hx, hb, hr, hml, hown, ht, hlocks, hin, hN, hK, hA, hZ⟩ := id C0
  intro s0 x1 x2 x3 x4 x5 H locs ls hm hP hD hS hl
  unfold B_Md_crossBelow_65 at hm
  refine lv_istore (lv' := [(4, .int s0), (0, .ref q_p0), (1, .int x1), (2, .int x2), (3, .int x3), (5, .int x5)]) hx hb d_Md_crossBelow_65 hl (by decide) rfl (fun ls hl => ?_)
  refine lv_iinc (v := (x5 + 1)) (lv' := [(5, .int (x5 + 1)), (4, .int s0), (0, .ref q_p0), (1, .int x1), (2, .int x2), (3, .int x3)]) hx hb d_Md_crossBelow_67 hl (k := 5) rfl rfl (by decide) rfl (fun ls hl => ?_)
  refine lv_goto (tgt := 8) hx hb d_Md_crossBelow_70 (by decide) ?_
  exact hk_8 x1 x2 x3 s0 (x5 + 1) _ _ _ hm hP hD hS (lv_sub hl [2, 3, 4, 5, 1, 0] rfl)
set_option maxHeartbeats 4000000 in
set_option maxRecDepth 100000 in
theorem w_Md_crossBelow_39 {p : Program} {l : Launch} {e : Env} {s : State} {m : MethodId} {args : Array Value} {below : List Frame} {meth : Method} {c : Code} {D : va_G} {cI cJ cB : ClassId} {sa : Nat → Nat × Nat} {A : Nat → Prop} (fl : Nat) (q_p0 : Nat) (q_p0_letters : Nat) (q_p0_simple : Nat) (i_p0_strands : Int32) (f_p0_simple : Nat → Int32) (i_p0_count : Int32) (i_p0_power : Int32) (i_p0_many : Int32) (res : Int32) (C0 : vz_Cx p s m meth c b_Md_crossBelow 6 (some .boolean) "LinkEngineModel" "crossBelow" D [(cI, .int), (cJ, .long), (cB, .byte)] sa A args) (kb_8 : Int32 → Int32 → Int32 → Int32 → Int32 → Option (Int32)) (hk_8 : ∀ (x1 : Int32) (x2 : Int32) (x3 : Int32) (x4 : Int32) (x5 : Int32) (H : Heap) (locs : List Loc) (ls : Array Slot), kb_8 x1 x2 x3 x4 x5 = some res → va_P D classes (ws_Md_crossBelow cI cJ cB q_p0 q_p0_letters q_p0_simple i_p0_strands i_p0_count i_p0_power i_p0_many f_p0_simple) H → va_D A (ws_Md_crossBelow cI cJ cB q_p0 q_p0_letters q_p0_simple i_p0_strands i_p0_count i_p0_power i_p0_many f_p0_simple) → va_S A s.heap H locs → lv_has ls 6 [(0, .ref q_p0), (1, .int x1), (2, .int x2), (3, .int x3), (4, .int x4), (5, .int x5)] → W p l e rm_Md_crossBelow s m args below meth c H locs 0 0 (MQ below (va_Qi (fun (r : Int32) (w : va_W) => r = res ∧ w = (ws_Md_crossBelow cI cJ cB q_p0 q_p0_letters q_p0_simple i_p0_strands i_p0_count i_p0_power i_p0_many f_p0_simple)) (vz_B D A) A) args s 0 0 A) (F0 m 8 ls [])) : ∀ (s0 : Int32) (x1 : Int32) (x2 : Int32) (x3 : Int32) (x4 : Int32) (x5 : Int32) (H : Heap) (locs : List Loc) (ls : Array Slot), B_Md_crossBelow_39 fl i_p0_strands f_p0_simple kb_8 s0 x1 x2 x3 x4 x5 = some res → va_P D classes (ws_Md_crossBelow cI cJ cB q_p0 q_p0_letters q_p0_simple i_p0_strands i_p0_count i_p0_power i_p0_many f_p0_simple) H → va_D A (ws_Md_crossBelow cI cJ cB q_p0 q_p0_letters q_p0_simple i_p0_strands i_p0_count i_p0_power i_p0_many f_p0_simple) → va_S A s.heap H locs → lv_has ls 6 [(0, .ref q_p0), (1, .int x1), (2, .int x2), (3, .int x3), (4, .int x4), (5, .int x5)] → W p l e rm_Md_crossBelow s m args below meth c H locs 0 0 (MQ below (va_Qi (fun (r : Int32) (w : va_W) => r = res ∧ w = (ws_Md_crossBelow cI cJ cB q_p0 q_p0_letters q_p0_simple i_p0_strands i_p0_count i_p0_power i_p0_many f_p0_simple)) (vz_B D A) A) args s 0 0 A) (F0 m 39 ls [.int s0]) := by
  obtain ⟨hx, hb, hr, hml, hown, ht, hlocks, hin, hN, hK, hA, hZ⟩ := id C0
  intro s0 x1 x2 x3 x4 x5 H locs ls hm hP hD hS hl
  unfold B_Md_crossBelow_39 at hm
  refine lv_istore_n (lv' := [(3, .int s0), (0, .ref q_p0), (1, .int x1), (2, .int x2), (4, .int x4), (5, .int x5)]) hx hb d_Md_crossBelow_39 rfl hl (by decide) rfl (fun ls hl => ?_)
  refine lv_aload_n hx hb d_Md_crossBelow_40 rfl (lv_at hl 1 rfl) ?_
  refine va_getN (D := D) (ci := 13) (v := .ref q_p0_simple) (C := R_Md_Wo) (T := F_Md_Wo) (N := 6) hx hb ht i_Md_Wo hown hK hP 0 rfl rfl 5 (Nat.le_of_ble_eq_true rfl) (va_Nw.use rfl (hN _ n_43)) (fun _ h9 => h9) rfl d_Md_crossBelow_41 ?_
  refine lv_bipush (v := 9) hx hb d_Md_crossBelow_44 (by decide +kernel) ?_
  refine lv_iload_n hx hb d_Md_crossBelow_46 rfl (lv_at hl 2 rfl) ?_
  refine lv_imul hx hb d_Md_crossBelow_47 ?_
  refine lv_iload hx hb d_Md_crossBelow_48 (lv_at hl 5 rfl) ?_
  refine lv_iadd hx hb d_Md_crossBelow_50 ?_
  obtain ⟨hg, hm⟩ := vz_guard hm
  refine va_iald hx hb hK hP 1 0 rfl rfl hg d_Md_crossBelow_51 ?_
  refine lv_iload_n hx hb d_Md_crossBelow_52 rfl (lv_at hl 3 rfl) ?_
  refine lv_iconst (v := 1) hx hb d_Md_crossBelow_53 (by decide) ?_
  refine lv_iadd hx hb d_Md_crossBelow_54 ?_
  refine lv_icmp_ne (tgt := 63) hx hb d_Md_crossBelow_55 (by decide) (fun hc => ?_) (fun hc => ?_)
  · rw [if_pos hc] at hm
    refine lv_iload hx hb d_Md_crossBelow_63 (lv_at hl 4 rfl) ?_
    exact w_Md_crossBelow_65 fl q_p0 q_p0_letters q_p0_simple i_p0_strands f_p0_simple i_p0_count i_p0_power i_p0_many res C0 kb_8 hk_8 x4 x1 x2 s0 x4 x5 _ _ _ hm hP hD hS (lv_sub hl [1, 2, 3, 0, 4, 5] rfl)
  · rw [if_neg (fun q => q hc)] at hm
    refine lv_iload hx hb d_Md_crossBelow_58 (lv_at hl 5 rfl) ?_
    refine lv_goto (tgt := 65) hx hb d_Md_crossBelow_60 (by decide) ?_
    exact w_Md_crossBelow_65 fl q_p0 q_p0_letters q_p0_simple i_p0_strands f_p0_simple i_p0_count i_p0_power i_p0_many res C0 kb_8 hk_8 x5 x1 x2 s0 x4 x5 _ _ _ hm hP hD hS (lv_sub hl [1, 2, 3, 0, 4, 5] rfl)
set_option maxHeartbeats 4000000 in
set_option maxRecDepth 100000 in
theorem w_Md_crossBelow_8 {p : Program} {l : Launch} {e : Env} {s : State} {m : MethodId} {args : Array Value} {below : List Frame} {meth : Method} {c : Code} {D : va_G} {cI cJ cB : ClassId} {sa : Nat → Nat × Nat} {A : Nat → Prop} (fl : Nat) (q_p0 : Nat) (q_p0_letters : Nat) (q_p0_simple : Nat) (i_p0_strands : Int32) (f_p0_simple : Nat → Int32) (i_p0_count : Int32) (i_p0_power : Int32) (i_p0_many : Int32) (res : Int32) (C0 : vz_Cx p s m meth c b_Md_crossBelow 6 (some .boolean) "LinkEngineModel" "crossBelow" D [(cI, .int), (cJ, .long), (cB, .byte)] sa A args) : ∀ (nn : Nat), ∀ (x1 : Int32) (x2 : Int32) (x3 : Int32) (x4 : Int32) (x5 : Int32) (H : Heap) (locs : List Loc) (ls : Array Slot), B_Md_crossBelow_8 fl i_p0_strands f_p0_simple nn x1 x2 x3 x4 x5 = some res → va_P D classes (ws_Md_crossBelow cI cJ cB q_p0 q_p0_letters q_p0_simple i_p0_strands i_p0_count i_p0_power i_p0_many f_p0_simple) H → va_D A (ws_Md_crossBelow cI cJ cB q_p0 q_p0_letters q_p0_simple i_p0_strands i_p0_count i_p0_power i_p0_many f_p0_simple) → va_S A s.heap H locs → lv_has ls 6 [(0, .ref q_p0), (1, .int x1), (2, .int x2), (3, .int x3), (4, .int x4), (5, .int x5)] → W p l e rm_Md_crossBelow s m args below meth c H locs 0 0 (MQ below (va_Qi (fun (r : Int32) (w : va_W) => r = res ∧ w = (ws_Md_crossBelow cI cJ cB q_p0 q_p0_letters q_p0_simple i_p0_strands i_p0_count i_p0_power i_p0_many f_p0_simple)) (vz_B D A) A) args s 0 0 A) (F0 m 8 ls []) := by
  obtain ⟨hx, hb, hr, hml, hown, ht, hlocks, hin, hN, hK, hA, hZ⟩ := id C0
  intro nn
  induction nn with
  | zero =>
    intro x1 x2 x3 x4 x5 H locs ls hm hP hD hS hl
    rw [B_Md_crossBelow_8] at hm
    cases hm
  | succ nn ih =>
    intro x1 x2 x3 x4 x5 H locs ls hm hP hD hS hl
    rw [B_Md_crossBelow_8] at hm
    refine lv_iload hx hb d_Md_crossBelow_8 (lv_at hl 5 rfl) ?_
    refine lv_aload_n hx hb d_Md_crossBelow_10 rfl (lv_at hl 0 rfl) ?_
    refine va_getN (D := D) (ci := 13) (v := .int i_p0_strands) (C := R_Md_Wo) (T := F_Md_Wo) (N := 6) hx hb ht i_Md_Wo hown hK hP 0 rfl rfl 0 (Nat.le_of_ble_eq_true rfl) (va_Nw.use rfl (hN _ n_25)) (fun _ h9 => h9) rfl d_Md_crossBelow_11 ?_
    refine lv_icmp_gt (tgt := 73) hx hb d_Md_crossBelow_14 (by decide) (fun hc => ?_) (fun hc => ?_)
    · rw [if_pos hc] at hm
      refine lv_iload_n hx hb d_Md_crossBelow_73 rfl (lv_at hl 3 rfl) ?_
      refine lv_iload hx hb d_Md_crossBelow_74 (lv_at hl 4 rfl) ?_
      refine lv_icmp_le (tgt := 83) hx hb d_Md_crossBelow_76 (by decide) (fun hc => ?_) (fun hc => ?_)
      · rw [if_pos hc] at hm
        refine lv_iconst (v := 0) hx hb d_Md_crossBelow_83 (by decide) ?_
        obtain rfl := Option.some.inj hm
        exact vz_iret hx hb hr rfl hlocks hP hD hS (Nat.le_refl _) (Nat.le_refl _) d_Md_crossBelow_84 ⟨rfl, rfl⟩
      · rw [if_neg hc] at hm
        refine lv_iconst (v := 1) hx hb d_Md_crossBelow_79 (by decide) ?_
        refine lv_goto (tgt := 84) hx hb d_Md_crossBelow_80 (by decide) ?_
        obtain rfl := Option.some.inj hm
        exact vz_iret hx hb hr rfl hlocks hP hD hS (Nat.le_refl _) (Nat.le_refl _) d_Md_crossBelow_84 ⟨rfl, rfl⟩
    · rw [if_neg hc] at hm
      refine lv_aload_n hx hb d_Md_crossBelow_17 rfl (lv_at hl 0 rfl) ?_
      refine va_getN (D := D) (ci := 13) (v := .ref q_p0_simple) (C := R_Md_Wo) (T := F_Md_Wo) (N := 6) hx hb ht i_Md_Wo hown hK hP 0 rfl rfl 5 (Nat.le_of_ble_eq_true rfl) (va_Nw.use rfl (hN _ n_43)) (fun _ h9 => h9) rfl d_Md_crossBelow_18 ?_
      refine lv_bipush (v := 9) hx hb d_Md_crossBelow_21 (by decide +kernel) ?_
      refine lv_iload_n hx hb d_Md_crossBelow_23 rfl (lv_at hl 1 rfl) ?_
      refine lv_imul hx hb d_Md_crossBelow_24 ?_
      refine lv_iload hx hb d_Md_crossBelow_25 (lv_at hl 5 rfl) ?_
      refine lv_iadd hx hb d_Md_crossBelow_27 ?_
      obtain ⟨hg, hm⟩ := vz_guard hm
      refine va_iald hx hb hK hP 1 0 rfl rfl hg d_Md_crossBelow_28 ?_
      refine lv_iload_n hx hb d_Md_crossBelow_29 rfl (lv_at hl 2 rfl) ?_
      refine lv_icmp_ne (tgt := 38) hx hb d_Md_crossBelow_30 (by decide) (fun hc => ?_) (fun hc => ?_)
      · rw [if_pos hc] at hm
        refine lv_iload_n hx hb d_Md_crossBelow_38 rfl (lv_at hl 3 rfl) ?_
        exact w_Md_crossBelow_39 fl q_p0 q_p0_letters q_p0_simple i_p0_strands f_p0_simple i_p0_count i_p0_power i_p0_many res C0 (B_Md_crossBelow_8 fl i_p0_strands f_p0_simple nn) ih x3 x1 x2 x3 x4 x5 _ _ _ hm hP hD hS (lv_sub hl [0, 1, 2, 3, 4, 5] rfl)
      · rw [if_neg (fun q => q hc)] at hm
        refine lv_iload hx hb d_Md_crossBelow_33 (lv_at hl 5 rfl) ?_
        refine lv_goto (tgt := 39) hx hb d_Md_crossBelow_35 (by decide) ?_
        exact w_Md_crossBelow_39 fl q_p0 q_p0_letters q_p0_simple i_p0_strands f_p0_simple i_p0_count i_p0_power i_p0_many res C0 (B_Md_crossBelow_8 fl i_p0_strands f_p0_simple nn) ih x5 x1 x2 x3 x4 x5 _ _ _ hm hP hD hS (lv_sub hl [0, 1, 2, 3, 4, 5] rfl)
set_option maxHeartbeats 4000000 in
set_option maxRecDepth 100000 in
theorem w_Md_crossBelow_0 {p : Program} {l : Launch} {e : Env} {s : State} {m : MethodId} {args : Array Value} {below : List Frame} {meth : Method} {c : Code} {D : va_G} {cI cJ cB : ClassId} {sa : Nat → Nat × Nat} {A : Nat → Prop} (fl : Nat) (q_p0 : Nat) (q_p0_letters : Nat) (q_p0_simple : Nat) (i_p0_strands : Int32) (f_p0_simple : Nat → Int32) (i_p0_count : Int32) (i_p0_power : Int32) (i_p0_many : Int32) (res : Int32) (C0 : vz_Cx p s m meth c b_Md_crossBelow 6 (some .boolean) "LinkEngineModel" "crossBelow" D [(cI, .int), (cJ, .long), (cB, .byte)] sa A args) : ∀ (x1 : Int32) (x2 : Int32) (H : Heap) (locs : List Loc) (ls : Array Slot), B_Md_crossBelow_0 fl i_p0_strands f_p0_simple x1 x2 = some res → va_P D classes (ws_Md_crossBelow cI cJ cB q_p0 q_p0_letters q_p0_simple i_p0_strands i_p0_count i_p0_power i_p0_many f_p0_simple) H → va_D A (ws_Md_crossBelow cI cJ cB q_p0 q_p0_letters q_p0_simple i_p0_strands i_p0_count i_p0_power i_p0_many f_p0_simple) → va_S A s.heap H locs → lv_has ls 6 [(0, .ref q_p0), (1, .int x1), (2, .int x2)] → W p l e rm_Md_crossBelow s m args below meth c H locs 0 0 (MQ below (va_Qi (fun (r : Int32) (w : va_W) => r = res ∧ w = (ws_Md_crossBelow cI cJ cB q_p0 q_p0_letters q_p0_simple i_p0_strands i_p0_count i_p0_power i_p0_many f_p0_simple)) (vz_B D A) A) args s 0 0 A) (F0 m 0 ls []) := by
  obtain ⟨hx, hb, hr, hml, hown, ht, hlocks, hin, hN, hK, hA, hZ⟩ := id C0
  intro x1 x2 H locs ls hm hP hD hS hl
  unfold B_Md_crossBelow_0 at hm
  refine lv_iconst (v := 0) hx hb d_Md_crossBelow_0 (by decide) ?_
  refine lv_istore_n (lv' := [(3, .int 0), (0, .ref q_p0), (1, .int x1), (2, .int x2)]) hx hb d_Md_crossBelow_1 rfl hl (by decide) rfl (fun ls hl => ?_)
  refine lv_iconst (v := 0) hx hb d_Md_crossBelow_2 (by decide) ?_
  refine lv_istore (lv' := [(4, .int 0), (3, .int 0), (0, .ref q_p0), (1, .int x1), (2, .int x2)]) hx hb d_Md_crossBelow_3 hl (by decide) rfl (fun ls hl => ?_)
  refine lv_iconst (v := 1) hx hb d_Md_crossBelow_5 (by decide) ?_
  refine lv_istore (lv' := [(5, .int 1), (4, .int 0), (3, .int 0), (0, .ref q_p0), (1, .int x1), (2, .int x2)]) hx hb d_Md_crossBelow_6 hl (by decide) rfl (fun ls hl => ?_)
  exact w_Md_crossBelow_8 fl q_p0 q_p0_letters q_p0_simple i_p0_strands f_p0_simple i_p0_count i_p0_power i_p0_many res C0 fl x1 x2 0 0 1 _ _ _ hm hP hD hS (lv_sub hl [3, 4, 5, 2, 1, 0] rfl)
set_option maxHeartbeats 4000000 in
set_option maxRecDepth 100000 in
theorem k_Md_crossBelow (l : Launch) (D : va_G) (cI cJ cB : ClassId) (sa : Nat → Nat × Nat) (fl : Nat) (q_p0 : Nat) (q_p0_letters : Nat) (q_p0_simple : Nat) (i_p0_strands : Int32) (f_p0_simple : Nat → Int32) (i_p0_count : Int32) (i_p0_power : Int32) (i_p0_many : Int32) (x1 : Int32) (x2 : Int32) (res : Int32) (hm : m_Md_crossBelow fl i_p0_strands f_p0_simple x1 x2 = some res) : MtI l y_Md_crossBelow (.code y_Md_crossBelow b_Md_crossBelow 6 (some .boolean) :: CW) rm_Md_crossBelow D [(cI, .int), (cJ, .long), (cB, .byte)] sa [.ref q_p0, .int x1, .int x2] (ws_Md_crossBelow cI cJ cB q_p0 q_p0_letters q_p0_simple i_p0_strands i_p0_count i_p0_power i_p0_many f_p0_simple) (fun (r : Int32) (w : va_W) => r = res ∧ w = (ws_Md_crossBelow cI cJ cB q_p0 q_p0_letters q_p0_simple i_p0_strands i_p0_count i_p0_power i_p0_many f_p0_simple)) := by
  intro sz
  refine vz_start (Qc := fun A => va_Qi (fun (r : Int32) (w : va_W) => r = res ∧ w = (ws_Md_crossBelow cI cJ cB q_p0 q_p0_letters q_p0_simple i_p0_strands i_p0_count i_p0_power i_p0_many f_p0_simple)) (vz_B D A) A) (lv0 := [(0, .ref q_p0), (1, .int x1), (2, .int x2)]) (by decide +kernel) (Nat.le_of_ble_eq_true rfl) rfl ?_
  intro p e s m below meth c A ls C0 hl
  obtain ⟨hx, hb, hr, hml, hown, ht, hlocks, hin, hN, hK, hP, hD, hA, hS, hZ⟩ := C0
  exact w_Md_crossBelow_0 fl q_p0 q_p0_letters q_p0_simple i_p0_strands f_p0_simple i_p0_count i_p0_power i_p0_many res ⟨hx, hb, hr, hml, hown, ht, hlocks, hin, hN, hK, hA, hZ⟩ x1 x2 s.heap [] ls hm hP hD hS (lv_sub hl [0, 1, 2] rfl)
def ws_Md_pass (cI cJ cB : ClassId) (q_p0 : Nat) (q_p0_letters : Nat) (q_p0_simple : Nat) (i_p0_strands : Int32) (i_p0_count : Int32) (i_p0_power : Int32) (i_p0_many : Int32) (f_p0_simple : Nat → Int32) : va_W := [(q_p0, .inr (13, [.int i_p0_strands, .int i_p0_count, .ref q_p0_letters, .int i_p0_power, .int i_p0_many, .ref q_p0_simple])), (q_p0_simple, .inl (cI, 216, .inl f_p0_simple))]
def rm_Md_pass : Room := { frames := 0, cells := 0, slots := 0, locals := 0 }
def B_Md_pass_65 (fl : Nat) (i_p0_strands : Int32) (kb_2 : Int32 → Int32 → Int32 → (Nat → Int32) → Option ((Nat → Int32))) (s0 : Int32) (s1 : Int32) (x1 : Int32) (x2 : Int32) (x3 : Int32) (x4 : Int32) (f_p0_simple : Nat → Int32) : Option ((Nat → Int32)) := (if ¬ (s1 < 0 ∨ 216 ≤ Int32.toNatClampNeg s1) then kb_2 x1 x2 (x3 + 1) (upd f_p0_simple (Int32.toNatClampNeg s1) s0) else none)
def B_Md_pass_2 (fl : Nat) (i_p0_strands : Int32) : Nat → Int32 → Int32 → Int32 → (Nat → Int32) → Option ((Nat → Int32))
  | 0, _, _, _, _ => none
  | nn + 1, x1, x2, x3, f_p0_simple => (if i_p0_strands < x3 then (if ¬ ((((9 : Int32) * x1) + x2) < 0 ∨ 216 ≤ Int32.toNatClampNeg (((9 : Int32) * x1) + x2)) then (if ¬ (((((9 : Int32) * x1) + x2) + (1 : Int32)) < 0 ∨ 216 ≤ Int32.toNatClampNeg ((((9 : Int32) * x1) + x2) + (1 : Int32))) then (if ¬ ((((9 : Int32) * x1) + x2) < 0 ∨ 216 ≤ Int32.toNatClampNeg (((9 : Int32) * x1) + x2)) then (if ¬ (((((9 : Int32) * x1) + x2) + (1 : Int32)) < 0 ∨ 216 ≤ Int32.toNatClampNeg ((((9 : Int32) * x1) + x2) + (1 : Int32))) then (some (upd (upd f_p0_simple (Int32.toNatClampNeg (((9 : Int32) * x1) + x2)) (f_p0_simple (Int32.toNatClampNeg ((((9 : Int32) * x1) + x2) + (1 : Int32))))) (Int32.toNatClampNeg ((((9 : Int32) * x1) + x2) + (1 : Int32))) (f_p0_simple (Int32.toNatClampNeg (((9 : Int32) * x1) + x2))))) else none) else none) else none) else none) else (if ¬ (((((9 : Int32) * x1) - (9 : Int32)) + x3) < 0 ∨ 216 ≤ Int32.toNatClampNeg ((((9 : Int32) * x1) - (9 : Int32)) + x3)) then (if ¬ (f_p0_simple (Int32.toNatClampNeg ((((9 : Int32) * x1) - (9 : Int32)) + x3))) = x2 then (if ¬ (f_p0_simple (Int32.toNatClampNeg ((((9 : Int32) * x1) - (9 : Int32)) + x3))) = (x2 + (1 : Int32)) then B_Md_pass_65 fl i_p0_strands (B_Md_pass_2 fl i_p0_strands nn) (f_p0_simple (Int32.toNatClampNeg ((((9 : Int32) * x1) - (9 : Int32)) + x3))) ((((9 : Int32) * x1) - (9 : Int32)) + x3) x1 x2 x3 (f_p0_simple (Int32.toNatClampNeg ((((9 : Int32) * x1) - (9 : Int32)) + x3))) f_p0_simple else B_Md_pass_65 fl i_p0_strands (B_Md_pass_2 fl i_p0_strands nn) x2 ((((9 : Int32) * x1) - (9 : Int32)) + x3) x1 x2 x3 (f_p0_simple (Int32.toNatClampNeg ((((9 : Int32) * x1) - (9 : Int32)) + x3))) f_p0_simple) else B_Md_pass_65 fl i_p0_strands (B_Md_pass_2 fl i_p0_strands nn) (x2 + (1 : Int32)) ((((9 : Int32) * x1) - (9 : Int32)) + x3) x1 x2 x3 (f_p0_simple (Int32.toNatClampNeg ((((9 : Int32) * x1) - (9 : Int32)) + x3))) f_p0_simple) else none))
def B_Md_pass_0 (fl : Nat) (i_p0_strands : Int32) (x1 : Int32) (x2 : Int32) (f_p0_simple : Nat → Int32) : Option ((Nat → Int32)) := B_Md_pass_2 fl i_p0_strands fl x1 x2 1 f_p0_simple
def m_Md_pass (fl : Nat) (i_p0_strands : Int32) (x1 : Int32) (x2 : Int32) (f_p0_simple : Nat → Int32) : Option ((Nat → Int32)) := B_Md_pass_0 fl i_p0_strands x1 x2 f_p0_simple
set_option maxHeartbeats 4000000 in
set_option maxRecDepth 100000 in
theorem w_Md_pass_65 {p : Program} {l : Launch} {e : Env} {s : State} {m : MethodId} {args : Array Value} {below : List Frame} {meth : Method} {c : Code} {D : va_G} {cI cJ cB : ClassId} {sa : Nat → Nat × Nat} {A : Nat → Prop} (fl : Nat) (q_p0 : Nat) (q_p0_letters : Nat) (q_p0_simple : Nat) (i_p0_strands : Int32) (i_p0_count : Int32) (i_p0_power : Int32) (i_p0_many : Int32) (res : (Nat → Int32)) (C0 : vz_Cx p s m meth c b_Md_pass 5 none "LinkEngineModel" "pass" D [(cI, .int), (cJ, .long), (cB, .byte)] sa A args) (kb_2 : Int32 → Int32 → Int32 → (Nat → Int32) → Option ((Nat → Int32))) (hk_2 : ∀ (x1 : Int32) (x2 : Int32) (x3 : Int32) (f_p0_simple : Nat → Int32) (H : Heap) (locs : List Loc) (ls : Array Slot), kb_2 x1 x2 x3 f_p0_simple = some res → va_P D classes (ws_Md_pass cI cJ cB q_p0 q_p0_letters q_p0_simple i_p0_strands i_p0_count i_p0_power i_p0_many f_p0_simple) H → va_D A (ws_Md_pass cI cJ cB q_p0 q_p0_letters q_p0_simple i_p0_strands i_p0_count i_p0_power i_p0_many f_p0_simple) → va_S A s.heap H locs → lv_has ls 5 [(0, .ref q_p0), (1, .int x1), (2, .int x2), (3, .int x3)] → W p l e rm_Md_pass s m args below meth c H locs 0 0 (MQ below (va_Qv (fun (w : va_W) => w = (ws_Md_pass cI cJ cB q_p0 q_p0_letters q_p0_simple i_p0_strands i_p0_count i_p0_power i_p0_many res)) (vz_B D A) A) args s 0 0 A) (F0 m 2 ls [])) : ∀ (s0 : Int32) (s1 : Int32) (x1 : Int32) (x2 : Int32) (x3 : Int32) (x4 : Int32) (f_p0_simple : Nat → Int32) (H : Heap) (locs : List Loc) (ls : Array Slot), B_Md_pass_65 fl i_p0_strands kb_2 s0 s1 x1 x2 x3 x4 f_p0_simple = some res → va_P D classes (ws_Md_pass cI cJ cB q_p0 q_p0_letters q_p0_simple i_p0_strands i_p0_count i_p0_power i_p0_many f_p0_simple) H → va_D A (ws_Md_pass cI cJ cB q_p0 q_p0_letters q_p0_simple i_p0_strands i_p0_count i_p0_power i_p0_many f_p0_simple) → va_S A s.heap H locs → lv_has ls 5 [(0, .ref q_p0), (1, .int x1), (2, .int x2), (3, .int x3), (4, .int x4)] → W p l e rm_Md_pass s m args below meth c H locs 0 0 (MQ below (va_Qv (fun (w : va_W) => w = (ws_Md_pass cI cJ cB q_p0 q_p0_letters q_p0_simple i_p0_strands i_p0_count i_p0_power i_p0_many res)) (vz_B D A) A) args s 0 0 A) (F0 m 65 ls [.int s0, .int s1, .ref q_p0_simple]) := by
  obtain ⟨hx, hb, hr, hml, hown, ht, hlocks, hin, hN, hK, hA, hZ⟩ := id C0
  intro s0 s1 x1 x2 x3 x4 f_p0_simple H locs ls hm hP hD hS hl
  unfold B_Md_pass_65 at hm
  obtain ⟨hg, hm⟩ := vz_guard hm
  refine va_iast hx hb hK hP hD hS 1 0 rfl rfl hg d_Md_pass_65 (fun H locs hP hD hS => ?_)
  have hP : va_P D classes (ws_Md_pass cI cJ cB q_p0 q_p0_letters q_p0_simple i_p0_strands i_p0_count i_p0_power i_p0_many (upd f_p0_simple (Int32.toNatClampNeg s1) s0)) H := hP
  have hD : va_D A (ws_Md_pass cI cJ cB q_p0 q_p0_letters q_p0_simple i_p0_strands i_p0_count i_p0_power i_p0_many (upd f_p0_simple (Int32.toNatClampNeg s1) s0)) := hD
  refine lv_iinc (v := (x3 + 1)) (lv' := [(3, .int (x3 + 1)), (0, .ref q_p0), (1, .int x1), (2, .int x2), (4, .int x4)]) hx hb d_Md_pass_66 hl (k := 3) rfl rfl (by decide) rfl (fun ls hl => ?_)
  refine lv_goto (tgt := 2) hx hb d_Md_pass_69 (by decide) ?_
  exact hk_2 x1 x2 (x3 + 1) (upd f_p0_simple (Int32.toNatClampNeg s1) s0) _ _ _ hm hP hD hS (lv_sub hl [1, 2, 3, 0] rfl)
set_option maxHeartbeats 4000000 in
set_option maxRecDepth 100000 in
theorem w_Md_pass_2 {p : Program} {l : Launch} {e : Env} {s : State} {m : MethodId} {args : Array Value} {below : List Frame} {meth : Method} {c : Code} {D : va_G} {cI cJ cB : ClassId} {sa : Nat → Nat × Nat} {A : Nat → Prop} (fl : Nat) (q_p0 : Nat) (q_p0_letters : Nat) (q_p0_simple : Nat) (i_p0_strands : Int32) (i_p0_count : Int32) (i_p0_power : Int32) (i_p0_many : Int32) (res : (Nat → Int32)) (C0 : vz_Cx p s m meth c b_Md_pass 5 none "LinkEngineModel" "pass" D [(cI, .int), (cJ, .long), (cB, .byte)] sa A args) : ∀ (nn : Nat), ∀ (x1 : Int32) (x2 : Int32) (x3 : Int32) (f_p0_simple : Nat → Int32) (H : Heap) (locs : List Loc) (ls : Array Slot), B_Md_pass_2 fl i_p0_strands nn x1 x2 x3 f_p0_simple = some res → va_P D classes (ws_Md_pass cI cJ cB q_p0 q_p0_letters q_p0_simple i_p0_strands i_p0_count i_p0_power i_p0_many f_p0_simple) H → va_D A (ws_Md_pass cI cJ cB q_p0 q_p0_letters q_p0_simple i_p0_strands i_p0_count i_p0_power i_p0_many f_p0_simple) → va_S A s.heap H locs → lv_has ls 5 [(0, .ref q_p0), (1, .int x1), (2, .int x2), (3, .int x3)] → W p l e rm_Md_pass s m args below meth c H locs 0 0 (MQ below (va_Qv (fun (w : va_W) => w = (ws_Md_pass cI cJ cB q_p0 q_p0_letters q_p0_simple i_p0_strands i_p0_count i_p0_power i_p0_many res)) (vz_B D A) A) args s 0 0 A) (F0 m 2 ls []) := by
  obtain ⟨hx, hb, hr, hml, hown, ht, hlocks, hin, hN, hK, hA, hZ⟩ := id C0
  intro nn
  induction nn with
  | zero =>
    intro x1 x2 x3 f_p0_simple H locs ls hm hP hD hS hl
    rw [B_Md_pass_2] at hm
    cases hm
  | succ nn ih =>
    intro x1 x2 x3 f_p0_simple H locs ls hm hP hD hS hl
    rw [B_Md_pass_2] at hm
    refine lv_iload_n hx hb d_Md_pass_2 rfl (lv_at hl 3 rfl) ?_
    refine lv_aload_n hx hb d_Md_pass_3 rfl (lv_at hl 0 rfl) ?_
    refine va_getN (D := D) (ci := 13) (v := .int i_p0_strands) (C := R_Md_Wo) (T := F_Md_Wo) (N := 6) hx hb ht i_Md_Wo hown hK hP 0 rfl rfl 0 (Nat.le_of_ble_eq_true rfl) (va_Nw.use rfl (hN _ n_25)) (fun _ h9 => h9) rfl d_Md_pass_4 ?_
    refine lv_icmp_gt (tgt := 72) hx hb d_Md_pass_7 (by decide) (fun hc => ?_) (fun hc => ?_)
    · rw [if_pos hc] at hm
      refine lv_aload_n hx hb d_Md_pass_72 rfl (lv_at hl 0 rfl) ?_
      refine va_getN (D := D) (ci := 13) (v := .ref q_p0_simple) (C := R_Md_Wo) (T := F_Md_Wo) (N := 6) hx hb ht i_Md_Wo hown hK hP 0 rfl rfl 5 (Nat.le_of_ble_eq_true rfl) (va_Nw.use rfl (hN _ n_43)) (fun _ h9 => h9) rfl d_Md_pass_73 ?_
      refine lv_bipush (v := 9) hx hb d_Md_pass_76 (by decide +kernel) ?_
      refine lv_iload_n hx hb d_Md_pass_78 rfl (lv_at hl 1 rfl) ?_
      refine lv_imul hx hb d_Md_pass_79 ?_
      refine lv_iload_n hx hb d_Md_pass_80 rfl (lv_at hl 2 rfl) ?_
      refine lv_iadd hx hb d_Md_pass_81 ?_
      obtain ⟨hg, hm⟩ := vz_guard hm
      refine va_iald hx hb hK hP 1 0 rfl rfl hg d_Md_pass_82 ?_
      refine lv_istore_n (lv' := [(3, .int (f_p0_simple (Int32.toNatClampNeg (((9 : Int32) * x1) + x2)))), (0, .ref q_p0), (1, .int x1), (2, .int x2)]) hx hb d_Md_pass_83 rfl hl (by decide) rfl (fun ls hl => ?_)
      refine lv_aload_n hx hb d_Md_pass_84 rfl (lv_at hl 1 rfl) ?_
      refine va_getN (D := D) (ci := 13) (v := .ref q_p0_simple) (C := R_Md_Wo) (T := F_Md_Wo) (N := 6) hx hb ht i_Md_Wo hown hK hP 0 rfl rfl 5 (Nat.le_of_ble_eq_true rfl) (va_Nw.use rfl (hN _ n_43)) (fun _ h9 => h9) rfl d_Md_pass_85 ?_
      refine lv_bipush (v := 9) hx hb d_Md_pass_88 (by decide +kernel) ?_
      refine lv_iload_n hx hb d_Md_pass_90 rfl (lv_at hl 2 rfl) ?_
      refine lv_imul hx hb d_Md_pass_91 ?_
      refine lv_iload_n hx hb d_Md_pass_92 rfl (lv_at hl 3 rfl) ?_
      refine lv_iadd hx hb d_Md_pass_93 ?_
      refine lv_aload_n hx hb d_Md_pass_94 rfl (lv_at hl 1 rfl) ?_
      refine va_getN (D := D) (ci := 13) (v := .ref q_p0_simple) (C := R_Md_Wo) (T := F_Md_Wo) (N := 6) hx hb ht i_Md_Wo hown hK hP 0 rfl rfl 5 (Nat.le_of_ble_eq_true rfl) (va_Nw.use rfl (hN _ n_43)) (fun _ h9 => h9) rfl d_Md_pass_95 ?_
      refine lv_bipush (v := 9) hx hb d_Md_pass_98 (by decide +kernel) ?_
      refine lv_iload_n hx hb d_Md_pass_100 rfl (lv_at hl 2 rfl) ?_
      refine lv_imul hx hb d_Md_pass_101 ?_
      refine lv_iload_n hx hb d_Md_pass_102 rfl (lv_at hl 3 rfl) ?_
      refine lv_iadd hx hb d_Md_pass_103 ?_
      refine lv_iconst (v := 1) hx hb d_Md_pass_104 (by decide) ?_
      refine lv_iadd hx hb d_Md_pass_105 ?_
      obtain ⟨hg, hm⟩ := vz_guard hm
      refine va_iald hx hb hK hP 1 0 rfl rfl hg d_Md_pass_106 ?_
      obtain ⟨hg, hm⟩ := vz_guard hm
      refine va_iast hx hb hK hP hD hS 1 0 rfl rfl hg d_Md_pass_107 (fun H locs hP hD hS => ?_)
      have hP : va_P D classes (ws_Md_pass cI cJ cB q_p0 q_p0_letters q_p0_simple i_p0_strands i_p0_count i_p0_power i_p0_many (upd f_p0_simple (Int32.toNatClampNeg (((9 : Int32) * x1) + x2)) (f_p0_simple (Int32.toNatClampNeg ((((9 : Int32) * x1) + x2) + (1 : Int32)))))) H := hP
      have hD : va_D A (ws_Md_pass cI cJ cB q_p0 q_p0_letters q_p0_simple i_p0_strands i_p0_count i_p0_power i_p0_many (upd f_p0_simple (Int32.toNatClampNeg (((9 : Int32) * x1) + x2)) (f_p0_simple (Int32.toNatClampNeg ((((9 : Int32) * x1) + x2) + (1 : Int32)))))) := hD
      refine lv_aload_n hx hb d_Md_pass_108 rfl (lv_at hl 1 rfl) ?_
      refine va_getN (D := D) (ci := 13) (v := .ref q_p0_simple) (C := R_Md_Wo) (T := F_Md_Wo) (N := 6) hx hb ht i_Md_Wo hown hK hP 0 rfl rfl 5 (Nat.le_of_ble_eq_true rfl) (va_Nw.use rfl (hN _ n_43)) (fun _ h9 => h9) rfl d_Md_pass_109 ?_
      refine lv_bipush (v := 9) hx hb d_Md_pass_112 (by decide +kernel) ?_
      refine lv_iload_n hx hb d_Md_pass_114 rfl (lv_at hl 2 rfl) ?_
      refine lv_imul hx hb d_Md_pass_115 ?_
      refine lv_iload_n hx hb d_Md_pass_116 rfl (lv_at hl 3 rfl) ?_
      refine lv_iadd hx hb d_Md_pass_117 ?_
      refine lv_iconst (v := 1) hx hb d_Md_pass_118 (by decide) ?_
      refine lv_iadd hx hb d_Md_pass_119 ?_
      refine lv_iload_n hx hb d_Md_pass_120 rfl (lv_at hl 0 rfl) ?_
      obtain ⟨hg, hm⟩ := vz_guard hm
      refine va_iast hx hb hK hP hD hS 1 0 rfl rfl hg d_Md_pass_121 (fun H locs hP hD hS => ?_)
      have hP : va_P D classes (ws_Md_pass cI cJ cB q_p0 q_p0_letters q_p0_simple i_p0_strands i_p0_count i_p0_power i_p0_many (upd (upd f_p0_simple (Int32.toNatClampNeg (((9 : Int32) * x1) + x2)) (f_p0_simple (Int32.toNatClampNeg ((((9 : Int32) * x1) + x2) + (1 : Int32))))) (Int32.toNatClampNeg ((((9 : Int32) * x1) + x2) + (1 : Int32))) (f_p0_simple (Int32.toNatClampNeg (((9 : Int32) * x1) + x2))))) H := hP
      have hD : va_D A (ws_Md_pass cI cJ cB q_p0 q_p0_letters q_p0_simple i_p0_strands i_p0_count i_p0_power i_p0_many (upd (upd f_p0_simple (Int32.toNatClampNeg (((9 : Int32) * x1) + x2)) (f_p0_simple (Int32.toNatClampNeg ((((9 : Int32) * x1) + x2) + (1 : Int32))))) (Int32.toNatClampNeg ((((9 : Int32) * x1) + x2) + (1 : Int32))) (f_p0_simple (Int32.toNatClampNeg (((9 : Int32) * x1) + x2))))) := hD
      obtain rfl := Option.some.inj hm
      exact vz_vret hx hb hr hlocks hP hD hS (Nat.le_refl _) (Nat.le_refl _) d_Md_pass_122 rfl
    · rw [if_neg hc] at hm
      refine lv_aload_n hx hb d_Md_pass_10 rfl (lv_at hl 0 rfl) ?_
      refine va_getN (D := D) (ci := 13) (v := .ref q_p0_simple) (C := R_Md_Wo) (T := F_Md_Wo) (N := 6) hx hb ht i_Md_Wo hown hK hP 0 rfl rfl 5 (Nat.le_of_ble_eq_true rfl) (va_Nw.use rfl (hN _ n_43)) (fun _ h9 => h9) rfl d_Md_pass_11 ?_
      refine lv_bipush (v := 9) hx hb d_Md_pass_14 (by decide +kernel) ?_
      refine lv_iload_n hx hb d_Md_pass_16 rfl (lv_at hl 1 rfl) ?_
      refine lv_imul hx hb d_Md_pass_17 ?_
      refine lv_bipush (v := 9) hx hb d_Md_pass_18 (by decide +kernel) ?_
      refine lv_isub hx hb d_Md_pass_20 ?_
      refine lv_iload_n hx hb d_Md_pass_21 rfl (lv_at hl 3 rfl) ?_
      refine lv_iadd hx hb d_Md_pass_22 ?_
      obtain ⟨hg, hm⟩ := vz_guard hm
      refine va_iald hx hb hK hP 1 0 rfl rfl hg d_Md_pass_23 ?_
      refine lv_istore (lv' := [(4, .int (f_p0_simple (Int32.toNatClampNeg ((((9 : Int32) * x1) - (9 : Int32)) + x3)))), (0, .ref q_p0), (1, .int x1), (2, .int x2), (3, .int x3)]) hx hb d_Md_pass_24 hl (by decide) rfl (fun ls hl => ?_)
      refine lv_aload_n hx hb d_Md_pass_26 rfl (lv_at hl 1 rfl) ?_
      refine va_getN (D := D) (ci := 13) (v := .ref q_p0_simple) (C := R_Md_Wo) (T := F_Md_Wo) (N := 6) hx hb ht i_Md_Wo hown hK hP 0 rfl rfl 5 (Nat.le_of_ble_eq_true rfl) (va_Nw.use rfl (hN _ n_43)) (fun _ h9 => h9) rfl d_Md_pass_27 ?_
      refine lv_bipush (v := 9) hx hb d_Md_pass_30 (by decide +kernel) ?_
      refine lv_iload_n hx hb d_Md_pass_32 rfl (lv_at hl 2 rfl) ?_
      refine lv_imul hx hb d_Md_pass_33 ?_
      refine lv_bipush (v := 9) hx hb d_Md_pass_34 (by decide +kernel) ?_
      refine lv_isub hx hb d_Md_pass_36 ?_
      refine lv_iload_n hx hb d_Md_pass_37 rfl (lv_at hl 4 rfl) ?_
      refine lv_iadd hx hb d_Md_pass_38 ?_
      refine lv_iload hx hb d_Md_pass_39 (lv_at hl 0 rfl) ?_
      refine lv_iload_n hx hb d_Md_pass_41 rfl (lv_at hl 3 rfl) ?_
      refine lv_icmp_ne (tgt := 51) hx hb d_Md_pass_42 (by decide) (fun hc => ?_) (fun hc => ?_)
      · rw [if_pos hc] at hm
        refine lv_iload hx hb d_Md_pass_51 (lv_at hl 0 rfl) ?_
        refine lv_iload_n hx hb d_Md_pass_53 rfl (lv_at hl 3 rfl) ?_
        refine lv_iconst (v := 1) hx hb d_Md_pass_54 (by decide) ?_
        refine lv_iadd hx hb d_Md_pass_55 ?_
        refine lv_icmp_ne (tgt := 63) hx hb d_Md_pass_56 (by decide) (fun hc => ?_) (fun hc => ?_)
        · rw [if_pos hc] at hm
          refine lv_iload hx hb d_Md_pass_63 (lv_at hl 0 rfl) ?_
          exact w_Md_pass_65 fl q_p0 q_p0_letters q_p0_simple i_p0_strands i_p0_count i_p0_power i_p0_many res C0 (B_Md_pass_2 fl i_p0_strands nn) ih (f_p0_simple (Int32.toNatClampNeg ((((9 : Int32) * x1) - (9 : Int32)) + x3))) ((((9 : Int32) * x1) - (9 : Int32)) + x3) x1 x2 x3 (f_p0_simple (Int32.toNatClampNeg ((((9 : Int32) * x1) - (9 : Int32)) + x3))) f_p0_simple _ _ _ hm hP hD hS (lv_sub hl [1, 2, 3, 4, 0] rfl)
        · rw [if_neg (fun q => q hc)] at hm
          refine lv_iload_n hx hb d_Md_pass_59 rfl (lv_at hl 3 rfl) ?_
          refine lv_goto (tgt := 65) hx hb d_Md_pass_60 (by decide) ?_
          exact w_Md_pass_65 fl q_p0 q_p0_letters q_p0_simple i_p0_strands i_p0_count i_p0_power i_p0_many res C0 (B_Md_pass_2 fl i_p0_strands nn) ih x2 ((((9 : Int32) * x1) - (9 : Int32)) + x3) x1 x2 x3 (f_p0_simple (Int32.toNatClampNeg ((((9 : Int32) * x1) - (9 : Int32)) + x3))) f_p0_simple _ _ _ hm hP hD hS (lv_sub hl [1, 2, 3, 4, 0] rfl)
      · rw [if_neg (fun q => q hc)] at hm
        refine lv_iload_n hx hb d_Md_pass_45 rfl (lv_at hl 3 rfl) ?_
        refine lv_iconst (v := 1) hx hb d_Md_pass_46 (by decide) ?_
        refine lv_iadd hx hb d_Md_pass_47 ?_
        refine lv_goto (tgt := 65) hx hb d_Md_pass_48 (by decide) ?_
        exact w_Md_pass_65 fl q_p0 q_p0_letters q_p0_simple i_p0_strands i_p0_count i_p0_power i_p0_many res C0 (B_Md_pass_2 fl i_p0_strands nn) ih (x2 + (1 : Int32)) ((((9 : Int32) * x1) - (9 : Int32)) + x3) x1 x2 x3 (f_p0_simple (Int32.toNatClampNeg ((((9 : Int32) * x1) - (9 : Int32)) + x3))) f_p0_simple _ _ _ hm hP hD hS (lv_sub hl [1, 2, 3, 4, 0] rfl)
set_option maxHeartbeats 4000000 in
set_option maxRecDepth 100000 in
theorem w_Md_pass_0 {p : Program} {l : Launch} {e : Env} {s : State} {m : MethodId} {args : Array Value} {below : List Frame} {meth : Method} {c : Code} {D : va_G} {cI cJ cB : ClassId} {sa : Nat → Nat × Nat} {A : Nat → Prop} (fl : Nat) (q_p0 : Nat) (q_p0_letters : Nat) (q_p0_simple : Nat) (i_p0_strands : Int32) (i_p0_count : Int32) (i_p0_power : Int32) (i_p0_many : Int32) (res : (Nat → Int32)) (C0 : vz_Cx p s m meth c b_Md_pass 5 none "LinkEngineModel" "pass" D [(cI, .int), (cJ, .long), (cB, .byte)] sa A args) : ∀ (x1 : Int32) (x2 : Int32) (f_p0_simple : Nat → Int32) (H : Heap) (locs : List Loc) (ls : Array Slot), B_Md_pass_0 fl i_p0_strands x1 x2 f_p0_simple = some res → va_P D classes (ws_Md_pass cI cJ cB q_p0 q_p0_letters q_p0_simple i_p0_strands i_p0_count i_p0_power i_p0_many f_p0_simple) H → va_D A (ws_Md_pass cI cJ cB q_p0 q_p0_letters q_p0_simple i_p0_strands i_p0_count i_p0_power i_p0_many f_p0_simple) → va_S A s.heap H locs → lv_has ls 5 [(0, .ref q_p0), (1, .int x1), (2, .int x2)] → W p l e rm_Md_pass s m args below meth c H locs 0 0 (MQ below (va_Qv (fun (w : va_W) => w = (ws_Md_pass cI cJ cB q_p0 q_p0_letters q_p0_simple i_p0_strands i_p0_count i_p0_power i_p0_many res)) (vz_B D A) A) args s 0 0 A) (F0 m 0 ls []) := by
  obtain ⟨hx, hb, hr, hml, hown, ht, hlocks, hin, hN, hK, hA, hZ⟩ := id C0
  intro x1 x2 f_p0_simple H locs ls hm hP hD hS hl
  unfold B_Md_pass_0 at hm
  refine lv_iconst (v := 1) hx hb d_Md_pass_0 (by decide) ?_
  refine lv_istore_n (lv' := [(3, .int 1), (0, .ref q_p0), (1, .int x1), (2, .int x2)]) hx hb d_Md_pass_1 rfl hl (by decide) rfl (fun ls hl => ?_)
  exact w_Md_pass_2 fl q_p0 q_p0_letters q_p0_simple i_p0_strands i_p0_count i_p0_power i_p0_many res C0 fl x1 x2 1 f_p0_simple _ _ _ hm hP hD hS (lv_sub hl [1, 2, 3, 0] rfl)
set_option maxHeartbeats 4000000 in
set_option maxRecDepth 100000 in
theorem k_Md_pass (l : Launch) (D : va_G) (cI cJ cB : ClassId) (sa : Nat → Nat × Nat) (fl : Nat) (q_p0 : Nat) (q_p0_letters : Nat) (q_p0_simple : Nat) (i_p0_strands : Int32) (i_p0_count : Int32) (i_p0_power : Int32) (i_p0_many : Int32) (f_p0_simple : Nat → Int32) (x1 : Int32) (x2 : Int32) (res : (Nat → Int32)) (hm : m_Md_pass fl i_p0_strands x1 x2 f_p0_simple = some res) : MtV l y_Md_pass (.code y_Md_pass b_Md_pass 5 none :: CW) rm_Md_pass D [(cI, .int), (cJ, .long), (cB, .byte)] sa [.ref q_p0, .int x1, .int x2] (ws_Md_pass cI cJ cB q_p0 q_p0_letters q_p0_simple i_p0_strands i_p0_count i_p0_power i_p0_many f_p0_simple) (fun (w : va_W) => w = (ws_Md_pass cI cJ cB q_p0 q_p0_letters q_p0_simple i_p0_strands i_p0_count i_p0_power i_p0_many res)) := by
  intro sz
  refine vz_start (Qc := fun A => va_Qv (fun (w : va_W) => w = (ws_Md_pass cI cJ cB q_p0 q_p0_letters q_p0_simple i_p0_strands i_p0_count i_p0_power i_p0_many res)) (vz_B D A) A) (lv0 := [(0, .ref q_p0), (1, .int x1), (2, .int x2)]) (by decide +kernel) (Nat.le_of_ble_eq_true rfl) rfl ?_
  intro p e s m below meth c A ls C0 hl
  obtain ⟨hx, hb, hr, hml, hown, ht, hlocks, hin, hN, hK, hP, hD, hA, hS, hZ⟩ := C0
  exact w_Md_pass_0 fl q_p0 q_p0_letters q_p0_simple i_p0_strands i_p0_count i_p0_power i_p0_many res ⟨hx, hb, hr, hml, hown, ht, hlocks, hin, hN, hK, hA, hZ⟩ x1 x2 f_p0_simple s.heap [] ls hm hP hD hS (lv_sub hl [0, 1, 2] rfl)
def ws_Md_isTurn (cI cJ cB : ClassId) (q_p0 : Nat) (q_p0_letters : Nat) (q_p0_simple : Nat) (i_p0_strands : Int32) (i_p0_count : Int32) (i_p0_power : Int32) (i_p0_many : Int32) (f_p0_simple : Nat → Int32) : va_W := [(q_p0, .inr (13, [.int i_p0_strands, .int i_p0_count, .ref q_p0_letters, .int i_p0_power, .int i_p0_many, .ref q_p0_simple])), (q_p0_simple, .inl (cI, 216, .inl f_p0_simple))]
def rm_Md_isTurn : Room := { frames := 0, cells := 0, slots := 0, locals := 0 }
def B_Md_isTurn_43 (fl : Nat) (i_p0_strands : Int32) (f_p0_simple : Nat → Int32) (kb_4 : Int32 → Int32 → Int32 → Option (Int32)) (s0 : Int32) (x1 : Int32) (x2 : Int32) (x3 : Int32) : Option (Int32) := kb_4 x1 s0 (x3 + 1)
def B_Md_isTurn_42 (fl : Nat) (i_p0_strands : Int32) (f_p0_simple : Nat → Int32) (kb_4 : Int32 → Int32 → Int32 → Option (Int32)) (x1 : Int32) (x2 : Int32) (x3 : Int32) : Option (Int32) := B_Md_isTurn_43 fl i_p0_strands f_p0_simple kb_4 0 x1 x2 x3
def B_Md_isTurn_4 (fl : Nat) (i_p0_strands : Int32) (f_p0_simple : Nat → Int32) : Nat → Int32 → Int32 → Int32 → Option (Int32)
  | 0, _, _, _ => none
  | nn + 1, x1, x2, x3 => (if i_p0_strands < x3 then (if x2 = 0 ∨ x2 = 1 then (some x2) else none) else (if x2 = (0 : Int32) then B_Md_isTurn_42 fl i_p0_strands f_p0_simple (B_Md_isTurn_4 fl i_p0_strands f_p0_simple nn) x1 x2 x3 else (if ¬ ((((9 : Int32) * x1) + x3) < 0 ∨ 216 ≤ Int32.toNatClampNeg (((9 : Int32) * x1) + x3)) then (if ¬ (f_p0_simple (Int32.toNatClampNeg (((9 : Int32) * x1) + x3))) = ((i_p0_strands + (1 : Int32)) - x3) then B_Md_isTurn_42 fl i_p0_strands f_p0_simple (B_Md_isTurn_4 fl i_p0_strands f_p0_simple nn) x1 x2 x3 else B_Md_isTurn_43 fl i_p0_strands f_p0_simple (B_Md_isTurn_4 fl i_p0_strands f_p0_simple nn) 1 x1 x2 x3) else none)))
def B_Md_isTurn_0 (fl : Nat) (i_p0_strands : Int32) (f_p0_simple : Nat → Int32) (x1 : Int32) : Option (Int32) := B_Md_isTurn_4 fl i_p0_strands f_p0_simple fl x1 1 1
def m_Md_isTurn (fl : Nat) (i_p0_strands : Int32) (f_p0_simple : Nat → Int32) (x1 : Int32) : Option (Int32) := B_Md_isTurn_0 fl i_p0_strands f_p0_simple x1
set_option maxHeartbeats 4000000 in
set_option maxRecDepth 100000 in
theorem w_Md_isTurn_43 {p : Program} {l : Launch} {e : Env} {s : State} {m : MethodId} {args : Array Value} {below : List Frame} {meth : Method} {c : Code} {D : va_G} {cI cJ cB : ClassId} {sa : Nat → Nat × Nat} {A : Nat → Prop} (fl : Nat) (q_p0 : Nat) (q_p0_letters : Nat) (q_p0_simple : Nat) (i_p0_strands : Int32) (f_p0_simple : Nat → Int32) (i_p0_count : Int32) (i_p0_power : Int32) (i_p0_many : Int32) (res : Int32) (C0 : vz_Cx p s m meth c b_Md_isTurn 4 (some .boolean) "LinkEngineModel" "isTurn" D [(cI, .int), (cJ, .long), (cB, .byte)] sa A args) (kb_4 : Int32 → Int32 → Int32 → Option (Int32)) (hk_4 : ∀ (x1 : Int32) (x2 : Int32) (x3 : Int32) (H : Heap) (locs : List Loc) (ls : Array Slot), kb_4 x1 x2 x3 = some res → va_P D classes (ws_Md_isTurn cI cJ cB q_p0 q_p0_letters q_p0_simple i_p0_strands i_p0_count i_p0_power i_p0_many f_p0_simple) H → va_D A (ws_Md_isTurn cI cJ cB q_p0 q_p0_letters q_p0_simple i_p0_strands i_p0_count i_p0_power i_p0_many f_p0_simple) → va_S A s.heap H locs → lv_has ls 4 [(0, .ref q_p0), (1, .int x1), (2, .int x2), (3, .int x3)] → W p l e rm_Md_isTurn s m args below meth c H locs 0 0 (MQ below (va_Qi (fun (r : Int32) (w : va_W) => r = res ∧ w = (ws_Md_isTurn cI cJ cB q_p0 q_p0_letters q_p0_simple i_p0_strands i_p0_count i_p0_power i_p0_many f_p0_simple)) (vz_B D A) A) args s 0 0 A) (F0 m 4 ls [])) : ∀ (s0 : Int32) (x1 : Int32) (x2 : Int32) (x3 : Int32) (H : Heap) (locs : List Loc) (ls : Array Slot), B_Md_isTurn_43 fl i_p0_strands f_p0_simple kb_4 s0 x1 x2 x3 = some res → va_P D classes (ws_Md_isTurn cI cJ cB q_p0 q_p0_letters q_p0_simple i_p0_strands i_p0_count i_p0_power i_p0_many f_p0_simple) H → va_D A (ws_Md_isTurn cI cJ cB q_p0 q_p0_letters q_p0_simple i_p0_strands i_p0_count i_p0_power i_p0_many f_p0_simple) → va_S A s.heap H locs → lv_has ls 4 [(0, .ref q_p0), (1, .int x1), (2, .int x2), (3, .int x3)] → W p l e rm_Md_isTurn s m args below meth c H locs 0 0 (MQ below (va_Qi (fun (r : Int32) (w : va_W) => r = res ∧ w = (ws_Md_isTurn cI cJ cB q_p0 q_p0_letters q_p0_simple i_p0_strands i_p0_count i_p0_power i_p0_many f_p0_simple)) (vz_B D A) A) args s 0 0 A) (F0 m 43 ls [.int s0]) := by
  obtain ⟨hx, hb, hr, hml, hown, ht, hlocks, hin, hN, hK, hA, hZ⟩ := id C0
  intro s0 x1 x2 x3 H locs ls hm hP hD hS hl
  unfold B_Md_isTurn_43 at hm
  refine lv_istore_n (lv' := [(2, .int s0), (0, .ref q_p0), (1, .int x1), (3, .int x3)]) hx hb d_Md_isTurn_43 rfl hl (by decide) rfl (fun ls hl => ?_)
  refine lv_iinc (v := (x3 + 1)) (lv' := [(3, .int (x3 + 1)), (2, .int s0), (0, .ref q_p0), (1, .int x1)]) hx hb d_Md_isTurn_44 hl (k := 3) rfl rfl (by decide) rfl (fun ls hl => ?_)
  refine lv_goto (tgt := 4) hx hb d_Md_isTurn_47 (by decide) ?_
  exact hk_4 x1 s0 (x3 + 1) _ _ _ hm hP hD hS (lv_sub hl [2, 3, 1, 0] rfl)
set_option maxHeartbeats 4000000 in
set_option maxRecDepth 100000 in
theorem w_Md_isTurn_42 {p : Program} {l : Launch} {e : Env} {s : State} {m : MethodId} {args : Array Value} {below : List Frame} {meth : Method} {c : Code} {D : va_G} {cI cJ cB : ClassId} {sa : Nat → Nat × Nat} {A : Nat → Prop} (fl : Nat) (q_p0 : Nat) (q_p0_letters : Nat) (q_p0_simple : Nat) (i_p0_strands : Int32) (f_p0_simple : Nat → Int32) (i_p0_count : Int32) (i_p0_power : Int32) (i_p0_many : Int32) (res : Int32) (C0 : vz_Cx p s m meth c b_Md_isTurn 4 (some .boolean) "LinkEngineModel" "isTurn" D [(cI, .int), (cJ, .long), (cB, .byte)] sa A args) (kb_4 : Int32 → Int32 → Int32 → Option (Int32)) (hk_4 : ∀ (x1 : Int32) (x2 : Int32) (x3 : Int32) (H : Heap) (locs : List Loc) (ls : Array Slot), kb_4 x1 x2 x3 = some res → va_P D classes (ws_Md_isTurn cI cJ cB q_p0 q_p0_letters q_p0_simple i_p0_strands i_p0_count i_p0_power i_p0_many f_p0_simple) H → va_D A (ws_Md_isTurn cI cJ cB q_p0 q_p0_letters q_p0_simple i_p0_strands i_p0_count i_p0_power i_p0_many f_p0_simple) → va_S A s.heap H locs → lv_has ls 4 [(0, .ref q_p0), (1, .int x1), (2, .int x2), (3, .int x3)] → W p l e rm_Md_isTurn s m args below meth c H locs 0 0 (MQ below (va_Qi (fun (r : Int32) (w : va_W) => r = res ∧ w = (ws_Md_isTurn cI cJ cB q_p0 q_p0_letters q_p0_simple i_p0_strands i_p0_count i_p0_power i_p0_many f_p0_simple)) (vz_B D A) A) args s 0 0 A) (F0 m 4 ls [])) : ∀ (x1 : Int32) (x2 : Int32) (x3 : Int32) (H : Heap) (locs : List Loc) (ls : Array Slot), B_Md_isTurn_42 fl i_p0_strands f_p0_simple kb_4 x1 x2 x3 = some res → va_P D classes (ws_Md_isTurn cI cJ cB q_p0 q_p0_letters q_p0_simple i_p0_strands i_p0_count i_p0_power i_p0_many f_p0_simple) H → va_D A (ws_Md_isTurn cI cJ cB q_p0 q_p0_letters q_p0_simple i_p0_strands i_p0_count i_p0_power i_p0_many f_p0_simple) → va_S A s.heap H locs → lv_has ls 4 [(0, .ref q_p0), (1, .int x1), (2, .int x2), (3, .int x3)] → W p l e rm_Md_isTurn s m args below meth c H locs 0 0 (MQ below (va_Qi (fun (r : Int32) (w : va_W) => r = res ∧ w = (ws_Md_isTurn cI cJ cB q_p0 q_p0_letters q_p0_simple i_p0_strands i_p0_count i_p0_power i_p0_many f_p0_simple)) (vz_B D A) A) args s 0 0 A) (F0 m 42 ls []) := by
  obtain ⟨hx, hb, hr, hml, hown, ht, hlocks, hin, hN, hK, hA, hZ⟩ := id C0
  intro x1 x2 x3 H locs ls hm hP hD hS hl
  unfold B_Md_isTurn_42 at hm
  refine lv_iconst (v := 0) hx hb d_Md_isTurn_42 (by decide) ?_
  exact w_Md_isTurn_43 fl q_p0 q_p0_letters q_p0_simple i_p0_strands f_p0_simple i_p0_count i_p0_power i_p0_many res C0 kb_4 hk_4 0 x1 x2 x3 _ _ _ hm hP hD hS (lv_sub hl [0, 1, 2, 3] rfl)
set_option maxHeartbeats 4000000 in
set_option maxRecDepth 100000 in
theorem w_Md_isTurn_4 {p : Program} {l : Launch} {e : Env} {s : State} {m : MethodId} {args : Array Value} {below : List Frame} {meth : Method} {c : Code} {D : va_G} {cI cJ cB : ClassId} {sa : Nat → Nat × Nat} {A : Nat → Prop} (fl : Nat) (q_p0 : Nat) (q_p0_letters : Nat) (q_p0_simple : Nat) (i_p0_strands : Int32) (f_p0_simple : Nat → Int32) (i_p0_count : Int32) (i_p0_power : Int32) (i_p0_many : Int32) (res : Int32) (C0 : vz_Cx p s m meth c b_Md_isTurn 4 (some .boolean) "LinkEngineModel" "isTurn" D [(cI, .int), (cJ, .long), (cB, .byte)] sa A args) : ∀ (nn : Nat), ∀ (x1 : Int32) (x2 : Int32) (x3 : Int32) (H : Heap) (locs : List Loc) (ls : Array Slot), B_Md_isTurn_4 fl i_p0_strands f_p0_simple nn x1 x2 x3 = some res → va_P D classes (ws_Md_isTurn cI cJ cB q_p0 q_p0_letters q_p0_simple i_p0_strands i_p0_count i_p0_power i_p0_many f_p0_simple) H → va_D A (ws_Md_isTurn cI cJ cB q_p0 q_p0_letters q_p0_simple i_p0_strands i_p0_count i_p0_power i_p0_many f_p0_simple) → va_S A s.heap H locs → lv_has ls 4 [(0, .ref q_p0), (1, .int x1), (2, .int x2), (3, .int x3)] → W p l e rm_Md_isTurn s m args below meth c H locs 0 0 (MQ below (va_Qi (fun (r : Int32) (w : va_W) => r = res ∧ w = (ws_Md_isTurn cI cJ cB q_p0 q_p0_letters q_p0_simple i_p0_strands i_p0_count i_p0_power i_p0_many f_p0_simple)) (vz_B D A) A) args s 0 0 A) (F0 m 4 ls []) := by
  obtain ⟨hx, hb, hr, hml, hown, ht, hlocks, hin, hN, hK, hA, hZ⟩ := id C0
  intro nn
  induction nn with
  | zero =>
    intro x1 x2 x3 H locs ls hm hP hD hS hl
    rw [B_Md_isTurn_4] at hm
    cases hm
  | succ nn ih =>
    intro x1 x2 x3 H locs ls hm hP hD hS hl
    rw [B_Md_isTurn_4] at hm
    refine lv_iload_n hx hb d_Md_isTurn_4 rfl (lv_at hl 3 rfl) ?_
    refine lv_aload_n hx hb d_Md_isTurn_5 rfl (lv_at hl 0 rfl) ?_
    refine va_getN (D := D) (ci := 13) (v := .int i_p0_strands) (C := R_Md_Wo) (T := F_Md_Wo) (N := 6) hx hb ht i_Md_Wo hown hK hP 0 rfl rfl 0 (Nat.le_of_ble_eq_true rfl) (va_Nw.use rfl (hN _ n_25)) (fun _ h9 => h9) rfl d_Md_isTurn_6 ?_
    refine lv_icmp_gt (tgt := 50) hx hb d_Md_isTurn_9 (by decide) (fun hc => ?_) (fun hc => ?_)
    · rw [if_pos hc] at hm
      refine lv_iload_n hx hb d_Md_isTurn_50 rfl (lv_at hl 2 rfl) ?_
      obtain ⟨hg, hm⟩ := vz_guard hm
      obtain rfl := Option.some.inj hm
      exact vz_iret hx hb hr (vz_nb hg) hlocks hP hD hS (Nat.le_refl _) (Nat.le_refl _) d_Md_isTurn_51 ⟨rfl, rfl⟩
    · rw [if_neg hc] at hm
      refine lv_iload_n hx hb d_Md_isTurn_12 rfl (lv_at hl 2 rfl) ?_
      refine lv_if_eq (tgt := 42) hx hb d_Md_isTurn_13 (by decide) (fun hc => ?_) (fun hc => ?_)
      · rw [if_pos hc] at hm
        exact w_Md_isTurn_42 fl q_p0 q_p0_letters q_p0_simple i_p0_strands f_p0_simple i_p0_count i_p0_power i_p0_many res C0 (B_Md_isTurn_4 fl i_p0_strands f_p0_simple nn) ih x1 x2 x3 _ _ _ hm hP hD hS (lv_sub hl [0, 1, 2, 3] rfl)
      · rw [if_neg hc] at hm
        refine lv_aload_n hx hb d_Md_isTurn_16 rfl (lv_at hl 0 rfl) ?_
        refine va_getN (D := D) (ci := 13) (v := .ref q_p0_simple) (C := R_Md_Wo) (T := F_Md_Wo) (N := 6) hx hb ht i_Md_Wo hown hK hP 0 rfl rfl 5 (Nat.le_of_ble_eq_true rfl) (va_Nw.use rfl (hN _ n_43)) (fun _ h9 => h9) rfl d_Md_isTurn_17 ?_
        refine lv_bipush (v := 9) hx hb d_Md_isTurn_20 (by decide +kernel) ?_
        refine lv_iload_n hx hb d_Md_isTurn_22 rfl (lv_at hl 1 rfl) ?_
        refine lv_imul hx hb d_Md_isTurn_23 ?_
        refine lv_iload_n hx hb d_Md_isTurn_24 rfl (lv_at hl 3 rfl) ?_
        refine lv_iadd hx hb d_Md_isTurn_25 ?_
        obtain ⟨hg, hm⟩ := vz_guard hm
        refine va_iald hx hb hK hP 1 0 rfl rfl hg d_Md_isTurn_26 ?_
        refine lv_aload_n hx hb d_Md_isTurn_27 rfl (lv_at hl 0 rfl) ?_
        refine va_getN (D := D) (ci := 13) (v := .int i_p0_strands) (C := R_Md_Wo) (T := F_Md_Wo) (N := 6) hx hb ht i_Md_Wo hown hK hP 0 rfl rfl 0 (Nat.le_of_ble_eq_true rfl) (va_Nw.use rfl (hN _ n_25)) (fun _ h9 => h9) rfl d_Md_isTurn_28 ?_
        refine lv_iconst (v := 1) hx hb d_Md_isTurn_31 (by decide) ?_
        refine lv_iadd hx hb d_Md_isTurn_32 ?_
        refine lv_iload_n hx hb d_Md_isTurn_33 rfl (lv_at hl 3 rfl) ?_
        refine lv_isub hx hb d_Md_isTurn_34 ?_
        refine lv_icmp_ne (tgt := 42) hx hb d_Md_isTurn_35 (by decide) (fun hc => ?_) (fun hc => ?_)
        · rw [if_pos hc] at hm
          exact w_Md_isTurn_42 fl q_p0 q_p0_letters q_p0_simple i_p0_strands f_p0_simple i_p0_count i_p0_power i_p0_many res C0 (B_Md_isTurn_4 fl i_p0_strands f_p0_simple nn) ih x1 x2 x3 _ _ _ hm hP hD hS (lv_sub hl [0, 1, 2, 3] rfl)
        · rw [if_neg (fun q => q hc)] at hm
          refine lv_iconst (v := 1) hx hb d_Md_isTurn_38 (by decide) ?_
          refine lv_goto (tgt := 43) hx hb d_Md_isTurn_39 (by decide) ?_
          exact w_Md_isTurn_43 fl q_p0 q_p0_letters q_p0_simple i_p0_strands f_p0_simple i_p0_count i_p0_power i_p0_many res C0 (B_Md_isTurn_4 fl i_p0_strands f_p0_simple nn) ih 1 x1 x2 x3 _ _ _ hm hP hD hS (lv_sub hl [0, 1, 2, 3] rfl)
set_option maxHeartbeats 4000000 in
set_option maxRecDepth 100000 in
theorem w_Md_isTurn_0 {p : Program} {l : Launch} {e : Env} {s : State} {m : MethodId} {args : Array Value} {below : List Frame} {meth : Method} {c : Code} {D : va_G} {cI cJ cB : ClassId} {sa : Nat → Nat × Nat} {A : Nat → Prop} (fl : Nat) (q_p0 : Nat) (q_p0_letters : Nat) (q_p0_simple : Nat) (i_p0_strands : Int32) (f_p0_simple : Nat → Int32) (i_p0_count : Int32) (i_p0_power : Int32) (i_p0_many : Int32) (res : Int32) (C0 : vz_Cx p s m meth c b_Md_isTurn 4 (some .boolean) "LinkEngineModel" "isTurn" D [(cI, .int), (cJ, .long), (cB, .byte)] sa A args) : ∀ (x1 : Int32) (H : Heap) (locs : List Loc) (ls : Array Slot), B_Md_isTurn_0 fl i_p0_strands f_p0_simple x1 = some res → va_P D classes (ws_Md_isTurn cI cJ cB q_p0 q_p0_letters q_p0_simple i_p0_strands i_p0_count i_p0_power i_p0_many f_p0_simple) H → va_D A (ws_Md_isTurn cI cJ cB q_p0 q_p0_letters q_p0_simple i_p0_strands i_p0_count i_p0_power i_p0_many f_p0_simple) → va_S A s.heap H locs → lv_has ls 4 [(0, .ref q_p0), (1, .int x1)] → W p l e rm_Md_isTurn s m args below meth c H locs 0 0 (MQ below (va_Qi (fun (r : Int32) (w : va_W) => r = res ∧ w = (ws_Md_isTurn cI cJ cB q_p0 q_p0_letters q_p0_simple i_p0_strands i_p0_count i_p0_power i_p0_many f_p0_simple)) (vz_B D A) A) args s 0 0 A) (F0 m 0 ls []) := by
  obtain ⟨hx, hb, hr, hml, hown, ht, hlocks, hin, hN, hK, hA, hZ⟩ := id C0
  intro x1 H locs ls hm hP hD hS hl
  unfold B_Md_isTurn_0 at hm
  refine lv_iconst (v := 1) hx hb d_Md_isTurn_0 (by decide) ?_
  refine lv_istore_n (lv' := [(2, .int 1), (0, .ref q_p0), (1, .int x1)]) hx hb d_Md_isTurn_1 rfl hl (by decide) rfl (fun ls hl => ?_)
  refine lv_iconst (v := 1) hx hb d_Md_isTurn_2 (by decide) ?_
  refine lv_istore_n (lv' := [(3, .int 1), (2, .int 1), (0, .ref q_p0), (1, .int x1)]) hx hb d_Md_isTurn_3 rfl hl (by decide) rfl (fun ls hl => ?_)
  exact w_Md_isTurn_4 fl q_p0 q_p0_letters q_p0_simple i_p0_strands f_p0_simple i_p0_count i_p0_power i_p0_many res C0 fl x1 1 1 _ _ _ hm hP hD hS (lv_sub hl [2, 3, 1, 0] rfl)
set_option maxHeartbeats 4000000 in
set_option maxRecDepth 100000 in
theorem k_Md_isTurn (l : Launch) (D : va_G) (cI cJ cB : ClassId) (sa : Nat → Nat × Nat) (fl : Nat) (q_p0 : Nat) (q_p0_letters : Nat) (q_p0_simple : Nat) (i_p0_strands : Int32) (f_p0_simple : Nat → Int32) (i_p0_count : Int32) (i_p0_power : Int32) (i_p0_many : Int32) (x1 : Int32) (res : Int32) (hm : m_Md_isTurn fl i_p0_strands f_p0_simple x1 = some res) : MtI l y_Md_isTurn (.code y_Md_isTurn b_Md_isTurn 4 (some .boolean) :: CW) rm_Md_isTurn D [(cI, .int), (cJ, .long), (cB, .byte)] sa [.ref q_p0, .int x1] (ws_Md_isTurn cI cJ cB q_p0 q_p0_letters q_p0_simple i_p0_strands i_p0_count i_p0_power i_p0_many f_p0_simple) (fun (r : Int32) (w : va_W) => r = res ∧ w = (ws_Md_isTurn cI cJ cB q_p0 q_p0_letters q_p0_simple i_p0_strands i_p0_count i_p0_power i_p0_many f_p0_simple)) := by
  intro sz
  refine vz_start (Qc := fun A => va_Qi (fun (r : Int32) (w : va_W) => r = res ∧ w = (ws_Md_isTurn cI cJ cB q_p0 q_p0_letters q_p0_simple i_p0_strands i_p0_count i_p0_power i_p0_many f_p0_simple)) (vz_B D A) A) (lv0 := [(0, .ref q_p0), (1, .int x1)]) (by decide +kernel) (Nat.le_of_ble_eq_true rfl) rfl ?_
  intro p e s m below meth c A ls C0 hl
  obtain ⟨hx, hb, hr, hml, hown, ht, hlocks, hin, hN, hK, hP, hD, hA, hS, hZ⟩ := C0
  exact w_Md_isTurn_0 fl q_p0 q_p0_letters q_p0_simple i_p0_strands f_p0_simple i_p0_count i_p0_power i_p0_many res ⟨hx, hb, hr, hml, hown, ht, hlocks, hin, hN, hK, hA, hZ⟩ x1 s.heap [] ls hm hP hD hS (lv_sub hl [0, 1] rfl)
def ws_Md_isNone (cI cJ cB : ClassId) (q_p0 : Nat) (q_p0_letters : Nat) (q_p0_simple : Nat) (i_p0_strands : Int32) (i_p0_count : Int32) (i_p0_power : Int32) (i_p0_many : Int32) (f_p0_simple : Nat → Int32) : va_W := [(q_p0, .inr (13, [.int i_p0_strands, .int i_p0_count, .ref q_p0_letters, .int i_p0_power, .int i_p0_many, .ref q_p0_simple])), (q_p0_simple, .inl (cI, 216, .inl f_p0_simple))]
def rm_Md_isNone : Room := { frames := 0, cells := 0, slots := 0, locals := 0 }
def B_Md_isNone_36 (fl : Nat) (i_p0_strands : Int32) (f_p0_simple : Nat → Int32) (kb_4 : Int32 → Int32 → Int32 → Option (Int32)) (s0 : Int32) (x1 : Int32) (x2 : Int32) (x3 : Int32) : Option (Int32) := kb_4 x1 s0 (x3 + 1)
def B_Md_isNone_35 (fl : Nat) (i_p0_strands : Int32) (f_p0_simple : Nat → Int32) (kb_4 : Int32 → Int32 → Int32 → Option (Int32)) (x1 : Int32) (x2 : Int32) (x3 : Int32) : Option (Int32) := B_Md_isNone_36 fl i_p0_strands f_p0_simple kb_4 0 x1 x2 x3
def B_Md_isNone_4 (fl : Nat) (i_p0_strands : Int32) (f_p0_simple : Nat → Int32) : Nat → Int32 → Int32 → Int32 → Option (Int32)
  | 0, _, _, _ => none
  | nn + 1, x1, x2, x3 => (if i_p0_strands < x3 then (if x2 = 0 ∨ x2 = 1 then (some x2) else none) else (if x2 = (0 : Int32) then B_Md_isNone_35 fl i_p0_strands f_p0_simple (B_Md_isNone_4 fl i_p0_strands f_p0_simple nn) x1 x2 x3 else (if ¬ ((((9 : Int32) * x1) + x3) < 0 ∨ 216 ≤ Int32.toNatClampNeg (((9 : Int32) * x1) + x3)) then (if ¬ (f_p0_simple (Int32.toNatClampNeg (((9 : Int32) * x1) + x3))) = x3 then B_Md_isNone_35 fl i_p0_strands f_p0_simple (B_Md_isNone_4 fl i_p0_strands f_p0_simple nn) x1 x2 x3 else B_Md_isNone_36 fl i_p0_strands f_p0_simple (B_Md_isNone_4 fl i_p0_strands f_p0_simple nn) 1 x1 x2 x3) else none)))
def B_Md_isNone_0 (fl : Nat) (i_p0_strands : Int32) (f_p0_simple : Nat → Int32) (x1 : Int32) : Option (Int32) := B_Md_isNone_4 fl i_p0_strands f_p0_simple fl x1 1 1
def m_Md_isNone (fl : Nat) (i_p0_strands : Int32) (f_p0_simple : Nat → Int32) (x1 : Int32) : Option (Int32) := B_Md_isNone_0 fl i_p0_strands f_p0_simple x1
set_option maxHeartbeats 4000000 in
set_option maxRecDepth 100000 in
theorem w_Md_isNone_36 {p : Program} {l : Launch} {e : Env} {s : State} {m : MethodId} {args : Array Value} {below : List Frame} {meth : Method} {c : Code} {D : va_G} {cI cJ cB : ClassId} {sa : Nat → Nat × Nat} {A : Nat → Prop} (fl : Nat) (q_p0 : Nat) (q_p0_letters : Nat) (q_p0_simple : Nat) (i_p0_strands : Int32) (f_p0_simple : Nat → Int32) (i_p0_count : Int32) (i_p0_power : Int32) (i_p0_many : Int32) (res : Int32) (C0 : vz_Cx p s m meth c b_Md_isNone 4 (some .boolean) "LinkEngineModel" "isNone" D [(cI, .int), (cJ, .long), (cB, .byte)] sa A args) (kb_4 : Int32 → Int32 → Int32 → Option (Int32)) (hk_4 : ∀ (x1 : Int32) (x2 : Int32) (x3 : Int32) (H : Heap) (locs : List Loc) (ls : Array Slot), kb_4 x1 x2 x3 = some res → va_P D classes (ws_Md_isNone cI cJ cB q_p0 q_p0_letters q_p0_simple i_p0_strands i_p0_count i_p0_power i_p0_many f_p0_simple) H → va_D A (ws_Md_isNone cI cJ cB q_p0 q_p0_letters q_p0_simple i_p0_strands i_p0_count i_p0_power i_p0_many f_p0_simple) → va_S A s.heap H locs → lv_has ls 4 [(0, .ref q_p0), (1, .int x1), (2, .int x2), (3, .int x3)] → W p l e rm_Md_isNone s m args below meth c H locs 0 0 (MQ below (va_Qi (fun (r : Int32) (w : va_W) => r = res ∧ w = (ws_Md_isNone cI cJ cB q_p0 q_p0_letters q_p0_simple i_p0_strands i_p0_count i_p0_power i_p0_many f_p0_simple)) (vz_B D A) A) args s 0 0 A) (F0 m 4 ls [])) : ∀ (s0 : Int32) (x1 : Int32) (x2 : Int32) (x3 : Int32) (H : Heap) (locs : List Loc) (ls : Array Slot), B_Md_isNone_36 fl i_p0_strands f_p0_simple kb_4 s0 x1 x2 x3 = some res → va_P D classes (ws_Md_isNone cI cJ cB q_p0 q_p0_letters q_p0_simple i_p0_strands i_p0_count i_p0_power i_p0_many f_p0_simple) H → va_D A (ws_Md_isNone cI cJ cB q_p0 q_p0_letters q_p0_simple i_p0_strands i_p0_count i_p0_power i_p0_many f_p0_simple) → va_S A s.heap H locs → lv_has ls 4 [(0, .ref q_p0), (1, .int x1), (2, .int x2), (3, .int x3)] → W p l e rm_Md_isNone s m args below meth c H locs 0 0 (MQ below (va_Qi (fun (r : Int32) (w : va_W) => r = res ∧ w = (ws_Md_isNone cI cJ cB q_p0 q_p0_letters q_p0_simple i_p0_strands i_p0_count i_p0_power i_p0_many f_p0_simple)) (vz_B D A) A) args s 0 0 A) (F0 m 36 ls [.int s0]) := by
  obtain ⟨hx, hb, hr, hml, hown, ht, hlocks, hin, hN, hK, hA, hZ⟩ := id C0
  intro s0 x1 x2 x3 H locs ls hm hP hD hS hl
  unfold B_Md_isNone_36 at hm
  refine lv_istore_n (lv' := [(2, .int s0), (0, .ref q_p0), (1, .int x1), (3, .int x3)]) hx hb d_Md_isNone_36 rfl hl (by decide) rfl (fun ls hl => ?_)
  refine lv_iinc (v := (x3 + 1)) (lv' := [(3, .int (x3 + 1)), (2, .int s0), (0, .ref q_p0), (1, .int x1)]) hx hb d_Md_isNone_37 hl (k := 3) rfl rfl (by decide) rfl (fun ls hl => ?_)
  refine lv_goto (tgt := 4) hx hb d_Md_isNone_40 (by decide) ?_
  exact hk_4 x1 s0 (x3 + 1) _ _ _ hm hP hD hS (lv_sub hl [2, 3, 1, 0] rfl)
set_option maxHeartbeats 4000000 in
set_option maxRecDepth 100000 in
theorem w_Md_isNone_35 {p : Program} {l : Launch} {e : Env} {s : State} {m : MethodId} {args : Array Value} {below : List Frame} {meth : Method} {c : Code} {D : va_G} {cI cJ cB : ClassId} {sa : Nat → Nat × Nat} {A : Nat → Prop} (fl : Nat) (q_p0 : Nat) (q_p0_letters : Nat) (q_p0_simple : Nat) (i_p0_strands : Int32) (f_p0_simple : Nat → Int32) (i_p0_count : Int32) (i_p0_power : Int32) (i_p0_many : Int32) (res : Int32) (C0 : vz_Cx p s m meth c b_Md_isNone 4 (some .boolean) "LinkEngineModel" "isNone" D [(cI, .int), (cJ, .long), (cB, .byte)] sa A args) (kb_4 : Int32 → Int32 → Int32 → Option (Int32)) (hk_4 : ∀ (x1 : Int32) (x2 : Int32) (x3 : Int32) (H : Heap) (locs : List Loc) (ls : Array Slot), kb_4 x1 x2 x3 = some res → va_P D classes (ws_Md_isNone cI cJ cB q_p0 q_p0_letters q_p0_simple i_p0_strands i_p0_count i_p0_power i_p0_many f_p0_simple) H → va_D A (ws_Md_isNone cI cJ cB q_p0 q_p0_letters q_p0_simple i_p0_strands i_p0_count i_p0_power i_p0_many f_p0_simple) → va_S A s.heap H locs → lv_has ls 4 [(0, .ref q_p0), (1, .int x1), (2, .int x2), (3, .int x3)] → W p l e rm_Md_isNone s m args below meth c H locs 0 0 (MQ below (va_Qi (fun (r : Int32) (w : va_W) => r = res ∧ w = (ws_Md_isNone cI cJ cB q_p0 q_p0_letters q_p0_simple i_p0_strands i_p0_count i_p0_power i_p0_many f_p0_simple)) (vz_B D A) A) args s 0 0 A) (F0 m 4 ls [])) : ∀ (x1 : Int32) (x2 : Int32) (x3 : Int32) (H : Heap) (locs : List Loc) (ls : Array Slot), B_Md_isNone_35 fl i_p0_strands f_p0_simple kb_4 x1 x2 x3 = some res → va_P D classes (ws_Md_isNone cI cJ cB q_p0 q_p0_letters q_p0_simple i_p0_strands i_p0_count i_p0_power i_p0_many f_p0_simple) H → va_D A (ws_Md_isNone cI cJ cB q_p0 q_p0_letters q_p0_simple i_p0_strands i_p0_count i_p0_power i_p0_many f_p0_simple) → va_S A s.heap H locs → lv_has ls 4 [(0, .ref q_p0), (1, .int x1), (2, .int x2), (3, .int x3)] → W p l e rm_Md_isNone s m args below meth c H locs 0 0 (MQ below (va_Qi (fun (r : Int32) (w : va_W) => r = res ∧ w = (ws_Md_isNone cI cJ cB q_p0 q_p0_letters q_p0_simple i_p0_strands i_p0_count i_p0_power i_p0_many f_p0_simple)) (vz_B D A) A) args s 0 0 A) (F0 m 35 ls []) := by
  obtain ⟨hx, hb, hr, hml, hown, ht, hlocks, hin, hN, hK, hA, hZ⟩ := id C0
  intro x1 x2 x3 H locs ls hm hP hD hS hl
  unfold B_Md_isNone_35 at hm
  refine lv_iconst (v := 0) hx hb d_Md_isNone_35 (by decide) ?_
  exact w_Md_isNone_36 fl q_p0 q_p0_letters q_p0_simple i_p0_strands f_p0_simple i_p0_count i_p0_power i_p0_many res C0 kb_4 hk_4 0 x1 x2 x3 _ _ _ hm hP hD hS (lv_sub hl [0, 1, 2, 3] rfl)
set_option maxHeartbeats 4000000 in
set_option maxRecDepth 100000 in
theorem w_Md_isNone_4 {p : Program} {l : Launch} {e : Env} {s : State} {m : MethodId} {args : Array Value} {below : List Frame} {meth : Method} {c : Code} {D : va_G} {cI cJ cB : ClassId} {sa : Nat → Nat × Nat} {A : Nat → Prop} (fl : Nat) (q_p0 : Nat) (q_p0_letters : Nat) (q_p0_simple : Nat) (i_p0_strands : Int32) (f_p0_simple : Nat → Int32) (i_p0_count : Int32) (i_p0_power : Int32) (i_p0_many : Int32) (res : Int32) (C0 : vz_Cx p s m meth c b_Md_isNone 4 (some .boolean) "LinkEngineModel" "isNone" D [(cI, .int), (cJ, .long), (cB, .byte)] sa A args) : ∀ (nn : Nat), ∀ (x1 : Int32) (x2 : Int32) (x3 : Int32) (H : Heap) (locs : List Loc) (ls : Array Slot), B_Md_isNone_4 fl i_p0_strands f_p0_simple nn x1 x2 x3 = some res → va_P D classes (ws_Md_isNone cI cJ cB q_p0 q_p0_letters q_p0_simple i_p0_strands i_p0_count i_p0_power i_p0_many f_p0_simple) H → va_D A (ws_Md_isNone cI cJ cB q_p0 q_p0_letters q_p0_simple i_p0_strands i_p0_count i_p0_power i_p0_many f_p0_simple) → va_S A s.heap H locs → lv_has ls 4 [(0, .ref q_p0), (1, .int x1), (2, .int x2), (3, .int x3)] → W p l e rm_Md_isNone s m args below meth c H locs 0 0 (MQ below (va_Qi (fun (r : Int32) (w : va_W) => r = res ∧ w = (ws_Md_isNone cI cJ cB q_p0 q_p0_letters q_p0_simple i_p0_strands i_p0_count i_p0_power i_p0_many f_p0_simple)) (vz_B D A) A) args s 0 0 A) (F0 m 4 ls []) := by
  obtain ⟨hx, hb, hr, hml, hown, ht, hlocks, hin, hN, hK, hA, hZ⟩ := id C0
  intro nn
  induction nn with
  | zero =>
    intro x1 x2 x3 H locs ls hm hP hD hS hl
    rw [B_Md_isNone_4] at hm
    cases hm
  | succ nn ih =>
    intro x1 x2 x3 H locs ls hm hP hD hS hl
    rw [B_Md_isNone_4] at hm
    refine lv_iload_n hx hb d_Md_isNone_4 rfl (lv_at hl 3 rfl) ?_
    refine lv_aload_n hx hb d_Md_isNone_5 rfl (lv_at hl 0 rfl) ?_
    refine va_getN (D := D) (ci := 13) (v := .int i_p0_strands) (C := R_Md_Wo) (T := F_Md_Wo) (N := 6) hx hb ht i_Md_Wo hown hK hP 0 rfl rfl 0 (Nat.le_of_ble_eq_true rfl) (va_Nw.use rfl (hN _ n_25)) (fun _ h9 => h9) rfl d_Md_isNone_6 ?_
    refine lv_icmp_gt (tgt := 43) hx hb d_Md_isNone_9 (by decide) (fun hc => ?_) (fun hc => ?_)
    · rw [if_pos hc] at hm
      refine lv_iload_n hx hb d_Md_isNone_43 rfl (lv_at hl 2 rfl) ?_
      obtain ⟨hg, hm⟩ := vz_guard hm
      obtain rfl := Option.some.inj hm
      exact vz_iret hx hb hr (vz_nb hg) hlocks hP hD hS (Nat.le_refl _) (Nat.le_refl _) d_Md_isNone_44 ⟨rfl, rfl⟩
    · rw [if_neg hc] at hm
      refine lv_iload_n hx hb d_Md_isNone_12 rfl (lv_at hl 2 rfl) ?_
      refine lv_if_eq (tgt := 35) hx hb d_Md_isNone_13 (by decide) (fun hc => ?_) (fun hc => ?_)
      · rw [if_pos hc] at hm
        exact w_Md_isNone_35 fl q_p0 q_p0_letters q_p0_simple i_p0_strands f_p0_simple i_p0_count i_p0_power i_p0_many res C0 (B_Md_isNone_4 fl i_p0_strands f_p0_simple nn) ih x1 x2 x3 _ _ _ hm hP hD hS (lv_sub hl [0, 1, 2, 3] rfl)
      · rw [if_neg hc] at hm
        refine lv_aload_n hx hb d_Md_isNone_16 rfl (lv_at hl 0 rfl) ?_
        refine va_getN (D := D) (ci := 13) (v := .ref q_p0_simple) (C := R_Md_Wo) (T := F_Md_Wo) (N := 6) hx hb ht i_Md_Wo hown hK hP 0 rfl rfl 5 (Nat.le_of_ble_eq_true rfl) (va_Nw.use rfl (hN _ n_43)) (fun _ h9 => h9) rfl d_Md_isNone_17 ?_
        refine lv_bipush (v := 9) hx hb d_Md_isNone_20 (by decide +kernel) ?_
        refine lv_iload_n hx hb d_Md_isNone_22 rfl (lv_at hl 1 rfl) ?_
        refine lv_imul hx hb d_Md_isNone_23 ?_
        refine lv_iload_n hx hb d_Md_isNone_24 rfl (lv_at hl 3 rfl) ?_
        refine lv_iadd hx hb d_Md_isNone_25 ?_
        obtain ⟨hg, hm⟩ := vz_guard hm
        refine va_iald hx hb hK hP 1 0 rfl rfl hg d_Md_isNone_26 ?_
        refine lv_iload_n hx hb d_Md_isNone_27 rfl (lv_at hl 3 rfl) ?_
        refine lv_icmp_ne (tgt := 35) hx hb d_Md_isNone_28 (by decide) (fun hc => ?_) (fun hc => ?_)
        · rw [if_pos hc] at hm
          exact w_Md_isNone_35 fl q_p0 q_p0_letters q_p0_simple i_p0_strands f_p0_simple i_p0_count i_p0_power i_p0_many res C0 (B_Md_isNone_4 fl i_p0_strands f_p0_simple nn) ih x1 x2 x3 _ _ _ hm hP hD hS (lv_sub hl [0, 1, 2, 3] rfl)
        · rw [if_neg (fun q => q hc)] at hm
          refine lv_iconst (v := 1) hx hb d_Md_isNone_31 (by decide) ?_
          refine lv_goto (tgt := 36) hx hb d_Md_isNone_32 (by decide) ?_
          exact w_Md_isNone_36 fl q_p0 q_p0_letters q_p0_simple i_p0_strands f_p0_simple i_p0_count i_p0_power i_p0_many res C0 (B_Md_isNone_4 fl i_p0_strands f_p0_simple nn) ih 1 x1 x2 x3 _ _ _ hm hP hD hS (lv_sub hl [0, 1, 2, 3] rfl)
set_option maxHeartbeats 4000000 in
set_option maxRecDepth 100000 in
theorem w_Md_isNone_0 {p : Program} {l : Launch} {e : Env} {s : State} {m : MethodId} {args : Array Value} {below : List Frame} {meth : Method} {c : Code} {D : va_G} {cI cJ cB : ClassId} {sa : Nat → Nat × Nat} {A : Nat → Prop} (fl : Nat) (q_p0 : Nat) (q_p0_letters : Nat) (q_p0_simple : Nat) (i_p0_strands : Int32) (f_p0_simple : Nat → Int32) (i_p0_count : Int32) (i_p0_power : Int32) (i_p0_many : Int32) (res : Int32) (C0 : vz_Cx p s m meth c b_Md_isNone 4 (some .boolean) "LinkEngineModel" "isNone" D [(cI, .int), (cJ, .long), (cB, .byte)] sa A args) : ∀ (x1 : Int32) (H : Heap) (locs : List Loc) (ls : Array Slot), B_Md_isNone_0 fl i_p0_strands f_p0_simple x1 = some res → va_P D classes (ws_Md_isNone cI cJ cB q_p0 q_p0_letters q_p0_simple i_p0_strands i_p0_count i_p0_power i_p0_many f_p0_simple) H → va_D A (ws_Md_isNone cI cJ cB q_p0 q_p0_letters q_p0_simple i_p0_strands i_p0_count i_p0_power i_p0_many f_p0_simple) → va_S A s.heap H locs → lv_has ls 4 [(0, .ref q_p0), (1, .int x1)] → W p l e rm_Md_isNone s m args below meth c H locs 0 0 (MQ below (va_Qi (fun (r : Int32) (w : va_W) => r = res ∧ w = (ws_Md_isNone cI cJ cB q_p0 q_p0_letters q_p0_simple i_p0_strands i_p0_count i_p0_power i_p0_many f_p0_simple)) (vz_B D A) A) args s 0 0 A) (F0 m 0 ls []) := by
  obtain ⟨hx, hb, hr, hml, hown, ht, hlocks, hin, hN, hK, hA, hZ⟩ := id C0
  intro x1 H locs ls hm hP hD hS hl
  unfold B_Md_isNone_0 at hm
  refine lv_iconst (v := 1) hx hb d_Md_isNone_0 (by decide) ?_
  refine lv_istore_n (lv' := [(2, .int 1), (0, .ref q_p0), (1, .int x1)]) hx hb d_Md_isNone_1 rfl hl (by decide) rfl (fun ls hl => ?_)
  refine lv_iconst (v := 1) hx hb d_Md_isNone_2 (by decide) ?_
  refine lv_istore_n (lv' := [(3, .int 1), (2, .int 1), (0, .ref q_p0), (1, .int x1)]) hx hb d_Md_isNone_3 rfl hl (by decide) rfl (fun ls hl => ?_)
  exact w_Md_isNone_4 fl q_p0 q_p0_letters q_p0_simple i_p0_strands f_p0_simple i_p0_count i_p0_power i_p0_many res C0 fl x1 1 1 _ _ _ hm hP hD hS (lv_sub hl [2, 3, 1, 0] rfl)
set_option maxHeartbeats 4000000 in
set_option maxRecDepth 100000 in
theorem k_Md_isNone (l : Launch) (D : va_G) (cI cJ cB : ClassId) (sa : Nat → Nat × Nat) (fl : Nat) (q_p0 : Nat) (q_p0_letters : Nat) (q_p0_simple : Nat) (i_p0_strands : Int32) (f_p0_simple : Nat → Int32) (i_p0_count : Int32) (i_p0_power : Int32) (i_p0_many : Int32) (x1 : Int32) (res : Int32) (hm : m_Md_isNone fl i_p0_strands f_p0_simple x1 = some res) : MtI l y_Md_isNone (.code y_Md_isNone b_Md_isNone 4 (some .boolean) :: CW) rm_Md_isNone D [(cI, .int), (cJ, .long), (cB, .byte)] sa [.ref q_p0, .int x1] (ws_Md_isNone cI cJ cB q_p0 q_p0_letters q_p0_simple i_p0_strands i_p0_count i_p0_power i_p0_many f_p0_simple) (fun (r : Int32) (w : va_W) => r = res ∧ w = (ws_Md_isNone cI cJ cB q_p0 q_p0_letters q_p0_simple i_p0_strands i_p0_count i_p0_power i_p0_many f_p0_simple)) := by
  intro sz
  refine vz_start (Qc := fun A => va_Qi (fun (r : Int32) (w : va_W) => r = res ∧ w = (ws_Md_isNone cI cJ cB q_p0 q_p0_letters q_p0_simple i_p0_strands i_p0_count i_p0_power i_p0_many f_p0_simple)) (vz_B D A) A) (lv0 := [(0, .ref q_p0), (1, .int x1)]) (by decide +kernel) (Nat.le_of_ble_eq_true rfl) rfl ?_
  intro p e s m below meth c A ls C0 hl
  obtain ⟨hx, hb, hr, hml, hown, ht, hlocks, hin, hN, hK, hP, hD, hA, hS, hZ⟩ := C0
  exact w_Md_isNone_0 fl q_p0 q_p0_letters q_p0_simple i_p0_strands f_p0_simple i_p0_count i_p0_power i_p0_many res ⟨hx, hb, hr, hml, hown, ht, hlocks, hin, hN, hK, hA, hZ⟩ x1 s.heap [] ls hm hP hD hS (lv_sub hl [0, 1] rfl)
def ws_Md_Di_become (cI cJ cB : ClassId) (q_p0 : Nat) (q_p0_sign : Nat) (q_p0_label : Nat) (q_p1 : Nat) (q_p1_sign : Nat) (q_p1_label : Nat) (i_p0_n : Int32) (i_p0_circles : Int32) (f_p0_label : Nat → Int32) (f_p0_sign : Nat → Int32) (i_p1_n : Int32) (i_p1_circles : Int32) (f_p1_label : Nat → Int32) (f_p1_sign : Nat → Int32) : va_W := [(q_p0, .inr (12, [.int i_p0_n, .int i_p0_circles, .ref q_p0_sign, .ref q_p0_label])), (q_p0_label, .inl (cI, 96, .inl f_p0_label)), (q_p0_sign, .inl (cI, 24, .inl f_p0_sign)), (q_p1, .inr (12, [.int i_p1_n, .int i_p1_circles, .ref q_p1_sign, .ref q_p1_label])), (q_p1_label, .inl (cI, 96, .inl f_p1_label)), (q_p1_sign, .inl (cI, 24, .inl f_p1_sign))]
def rm_Md_Di_become : Room := { frames := 0, cells := 0, slots := 0, locals := 0 }
def B_Md_Di_become_44 (fl : Nat) (i_p1_n : Int32) (i_p1_circles : Int32) (f_p1_label : Nat → Int32) (f_p1_sign : Nat → Int32) : Nat → Int32 → Int32 → Int32 → (Nat → Int32) → (Nat → Int32) → Option (Int32 × Int32 × (Nat → Int32) × (Nat → Int32))
  | 0, _, _, _, _, _ => none
  | nn + 1, x2, i_p0_n, i_p0_circles, f_p0_label, f_p0_sign => (if (96 : Int32) ≤ x2 then (some (i_p0_n, i_p0_circles, f_p0_label, f_p0_sign)) else (if ¬ (x2 < 0 ∨ 96 ≤ Int32.toNatClampNeg x2) then (if ¬ (x2 < 0 ∨ 96 ≤ Int32.toNatClampNeg x2) then B_Md_Di_become_44 fl i_p1_n i_p1_circles f_p1_label f_p1_sign nn (x2 + 1) i_p0_n i_p0_circles (upd f_p0_label (Int32.toNatClampNeg x2) (f_p1_label (Int32.toNatClampNeg x2))) f_p0_sign else none) else none))
def B_Md_Di_become_18 (fl : Nat) (i_p1_n : Int32) (i_p1_circles : Int32) (f_p1_label : Nat → Int32) (f_p1_sign : Nat → Int32) : Nat → Int32 → Int32 → Int32 → (Nat → Int32) → (Nat → Int32) → Option (Int32 × Int32 × (Nat → Int32) × (Nat → Int32))
  | 0, _, _, _, _, _ => none
  | nn + 1, x2, i_p0_n, i_p0_circles, f_p0_label, f_p0_sign => (if (24 : Int32) ≤ x2 then B_Md_Di_become_44 fl i_p1_n i_p1_circles f_p1_label f_p1_sign fl 0 i_p0_n i_p0_circles f_p0_label f_p0_sign else (if ¬ (x2 < 0 ∨ 24 ≤ Int32.toNatClampNeg x2) then (if ¬ (x2 < 0 ∨ 24 ≤ Int32.toNatClampNeg x2) then B_Md_Di_become_18 fl i_p1_n i_p1_circles f_p1_label f_p1_sign nn (x2 + 1) i_p0_n i_p0_circles f_p0_label (upd f_p0_sign (Int32.toNatClampNeg x2) (f_p1_sign (Int32.toNatClampNeg x2))) else none) else none))
def B_Md_Di_become_0 (fl : Nat) (i_p1_n : Int32) (i_p1_circles : Int32) (f_p1_label : Nat → Int32) (f_p1_sign : Nat → Int32) (i_p0_n : Int32) (i_p0_circles : Int32) (f_p0_label : Nat → Int32) (f_p0_sign : Nat → Int32) : Option (Int32 × Int32 × (Nat → Int32) × (Nat → Int32)) := B_Md_Di_become_18 fl i_p1_n i_p1_circles f_p1_label f_p1_sign fl 0 i_p1_n i_p1_circles f_p0_label f_p0_sign
def m_Md_Di_become (fl : Nat) (i_p1_n : Int32) (i_p1_circles : Int32) (f_p1_label : Nat → Int32) (f_p1_sign : Nat → Int32) (i_p0_n : Int32) (i_p0_circles : Int32) (f_p0_label : Nat → Int32) (f_p0_sign : Nat → Int32) : Option (Int32 × Int32 × (Nat → Int32) × (Nat → Int32)) := B_Md_Di_become_0 fl i_p1_n i_p1_circles f_p1_label f_p1_sign i_p0_n i_p0_circles f_p0_label f_p0_sign
set_option maxHeartbeats 4000000 in
set_option maxRecDepth 100000 in
theorem w_Md_Di_become_44 {p : Program} {l : Launch} {e : Env} {s : State} {m : MethodId} {args : Array Value} {below : List Frame} {meth : Method} {c : Code} {D : va_G} {cI cJ cB : ClassId} {sa : Nat → Nat × Nat} {A : Nat → Prop} (fl : Nat) (q_p0 : Nat) (q_p0_sign : Nat) (q_p0_label : Nat) (q_p1 : Nat) (q_p1_sign : Nat) (q_p1_label : Nat) (i_p1_n : Int32) (i_p1_circles : Int32) (f_p1_label : Nat → Int32) (f_p1_sign : Nat → Int32) (res : Int32 × Int32 × (Nat → Int32) × (Nat → Int32)) (C0 : vz_Cx p s m meth c b_Md_Di_become 3 none "LinkEngineModel$Diagram" "become" D [(cI, .int), (cJ, .long), (cB, .byte)] sa A args) : ∀ (nn : Nat), ∀ (x2 : Int32) (i_p0_n : Int32) (i_p0_circles : Int32) (f_p0_label : Nat → Int32) (f_p0_sign : Nat → Int32) (H : Heap) (locs : List Loc) (ls : Array Slot), B_Md_Di_become_44 fl i_p1_n i_p1_circles f_p1_label f_p1_sign nn x2 i_p0_n i_p0_circles f_p0_label f_p0_sign = some res → va_P D classes (ws_Md_Di_become cI cJ cB q_p0 q_p0_sign q_p0_label q_p1 q_p1_sign q_p1_label i_p0_n i_p0_circles f_p0_label f_p0_sign i_p1_n i_p1_circles f_p1_label f_p1_sign) H → va_D A (ws_Md_Di_become cI cJ cB q_p0 q_p0_sign q_p0_label q_p1 q_p1_sign q_p1_label i_p0_n i_p0_circles f_p0_label f_p0_sign i_p1_n i_p1_circles f_p1_label f_p1_sign) → va_S A s.heap H locs → lv_has ls 3 [(0, .ref q_p0), (1, .ref q_p1), (2, .int x2)] → W p l e rm_Md_Di_become s m args below meth c H locs 0 0 (MQ below (va_Qv (fun (w : va_W) => w = (ws_Md_Di_become cI cJ cB q_p0 q_p0_sign q_p0_label q_p1 q_p1_sign q_p1_label res.1 res.2.1 res.2.2.1 res.2.2.2 i_p1_n i_p1_circles f_p1_label f_p1_sign)) (vz_B D A) A) args s 0 0 A) (F0 m 44 ls []) := by
  obtain ⟨hx, hb, hr, hml, hown, ht, hlocks, hin, hN, hK, hA, hZ⟩ := id C0
  intro nn
  induction nn with
  | zero =>
    intro x2 i_p0_n i_p0_circles f_p0_label f_p0_sign H locs ls hm hP hD hS hl
    rw [B_Md_Di_become_44] at hm
    cases hm
  | succ nn ih =>
    intro x2 i_p0_n i_p0_circles f_p0_label f_p0_sign H locs ls hm hP hD hS hl
    rw [B_Md_Di_become_44] at hm
    refine lv_iload_n hx hb d_Md_Di_become_44 rfl (lv_at hl 2 rfl) ?_
    refine lv_bipush (v := 96) hx hb d_Md_Di_become_45 (by decide +kernel) ?_
    refine lv_icmp_ge (tgt := 68) hx hb d_Md_Di_become_47 (by decide) (fun hc => ?_) (fun hc => ?_)
    · rw [if_pos hc] at hm
      obtain rfl := Option.some.inj hm
      exact vz_vret hx hb hr hlocks hP hD hS (Nat.le_refl _) (Nat.le_refl _) d_Md_Di_become_68 rfl
    · rw [if_neg hc] at hm
      refine lv_aload_n hx hb d_Md_Di_become_50 rfl (lv_at hl 0 rfl) ?_
      refine va_get (D := D) (ci := 12) (v := .ref q_p0_label) (C := R_Md_Di) (T := F_Md_Di) (N := 4) hx hb ht i_Md_Di hown hK hP 0 rfl rfl 3 (Nat.le_of_ble_eq_true rfl) (ht _ m_115) (fun _ h9 => h9) rfl d_Md_Di_become_51 ?_
      refine lv_iload_n hx hb d_Md_Di_become_54 rfl (lv_at hl 2 rfl) ?_
      refine lv_aload_n hx hb d_Md_Di_become_55 rfl (lv_at hl 1 rfl) ?_
      refine va_get (D := D) (ci := 12) (v := .ref q_p1_label) (C := R_Md_Di) (T := F_Md_Di) (N := 4) hx hb ht i_Md_Di hown hK hP 3 rfl rfl 3 (Nat.le_of_ble_eq_true rfl) (ht _ m_115) (fun _ h9 => h9) rfl d_Md_Di_become_56 ?_
      refine lv_iload_n hx hb d_Md_Di_become_59 rfl (lv_at hl 2 rfl) ?_
      obtain ⟨hg, hm⟩ := vz_guard hm
      refine va_iald hx hb hK hP 4 0 rfl rfl hg d_Md_Di_become_60 ?_
      obtain ⟨hg, hm⟩ := vz_guard hm
      refine va_iast hx hb hK hP hD hS 1 0 rfl rfl hg d_Md_Di_become_61 (fun H locs hP hD hS => ?_)
      have hP : va_P D classes (ws_Md_Di_become cI cJ cB q_p0 q_p0_sign q_p0_label q_p1 q_p1_sign q_p1_label i_p0_n i_p0_circles (upd f_p0_label (Int32.toNatClampNeg x2) (f_p1_label (Int32.toNatClampNeg x2))) f_p0_sign i_p1_n i_p1_circles f_p1_label f_p1_sign) H := hP
      have hD : va_D A (ws_Md_Di_become cI cJ cB q_p0 q_p0_sign q_p0_label q_p1 q_p1_sign q_p1_label i_p0_n i_p0_circles (upd f_p0_label (Int32.toNatClampNeg x2) (f_p1_label (Int32.toNatClampNeg x2))) f_p0_sign i_p1_n i_p1_circles f_p1_label f_p1_sign) := hD
      refine lv_iinc (v := (x2 + 1)) (lv' := [(2, .int (x2 + 1)), (0, .ref q_p0), (1, .ref q_p1)]) hx hb d_Md_Di_become_62 hl (k := 2) rfl rfl (by decide) rfl (fun ls hl => ?_)
      refine lv_goto (tgt := 44) hx hb d_Md_Di_become_65 (by decide) ?_
      exact ih (x2 + 1) i_p0_n i_p0_circles (upd f_p0_label (Int32.toNatClampNeg x2) (f_p1_label (Int32.toNatClampNeg x2))) f_p0_sign _ _ _ hm hP hD hS (lv_sub hl [1, 2, 0] rfl)
set_option maxHeartbeats 4000000 in
set_option maxRecDepth 100000 in
theorem w_Md_Di_become_18 {p : Program} {l : Launch} {e : Env} {s : State} {m : MethodId} {args : Array Value} {below : List Frame} {meth : Method} {c : Code} {D : va_G} {cI cJ cB : ClassId} {sa : Nat → Nat × Nat} {A : Nat → Prop} (fl : Nat) (q_p0 : Nat) (q_p0_sign : Nat) (q_p0_label : Nat) (q_p1 : Nat) (q_p1_sign : Nat) (q_p1_label : Nat) (i_p1_n : Int32) (i_p1_circles : Int32) (f_p1_label : Nat → Int32) (f_p1_sign : Nat → Int32) (res : Int32 × Int32 × (Nat → Int32) × (Nat → Int32)) (C0 : vz_Cx p s m meth c b_Md_Di_become 3 none "LinkEngineModel$Diagram" "become" D [(cI, .int), (cJ, .long), (cB, .byte)] sa A args) : ∀ (nn : Nat), ∀ (x2 : Int32) (i_p0_n : Int32) (i_p0_circles : Int32) (f_p0_label : Nat → Int32) (f_p0_sign : Nat → Int32) (H : Heap) (locs : List Loc) (ls : Array Slot), B_Md_Di_become_18 fl i_p1_n i_p1_circles f_p1_label f_p1_sign nn x2 i_p0_n i_p0_circles f_p0_label f_p0_sign = some res → va_P D classes (ws_Md_Di_become cI cJ cB q_p0 q_p0_sign q_p0_label q_p1 q_p1_sign q_p1_label i_p0_n i_p0_circles f_p0_label f_p0_sign i_p1_n i_p1_circles f_p1_label f_p1_sign) H → va_D A (ws_Md_Di_become cI cJ cB q_p0 q_p0_sign q_p0_label q_p1 q_p1_sign q_p1_label i_p0_n i_p0_circles f_p0_label f_p0_sign i_p1_n i_p1_circles f_p1_label f_p1_sign) → va_S A s.heap H locs → lv_has ls 3 [(0, .ref q_p0), (1, .ref q_p1), (2, .int x2)] → W p l e rm_Md_Di_become s m args below meth c H locs 0 0 (MQ below (va_Qv (fun (w : va_W) => w = (ws_Md_Di_become cI cJ cB q_p0 q_p0_sign q_p0_label q_p1 q_p1_sign q_p1_label res.1 res.2.1 res.2.2.1 res.2.2.2 i_p1_n i_p1_circles f_p1_label f_p1_sign)) (vz_B D A) A) args s 0 0 A) (F0 m 18 ls []) := by
  obtain ⟨hx, hb, hr, hml, hown, ht, hlocks, hin, hN, hK, hA, hZ⟩ := id C0
  intro nn
  induction nn with
  | zero =>
    intro x2 i_p0_n i_p0_circles f_p0_label f_p0_sign H locs ls hm hP hD hS hl
    rw [B_Md_Di_become_18] at hm
    cases hm
  | succ nn ih =>
    intro x2 i_p0_n i_p0_circles f_p0_label f_p0_sign H locs ls hm hP hD hS hl
    rw [B_Md_Di_become_18] at hm
    refine lv_iload_n hx hb d_Md_Di_become_18 rfl (lv_at hl 2 rfl) ?_
    refine lv_bipush (v := 24) hx hb d_Md_Di_become_19 (by decide +kernel) ?_
    refine lv_icmp_ge (tgt := 42) hx hb d_Md_Di_become_21 (by decide) (fun hc => ?_) (fun hc => ?_)
    · rw [if_pos hc] at hm
      refine lv_iconst (v := 0) hx hb d_Md_Di_become_42 (by decide) ?_
      refine lv_istore_n (lv' := [(2, .int 0), (0, .ref q_p0), (1, .ref q_p1)]) hx hb d_Md_Di_become_43 rfl hl (by decide) rfl (fun ls hl => ?_)
      exact w_Md_Di_become_44 fl q_p0 q_p0_sign q_p0_label q_p1 q_p1_sign q_p1_label i_p1_n i_p1_circles f_p1_label f_p1_sign res C0 fl 0 i_p0_n i_p0_circles f_p0_label f_p0_sign _ _ _ hm hP hD hS (lv_sub hl [1, 2, 0] rfl)
    · rw [if_neg hc] at hm
      refine lv_aload_n hx hb d_Md_Di_become_24 rfl (lv_at hl 0 rfl) ?_
      refine va_get (D := D) (ci := 12) (v := .ref q_p0_sign) (C := R_Md_Di) (T := F_Md_Di) (N := 4) hx hb ht i_Md_Di hown hK hP 0 rfl rfl 2 (Nat.le_of_ble_eq_true rfl) (ht _ m_114) (fun _ h9 => h9) rfl d_Md_Di_become_25 ?_
      refine lv_iload_n hx hb d_Md_Di_become_28 rfl (lv_at hl 2 rfl) ?_
      refine lv_aload_n hx hb d_Md_Di_become_29 rfl (lv_at hl 1 rfl) ?_
      refine va_get (D := D) (ci := 12) (v := .ref q_p1_sign) (C := R_Md_Di) (T := F_Md_Di) (N := 4) hx hb ht i_Md_Di hown hK hP 3 rfl rfl 2 (Nat.le_of_ble_eq_true rfl) (ht _ m_114) (fun _ h9 => h9) rfl d_Md_Di_become_30 ?_
      refine lv_iload_n hx hb d_Md_Di_become_33 rfl (lv_at hl 2 rfl) ?_
      obtain ⟨hg, hm⟩ := vz_guard hm
      refine va_iald hx hb hK hP 5 0 rfl rfl hg d_Md_Di_become_34 ?_
      obtain ⟨hg, hm⟩ := vz_guard hm
      refine va_iast hx hb hK hP hD hS 2 0 rfl rfl hg d_Md_Di_become_35 (fun H locs hP hD hS => ?_)
      have hP : va_P D classes (ws_Md_Di_become cI cJ cB q_p0 q_p0_sign q_p0_label q_p1 q_p1_sign q_p1_label i_p0_n i_p0_circles f_p0_label (upd f_p0_sign (Int32.toNatClampNeg x2) (f_p1_sign (Int32.toNatClampNeg x2))) i_p1_n i_p1_circles f_p1_label f_p1_sign) H := hP
      have hD : va_D A (ws_Md_Di_become cI cJ cB q_p0 q_p0_sign q_p0_label q_p1 q_p1_sign q_p1_label i_p0_n i_p0_circles f_p0_label (upd f_p0_sign (Int32.toNatClampNeg x2) (f_p1_sign (Int32.toNatClampNeg x2))) i_p1_n i_p1_circles f_p1_label f_p1_sign) := hD
      refine lv_iinc (v := (x2 + 1)) (lv' := [(2, .int (x2 + 1)), (0, .ref q_p0), (1, .ref q_p1)]) hx hb d_Md_Di_become_36 hl (k := 2) rfl rfl (by decide) rfl (fun ls hl => ?_)
      refine lv_goto (tgt := 18) hx hb d_Md_Di_become_39 (by decide) ?_
      exact ih (x2 + 1) i_p0_n i_p0_circles f_p0_label (upd f_p0_sign (Int32.toNatClampNeg x2) (f_p1_sign (Int32.toNatClampNeg x2))) _ _ _ hm hP hD hS (lv_sub hl [1, 2, 0] rfl)
set_option maxHeartbeats 4000000 in
set_option maxRecDepth 100000 in
theorem w_Md_Di_become_0 {p : Program} {l : Launch} {e : Env} {s : State} {m : MethodId} {args : Array Value} {below : List Frame} {meth : Method} {c : Code} {D : va_G} {cI cJ cB : ClassId} {sa : Nat → Nat × Nat} {A : Nat → Prop} (fl : Nat) (q_p0 : Nat) (q_p0_sign : Nat) (q_p0_label : Nat) (q_p1 : Nat) (q_p1_sign : Nat) (q_p1_label : Nat) (i_p1_n : Int32) (i_p1_circles : Int32) (f_p1_label : Nat → Int32) (f_p1_sign : Nat → Int32) (res : Int32 × Int32 × (Nat → Int32) × (Nat → Int32)) (C0 : vz_Cx p s m meth c b_Md_Di_become 3 none "LinkEngineModel$Diagram" "become" D [(cI, .int), (cJ, .long), (cB, .byte)] sa A args) : ∀ (i_p0_n : Int32) (i_p0_circles : Int32) (f_p0_label : Nat → Int32) (f_p0_sign : Nat → Int32) (H : Heap) (locs : List Loc) (ls : Array Slot), B_Md_Di_become_0 fl i_p1_n i_p1_circles f_p1_label f_p1_sign i_p0_n i_p0_circles f_p0_label f_p0_sign = some res → va_P D classes (ws_Md_Di_become cI cJ cB q_p0 q_p0_sign q_p0_label q_p1 q_p1_sign q_p1_label i_p0_n i_p0_circles f_p0_label f_p0_sign i_p1_n i_p1_circles f_p1_label f_p1_sign) H → va_D A (ws_Md_Di_become cI cJ cB q_p0 q_p0_sign q_p0_label q_p1 q_p1_sign q_p1_label i_p0_n i_p0_circles f_p0_label f_p0_sign i_p1_n i_p1_circles f_p1_label f_p1_sign) → va_S A s.heap H locs → lv_has ls 3 [(0, .ref q_p0), (1, .ref q_p1)] → W p l e rm_Md_Di_become s m args below meth c H locs 0 0 (MQ below (va_Qv (fun (w : va_W) => w = (ws_Md_Di_become cI cJ cB q_p0 q_p0_sign q_p0_label q_p1 q_p1_sign q_p1_label res.1 res.2.1 res.2.2.1 res.2.2.2 i_p1_n i_p1_circles f_p1_label f_p1_sign)) (vz_B D A) A) args s 0 0 A) (F0 m 0 ls []) := by
  obtain ⟨hx, hb, hr, hml, hown, ht, hlocks, hin, hN, hK, hA, hZ⟩ := id C0
  intro i_p0_n i_p0_circles f_p0_label f_p0_sign H locs ls hm hP hD hS hl
  unfold B_Md_Di_become_0 at hm
  refine lv_aload_n hx hb d_Md_Di_become_0 rfl (lv_at hl 0 rfl) ?_
  refine lv_aload_n hx hb d_Md_Di_become_1 rfl (lv_at hl 1 rfl) ?_
  refine va_get (D := D) (ci := 12) (v := .int i_p1_n) (C := R_Md_Di) (T := F_Md_Di) (N := 4) hx hb ht i_Md_Di hown hK hP 3 rfl rfl 0 (Nat.le_of_ble_eq_true rfl) (ht _ m_444) (fun _ h9 => h9) rfl d_Md_Di_become_2 ?_
  refine va_put (D := D) (ci := 12) (v := .int i_p1_n) (ty := .int) (C := R_Md_Di) (T := F_Md_Di) (N := 4) hx hb ht i_Md_Di t_Md_Di t_Md_Di_ok n_Md_Di hown hK hP hD hS 0 rfl rfl 0 (Nat.le_of_ble_eq_true rfl) (ht _ m_444) (fun _ h9 => h9) rfl (by decide +kernel) rfl rfl (Nat.le_of_ble_eq_true rfl) d_Md_Di_become_5 (fun H locs hP hD hS => ?_)
  have hP : va_P D classes (ws_Md_Di_become cI cJ cB q_p0 q_p0_sign q_p0_label q_p1 q_p1_sign q_p1_label i_p1_n i_p0_circles f_p0_label f_p0_sign i_p1_n i_p1_circles f_p1_label f_p1_sign) H := hP
  have hD : va_D A (ws_Md_Di_become cI cJ cB q_p0 q_p0_sign q_p0_label q_p1 q_p1_sign q_p1_label i_p1_n i_p0_circles f_p0_label f_p0_sign i_p1_n i_p1_circles f_p1_label f_p1_sign) := hD
  refine lv_aload_n hx hb d_Md_Di_become_8 rfl (lv_at hl 0 rfl) ?_
  refine lv_aload_n hx hb d_Md_Di_become_9 rfl (lv_at hl 1 rfl) ?_
  refine va_get (D := D) (ci := 12) (v := .int i_p1_circles) (C := R_Md_Di) (T := F_Md_Di) (N := 4) hx hb ht i_Md_Di hown hK hP 3 rfl rfl 1 (Nat.le_of_ble_eq_true rfl) (ht _ m_445) (fun _ h9 => h9) rfl d_Md_Di_become_10 ?_
  refine va_put (D := D) (ci := 12) (v := .int i_p1_circles) (ty := .int) (C := R_Md_Di) (T := F_Md_Di) (N := 4) hx hb ht i_Md_Di t_Md_Di t_Md_Di_ok n_Md_Di hown hK hP hD hS 0 rfl rfl 1 (Nat.le_of_ble_eq_true rfl) (ht _ m_445) (fun _ h9 => h9) rfl (by decide +kernel) rfl rfl (Nat.le_of_ble_eq_true rfl) d_Md_Di_become_13 (fun H locs hP hD hS => ?_)
  have hP : va_P D classes (ws_Md_Di_become cI cJ cB q_p0 q_p0_sign q_p0_label q_p1 q_p1_sign q_p1_label i_p1_n i_p1_circles f_p0_label f_p0_sign i_p1_n i_p1_circles f_p1_label f_p1_sign) H := hP
  have hD : va_D A (ws_Md_Di_become cI cJ cB q_p0 q_p0_sign q_p0_label q_p1 q_p1_sign q_p1_label i_p1_n i_p1_circles f_p0_label f_p0_sign i_p1_n i_p1_circles f_p1_label f_p1_sign) := hD
  refine lv_iconst (v := 0) hx hb d_Md_Di_become_16 (by decide) ?_
  refine lv_istore_n (lv' := [(2, .int 0), (0, .ref q_p0), (1, .ref q_p1)]) hx hb d_Md_Di_become_17 rfl hl (by decide) rfl (fun ls hl => ?_)
  exact w_Md_Di_become_18 fl q_p0 q_p0_sign q_p0_label q_p1 q_p1_sign q_p1_label i_p1_n i_p1_circles f_p1_label f_p1_sign res C0 fl 0 i_p1_n i_p1_circles f_p0_label f_p0_sign _ _ _ hm hP hD hS (lv_sub hl [1, 2, 0] rfl)
set_option maxHeartbeats 4000000 in
set_option maxRecDepth 100000 in
theorem k_Md_Di_become (l : Launch) (D : va_G) (cI cJ cB : ClassId) (sa : Nat → Nat × Nat) (fl : Nat) (q_p0 : Nat) (q_p0_sign : Nat) (q_p0_label : Nat) (q_p1 : Nat) (q_p1_sign : Nat) (q_p1_label : Nat) (i_p1_n : Int32) (i_p1_circles : Int32) (f_p1_label : Nat → Int32) (f_p1_sign : Nat → Int32) (i_p0_n : Int32) (i_p0_circles : Int32) (f_p0_label : Nat → Int32) (f_p0_sign : Nat → Int32)  (res : Int32 × Int32 × (Nat → Int32) × (Nat → Int32)) (hm : m_Md_Di_become fl i_p1_n i_p1_circles f_p1_label f_p1_sign i_p0_n i_p0_circles f_p0_label f_p0_sign = some res) : MtV l y_Md_Di_become (.code y_Md_Di_become b_Md_Di_become 3 none :: CW) rm_Md_Di_become D [(cI, .int), (cJ, .long), (cB, .byte)] sa [.ref q_p0, .ref q_p1] (ws_Md_Di_become cI cJ cB q_p0 q_p0_sign q_p0_label q_p1 q_p1_sign q_p1_label i_p0_n i_p0_circles f_p0_label f_p0_sign i_p1_n i_p1_circles f_p1_label f_p1_sign) (fun (w : va_W) => w = (ws_Md_Di_become cI cJ cB q_p0 q_p0_sign q_p0_label q_p1 q_p1_sign q_p1_label res.1 res.2.1 res.2.2.1 res.2.2.2 i_p1_n i_p1_circles f_p1_label f_p1_sign)) := by
  intro sz
  refine vz_start (Qc := fun A => va_Qv (fun (w : va_W) => w = (ws_Md_Di_become cI cJ cB q_p0 q_p0_sign q_p0_label q_p1 q_p1_sign q_p1_label res.1 res.2.1 res.2.2.1 res.2.2.2 i_p1_n i_p1_circles f_p1_label f_p1_sign)) (vz_B D A) A) (lv0 := [(0, .ref q_p0), (1, .ref q_p1)]) (by decide +kernel) (Nat.le_of_ble_eq_true rfl) rfl ?_
  intro p e s m below meth c A ls C0 hl
  obtain ⟨hx, hb, hr, hml, hown, ht, hlocks, hin, hN, hK, hP, hD, hA, hS, hZ⟩ := C0
  exact w_Md_Di_become_0 fl q_p0 q_p0_sign q_p0_label q_p1 q_p1_sign q_p1_label i_p1_n i_p1_circles f_p1_label f_p1_sign res ⟨hx, hb, hr, hml, hown, ht, hlocks, hin, hN, hK, hA, hZ⟩ i_p0_n i_p0_circles f_p0_label f_p0_sign s.heap [] ls hm hP hD hS (lv_sub hl [0, 1] rfl)
def ws_Md_Wo_become (cI cJ cB : ClassId) (q_p0 : Nat) (q_p0_letters : Nat) (q_p0_simple : Nat) (q_p1 : Nat) (q_p1_letters : Nat) (q_p1_simple : Nat) (i_p0_strands : Int32) (i_p0_count : Int32) (i_p0_power : Int32) (i_p0_many : Int32) (f_p0_letters : Nat → Int32) (i_p1_strands : Int32) (i_p1_count : Int32) (i_p1_power : Int32) (i_p1_many : Int32) (f_p1_letters : Nat → Int32) : va_W := [(q_p0, .inr (13, [.int i_p0_strands, .int i_p0_count, .ref q_p0_letters, .int i_p0_power, .int i_p0_many, .ref q_p0_simple])), (q_p0_letters, .inl (cI, 20, .inl f_p0_letters)), (q_p1, .inr (13, [.int i_p1_strands, .int i_p1_count, .ref q_p1_letters, .int i_p1_power, .int i_p1_many, .ref q_p1_simple])), (q_p1_letters, .inl (cI, 20, .inl f_p1_letters))]
def rm_Md_Wo_become : Room := { frames := 0, cells := 0, slots := 0, locals := 0 }
def B_Md_Wo_become_18 (fl : Nat) (i_p1_strands : Int32) (i_p1_count : Int32) (f_p1_letters : Nat → Int32) : Nat → Int32 → Int32 → Int32 → (Nat → Int32) → Option (Int32 × Int32 × (Nat → Int32))
  | 0, _, _, _, _ => none
  | nn + 1, x2, i_p0_strands, i_p0_count, f_p0_letters => (if (20 : Int32) ≤ x2 then (some (i_p0_strands, i_p0_count, f_p0_letters)) else (if ¬ (x2 < 0 ∨ 20 ≤ Int32.toNatClampNeg x2) then (if ¬ (x2 < 0 ∨ 20 ≤ Int32.toNatClampNeg x2) then B_Md_Wo_become_18 fl i_p1_strands i_p1_count f_p1_letters nn (x2 + 1) i_p0_strands i_p0_count (upd f_p0_letters (Int32.toNatClampNeg x2) (f_p1_letters (Int32.toNatClampNeg x2))) else none) else none))
def B_Md_Wo_become_0 (fl : Nat) (i_p1_strands : Int32) (i_p1_count : Int32) (f_p1_letters : Nat → Int32) (i_p0_strands : Int32) (i_p0_count : Int32) (f_p0_letters : Nat → Int32) : Option (Int32 × Int32 × (Nat → Int32)) := B_Md_Wo_become_18 fl i_p1_strands i_p1_count f_p1_letters fl 0 i_p1_strands i_p1_count f_p0_letters
def m_Md_Wo_become (fl : Nat) (i_p1_strands : Int32) (i_p1_count : Int32) (f_p1_letters : Nat → Int32) (i_p0_strands : Int32) (i_p0_count : Int32) (f_p0_letters : Nat → Int32) : Option (Int32 × Int32 × (Nat → Int32)) := B_Md_Wo_become_0 fl i_p1_strands i_p1_count f_p1_letters i_p0_strands i_p0_count f_p0_letters
set_option maxHeartbeats 4000000 in
set_option maxRecDepth 100000 in
theorem w_Md_Wo_become_18 {p : Program} {l : Launch} {e : Env} {s : State} {m : MethodId} {args : Array Value} {below : List Frame} {meth : Method} {c : Code} {D : va_G} {cI cJ cB : ClassId} {sa : Nat → Nat × Nat} {A : Nat → Prop} (fl : Nat) (q_p0 : Nat) (q_p0_letters : Nat) (q_p0_simple : Nat) (q_p1 : Nat) (q_p1_letters : Nat) (q_p1_simple : Nat) (i_p1_strands : Int32) (i_p1_count : Int32) (f_p1_letters : Nat → Int32) (i_p0_power : Int32) (i_p0_many : Int32) (i_p1_power : Int32) (i_p1_many : Int32) (res : Int32 × Int32 × (Nat → Int32)) (C0 : vz_Cx p s m meth c b_Md_Wo_become 3 none "LinkEngineModel$Word" "become" D [(cI, .int), (cJ, .long), (cB, .byte)] sa A args) : ∀ (nn : Nat), ∀ (x2 : Int32) (i_p0_strands : Int32) (i_p0_count : Int32) (f_p0_letters : Nat → Int32) (H : Heap) (locs : List Loc) (ls : Array Slot), B_Md_Wo_become_18 fl i_p1_strands i_p1_count f_p1_letters nn x2 i_p0_strands i_p0_count f_p0_letters = some res → va_P D classes (ws_Md_Wo_become cI cJ cB q_p0 q_p0_letters q_p0_simple q_p1 q_p1_letters q_p1_simple i_p0_strands i_p0_count i_p0_power i_p0_many f_p0_letters i_p1_strands i_p1_count i_p1_power i_p1_many f_p1_letters) H → va_D A (ws_Md_Wo_become cI cJ cB q_p0 q_p0_letters q_p0_simple q_p1 q_p1_letters q_p1_simple i_p0_strands i_p0_count i_p0_power i_p0_many f_p0_letters i_p1_strands i_p1_count i_p1_power i_p1_many f_p1_letters) → va_S A s.heap H locs → lv_has ls 3 [(0, .ref q_p0), (1, .ref q_p1), (2, .int x2)] → W p l e rm_Md_Wo_become s m args below meth c H locs 0 0 (MQ below (va_Qv (fun (w : va_W) => w = (ws_Md_Wo_become cI cJ cB q_p0 q_p0_letters q_p0_simple q_p1 q_p1_letters q_p1_simple res.1 res.2.1 i_p0_power i_p0_many res.2.2 i_p1_strands i_p1_count i_p1_power i_p1_many f_p1_letters)) (vz_B D A) A) args s 0 0 A) (F0 m 18 ls []) := by
  obtain ⟨hx, hb, hr, hml, hown, ht, hlocks, hin, hN, hK, hA, hZ⟩ := id C0
  intro nn
  induction nn with
  | zero =>
    intro x2 i_p0_strands i_p0_count f_p0_letters H locs ls hm hP hD hS hl
    rw [B_Md_Wo_become_18] at hm
    cases hm
  | succ nn ih =>
    intro x2 i_p0_strands i_p0_count f_p0_letters H locs ls hm hP hD hS hl
    rw [B_Md_Wo_become_18] at hm
    refine lv_iload_n hx hb d_Md_Wo_become_18 rfl (lv_at hl 2 rfl) ?_
    refine lv_bipush (v := 20) hx hb d_Md_Wo_become_19 (by decide +kernel) ?_
    refine lv_icmp_ge (tgt := 42) hx hb d_Md_Wo_become_21 (by decide) (fun hc => ?_) (fun hc => ?_)
    · rw [if_pos hc] at hm
      obtain rfl := Option.some.inj hm
      exact vz_vret hx hb hr hlocks hP hD hS (Nat.le_refl _) (Nat.le_refl _) d_Md_Wo_become_42 rfl
    · rw [if_neg hc] at hm
      refine lv_aload_n hx hb d_Md_Wo_become_24 rfl (lv_at hl 0 rfl) ?_
      refine va_get (D := D) (ci := 13) (v := .ref q_p0_letters) (C := R_Md_Wo) (T := F_Md_Wo) (N := 6) hx hb ht i_Md_Wo hown hK hP 0 rfl rfl 2 (Nat.le_of_ble_eq_true rfl) (ht _ m_118) (fun _ h9 => h9) rfl d_Md_Wo_become_25 ?_
      refine lv_iload_n hx hb d_Md_Wo_become_28 rfl (lv_at hl 2 rfl) ?_
      refine lv_aload_n hx hb d_Md_Wo_become_29 rfl (lv_at hl 1 rfl) ?_
      refine va_get (D := D) (ci := 13) (v := .ref q_p1_letters) (C := R_Md_Wo) (T := F_Md_Wo) (N := 6) hx hb ht i_Md_Wo hown hK hP 2 rfl rfl 2 (Nat.le_of_ble_eq_true rfl) (ht _ m_118) (fun _ h9 => h9) rfl d_Md_Wo_become_30 ?_
      refine lv_iload_n hx hb d_Md_Wo_become_33 rfl (lv_at hl 2 rfl) ?_
      obtain ⟨hg, hm⟩ := vz_guard hm
      refine va_iald hx hb hK hP 3 0 rfl rfl hg d_Md_Wo_become_34 ?_
      obtain ⟨hg, hm⟩ := vz_guard hm
      refine va_iast hx hb hK hP hD hS 1 0 rfl rfl hg d_Md_Wo_become_35 (fun H locs hP hD hS => ?_)
      have hP : va_P D classes (ws_Md_Wo_become cI cJ cB q_p0 q_p0_letters q_p0_simple q_p1 q_p1_letters q_p1_simple i_p0_strands i_p0_count i_p0_power i_p0_many (upd f_p0_letters (Int32.toNatClampNeg x2) (f_p1_letters (Int32.toNatClampNeg x2))) i_p1_strands i_p1_count i_p1_power i_p1_many f_p1_letters) H := hP
      have hD : va_D A (ws_Md_Wo_become cI cJ cB q_p0 q_p0_letters q_p0_simple q_p1 q_p1_letters q_p1_simple i_p0_strands i_p0_count i_p0_power i_p0_many (upd f_p0_letters (Int32.toNatClampNeg x2) (f_p1_letters (Int32.toNatClampNeg x2))) i_p1_strands i_p1_count i_p1_power i_p1_many f_p1_letters) := hD
      refine lv_iinc (v := (x2 + 1)) (lv' := [(2, .int (x2 + 1)), (0, .ref q_p0), (1, .ref q_p1)]) hx hb d_Md_Wo_become_36 hl (k := 2) rfl rfl (by decide) rfl (fun ls hl => ?_)
      refine lv_goto (tgt := 18) hx hb d_Md_Wo_become_39 (by decide) ?_
      exact ih (x2 + 1) i_p0_strands i_p0_count (upd f_p0_letters (Int32.toNatClampNeg x2) (f_p1_letters (Int32.toNatClampNeg x2))) _ _ _ hm hP hD hS (lv_sub hl [1, 2, 0] rfl)
set_option maxHeartbeats 4000000 in
set_option maxRecDepth 100000 in
theorem w_Md_Wo_become_0 {p : Program} {l : Launch} {e : Env} {s : State} {m : MethodId} {args : Array Value} {below : List Frame} {meth : Method} {c : Code} {D : va_G} {cI cJ cB : ClassId} {sa : Nat → Nat × Nat} {A : Nat → Prop} (fl : Nat) (q_p0 : Nat) (q_p0_letters : Nat) (q_p0_simple : Nat) (q_p1 : Nat) (q_p1_letters : Nat) (q_p1_simple : Nat) (i_p1_strands : Int32) (i_p1_count : Int32) (f_p1_letters : Nat → Int32) (i_p0_power : Int32) (i_p0_many : Int32) (i_p1_power : Int32) (i_p1_many : Int32) (res : Int32 × Int32 × (Nat → Int32)) (C0 : vz_Cx p s m meth c b_Md_Wo_become 3 none "LinkEngineModel$Word" "become" D [(cI, .int), (cJ, .long), (cB, .byte)] sa A args) : ∀ (i_p0_strands : Int32) (i_p0_count : Int32) (f_p0_letters : Nat → Int32) (H : Heap) (locs : List Loc) (ls : Array Slot), B_Md_Wo_become_0 fl i_p1_strands i_p1_count f_p1_letters i_p0_strands i_p0_count f_p0_letters = some res → va_P D classes (ws_Md_Wo_become cI cJ cB q_p0 q_p0_letters q_p0_simple q_p1 q_p1_letters q_p1_simple i_p0_strands i_p0_count i_p0_power i_p0_many f_p0_letters i_p1_strands i_p1_count i_p1_power i_p1_many f_p1_letters) H → va_D A (ws_Md_Wo_become cI cJ cB q_p0 q_p0_letters q_p0_simple q_p1 q_p1_letters q_p1_simple i_p0_strands i_p0_count i_p0_power i_p0_many f_p0_letters i_p1_strands i_p1_count i_p1_power i_p1_many f_p1_letters) → va_S A s.heap H locs → lv_has ls 3 [(0, .ref q_p0), (1, .ref q_p1)] → W p l e rm_Md_Wo_become s m args below meth c H locs 0 0 (MQ below (va_Qv (fun (w : va_W) => w = (ws_Md_Wo_become cI cJ cB q_p0 q_p0_letters q_p0_simple q_p1 q_p1_letters q_p1_simple res.1 res.2.1 i_p0_power i_p0_many res.2.2 i_p1_strands i_p1_count i_p1_power i_p1_many f_p1_letters)) (vz_B D A) A) args s 0 0 A) (F0 m 0 ls []) := by
  obtain ⟨hx, hb, hr, hml, hown, ht, hlocks, hin, hN, hK, hA, hZ⟩ := id C0
  intro i_p0_strands i_p0_count f_p0_letters H locs ls hm hP hD hS hl
  unfold B_Md_Wo_become_0 at hm
  refine lv_aload_n hx hb d_Md_Wo_become_0 rfl (lv_at hl 0 rfl) ?_
  refine lv_aload_n hx hb d_Md_Wo_become_1 rfl (lv_at hl 1 rfl) ?_
  refine va_get (D := D) (ci := 13) (v := .int i_p1_strands) (C := R_Md_Wo) (T := F_Md_Wo) (N := 6) hx hb ht i_Md_Wo hown hK hP 2 rfl rfl 0 (Nat.le_of_ble_eq_true rfl) (ht _ m_117) (fun _ h9 => h9) rfl d_Md_Wo_become_2 ?_
  refine va_put (D := D) (ci := 13) (v := .int i_p1_strands) (ty := .int) (C := R_Md_Wo) (T := F_Md_Wo) (N := 6) hx hb ht i_Md_Wo t_Md_Wo t_Md_Wo_ok n_Md_Wo hown hK hP hD hS 0 rfl rfl 0 (Nat.le_of_ble_eq_true rfl) (ht _ m_117) (fun _ h9 => h9) rfl (by decide +kernel) rfl rfl (Nat.le_of_ble_eq_true rfl) d_Md_Wo_become_5 (fun H locs hP hD hS => ?_)
  have hP : va_P D classes (ws_Md_Wo_become cI cJ cB q_p0 q_p0_letters q_p0_simple q_p1 q_p1_letters q_p1_simple i_p1_strands i_p0_count i_p0_power i_p0_many f_p0_letters i_p1_strands i_p1_count i_p1_power i_p1_many f_p1_letters) H := hP
  have hD : va_D A (ws_Md_Wo_become cI cJ cB q_p0 q_p0_letters q_p0_simple q_p1 q_p1_letters q_p1_simple i_p1_strands i_p0_count i_p0_power i_p0_many f_p0_letters i_p1_strands i_p1_count i_p1_power i_p1_many f_p1_letters) := hD
  refine lv_aload_n hx hb d_Md_Wo_become_8 rfl (lv_at hl 0 rfl) ?_
  refine lv_aload_n hx hb d_Md_Wo_become_9 rfl (lv_at hl 1 rfl) ?_
  refine va_get (D := D) (ci := 13) (v := .int i_p1_count) (C := R_Md_Wo) (T := F_Md_Wo) (N := 6) hx hb ht i_Md_Wo hown hK hP 2 rfl rfl 1 (Nat.le_of_ble_eq_true rfl) (ht _ m_446) (fun _ h9 => h9) rfl d_Md_Wo_become_10 ?_
  refine va_put (D := D) (ci := 13) (v := .int i_p1_count) (ty := .int) (C := R_Md_Wo) (T := F_Md_Wo) (N := 6) hx hb ht i_Md_Wo t_Md_Wo t_Md_Wo_ok n_Md_Wo hown hK hP hD hS 0 rfl rfl 1 (Nat.le_of_ble_eq_true rfl) (ht _ m_446) (fun _ h9 => h9) rfl (by decide +kernel) rfl rfl (Nat.le_of_ble_eq_true rfl) d_Md_Wo_become_13 (fun H locs hP hD hS => ?_)
  have hP : va_P D classes (ws_Md_Wo_become cI cJ cB q_p0 q_p0_letters q_p0_simple q_p1 q_p1_letters q_p1_simple i_p1_strands i_p1_count i_p0_power i_p0_many f_p0_letters i_p1_strands i_p1_count i_p1_power i_p1_many f_p1_letters) H := hP
  have hD : va_D A (ws_Md_Wo_become cI cJ cB q_p0 q_p0_letters q_p0_simple q_p1 q_p1_letters q_p1_simple i_p1_strands i_p1_count i_p0_power i_p0_many f_p0_letters i_p1_strands i_p1_count i_p1_power i_p1_many f_p1_letters) := hD
  refine lv_iconst (v := 0) hx hb d_Md_Wo_become_16 (by decide) ?_
  refine lv_istore_n (lv' := [(2, .int 0), (0, .ref q_p0), (1, .ref q_p1)]) hx hb d_Md_Wo_become_17 rfl hl (by decide) rfl (fun ls hl => ?_)
  exact w_Md_Wo_become_18 fl q_p0 q_p0_letters q_p0_simple q_p1 q_p1_letters q_p1_simple i_p1_strands i_p1_count f_p1_letters i_p0_power i_p0_many i_p1_power i_p1_many res C0 fl 0 i_p1_strands i_p1_count f_p0_letters _ _ _ hm hP hD hS (lv_sub hl [1, 2, 0] rfl)
set_option maxHeartbeats 4000000 in
set_option maxRecDepth 100000 in
theorem k_Md_Wo_become (l : Launch) (D : va_G) (cI cJ cB : ClassId) (sa : Nat → Nat × Nat) (fl : Nat) (q_p0 : Nat) (q_p0_letters : Nat) (q_p0_simple : Nat) (q_p1 : Nat) (q_p1_letters : Nat) (q_p1_simple : Nat) (i_p1_strands : Int32) (i_p1_count : Int32) (f_p1_letters : Nat → Int32) (i_p0_power : Int32) (i_p0_many : Int32) (i_p1_power : Int32) (i_p1_many : Int32) (i_p0_strands : Int32) (i_p0_count : Int32) (f_p0_letters : Nat → Int32)  (res : Int32 × Int32 × (Nat → Int32)) (hm : m_Md_Wo_become fl i_p1_strands i_p1_count f_p1_letters i_p0_strands i_p0_count f_p0_letters = some res) : MtV l y_Md_Wo_become (.code y_Md_Wo_become b_Md_Wo_become 3 none :: CW) rm_Md_Wo_become D [(cI, .int), (cJ, .long), (cB, .byte)] sa [.ref q_p0, .ref q_p1] (ws_Md_Wo_become cI cJ cB q_p0 q_p0_letters q_p0_simple q_p1 q_p1_letters q_p1_simple i_p0_strands i_p0_count i_p0_power i_p0_many f_p0_letters i_p1_strands i_p1_count i_p1_power i_p1_many f_p1_letters) (fun (w : va_W) => w = (ws_Md_Wo_become cI cJ cB q_p0 q_p0_letters q_p0_simple q_p1 q_p1_letters q_p1_simple res.1 res.2.1 i_p0_power i_p0_many res.2.2 i_p1_strands i_p1_count i_p1_power i_p1_many f_p1_letters)) := by
  intro sz
  refine vz_start (Qc := fun A => va_Qv (fun (w : va_W) => w = (ws_Md_Wo_become cI cJ cB q_p0 q_p0_letters q_p0_simple q_p1 q_p1_letters q_p1_simple res.1 res.2.1 i_p0_power i_p0_many res.2.2 i_p1_strands i_p1_count i_p1_power i_p1_many f_p1_letters)) (vz_B D A) A) (lv0 := [(0, .ref q_p0), (1, .ref q_p1)]) (by decide +kernel) (Nat.le_of_ble_eq_true rfl) rfl ?_
  intro p e s m below meth c A ls C0 hl
  obtain ⟨hx, hb, hr, hml, hown, ht, hlocks, hin, hN, hK, hP, hD, hA, hS, hZ⟩ := C0
  exact w_Md_Wo_become_0 fl q_p0 q_p0_letters q_p0_simple q_p1 q_p1_letters q_p1_simple i_p1_strands i_p1_count f_p1_letters i_p0_power i_p0_many i_p1_power i_p1_many res ⟨hx, hb, hr, hml, hown, ht, hlocks, hin, hN, hK, hA, hZ⟩ i_p0_strands i_p0_count f_p0_letters s.heap [] ls hm hP hD hS (lv_sub hl [0, 1] rfl)
def ws_Md_isIn (cI cJ cB : ClassId) (q_p0 : Nat) (q_p0_tape : Nat) (q_p0_out : Nat) (q_p0_text : Nat) (q_p0_kinds : Nat) (q_p0_begins : Nat) (q_p0_numbers : Nat) (q_p0_d : Nat) (q_p0_old : Nat) (q_p0_before : Nat) (q_p0_latest : Nat) (q_p0_earlier : Nat) (q_p0_keptLatest : Nat) (q_p0_keptEarlier : Nat) (q_p0_made : Nat) (q_p0_labelOf : Nat) (q_p0_begin : Nat) (q_p0_finish : Nat) (q_p0_follow : Nat) (q_p0_compOf : Nat) (q_p0_placed : Nat) (q_p0_faceOf : Nat) (q_p0_firstDart : Nat) (q_p0_pieceOf : Nat) (q_p0_top : Nat) (q_p0_poly : Nat) (q_p0_other : Nat) (q_p0_root : Nat) (q_p0_ways : Nat) (q_p0_arcOf : Nat) (q_p0_low : Nat) (q_p0_high : Nat) (q_p0_minor : Nat) (q_p0_gcd : Nat) (q_p0_one : Nat) (q_p0_d_sign : Nat) (q_p0_d_label : Nat) (i_p0_taped : Int32) (i_p0_outSize : Int32) (i_p0_size : Int32) (i_p0_at : Int32) (i_p0_token : Int32) (i_p0_from : Int32) (i_p0_wasRead : Int32) (i_p0_fault : Int32) (i_p0_place : Int32) (i_p0_lines : Int32) (i_p0_next : Int32) (i_p0_putAt : Int32) (i_p0_done : Int32) (i_p0_hard : Int32) (i_p0_madeSize : Int32) (i_p0_edges : Int32) (i_p0_comps : Int32) (i_p0_faces : Int32) (i_p0_pieces : Int32) (i_p0_arcs : Int32) (i_p0_d_n : Int32) (i_p0_d_circles : Int32) (f_p0_d_sign : Nat → Int32) : va_W := [(q_p0, .inr (11, [.ref q_p0_tape, .int i_p0_taped, .ref q_p0_out, .int i_p0_outSize, .ref q_p0_text, .int i_p0_size, .int i_p0_at, .int i_p0_token, .int i_p0_from, .int i_p0_wasRead, .int i_p0_fault, .int i_p0_place, .ref q_p0_kinds, .ref q_p0_begins, .ref q_p0_numbers, .int i_p0_lines, .int i_p0_next, .int i_p0_putAt, .ref q_p0_d, .ref q_p0_old, .ref q_p0_before, .ref q_p0_latest, .ref q_p0_earlier, .ref q_p0_keptLatest, .ref q_p0_keptEarlier, .int i_p0_done, .int i_p0_hard, .ref q_p0_made, .int i_p0_madeSize, .int i_p0_edges, .ref q_p0_labelOf, .ref q_p0_begin, .ref q_p0_finish, .ref q_p0_follow, .ref q_p0_compOf, .ref q_p0_placed, .int i_p0_comps, .int i_p0_faces, .ref q_p0_faceOf, .ref q_p0_firstDart, .ref q_p0_pieceOf, .int i_p0_pieces, .ref q_p0_top, .ref q_p0_poly, .ref q_p0_other, .ref q_p0_root, .ref q_p0_ways, .int i_p0_arcs, .ref q_p0_arcOf, .ref q_p0_low, .ref q_p0_high, .ref q_p0_minor, .ref q_p0_gcd, .ref q_p0_one])), (q_p0_d, .inr (12, [.int i_p0_d_n, .int i_p0_d_circles, .ref q_p0_d_sign, .ref q_p0_d_label])), (q_p0_d_sign, .inl (cI, 24, .inl f_p0_d_sign))]
def rm_Md_isIn : Room := { frames := 0, cells := 0, slots := 0, locals := 0 }
def B_Md_isIn_48 (fl : Nat) (f_p0_d_sign : Nat → Int32) (x1 : Int32) (x2 : Int32) : Option (Int32) := (some 1)
def B_Md_isIn_28 (fl : Nat) (f_p0_d_sign : Nat → Int32) (x1 : Int32) (x2 : Int32) : Option (Int32) := (if ¬ x2 = (1 : Int32) then (some 0) else (if ¬ ((x1 >>> ((2 : Int32) &&& 31)) < 0 ∨ 24 ≤ Int32.toNatClampNeg (x1 >>> ((2 : Int32) &&& 31))) then (if ¬ (f_p0_d_sign (Int32.toNatClampNeg (x1 >>> ((2 : Int32) &&& 31)))) = (-1 : Int32) then (some 0) else B_Md_isIn_48 fl f_p0_d_sign x1 x2) else none))
def B_Md_isIn_0 (fl : Nat) (f_p0_d_sign : Nat → Int32) (x1 : Int32) : Option (Int32) := (if (x1 &&& (3 : Int32)) = (0 : Int32) then B_Md_isIn_48 fl f_p0_d_sign x1 (x1 &&& (3 : Int32)) else (if ¬ (x1 &&& (3 : Int32)) = (3 : Int32) then B_Md_isIn_28 fl f_p0_d_sign x1 (x1 &&& (3 : Int32)) else (if ¬ ((x1 >>> ((2 : Int32) &&& 31)) < 0 ∨ 24 ≤ Int32.toNatClampNeg (x1 >>> ((2 : Int32) &&& 31))) then (if (f_p0_d_sign (Int32.toNatClampNeg (x1 >>> ((2 : Int32) &&& 31)))) = (1 : Int32) then B_Md_isIn_48 fl f_p0_d_sign x1 (x1 &&& (3 : Int32)) else B_Md_isIn_28 fl f_p0_d_sign x1 (x1 &&& (3 : Int32))) else none)))
def m_Md_isIn (fl : Nat) (f_p0_d_sign : Nat → Int32) (x1 : Int32) : Option (Int32) := B_Md_isIn_0 fl f_p0_d_sign x1
set_option maxHeartbeats 4000000 in
set_option maxRecDepth 100000 in
theorem w_Md_isIn_48 {p : Program} {l : Launch} {e : Env} {s : State} {m : MethodId} {args : Array Value} {below : List Frame} {meth : Method} {c : Code} {D : va_G} {cI cJ cB : ClassId} {sa : Nat → Nat × Nat} {A : Nat → Prop} (fl : Nat) (q_p0 : Nat) (q_p0_tape : Nat) (q_p0_out : Nat) (q_p0_text : Nat) (q_p0_kinds : Nat) (q_p0_begins : Nat) (q_p0_numbers : Nat) (q_p0_d : Nat) (q_p0_old : Nat) (q_p0_before : Nat) (q_p0_latest : Nat) (q_p0_earlier : Nat) (q_p0_keptLatest : Nat) (q_p0_keptEarlier : Nat) (q_p0_made : Nat) (q_p0_labelOf : Nat) (q_p0_begin : Nat) (q_p0_finish : Nat) (q_p0_follow : Nat) (q_p0_compOf : Nat) (q_p0_placed : Nat) (q_p0_faceOf : Nat) (q_p0_firstDart : Nat) (q_p0_pieceOf : Nat) (q_p0_top : Nat) (q_p0_poly : Nat) (q_p0_other : Nat) (q_p0_root : Nat) (q_p0_ways : Nat) (q_p0_arcOf : Nat) (q_p0_low : Nat) (q_p0_high : Nat) (q_p0_minor : Nat) (q_p0_gcd : Nat) (q_p0_one : Nat) (q_p0_d_sign : Nat) (q_p0_d_label : Nat) (f_p0_d_sign : Nat → Int32) (i_p0_taped : Int32) (i_p0_outSize : Int32) (i_p0_size : Int32) (i_p0_at : Int32) (i_p0_token : Int32) (i_p0_from : Int32) (i_p0_wasRead : Int32) (i_p0_fault : Int32) (i_p0_place : Int32) (i_p0_lines : Int32) (i_p0_next : Int32) (i_p0_putAt : Int32) (i_p0_done : Int32) (i_p0_hard : Int32) (i_p0_madeSize : Int32) (i_p0_edges : Int32) (i_p0_comps : Int32) (i_p0_faces : Int32) (i_p0_pieces : Int32) (i_p0_arcs : Int32) (i_p0_d_n : Int32) (i_p0_d_circles : Int32) (res : Int32) (C0 : vz_Cx p s m meth c b_Md_isIn 3 (some .boolean) "LinkEngineModel" "isIn" D [(cI, .int), (cJ, .long), (cB, .byte)] sa A args) : ∀ (x1 : Int32) (x2 : Int32) (H : Heap) (locs : List Loc) (ls : Array Slot), B_Md_isIn_48 fl f_p0_d_sign x1 x2 = some res → va_P D classes (ws_Md_isIn cI cJ cB q_p0 q_p0_tape q_p0_out q_p0_text q_p0_kinds q_p0_begins q_p0_numbers q_p0_d q_p0_old q_p0_before q_p0_latest q_p0_earlier q_p0_keptLatest q_p0_keptEarlier q_p0_made q_p0_labelOf q_p0_begin q_p0_finish q_p0_follow q_p0_compOf q_p0_placed q_p0_faceOf q_p0_firstDart q_p0_pieceOf q_p0_top q_p0_poly q_p0_other q_p0_root q_p0_ways q_p0_arcOf q_p0_low q_p0_high q_p0_minor q_p0_gcd q_p0_one q_p0_d_sign q_p0_d_label i_p0_taped i_p0_outSize i_p0_size i_p0_at i_p0_token i_p0_from i_p0_wasRead i_p0_fault i_p0_place i_p0_lines i_p0_next i_p0_putAt i_p0_done i_p0_hard i_p0_madeSize i_p0_edges i_p0_comps i_p0_faces i_p0_pieces i_p0_arcs i_p0_d_n i_p0_d_circles f_p0_d_sign) H → va_D A (ws_Md_isIn cI cJ cB q_p0 q_p0_tape q_p0_out q_p0_text q_p0_kinds q_p0_begins q_p0_numbers q_p0_d q_p0_old q_p0_before q_p0_latest q_p0_earlier q_p0_keptLatest q_p0_keptEarlier q_p0_made q_p0_labelOf q_p0_begin q_p0_finish q_p0_follow q_p0_compOf q_p0_placed q_p0_faceOf q_p0_firstDart q_p0_pieceOf q_p0_top q_p0_poly q_p0_other q_p0_root q_p0_ways q_p0_arcOf q_p0_low q_p0_high q_p0_minor q_p0_gcd q_p0_one q_p0_d_sign q_p0_d_label i_p0_taped i_p0_outSize i_p0_size i_p0_at i_p0_token i_p0_from i_p0_wasRead i_p0_fault i_p0_place i_p0_lines i_p0_next i_p0_putAt i_p0_done i_p0_hard i_p0_madeSize i_p0_edges i_p0_comps i_p0_faces i_p0_pieces i_p0_arcs i_p0_d_n i_p0_d_circles f_p0_d_sign) → va_S A s.heap H locs → lv_has ls 3 [(0, .ref q_p0), (1, .int x1), (2, .int x2)] → W p l e rm_Md_isIn s m args below meth c H locs 0 0 (MQ below (va_Qi (fun (r : Int32) (w : va_W) => r = res ∧ w = (ws_Md_isIn cI cJ cB q_p0 q_p0_tape q_p0_out q_p0_text q_p0_kinds q_p0_begins q_p0_numbers q_p0_d q_p0_old q_p0_before q_p0_latest q_p0_earlier q_p0_keptLatest q_p0_keptEarlier q_p0_made q_p0_labelOf q_p0_begin q_p0_finish q_p0_follow q_p0_compOf q_p0_placed q_p0_faceOf q_p0_firstDart q_p0_pieceOf q_p0_top q_p0_poly q_p0_other q_p0_root q_p0_ways q_p0_arcOf q_p0_low q_p0_high q_p0_minor q_p0_gcd q_p0_one q_p0_d_sign q_p0_d_label i_p0_taped i_p0_outSize i_p0_size i_p0_at i_p0_token i_p0_from i_p0_wasRead i_p0_fault i_p0_place i_p0_lines i_p0_next i_p0_putAt i_p0_done i_p0_hard i_p0_madeSize i_p0_edges i_p0_comps i_p0_faces i_p0_pieces i_p0_arcs i_p0_d_n i_p0_d_circles f_p0_d_sign)) (vz_B D A) A) args s 0 0 A) (F0 m 48 ls []) := by
  obtain ⟨hx, hb, hr, hml, hown, ht, hlocks, hin, hN, hK, hA, hZ⟩ := id C0
  intro x1 x2 H locs ls hm hP hD hS hl
  unfold B_Md_isIn_48 at hm
  refine lv_iconst (v := 1) hx hb d_Md_isIn_48 (by decide) ?_
  refine lv_goto (tgt := 53) hx hb d_Md_isIn_49 (by decide) ?_
  obtain rfl := Option.some.inj hm
  exact vz_iret hx hb hr rfl hlocks hP hD hS (Nat.le_refl _) (Nat.le_refl _) d_Md_isIn_53 ⟨rfl, rfl⟩
set_option maxHeartbeats 4000000 in
set_option maxRecDepth 100000 in
theorem w_Md_isIn_28 {p : Program} {l : Launch} {e : Env} {s : State} {m : MethodId} {args : Array Value} {below : List Frame} {meth : Method} {c : Code} {D : va_G} {cI cJ cB : ClassId} {sa : Nat → Nat × Nat} {A : Nat → Prop} (fl : Nat) (q_p0 : Nat) (q_p0_tape : Nat) (q_p0_out : Nat) (q_p0_text : Nat) (q_p0_kinds : Nat) (q_p0_begins : Nat) (q_p0_numbers : Nat) (q_p0_d : Nat) (q_p0_old : Nat) (q_p0_before : Nat) (q_p0_latest : Nat) (q_p0_earlier : Nat) (q_p0_keptLatest : Nat) (q_p0_keptEarlier : Nat) (q_p0_made : Nat) (q_p0_labelOf : Nat) (q_p0_begin : Nat) (q_p0_finish : Nat) (q_p0_follow : Nat) (q_p0_compOf : Nat) (q_p0_placed : Nat) (q_p0_faceOf : Nat) (q_p0_firstDart : Nat) (q_p0_pieceOf : Nat) (q_p0_top : Nat) (q_p0_poly : Nat) (q_p0_other : Nat) (q_p0_root : Nat) (q_p0_ways : Nat) (q_p0_arcOf : Nat) (q_p0_low : Nat) (q_p0_high : Nat) (q_p0_minor : Nat) (q_p0_gcd : Nat) (q_p0_one : Nat) (q_p0_d_sign : Nat) (q_p0_d_label : Nat) (f_p0_d_sign : Nat → Int32) (i_p0_taped : Int32) (i_p0_outSize : Int32) (i_p0_size : Int32) (i_p0_at : Int32) (i_p0_token : Int32) (i_p0_from : Int32) (i_p0_wasRead : Int32) (i_p0_fault : Int32) (i_p0_place : Int32) (i_p0_lines : Int32) (i_p0_next : Int32) (i_p0_putAt : Int32) (i_p0_done : Int32) (i_p0_hard : Int32) (i_p0_madeSize : Int32) (i_p0_edges : Int32) (i_p0_comps : Int32) (i_p0_faces : Int32) (i_p0_pieces : Int32) (i_p0_arcs : Int32) (i_p0_d_n : Int32) (i_p0_d_circles : Int32) (res : Int32) (C0 : vz_Cx p s m meth c b_Md_isIn 3 (some .boolean) "LinkEngineModel" "isIn" D [(cI, .int), (cJ, .long), (cB, .byte)] sa A args) : ∀ (x1 : Int32) (x2 : Int32) (H : Heap) (locs : List Loc) (ls : Array Slot), B_Md_isIn_28 fl f_p0_d_sign x1 x2 = some res → va_P D classes (ws_Md_isIn cI cJ cB q_p0 q_p0_tape q_p0_out q_p0_text q_p0_kinds q_p0_begins q_p0_numbers q_p0_d q_p0_old q_p0_before q_p0_latest q_p0_earlier q_p0_keptLatest q_p0_keptEarlier q_p0_made q_p0_labelOf q_p0_begin q_p0_finish q_p0_follow q_p0_compOf q_p0_placed q_p0_faceOf q_p0_firstDart q_p0_pieceOf q_p0_top q_p0_poly q_p0_other q_p0_root q_p0_ways q_p0_arcOf q_p0_low q_p0_high q_p0_minor q_p0_gcd q_p0_one q_p0_d_sign q_p0_d_label i_p0_taped i_p0_outSize i_p0_size i_p0_at i_p0_token i_p0_from i_p0_wasRead i_p0_fault i_p0_place i_p0_lines i_p0_next i_p0_putAt i_p0_done i_p0_hard i_p0_madeSize i_p0_edges i_p0_comps i_p0_faces i_p0_pieces i_p0_arcs i_p0_d_n i_p0_d_circles f_p0_d_sign) H → va_D A (ws_Md_isIn cI cJ cB q_p0 q_p0_tape q_p0_out q_p0_text q_p0_kinds q_p0_begins q_p0_numbers q_p0_d q_p0_old q_p0_before q_p0_latest q_p0_earlier q_p0_keptLatest q_p0_keptEarlier q_p0_made q_p0_labelOf q_p0_begin q_p0_finish q_p0_follow q_p0_compOf q_p0_placed q_p0_faceOf q_p0_firstDart q_p0_pieceOf q_p0_top q_p0_poly q_p0_other q_p0_root q_p0_ways q_p0_arcOf q_p0_low q_p0_high q_p0_minor q_p0_gcd q_p0_one q_p0_d_sign q_p0_d_label i_p0_taped i_p0_outSize i_p0_size i_p0_at i_p0_token i_p0_from i_p0_wasRead i_p0_fault i_p0_place i_p0_lines i_p0_next i_p0_putAt i_p0_done i_p0_hard i_p0_madeSize i_p0_edges i_p0_comps i_p0_faces i_p0_pieces i_p0_arcs i_p0_d_n i_p0_d_circles f_p0_d_sign) → va_S A s.heap H locs → lv_has ls 3 [(0, .ref q_p0), (1, .int x1), (2, .int x2)] → W p l e rm_Md_isIn s m args below meth c H locs 0 0 (MQ below (va_Qi (fun (r : Int32) (w : va_W) => r = res ∧ w = (ws_Md_isIn cI cJ cB q_p0 q_p0_tape q_p0_out q_p0_text q_p0_kinds q_p0_begins q_p0_numbers q_p0_d q_p0_old q_p0_before q_p0_latest q_p0_earlier q_p0_keptLatest q_p0_keptEarlier q_p0_made q_p0_labelOf q_p0_begin q_p0_finish q_p0_follow q_p0_compOf q_p0_placed q_p0_faceOf q_p0_firstDart q_p0_pieceOf q_p0_top q_p0_poly q_p0_other q_p0_root q_p0_ways q_p0_arcOf q_p0_low q_p0_high q_p0_minor q_p0_gcd q_p0_one q_p0_d_sign q_p0_d_label i_p0_taped i_p0_outSize i_p0_size i_p0_at i_p0_token i_p0_from i_p0_wasRead i_p0_fault i_p0_place i_p0_lines i_p0_next i_p0_putAt i_p0_done i_p0_hard i_p0_madeSize i_p0_edges i_p0_comps i_p0_faces i_p0_pieces i_p0_arcs i_p0_d_n i_p0_d_circles f_p0_d_sign)) (vz_B D A) A) args s 0 0 A) (F0 m 28 ls []) := by
  obtain ⟨hx, hb, hr, hml, hown, ht, hlocks, hin, hN, hK, hA, hZ⟩ := id C0
  intro x1 x2 H locs ls hm hP hD hS hl
  unfold B_Md_isIn_28 at hm
  refine lv_iload_n hx hb d_Md_isIn_28 rfl (lv_at hl 2 rfl) ?_
  refine lv_iconst (v := 1) hx hb d_Md_isIn_29 (by decide) ?_
  refine lv_icmp_ne (tgt := 52) hx hb d_Md_isIn_30 (by decide) (fun hc => ?_) (fun hc => ?_)
  · rw [if_pos hc] at hm
    refine lv_iconst (v := 0) hx hb d_Md_isIn_52 (by decide) ?_
    obtain rfl := Option.some.inj hm
    exact vz_iret hx hb hr rfl hlocks hP hD hS (Nat.le_refl _) (Nat.le_refl _) d_Md_isIn_53 ⟨rfl, rfl⟩
  · rw [if_neg (fun q => q hc)] at hm
    refine lv_aload_n hx hb d_Md_isIn_33 rfl (lv_at hl 0 rfl) ?_
    refine va_get (D := D) (ci := 11) (v := .ref q_p0_d) (C := R_Md) (T := F_Md) (N := 54) hx hb ht i_Md hown hK hP 0 rfl rfl 18 (Nat.le_of_ble_eq_true rfl) (ht _ m_134) (fun _ h9 => h9) rfl d_Md_isIn_34 ?_
    refine va_getN (D := D) (ci := 12) (v := .ref q_p0_d_sign) (C := R_Md_Di) (T := F_Md_Di) (N := 4) hx hb ht i_Md_Di hown hK hP 1 rfl rfl 2 (Nat.le_of_ble_eq_true rfl) (va_Nw.use rfl (hN _ n_44)) (fun _ h9 => h9) rfl d_Md_isIn_37 ?_
    refine lv_iload_n hx hb d_Md_isIn_40 rfl (lv_at hl 1 rfl) ?_
    refine lv_iconst (v := 2) hx hb d_Md_isIn_41 (by decide) ?_
    refine lv_ishr hx hb d_Md_isIn_42 ?_
    obtain ⟨hg, hm⟩ := vz_guard hm
    refine va_iald hx hb hK hP 2 0 rfl rfl hg d_Md_isIn_43 ?_
    refine lv_iconst (v := (-1)) hx hb d_Md_isIn_44 (by decide) ?_
    refine lv_icmp_ne (tgt := 52) hx hb d_Md_isIn_45 (by decide) (fun hc => ?_) (fun hc => ?_)
    · rw [if_pos hc] at hm
      refine lv_iconst (v := 0) hx hb d_Md_isIn_52 (by decide) ?_
      obtain rfl := Option.some.inj hm
      exact vz_iret hx hb hr rfl hlocks hP hD hS (Nat.le_refl _) (Nat.le_refl _) d_Md_isIn_53 ⟨rfl, rfl⟩
    · rw [if_neg (fun q => q hc)] at hm
      exact w_Md_isIn_48 fl q_p0 q_p0_tape q_p0_out q_p0_text q_p0_kinds q_p0_begins q_p0_numbers q_p0_d q_p0_old q_p0_before q_p0_latest q_p0_earlier q_p0_keptLatest q_p0_keptEarlier q_p0_made q_p0_labelOf q_p0_begin q_p0_finish q_p0_follow q_p0_compOf q_p0_placed q_p0_faceOf q_p0_firstDart q_p0_pieceOf q_p0_top q_p0_poly q_p0_other q_p0_root q_p0_ways q_p0_arcOf q_p0_low q_p0_high q_p0_minor q_p0_gcd q_p0_one q_p0_d_sign q_p0_d_label f_p0_d_sign i_p0_taped i_p0_outSize i_p0_size i_p0_at i_p0_token i_p0_from i_p0_wasRead i_p0_fault i_p0_place i_p0_lines i_p0_next i_p0_putAt i_p0_done i_p0_hard i_p0_madeSize i_p0_edges i_p0_comps i_p0_faces i_p0_pieces i_p0_arcs i_p0_d_n i_p0_d_circles res C0 x1 x2 _ _ _ hm hP hD hS (lv_sub hl [0, 1, 2] rfl)
set_option maxHeartbeats 4000000 in
set_option maxRecDepth 100000 in
theorem w_Md_isIn_0 {p : Program} {l : Launch} {e : Env} {s : State} {m : MethodId} {args : Array Value} {below : List Frame} {meth : Method} {c : Code} {D : va_G} {cI cJ cB : ClassId} {sa : Nat → Nat × Nat} {A : Nat → Prop} (fl : Nat) (q_p0 : Nat) (q_p0_tape : Nat) (q_p0_out : Nat) (q_p0_text : Nat) (q_p0_kinds : Nat) (q_p0_begins : Nat) (q_p0_numbers : Nat) (q_p0_d : Nat) (q_p0_old : Nat) (q_p0_before : Nat) (q_p0_latest : Nat) (q_p0_earlier : Nat) (q_p0_keptLatest : Nat) (q_p0_keptEarlier : Nat) (q_p0_made : Nat) (q_p0_labelOf : Nat) (q_p0_begin : Nat) (q_p0_finish : Nat) (q_p0_follow : Nat) (q_p0_compOf : Nat) (q_p0_placed : Nat) (q_p0_faceOf : Nat) (q_p0_firstDart : Nat) (q_p0_pieceOf : Nat) (q_p0_top : Nat) (q_p0_poly : Nat) (q_p0_other : Nat) (q_p0_root : Nat) (q_p0_ways : Nat) (q_p0_arcOf : Nat) (q_p0_low : Nat) (q_p0_high : Nat) (q_p0_minor : Nat) (q_p0_gcd : Nat) (q_p0_one : Nat) (q_p0_d_sign : Nat) (q_p0_d_label : Nat) (f_p0_d_sign : Nat → Int32) (i_p0_taped : Int32) (i_p0_outSize : Int32) (i_p0_size : Int32) (i_p0_at : Int32) (i_p0_token : Int32) (i_p0_from : Int32) (i_p0_wasRead : Int32) (i_p0_fault : Int32) (i_p0_place : Int32) (i_p0_lines : Int32) (i_p0_next : Int32) (i_p0_putAt : Int32) (i_p0_done : Int32) (i_p0_hard : Int32) (i_p0_madeSize : Int32) (i_p0_edges : Int32) (i_p0_comps : Int32) (i_p0_faces : Int32) (i_p0_pieces : Int32) (i_p0_arcs : Int32) (i_p0_d_n : Int32) (i_p0_d_circles : Int32) (res : Int32) (C0 : vz_Cx p s m meth c b_Md_isIn 3 (some .boolean) "LinkEngineModel" "isIn" D [(cI, .int), (cJ, .long), (cB, .byte)] sa A args) : ∀ (x1 : Int32) (H : Heap) (locs : List Loc) (ls : Array Slot), B_Md_isIn_0 fl f_p0_d_sign x1 = some res → va_P D classes (ws_Md_isIn cI cJ cB q_p0 q_p0_tape q_p0_out q_p0_text q_p0_kinds q_p0_begins q_p0_numbers q_p0_d q_p0_old q_p0_before q_p0_latest q_p0_earlier q_p0_keptLatest q_p0_keptEarlier q_p0_made q_p0_labelOf q_p0_begin q_p0_finish q_p0_follow q_p0_compOf q_p0_placed q_p0_faceOf q_p0_firstDart q_p0_pieceOf q_p0_top q_p0_poly q_p0_other q_p0_root q_p0_ways q_p0_arcOf q_p0_low q_p0_high q_p0_minor q_p0_gcd q_p0_one q_p0_d_sign q_p0_d_label i_p0_taped i_p0_outSize i_p0_size i_p0_at i_p0_token i_p0_from i_p0_wasRead i_p0_fault i_p0_place i_p0_lines i_p0_next i_p0_putAt i_p0_done i_p0_hard i_p0_madeSize i_p0_edges i_p0_comps i_p0_faces i_p0_pieces i_p0_arcs i_p0_d_n i_p0_d_circles f_p0_d_sign) H → va_D A (ws_Md_isIn cI cJ cB q_p0 q_p0_tape q_p0_out q_p0_text q_p0_kinds q_p0_begins q_p0_numbers q_p0_d q_p0_old q_p0_before q_p0_latest q_p0_earlier q_p0_keptLatest q_p0_keptEarlier q_p0_made q_p0_labelOf q_p0_begin q_p0_finish q_p0_follow q_p0_compOf q_p0_placed q_p0_faceOf q_p0_firstDart q_p0_pieceOf q_p0_top q_p0_poly q_p0_other q_p0_root q_p0_ways q_p0_arcOf q_p0_low q_p0_high q_p0_minor q_p0_gcd q_p0_one q_p0_d_sign q_p0_d_label i_p0_taped i_p0_outSize i_p0_size i_p0_at i_p0_token i_p0_from i_p0_wasRead i_p0_fault i_p0_place i_p0_lines i_p0_next i_p0_putAt i_p0_done i_p0_hard i_p0_madeSize i_p0_edges i_p0_comps i_p0_faces i_p0_pieces i_p0_arcs i_p0_d_n i_p0_d_circles f_p0_d_sign) → va_S A s.heap H locs → lv_has ls 3 [(0, .ref q_p0), (1, .int x1)] → W p l e rm_Md_isIn s m args below meth c H locs 0 0 (MQ below (va_Qi (fun (r : Int32) (w : va_W) => r = res ∧ w = (ws_Md_isIn cI cJ cB q_p0 q_p0_tape q_p0_out q_p0_text q_p0_kinds q_p0_begins q_p0_numbers q_p0_d q_p0_old q_p0_before q_p0_latest q_p0_earlier q_p0_keptLatest q_p0_keptEarlier q_p0_made q_p0_labelOf q_p0_begin q_p0_finish q_p0_follow q_p0_compOf q_p0_placed q_p0_faceOf q_p0_firstDart q_p0_pieceOf q_p0_top q_p0_poly q_p0_other q_p0_root q_p0_ways q_p0_arcOf q_p0_low q_p0_high q_p0_minor q_p0_gcd q_p0_one q_p0_d_sign q_p0_d_label i_p0_taped i_p0_outSize i_p0_size i_p0_at i_p0_token i_p0_from i_p0_wasRead i_p0_fault i_p0_place i_p0_lines i_p0_next i_p0_putAt i_p0_done i_p0_hard i_p0_madeSize i_p0_edges i_p0_comps i_p0_faces i_p0_pieces i_p0_arcs i_p0_d_n i_p0_d_circles f_p0_d_sign)) (vz_B D A) A) args s 0 0 A) (F0 m 0 ls []) := by
  obtain ⟨hx, hb, hr, hml, hown, ht, hlocks, hin, hN, hK, hA, hZ⟩ := id C0
  intro x1 H locs ls hm hP hD hS hl
  unfold B_Md_isIn_0 at hm
  refine lv_iload_n hx hb d_Md_isIn_0 rfl (lv_at hl 1 rfl) ?_
  refine lv_iconst (v := 3) hx hb d_Md_isIn_1 (by decide) ?_
  refine lv_iand hx hb d_Md_isIn_2 ?_
  refine lv_istore_n (lv' := [(2, .int (x1 &&& (3 : Int32))), (0, .ref q_p0), (1, .int x1)]) hx hb d_Md_isIn_3 rfl hl (by decide) rfl (fun ls hl => ?_)
  refine lv_iload_n hx hb d_Md_isIn_4 rfl (lv_at hl 0 rfl) ?_
  refine lv_if_eq (tgt := 48) hx hb d_Md_isIn_5 (by decide) (fun hc => ?_) (fun hc => ?_)
  · rw [if_pos hc] at hm
    exact w_Md_isIn_48 fl q_p0 q_p0_tape q_p0_out q_p0_text q_p0_kinds q_p0_begins q_p0_numbers q_p0_d q_p0_old q_p0_before q_p0_latest q_p0_earlier q_p0_keptLatest q_p0_keptEarlier q_p0_made q_p0_labelOf q_p0_begin q_p0_finish q_p0_follow q_p0_compOf q_p0_placed q_p0_faceOf q_p0_firstDart q_p0_pieceOf q_p0_top q_p0_poly q_p0_other q_p0_root q_p0_ways q_p0_arcOf q_p0_low q_p0_high q_p0_minor q_p0_gcd q_p0_one q_p0_d_sign q_p0_d_label f_p0_d_sign i_p0_taped i_p0_outSize i_p0_size i_p0_at i_p0_token i_p0_from i_p0_wasRead i_p0_fault i_p0_place i_p0_lines i_p0_next i_p0_putAt i_p0_done i_p0_hard i_p0_madeSize i_p0_edges i_p0_comps i_p0_faces i_p0_pieces i_p0_arcs i_p0_d_n i_p0_d_circles res C0 x1 (x1 &&& (3 : Int32)) _ _ _ hm hP hD hS (lv_sub hl [1, 2, 0] rfl)
  · rw [if_neg hc] at hm
    refine lv_iload_n hx hb d_Md_isIn_8 rfl (lv_at hl 0 rfl) ?_
    refine lv_iconst (v := 3) hx hb d_Md_isIn_9 (by decide) ?_
    refine lv_icmp_ne (tgt := 28) hx hb d_Md_isIn_10 (by decide) (fun hc => ?_) (fun hc => ?_)
    · rw [if_pos hc] at hm
      exact w_Md_isIn_28 fl q_p0 q_p0_tape q_p0_out q_p0_text q_p0_kinds q_p0_begins q_p0_numbers q_p0_d q_p0_old q_p0_before q_p0_latest q_p0_earlier q_p0_keptLatest q_p0_keptEarlier q_p0_made q_p0_labelOf q_p0_begin q_p0_finish q_p0_follow q_p0_compOf q_p0_placed q_p0_faceOf q_p0_firstDart q_p0_pieceOf q_p0_top q_p0_poly q_p0_other q_p0_root q_p0_ways q_p0_arcOf q_p0_low q_p0_high q_p0_minor q_p0_gcd q_p0_one q_p0_d_sign q_p0_d_label f_p0_d_sign i_p0_taped i_p0_outSize i_p0_size i_p0_at i_p0_token i_p0_from i_p0_wasRead i_p0_fault i_p0_place i_p0_lines i_p0_next i_p0_putAt i_p0_done i_p0_hard i_p0_madeSize i_p0_edges i_p0_comps i_p0_faces i_p0_pieces i_p0_arcs i_p0_d_n i_p0_d_circles res C0 x1 (x1 &&& (3 : Int32)) _ _ _ hm hP hD hS (lv_sub hl [1, 2, 0] rfl)
    · rw [if_neg (fun q => q hc)] at hm
      refine lv_aload_n hx hb d_Md_isIn_13 rfl (lv_at hl 1 rfl) ?_
      refine va_get (D := D) (ci := 11) (v := .ref q_p0_d) (C := R_Md) (T := F_Md) (N := 54) hx hb ht i_Md hown hK hP 0 rfl rfl 18 (Nat.le_of_ble_eq_true rfl) (ht _ m_134) (fun _ h9 => h9) rfl d_Md_isIn_14 ?_
      refine va_getN (D := D) (ci := 12) (v := .ref q_p0_d_sign) (C := R_Md_Di) (T := F_Md_Di) (N := 4) hx hb ht i_Md_Di hown hK hP 1 rfl rfl 2 (Nat.le_of_ble_eq_true rfl) (va_Nw.use rfl (hN _ n_44)) (fun _ h9 => h9) rfl d_Md_isIn_17 ?_
      refine lv_iload_n hx hb d_Md_isIn_20 rfl (lv_at hl 2 rfl) ?_
      refine lv_iconst (v := 2) hx hb d_Md_isIn_21 (by decide) ?_
      refine lv_ishr hx hb d_Md_isIn_22 ?_
      obtain ⟨hg, hm⟩ := vz_guard hm
      refine va_iald hx hb hK hP 2 0 rfl rfl hg d_Md_isIn_23 ?_
      refine lv_iconst (v := 1) hx hb d_Md_isIn_24 (by decide) ?_
      refine lv_icmp_eq (tgt := 48) hx hb d_Md_isIn_25 (by decide) (fun hc => ?_) (fun hc => ?_)
      · rw [if_pos hc] at hm
        exact w_Md_isIn_48 fl q_p0 q_p0_tape q_p0_out q_p0_text q_p0_kinds q_p0_begins q_p0_numbers q_p0_d q_p0_old q_p0_before q_p0_latest q_p0_earlier q_p0_keptLatest q_p0_keptEarlier q_p0_made q_p0_labelOf q_p0_begin q_p0_finish q_p0_follow q_p0_compOf q_p0_placed q_p0_faceOf q_p0_firstDart q_p0_pieceOf q_p0_top q_p0_poly q_p0_other q_p0_root q_p0_ways q_p0_arcOf q_p0_low q_p0_high q_p0_minor q_p0_gcd q_p0_one q_p0_d_sign q_p0_d_label f_p0_d_sign i_p0_taped i_p0_outSize i_p0_size i_p0_at i_p0_token i_p0_from i_p0_wasRead i_p0_fault i_p0_place i_p0_lines i_p0_next i_p0_putAt i_p0_done i_p0_hard i_p0_madeSize i_p0_edges i_p0_comps i_p0_faces i_p0_pieces i_p0_arcs i_p0_d_n i_p0_d_circles res C0 x1 (x1 &&& (3 : Int32)) _ _ _ hm hP hD hS (lv_sub hl [1, 2, 0] rfl)
      · rw [if_neg hc] at hm
        exact w_Md_isIn_28 fl q_p0 q_p0_tape q_p0_out q_p0_text q_p0_kinds q_p0_begins q_p0_numbers q_p0_d q_p0_old q_p0_before q_p0_latest q_p0_earlier q_p0_keptLatest q_p0_keptEarlier q_p0_made q_p0_labelOf q_p0_begin q_p0_finish q_p0_follow q_p0_compOf q_p0_placed q_p0_faceOf q_p0_firstDart q_p0_pieceOf q_p0_top q_p0_poly q_p0_other q_p0_root q_p0_ways q_p0_arcOf q_p0_low q_p0_high q_p0_minor q_p0_gcd q_p0_one q_p0_d_sign q_p0_d_label f_p0_d_sign i_p0_taped i_p0_outSize i_p0_size i_p0_at i_p0_token i_p0_from i_p0_wasRead i_p0_fault i_p0_place i_p0_lines i_p0_next i_p0_putAt i_p0_done i_p0_hard i_p0_madeSize i_p0_edges i_p0_comps i_p0_faces i_p0_pieces i_p0_arcs i_p0_d_n i_p0_d_circles res C0 x1 (x1 &&& (3 : Int32)) _ _ _ hm hP hD hS (lv_sub hl [1, 2, 0] rfl)
set_option maxHeartbeats 4000000 in
set_option maxRecDepth 100000 in
theorem k_Md_isIn (l : Launch) (D : va_G) (cI cJ cB : ClassId) (sa : Nat → Nat × Nat) (fl : Nat) (q_p0 : Nat) (q_p0_tape : Nat) (q_p0_out : Nat) (q_p0_text : Nat) (q_p0_kinds : Nat) (q_p0_begins : Nat) (q_p0_numbers : Nat) (q_p0_d : Nat) (q_p0_old : Nat) (q_p0_before : Nat) (q_p0_latest : Nat) (q_p0_earlier : Nat) (q_p0_keptLatest : Nat) (q_p0_keptEarlier : Nat) (q_p0_made : Nat) (q_p0_labelOf : Nat) (q_p0_begin : Nat) (q_p0_finish : Nat) (q_p0_follow : Nat) (q_p0_compOf : Nat) (q_p0_placed : Nat) (q_p0_faceOf : Nat) (q_p0_firstDart : Nat) (q_p0_pieceOf : Nat) (q_p0_top : Nat) (q_p0_poly : Nat) (q_p0_other : Nat) (q_p0_root : Nat) (q_p0_ways : Nat) (q_p0_arcOf : Nat) (q_p0_low : Nat) (q_p0_high : Nat) (q_p0_minor : Nat) (q_p0_gcd : Nat) (q_p0_one : Nat) (q_p0_d_sign : Nat) (q_p0_d_label : Nat) (f_p0_d_sign : Nat → Int32) (i_p0_taped : Int32) (i_p0_outSize : Int32) (i_p0_size : Int32) (i_p0_at : Int32) (i_p0_token : Int32) (i_p0_from : Int32) (i_p0_wasRead : Int32) (i_p0_fault : Int32) (i_p0_place : Int32) (i_p0_lines : Int32) (i_p0_next : Int32) (i_p0_putAt : Int32) (i_p0_done : Int32) (i_p0_hard : Int32) (i_p0_madeSize : Int32) (i_p0_edges : Int32) (i_p0_comps : Int32) (i_p0_faces : Int32) (i_p0_pieces : Int32) (i_p0_arcs : Int32) (i_p0_d_n : Int32) (i_p0_d_circles : Int32) (x1 : Int32) (res : Int32) (hm : m_Md_isIn fl f_p0_d_sign x1 = some res) : MtI l y_Md_isIn (.code y_Md_isIn b_Md_isIn 3 (some .boolean) :: CW) rm_Md_isIn D [(cI, .int), (cJ, .long), (cB, .byte)] sa [.ref q_p0, .int x1] (ws_Md_isIn cI cJ cB q_p0 q_p0_tape q_p0_out q_p0_text q_p0_kinds q_p0_begins q_p0_numbers q_p0_d q_p0_old q_p0_before q_p0_latest q_p0_earlier q_p0_keptLatest q_p0_keptEarlier q_p0_made q_p0_labelOf q_p0_begin q_p0_finish q_p0_follow q_p0_compOf q_p0_placed q_p0_faceOf q_p0_firstDart q_p0_pieceOf q_p0_top q_p0_poly q_p0_other q_p0_root q_p0_ways q_p0_arcOf q_p0_low q_p0_high q_p0_minor q_p0_gcd q_p0_one q_p0_d_sign q_p0_d_label i_p0_taped i_p0_outSize i_p0_size i_p0_at i_p0_token i_p0_from i_p0_wasRead i_p0_fault i_p0_place i_p0_lines i_p0_next i_p0_putAt i_p0_done i_p0_hard i_p0_madeSize i_p0_edges i_p0_comps i_p0_faces i_p0_pieces i_p0_arcs i_p0_d_n i_p0_d_circles f_p0_d_sign) (fun (r : Int32) (w : va_W) => r = res ∧ w = (ws_Md_isIn cI cJ cB q_p0 q_p0_tape q_p0_out q_p0_text q_p0_kinds q_p0_begins q_p0_numbers q_p0_d q_p0_old q_p0_before q_p0_latest q_p0_earlier q_p0_keptLatest q_p0_keptEarlier q_p0_made q_p0_labelOf q_p0_begin q_p0_finish q_p0_follow q_p0_compOf q_p0_placed q_p0_faceOf q_p0_firstDart q_p0_pieceOf q_p0_top q_p0_poly q_p0_other q_p0_root q_p0_ways q_p0_arcOf q_p0_low q_p0_high q_p0_minor q_p0_gcd q_p0_one q_p0_d_sign q_p0_d_label i_p0_taped i_p0_outSize i_p0_size i_p0_at i_p0_token i_p0_from i_p0_wasRead i_p0_fault i_p0_place i_p0_lines i_p0_next i_p0_putAt i_p0_done i_p0_hard i_p0_madeSize i_p0_edges i_p0_comps i_p0_faces i_p0_pieces i_p0_arcs i_p0_d_n i_p0_d_circles f_p0_d_sign)) := by
  intro sz
  refine vz_start (Qc := fun A => va_Qi (fun (r : Int32) (w : va_W) => r = res ∧ w = (ws_Md_isIn cI cJ cB q_p0 q_p0_tape q_p0_out q_p0_text q_p0_kinds q_p0_begins q_p0_numbers q_p0_d q_p0_old q_p0_before q_p0_latest q_p0_earlier q_p0_keptLatest q_p0_keptEarlier q_p0_made q_p0_labelOf q_p0_begin q_p0_finish q_p0_follow q_p0_compOf q_p0_placed q_p0_faceOf q_p0_firstDart q_p0_pieceOf q_p0_top q_p0_poly q_p0_other q_p0_root q_p0_ways q_p0_arcOf q_p0_low q_p0_high q_p0_minor q_p0_gcd q_p0_one q_p0_d_sign q_p0_d_label i_p0_taped i_p0_outSize i_p0_size i_p0_at i_p0_token i_p0_from i_p0_wasRead i_p0_fault i_p0_place i_p0_lines i_p0_next i_p0_putAt i_p0_done i_p0_hard i_p0_madeSize i_p0_edges i_p0_comps i_p0_faces i_p0_pieces i_p0_arcs i_p0_d_n i_p0_d_circles f_p0_d_sign)) (vz_B D A) A) (lv0 := [(0, .ref q_p0), (1, .int x1)]) (by decide +kernel) (Nat.le_of_ble_eq_true rfl) rfl ?_
  intro p e s m below meth c A ls C0 hl
  obtain ⟨hx, hb, hr, hml, hown, ht, hlocks, hin, hN, hK, hP, hD, hA, hS, hZ⟩ := C0
  exact w_Md_isIn_0 fl q_p0 q_p0_tape q_p0_out q_p0_text q_p0_kinds q_p0_begins q_p0_numbers q_p0_d q_p0_old q_p0_before q_p0_latest q_p0_earlier q_p0_keptLatest q_p0_keptEarlier q_p0_made q_p0_labelOf q_p0_begin q_p0_finish q_p0_follow q_p0_compOf q_p0_placed q_p0_faceOf q_p0_firstDart q_p0_pieceOf q_p0_top q_p0_poly q_p0_other q_p0_root q_p0_ways q_p0_arcOf q_p0_low q_p0_high q_p0_minor q_p0_gcd q_p0_one q_p0_d_sign q_p0_d_label f_p0_d_sign i_p0_taped i_p0_outSize i_p0_size i_p0_at i_p0_token i_p0_from i_p0_wasRead i_p0_fault i_p0_place i_p0_lines i_p0_next i_p0_putAt i_p0_done i_p0_hard i_p0_madeSize i_p0_edges i_p0_comps i_p0_faces i_p0_pieces i_p0_arcs i_p0_d_n i_p0_d_circles res ⟨hx, hb, hr, hml, hown, ht, hlocks, hin, hN, hK, hA, hZ⟩ x1 s.heap [] ls hm hP hD hS (lv_sub hl [0, 1] rfl)
