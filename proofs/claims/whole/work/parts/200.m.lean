def ws_En_putOnTape (cI cJ cB : ClassId) (q_p0 : Nat) (q_p0_reader : Nat) (q_p0_reader_text : Nat) (q_p0_reader_lines : Nat) (q_p0_paper : Nat) (q_p0_moves : Nat) (q_p0_stateSum : Nat) (q_p0_minor : Nat) (q_p0_polynomial : Nat) (q_p0_now : Nat) (q_p0_next : Nat) (q_p0_trial : Nat) (q_p0_latest : Nat) (q_p0_earlier : Nat) (q_p0_spare : Nat) (i_p0_onTape : Int32) (i_p0_hasRead : Int32) (i_p0_linesDone : Int32) (i_p0_sumsDone : Int32) (f_p0_reader_text : Nat → Int32) : va_W := [(q_p0, .inr (0, [.ref q_p0_reader, .ref q_p0_reader_text, .ref q_p0_reader_lines, .ref q_p0_paper, .ref q_p0_moves, .ref q_p0_stateSum, .ref q_p0_minor, .ref q_p0_polynomial, .ref q_p0_now, .ref q_p0_next, .ref q_p0_trial, .ref q_p0_latest, .ref q_p0_earlier, .ref q_p0_spare, .int i_p0_onTape, .int i_p0_hasRead, .int i_p0_linesDone, .int i_p0_sumsDone])), (q_p0_reader_text, .inl (cI, 4000, .inl f_p0_reader_text))]
def rm_En_putOnTape : Room := { frames := 0, cells := 0, slots := 0, locals := 0 }
def B_En_putOnTape_3 (fl : Nat) : Nat → Int32 → Int32 → Int32 → (Nat → Int32) → Option (Int32 × (Nat → Int32))
  | 0, _, _, _, _ => none
  | nn + 1, x1, x2, i_p0_onTape, f_p0_reader_text => (if x2 < (0 : Int32) then (some (i_p0_onTape, f_p0_reader_text)) else (if (4000 : Int32) ≤ i_p0_onTape then (some (i_p0_onTape, f_p0_reader_text)) else (if ¬ (i_p0_onTape < 0 ∨ 4000 ≤ Int32.toNatClampNeg i_p0_onTape) then B_En_putOnTape_3 fl nn x1 (x2 + (-8)) (i_p0_onTape + (1 : Int32)) (upd f_p0_reader_text (Int32.toNatClampNeg i_p0_onTape) (((Int32.toUInt32 x1 >>> (Int32.toUInt32 x2 &&& Int32.toUInt32 31)).toInt32) &&& (255 : Int32))) else none)))
def B_En_putOnTape_0 (fl : Nat) (x1 : Int32) (i_p0_onTape : Int32) (f_p0_reader_text : Nat → Int32) : Option (Int32 × (Nat → Int32)) := B_En_putOnTape_3 fl fl x1 24 i_p0_onTape f_p0_reader_text
def m_En_putOnTape (fl : Nat) (x1 : Int32) (i_p0_onTape : Int32) (f_p0_reader_text : Nat → Int32) : Option (Int32 × (Nat → Int32)) := B_En_putOnTape_0 fl  x1 i_p0_onTape f_p0_reader_text
set_option maxHeartbeats 4000000 in
set_option maxRecDepth 100000 in
theorem w_En_putOnTape_3 {p : Program} {l : Launch} {e : Env} {s : State} {m : MethodId} {args : Array Value} {below : List Frame} {meth : Method} {c : Code} {D : va_G} {cI cJ cB : ClassId} {sa : Nat → Nat × Nat} {A : Nat → Prop} (fl : Nat) (q_p0 : Nat) (q_p0_reader : Nat) (q_p0_reader_text : Nat) (q_p0_reader_lines : Nat) (q_p0_paper : Nat) (q_p0_moves : Nat) (q_p0_stateSum : Nat) (q_p0_minor : Nat) (q_p0_polynomial : Nat) (q_p0_now : Nat) (q_p0_next : Nat) (q_p0_trial : Nat) (q_p0_latest : Nat) (q_p0_earlier : Nat) (q_p0_spare : Nat) (i_p0_hasRead : Int32) (i_p0_linesDone : Int32) (i_p0_sumsDone : Int32) (res : Int32 × (Nat → Int32)) (C0 : vz_Cx p s m meth c b_En_putOnTape 3 none "LinkEngine" "putOnTape" D [(cI, .int), (cJ, .long), (cB, .byte)] sa A args) : ∀ (nn : Nat), ∀ (x1 : Int32) (x2 : Int32) (i_p0_onTape : Int32) (f_p0_reader_text : Nat → Int32) (H : Heap) (locs : List Loc) (ls : Array Slot), B_En_putOnTape_3 fl nn x1 x2 i_p0_onTape f_p0_reader_text = some res → va_P D classes (ws_En_putOnTape cI cJ cB q_p0 q_p0_reader q_p0_reader_text q_p0_reader_lines q_p0_paper q_p0_moves q_p0_stateSum q_p0_minor q_p0_polynomial q_p0_now q_p0_next q_p0_trial q_p0_latest q_p0_earlier q_p0_spare i_p0_onTape i_p0_hasRead i_p0_linesDone i_p0_sumsDone f_p0_reader_text) H → va_D A (ws_En_putOnTape cI cJ cB q_p0 q_p0_reader q_p0_reader_text q_p0_reader_lines q_p0_paper q_p0_moves q_p0_stateSum q_p0_minor q_p0_polynomial q_p0_now q_p0_next q_p0_trial q_p0_latest q_p0_earlier q_p0_spare i_p0_onTape i_p0_hasRead i_p0_linesDone i_p0_sumsDone f_p0_reader_text) → va_S A s.heap H locs → lv_has ls 3 [(0, .ref q_p0), (1, .int x1), (2, .int x2)] → W p l e rm_En_putOnTape s m args below meth c H locs 0 0 (MQ below (va_Qv (fun (w : va_W) => w = (ws_En_putOnTape cI cJ cB q_p0 q_p0_reader q_p0_reader_text q_p0_reader_lines q_p0_paper q_p0_moves q_p0_stateSum q_p0_minor q_p0_polynomial q_p0_now q_p0_next q_p0_trial q_p0_latest q_p0_earlier q_p0_spare res.1 i_p0_hasRead i_p0_linesDone i_p0_sumsDone res.2)) (vz_B D A) A) args s 0 0 A) (F0 m 3 ls []) := by
  obtain ⟨hx, hb, hr, hml, hown, ht, hlocks, hin, hN, hK, hA, hZ⟩ := id C0
  intro nn
  induction nn with
  | zero =>
    intro x1 x2 i_p0_onTape f_p0_reader_text H locs ls hm hP hD hS hl
    rw [B_En_putOnTape_3] at hm
    cases hm
  | succ nn ih =>
    intro x1 x2 i_p0_onTape f_p0_reader_text H locs ls hm hP hD hS hl
    rw [B_En_putOnTape_3] at hm
    refine lv_iload_n hx hb d_En_putOnTape_3 rfl (lv_at hl 2 rfl) ?_
    refine lv_if_lt (tgt := 49) hx hb d_En_putOnTape_4 (by decide) (fun hc => ?_) (fun hc => ?_)
    · rw [if_pos hc] at hm
      obtain rfl := Option.some.inj hm
      exact vz_vret hx hb hr hlocks hP hD hS (Nat.le_refl _) (Nat.le_refl _) d_En_putOnTape_49 rfl
    · rw [if_neg hc] at hm
      refine lv_aload_n hx hb d_En_putOnTape_7 rfl (lv_at hl 0 rfl) ?_
      refine va_get (D := D) (ci := 0) (v := .int i_p0_onTape) (C := R_En) (T := F_En) (N := 18) hx hb ht i_En hown hK hP 0 rfl rfl 14 (Nat.le_of_ble_eq_true rfl) (ht _ m_167) (fun _ h9 => h9) rfl d_En_putOnTape_8 ?_
      refine lv_sipush (v := 4000) hx hb d_En_putOnTape_11 (by decide +kernel) ?_
      refine lv_icmp_ge (tgt := 49) hx hb d_En_putOnTape_14 (by decide) (fun hc => ?_) (fun hc => ?_)
      · rw [if_pos hc] at hm
        obtain rfl := Option.some.inj hm
        exact vz_vret hx hb hr hlocks hP hD hS (Nat.le_refl _) (Nat.le_refl _) d_En_putOnTape_49 rfl
      · rw [if_neg hc] at hm
        refine lv_aload_n hx hb d_En_putOnTape_17 rfl (lv_at hl 0 rfl) ?_
        refine va_get (D := D) (ci := 0) (v := .ref q_p0_reader_text) (C := R_En) (T := F_En) (N := 18) hx hb ht i_En hown hK hP 0 rfl rfl 1 (Nat.le_of_ble_eq_true rfl) (ht _ m_65) (fun _ h9 => h9) rfl d_En_putOnTape_18 ?_
        refine lv_aload_n hx hb d_En_putOnTape_21 rfl (lv_at hl 0 rfl) ?_
        refine va_get (D := D) (ci := 0) (v := .int i_p0_onTape) (C := R_En) (T := F_En) (N := 18) hx hb ht i_En hown hK hP 0 rfl rfl 14 (Nat.le_of_ble_eq_true rfl) (ht _ m_167) (fun _ h9 => h9) rfl d_En_putOnTape_22 ?_
        refine lv_iload_n hx hb d_En_putOnTape_25 rfl (lv_at hl 1 rfl) ?_
        refine lv_iload_n hx hb d_En_putOnTape_26 rfl (lv_at hl 2 rfl) ?_
        refine lv_iushr hx hb d_En_putOnTape_27 rfl ?_
        refine lv_sipush (v := 255) hx hb d_En_putOnTape_28 (by decide +kernel) ?_
        refine lv_iand hx hb d_En_putOnTape_31 ?_
        obtain ⟨hg, hm⟩ := vz_guard hm
        refine va_iast hx hb hK hP hD hS 1 0 rfl rfl hg d_En_putOnTape_32 (fun H locs hP hD hS => ?_)
        have hP : va_P D classes (ws_En_putOnTape cI cJ cB q_p0 q_p0_reader q_p0_reader_text q_p0_reader_lines q_p0_paper q_p0_moves q_p0_stateSum q_p0_minor q_p0_polynomial q_p0_now q_p0_next q_p0_trial q_p0_latest q_p0_earlier q_p0_spare i_p0_onTape i_p0_hasRead i_p0_linesDone i_p0_sumsDone (upd f_p0_reader_text (Int32.toNatClampNeg i_p0_onTape) (((Int32.toUInt32 x1 >>> (Int32.toUInt32 x2 &&& Int32.toUInt32 31)).toInt32) &&& (255 : Int32)))) H := hP
        have hD : va_D A (ws_En_putOnTape cI cJ cB q_p0 q_p0_reader q_p0_reader_text q_p0_reader_lines q_p0_paper q_p0_moves q_p0_stateSum q_p0_minor q_p0_polynomial q_p0_now q_p0_next q_p0_trial q_p0_latest q_p0_earlier q_p0_spare i_p0_onTape i_p0_hasRead i_p0_linesDone i_p0_sumsDone (upd f_p0_reader_text (Int32.toNatClampNeg i_p0_onTape) (((Int32.toUInt32 x1 >>> (Int32.toUInt32 x2 &&& Int32.toUInt32 31)).toInt32) &&& (255 : Int32)))) := hD
        refine lv_aload_n hx hb d_En_putOnTape_33 rfl (lv_at hl 0 rfl) ?_
        refine lv_dup hx hb d_En_putOnTape_34 rfl ?_
        refine va_get (D := D) (ci := 0) (v := .int i_p0_onTape) (C := R_En) (T := F_En) (N := 18) hx hb ht i_En hown hK hP 0 rfl rfl 14 (Nat.le_of_ble_eq_true rfl) (ht _ m_167) (fun _ h9 => h9) rfl d_En_putOnTape_35 ?_
        refine lv_iconst (v := 1) hx hb d_En_putOnTape_38 (by decide) ?_
        refine lv_iadd hx hb d_En_putOnTape_39 ?_
        refine va_put (D := D) (ci := 0) (v := .int (i_p0_onTape + (1 : Int32))) (ty := .int) (C := R_En) (T := F_En) (N := 18) hx hb ht i_En t_En t_En_ok n_En hown hK hP hD hS 0 rfl rfl 14 (Nat.le_of_ble_eq_true rfl) (ht _ m_167) (fun _ h9 => h9) rfl (by decide +kernel) rfl rfl (Nat.le_of_ble_eq_true rfl) d_En_putOnTape_40 (fun H locs hP hD hS => ?_)
        have hP : va_P D classes (ws_En_putOnTape cI cJ cB q_p0 q_p0_reader q_p0_reader_text q_p0_reader_lines q_p0_paper q_p0_moves q_p0_stateSum q_p0_minor q_p0_polynomial q_p0_now q_p0_next q_p0_trial q_p0_latest q_p0_earlier q_p0_spare (i_p0_onTape + (1 : Int32)) i_p0_hasRead i_p0_linesDone i_p0_sumsDone (upd f_p0_reader_text (Int32.toNatClampNeg i_p0_onTape) (((Int32.toUInt32 x1 >>> (Int32.toUInt32 x2 &&& Int32.toUInt32 31)).toInt32) &&& (255 : Int32)))) H := hP
        have hD : va_D A (ws_En_putOnTape cI cJ cB q_p0 q_p0_reader q_p0_reader_text q_p0_reader_lines q_p0_paper q_p0_moves q_p0_stateSum q_p0_minor q_p0_polynomial q_p0_now q_p0_next q_p0_trial q_p0_latest q_p0_earlier q_p0_spare (i_p0_onTape + (1 : Int32)) i_p0_hasRead i_p0_linesDone i_p0_sumsDone (upd f_p0_reader_text (Int32.toNatClampNeg i_p0_onTape) (((Int32.toUInt32 x1 >>> (Int32.toUInt32 x2 &&& Int32.toUInt32 31)).toInt32) &&& (255 : Int32)))) := hD
        refine lv_iinc (v := (x2 + (-8))) (lv' := [(2, .int (x2 + (-8))), (0, .ref q_p0), (1, .int x1)]) hx hb d_En_putOnTape_43 hl (k := 2) rfl rfl (by decide) rfl (fun ls hl => ?_)
        refine lv_goto (tgt := 3) hx hb d_En_putOnTape_46 (by decide) ?_
        exact ih x1 (x2 + (-8)) (i_p0_onTape + (1 : Int32)) (upd f_p0_reader_text (Int32.toNatClampNeg i_p0_onTape) (((Int32.toUInt32 x1 >>> (Int32.toUInt32 x2 &&& Int32.toUInt32 31)).toInt32) &&& (255 : Int32))) _ _ _ hm hP hD hS (lv_sub hl [1, 2, 0] rfl)
set_option maxHeartbeats 4000000 in
set_option maxRecDepth 100000 in
theorem w_En_putOnTape_0 {p : Program} {l : Launch} {e : Env} {s : State} {m : MethodId} {args : Array Value} {below : List Frame} {meth : Method} {c : Code} {D : va_G} {cI cJ cB : ClassId} {sa : Nat → Nat × Nat} {A : Nat → Prop} (fl : Nat) (q_p0 : Nat) (q_p0_reader : Nat) (q_p0_reader_text : Nat) (q_p0_reader_lines : Nat) (q_p0_paper : Nat) (q_p0_moves : Nat) (q_p0_stateSum : Nat) (q_p0_minor : Nat) (q_p0_polynomial : Nat) (q_p0_now : Nat) (q_p0_next : Nat) (q_p0_trial : Nat) (q_p0_latest : Nat) (q_p0_earlier : Nat) (q_p0_spare : Nat) (i_p0_hasRead : Int32) (i_p0_linesDone : Int32) (i_p0_sumsDone : Int32) (res : Int32 × (Nat → Int32)) (C0 : vz_Cx p s m meth c b_En_putOnTape 3 none "LinkEngine" "putOnTape" D [(cI, .int), (cJ, .long), (cB, .byte)] sa A args) : ∀ (x1 : Int32) (i_p0_onTape : Int32) (f_p0_reader_text : Nat → Int32) (H : Heap) (locs : List Loc) (ls : Array Slot), B_En_putOnTape_0 fl x1 i_p0_onTape f_p0_reader_text = some res → va_P D classes (ws_En_putOnTape cI cJ cB q_p0 q_p0_reader q_p0_reader_text q_p0_reader_lines q_p0_paper q_p0_moves q_p0_stateSum q_p0_minor q_p0_polynomial q_p0_now q_p0_next q_p0_trial q_p0_latest q_p0_earlier q_p0_spare i_p0_onTape i_p0_hasRead i_p0_linesDone i_p0_sumsDone f_p0_reader_text) H → va_D A (ws_En_putOnTape cI cJ cB q_p0 q_p0_reader q_p0_reader_text q_p0_reader_lines q_p0_paper q_p0_moves q_p0_stateSum q_p0_minor q_p0_polynomial q_p0_now q_p0_next q_p0_trial q_p0_latest q_p0_earlier q_p0_spare i_p0_onTape i_p0_hasRead i_p0_linesDone i_p0_sumsDone f_p0_reader_text) → va_S A s.heap H locs → lv_has ls 3 [(0, .ref q_p0), (1, .int x1)] → W p l e rm_En_putOnTape s m args below meth c H locs 0 0 (MQ below (va_Qv (fun (w : va_W) => w = (ws_En_putOnTape cI cJ cB q_p0 q_p0_reader q_p0_reader_text q_p0_reader_lines q_p0_paper q_p0_moves q_p0_stateSum q_p0_minor q_p0_polynomial q_p0_now q_p0_next q_p0_trial q_p0_latest q_p0_earlier q_p0_spare res.1 i_p0_hasRead i_p0_linesDone i_p0_sumsDone res.2)) (vz_B D A) A) args s 0 0 A) (F0 m 0 ls []) := by
  obtain ⟨hx, hb, hr, hml, hown, ht, hlocks, hin, hN, hK, hA, hZ⟩ := id C0
  intro x1 i_p0_onTape f_p0_reader_text H locs ls hm hP hD hS hl
  unfold B_En_putOnTape_0 at hm
  refine lv_bipush (v := 24) hx hb d_En_putOnTape_0 (by decide +kernel) ?_
  refine lv_istore_n (lv' := [(2, .int 24), (0, .ref q_p0), (1, .int x1)]) hx hb d_En_putOnTape_2 rfl hl (by decide) rfl (fun ls hl => ?_)
  exact w_En_putOnTape_3 fl q_p0 q_p0_reader q_p0_reader_text q_p0_reader_lines q_p0_paper q_p0_moves q_p0_stateSum q_p0_minor q_p0_polynomial q_p0_now q_p0_next q_p0_trial q_p0_latest q_p0_earlier q_p0_spare i_p0_hasRead i_p0_linesDone i_p0_sumsDone res C0 fl x1 24 i_p0_onTape f_p0_reader_text _ _ _ hm hP hD hS (lv_sub hl [1, 2, 0] rfl)
set_option maxHeartbeats 4000000 in
set_option maxRecDepth 100000 in
theorem k_En_putOnTape (l : Launch) (D : va_G) (cI cJ cB : ClassId) (sa : Nat → Nat × Nat) (fl : Nat) (q_p0 : Nat) (q_p0_reader : Nat) (q_p0_reader_text : Nat) (q_p0_reader_lines : Nat) (q_p0_paper : Nat) (q_p0_moves : Nat) (q_p0_stateSum : Nat) (q_p0_minor : Nat) (q_p0_polynomial : Nat) (q_p0_now : Nat) (q_p0_next : Nat) (q_p0_trial : Nat) (q_p0_latest : Nat) (q_p0_earlier : Nat) (q_p0_spare : Nat) (i_p0_hasRead : Int32) (i_p0_linesDone : Int32) (i_p0_sumsDone : Int32) (i_p0_onTape : Int32) (f_p0_reader_text : Nat → Int32) (x1 : Int32) (res : Int32 × (Nat → Int32)) (hm : m_En_putOnTape fl x1 i_p0_onTape f_p0_reader_text = some res) : MtV l y_En_putOnTape (.code y_En_putOnTape b_En_putOnTape 3 none :: CW) rm_En_putOnTape D [(cI, .int), (cJ, .long), (cB, .byte)] sa [.ref q_p0, .int x1] (ws_En_putOnTape cI cJ cB q_p0 q_p0_reader q_p0_reader_text q_p0_reader_lines q_p0_paper q_p0_moves q_p0_stateSum q_p0_minor q_p0_polynomial q_p0_now q_p0_next q_p0_trial q_p0_latest q_p0_earlier q_p0_spare i_p0_onTape i_p0_hasRead i_p0_linesDone i_p0_sumsDone f_p0_reader_text) (fun (w : va_W) => w = (ws_En_putOnTape cI cJ cB q_p0 q_p0_reader q_p0_reader_text q_p0_reader_lines q_p0_paper q_p0_moves q_p0_stateSum q_p0_minor q_p0_polynomial q_p0_now q_p0_next q_p0_trial q_p0_latest q_p0_earlier q_p0_spare res.1 i_p0_hasRead i_p0_linesDone i_p0_sumsDone res.2)) := by
  intro sz
  refine vz_start (Qc := fun A => va_Qv (fun (w : va_W) => w = (ws_En_putOnTape cI cJ cB q_p0 q_p0_reader q_p0_reader_text q_p0_reader_lines q_p0_paper q_p0_moves q_p0_stateSum q_p0_minor q_p0_polynomial q_p0_now q_p0_next q_p0_trial q_p0_latest q_p0_earlier q_p0_spare res.1 i_p0_hasRead i_p0_linesDone i_p0_sumsDone res.2)) (vz_B D A) A) (lv0 := [(0, .ref q_p0), (1, .int x1)]) (by decide +kernel) (Nat.le_of_ble_eq_true rfl) rfl ?_
  intro p e s m below meth c A ls C0 hl
  obtain ⟨hx, hb, hr, hml, hown, ht, hlocks, hin, hN, hK, hP, hD, hA, hS, hZ⟩ := C0
  exact w_En_putOnTape_0 fl q_p0 q_p0_reader q_p0_reader_text q_p0_reader_lines q_p0_paper q_p0_moves q_p0_stateSum q_p0_minor q_p0_polynomial q_p0_now q_p0_next q_p0_trial q_p0_latest q_p0_earlier q_p0_spare i_p0_hasRead i_p0_linesDone i_p0_sumsDone res ⟨hx, hb, hr, hml, hown, ht, hlocks, hin, hN, hK, hA, hZ⟩ x1 i_p0_onTape f_p0_reader_text s.heap [] ls hm hP hD hS (lv_sub hl [0, 1] rfl)
def ws_Li_clear (cI cJ cB : ClassId) (q_p0 : Nat) (q_p0_kind : Nat) (q_p0_start : Nat) (q_p0_value : Nat) (i_p0_count : Int32) (i_p0_done : Int32) : va_W := [(q_p0, .inr (1, [.ref q_p0_kind, .ref q_p0_start, .ref q_p0_value, .int i_p0_count, .int i_p0_done]))]
def rm_Li_clear : Room := { frames := 0, cells := 0, slots := 0, locals := 0 }
def B_Li_clear_0 (fl : Nat) (i_p0_count : Int32) (i_p0_done : Int32) : Option (Int32 × Int32) := (some (0, 0))
def m_Li_clear (fl : Nat) (i_p0_count : Int32) (i_p0_done : Int32) : Option (Int32 × Int32) := B_Li_clear_0 fl  i_p0_count i_p0_done
set_option maxHeartbeats 4000000 in
set_option maxRecDepth 100000 in
theorem w_Li_clear_0 {p : Program} {l : Launch} {e : Env} {s : State} {m : MethodId} {args : Array Value} {below : List Frame} {meth : Method} {c : Code} {D : va_G} {cI cJ cB : ClassId} {sa : Nat → Nat × Nat} {A : Nat → Prop} (fl : Nat) (q_p0 : Nat) (q_p0_kind : Nat) (q_p0_start : Nat) (q_p0_value : Nat)  (res : Int32 × Int32) (C0 : vz_Cx p s m meth c b_Li_clear 1 none "LinkEngine$Lines" "clear" D [(cI, .int), (cJ, .long), (cB, .byte)] sa A args) : ∀ (i_p0_count : Int32) (i_p0_done : Int32) (H : Heap) (locs : List Loc) (ls : Array Slot), B_Li_clear_0 fl i_p0_count i_p0_done = some res → va_P D classes (ws_Li_clear cI cJ cB q_p0 q_p0_kind q_p0_start q_p0_value i_p0_count i_p0_done) H → va_D A (ws_Li_clear cI cJ cB q_p0 q_p0_kind q_p0_start q_p0_value i_p0_count i_p0_done) → va_S A s.heap H locs → lv_has ls 1 [(0, .ref q_p0)] → W p l e rm_Li_clear s m args below meth c H locs 0 0 (MQ below (va_Qv (fun (w : va_W) => w = (ws_Li_clear cI cJ cB q_p0 q_p0_kind q_p0_start q_p0_value res.1 res.2)) (vz_B D A) A) args s 0 0 A) (F0 m 0 ls []) := by
  obtain ⟨hx, hb, hr, hml, hown, ht, hlocks, hin, hN, hK, hA, hZ⟩ := id C0
  intro i_p0_count i_p0_done H locs ls hm hP hD hS hl
  unfold B_Li_clear_0 at hm
  refine lv_aload_n hx hb d_Li_clear_0 rfl (lv_at hl 0 rfl) ?_
  refine lv_iconst (v := 0) hx hb d_Li_clear_1 (by decide) ?_
  refine va_put (D := D) (ci := 1) (v := .int 0) (ty := .int) (C := R_Li) (T := F_Li) (N := 5) hx hb ht i_Li t_Li t_Li_ok n_Li hown hK hP hD hS 0 rfl rfl 3 (Nat.le_of_ble_eq_true rfl) (ht _ m_174) (fun _ h9 => h9) rfl (by decide +kernel) rfl rfl (Nat.le_of_ble_eq_true rfl) d_Li_clear_2 (fun H locs hP hD hS => ?_)
  have hP : va_P D classes (ws_Li_clear cI cJ cB q_p0 q_p0_kind q_p0_start q_p0_value 0 i_p0_done) H := hP
  have hD : va_D A (ws_Li_clear cI cJ cB q_p0 q_p0_kind q_p0_start q_p0_value 0 i_p0_done) := hD
  refine lv_aload_n hx hb d_Li_clear_5 rfl (lv_at hl 0 rfl) ?_
  refine lv_iconst (v := 0) hx hb d_Li_clear_6 (by decide) ?_
  refine va_put (D := D) (ci := 1) (v := .int 0) (ty := .int) (C := R_Li) (T := F_Li) (N := 5) hx hb ht i_Li t_Li t_Li_ok n_Li hown hK hP hD hS 0 rfl rfl 4 (Nat.le_of_ble_eq_true rfl) (ht _ m_175) (fun _ h9 => h9) rfl (by decide +kernel) rfl rfl (Nat.le_of_ble_eq_true rfl) d_Li_clear_7 (fun H locs hP hD hS => ?_)
  have hP : va_P D classes (ws_Li_clear cI cJ cB q_p0 q_p0_kind q_p0_start q_p0_value 0 0) H := hP
  have hD : va_D A (ws_Li_clear cI cJ cB q_p0 q_p0_kind q_p0_start q_p0_value 0 0) := hD
  obtain rfl := Option.some.inj hm
  exact vz_vret hx hb hr hlocks hP hD hS (Nat.le_refl _) (Nat.le_refl _) d_Li_clear_10 rfl
set_option maxHeartbeats 4000000 in
set_option maxRecDepth 100000 in
theorem k_Li_clear (l : Launch) (D : va_G) (cI cJ cB : ClassId) (sa : Nat → Nat × Nat) (fl : Nat) (q_p0 : Nat) (q_p0_kind : Nat) (q_p0_start : Nat) (q_p0_value : Nat) (i_p0_count : Int32) (i_p0_done : Int32)  (res : Int32 × Int32) (hm : m_Li_clear fl i_p0_count i_p0_done = some res) : MtV l y_Li_clear (.code y_Li_clear b_Li_clear 1 none :: CW) rm_Li_clear D [(cI, .int), (cJ, .long), (cB, .byte)] sa [.ref q_p0] (ws_Li_clear cI cJ cB q_p0 q_p0_kind q_p0_start q_p0_value i_p0_count i_p0_done) (fun (w : va_W) => w = (ws_Li_clear cI cJ cB q_p0 q_p0_kind q_p0_start q_p0_value res.1 res.2)) := by
  intro sz
  refine vz_start (Qc := fun A => va_Qv (fun (w : va_W) => w = (ws_Li_clear cI cJ cB q_p0 q_p0_kind q_p0_start q_p0_value res.1 res.2)) (vz_B D A) A) (lv0 := [(0, .ref q_p0)]) (by decide +kernel) (Nat.le_of_ble_eq_true rfl) rfl ?_
  intro p e s m below meth c A ls C0 hl
  obtain ⟨hx, hb, hr, hml, hown, ht, hlocks, hin, hN, hK, hP, hD, hA, hS, hZ⟩ := C0
  exact w_Li_clear_0 fl q_p0 q_p0_kind q_p0_start q_p0_value  res ⟨hx, hb, hr, hml, hown, ht, hlocks, hin, hN, hK, hA, hZ⟩ i_p0_count i_p0_done s.heap [] ls hm hP hD hS (lv_sub hl [0] rfl)
def ws_Rd_hasMore (cI cJ cB : ClassId) (q_p0 : Nat) (q_p0_text : Nat) (q_p0_lines : Nat) (i_p0_size : Int32) (i_p0_behind : Int32) (i_p0_token : Int32) (i_p0_place : Int32) (i_p0_value : Int64) (i_p0_misshapen : Int32) (i_p0_faultFound : Int32) (i_p0_faultPlace : Int32) : va_W := [(q_p0, .inr (2, [.ref q_p0_text, .ref q_p0_lines, .int i_p0_size, .int i_p0_behind, .int i_p0_token, .int i_p0_place, .long i_p0_value, .int i_p0_misshapen, .int i_p0_faultFound, .int i_p0_faultPlace]))]
def rm_Rd_hasMore : Room := { frames := 0, cells := 0, slots := 0, locals := 0 }
def B_Rd_hasMore_0 (fl : Nat) (i_p0_size : Int32) (i_p0_behind : Int32) (i_p0_faultFound : Int32) : Option (Int32) := (if i_p0_size ≤ i_p0_behind then (some 0) else (if ¬ i_p0_faultFound = (0 : Int32) then (some 0) else (some 1)))
def m_Rd_hasMore (fl : Nat) (i_p0_size : Int32) (i_p0_behind : Int32) (i_p0_faultFound : Int32) : Option (Int32) := B_Rd_hasMore_0 fl i_p0_size i_p0_behind i_p0_faultFound
set_option maxHeartbeats 4000000 in
set_option maxRecDepth 100000 in
theorem w_Rd_hasMore_0 {p : Program} {l : Launch} {e : Env} {s : State} {m : MethodId} {args : Array Value} {below : List Frame} {meth : Method} {c : Code} {D : va_G} {cI cJ cB : ClassId} {sa : Nat → Nat × Nat} {A : Nat → Prop} (fl : Nat) (q_p0 : Nat) (q_p0_text : Nat) (q_p0_lines : Nat) (i_p0_size : Int32) (i_p0_behind : Int32) (i_p0_faultFound : Int32) (i_p0_token : Int32) (i_p0_place : Int32) (i_p0_value : Int64) (i_p0_misshapen : Int32) (i_p0_faultPlace : Int32) (res : Int32) (C0 : vz_Cx p s m meth c b_Rd_hasMore 1 (some .boolean) "LinkEngine$Reader" "hasMore" D [(cI, .int), (cJ, .long), (cB, .byte)] sa A args) : ∀ (H : Heap) (locs : List Loc) (ls : Array Slot), B_Rd_hasMore_0 fl i_p0_size i_p0_behind i_p0_faultFound = some res → va_P D classes (ws_Rd_hasMore cI cJ cB q_p0 q_p0_text q_p0_lines i_p0_size i_p0_behind i_p0_token i_p0_place i_p0_value i_p0_misshapen i_p0_faultFound i_p0_faultPlace) H → va_D A (ws_Rd_hasMore cI cJ cB q_p0 q_p0_text q_p0_lines i_p0_size i_p0_behind i_p0_token i_p0_place i_p0_value i_p0_misshapen i_p0_faultFound i_p0_faultPlace) → va_S A s.heap H locs → lv_has ls 1 [(0, .ref q_p0)] → W p l e rm_Rd_hasMore s m args below meth c H locs 0 0 (MQ below (va_Qi (fun (r : Int32) (w : va_W) => r = res ∧ w = (ws_Rd_hasMore cI cJ cB q_p0 q_p0_text q_p0_lines i_p0_size i_p0_behind i_p0_token i_p0_place i_p0_value i_p0_misshapen i_p0_faultFound i_p0_faultPlace)) (vz_B D A) A) args s 0 0 A) (F0 m 0 ls []) := by
  obtain ⟨hx, hb, hr, hml, hown, ht, hlocks, hin, hN, hK, hA, hZ⟩ := id C0
  intro H locs ls hm hP hD hS hl
  unfold B_Rd_hasMore_0 at hm
  refine lv_aload_n hx hb d_Rd_hasMore_0 rfl (lv_at hl 0 rfl) ?_
  refine va_get (D := D) (ci := 2) (v := .int i_p0_behind) (C := R_Rd) (T := F_Rd) (N := 10) hx hb ht i_Rd hown hK hP 0 rfl rfl 3 (Nat.le_of_ble_eq_true rfl) (ht _ m_177) (fun _ h9 => h9) rfl d_Rd_hasMore_1 ?_
  refine lv_aload_n hx hb d_Rd_hasMore_4 rfl (lv_at hl 0 rfl) ?_
  refine va_get (D := D) (ci := 2) (v := .int i_p0_size) (C := R_Rd) (T := F_Rd) (N := 10) hx hb ht i_Rd hown hK hP 0 rfl rfl 2 (Nat.le_of_ble_eq_true rfl) (ht _ m_176) (fun _ h9 => h9) rfl d_Rd_hasMore_5 ?_
  refine lv_icmp_ge (tgt := 22) hx hb d_Rd_hasMore_8 (by decide) (fun hc => ?_) (fun hc => ?_)
  · rw [if_pos hc] at hm
    refine lv_iconst (v := 0) hx hb d_Rd_hasMore_22 (by decide) ?_
    obtain rfl := Option.some.inj hm
    exact vz_iret hx hb hr rfl hlocks hP hD hS (Nat.le_refl _) (Nat.le_refl _) d_Rd_hasMore_23 ⟨rfl, rfl⟩
  · rw [if_neg hc] at hm
    refine lv_aload_n hx hb d_Rd_hasMore_11 rfl (lv_at hl 0 rfl) ?_
    refine va_get (D := D) (ci := 2) (v := .int i_p0_faultFound) (C := R_Rd) (T := F_Rd) (N := 10) hx hb ht i_Rd hown hK hP 0 rfl rfl 8 (Nat.le_of_ble_eq_true rfl) (ht _ m_178) (fun _ h9 => h9) rfl d_Rd_hasMore_12 ?_
    refine lv_if_ne (tgt := 22) hx hb d_Rd_hasMore_15 (by decide) (fun hc => ?_) (fun hc => ?_)
    · rw [if_pos hc] at hm
      refine lv_iconst (v := 0) hx hb d_Rd_hasMore_22 (by decide) ?_
      obtain rfl := Option.some.inj hm
      exact vz_iret hx hb hr rfl hlocks hP hD hS (Nat.le_refl _) (Nat.le_refl _) d_Rd_hasMore_23 ⟨rfl, rfl⟩
    · rw [if_neg (fun q => q hc)] at hm
      refine lv_iconst (v := 1) hx hb d_Rd_hasMore_18 (by decide) ?_
      refine lv_goto (tgt := 23) hx hb d_Rd_hasMore_19 (by decide) ?_
      obtain rfl := Option.some.inj hm
      exact vz_iret hx hb hr rfl hlocks hP hD hS (Nat.le_refl _) (Nat.le_refl _) d_Rd_hasMore_23 ⟨rfl, rfl⟩
set_option maxHeartbeats 4000000 in
set_option maxRecDepth 100000 in
theorem k_Rd_hasMore (l : Launch) (D : va_G) (cI cJ cB : ClassId) (sa : Nat → Nat × Nat) (fl : Nat) (q_p0 : Nat) (q_p0_text : Nat) (q_p0_lines : Nat) (i_p0_size : Int32) (i_p0_behind : Int32) (i_p0_faultFound : Int32) (i_p0_token : Int32) (i_p0_place : Int32) (i_p0_value : Int64) (i_p0_misshapen : Int32) (i_p0_faultPlace : Int32)  (res : Int32) (hm : m_Rd_hasMore fl i_p0_size i_p0_behind i_p0_faultFound = some res) : MtI l y_Rd_hasMore (.code y_Rd_hasMore b_Rd_hasMore 1 (some .boolean) :: CW) rm_Rd_hasMore D [(cI, .int), (cJ, .long), (cB, .byte)] sa [.ref q_p0] (ws_Rd_hasMore cI cJ cB q_p0 q_p0_text q_p0_lines i_p0_size i_p0_behind i_p0_token i_p0_place i_p0_value i_p0_misshapen i_p0_faultFound i_p0_faultPlace) (fun (r : Int32) (w : va_W) => r = res ∧ w = (ws_Rd_hasMore cI cJ cB q_p0 q_p0_text q_p0_lines i_p0_size i_p0_behind i_p0_token i_p0_place i_p0_value i_p0_misshapen i_p0_faultFound i_p0_faultPlace)) := by
  intro sz
  refine vz_start (Qc := fun A => va_Qi (fun (r : Int32) (w : va_W) => r = res ∧ w = (ws_Rd_hasMore cI cJ cB q_p0 q_p0_text q_p0_lines i_p0_size i_p0_behind i_p0_token i_p0_place i_p0_value i_p0_misshapen i_p0_faultFound i_p0_faultPlace)) (vz_B D A) A) (lv0 := [(0, .ref q_p0)]) (by decide +kernel) (Nat.le_of_ble_eq_true rfl) rfl ?_
  intro p e s m below meth c A ls C0 hl
  obtain ⟨hx, hb, hr, hml, hown, ht, hlocks, hin, hN, hK, hP, hD, hA, hS, hZ⟩ := C0
  exact w_Rd_hasMore_0 fl q_p0 q_p0_text q_p0_lines i_p0_size i_p0_behind i_p0_faultFound i_p0_token i_p0_place i_p0_value i_p0_misshapen i_p0_faultPlace res ⟨hx, hb, hr, hml, hown, ht, hlocks, hin, hN, hK, hA, hZ⟩  s.heap [] ls hm hP hD hS (lv_sub hl [0] rfl)
def ws_Rd_skipIdle (cI cJ cB : ClassId) (q_p0 : Nat) (q_p0_text : Nat) (q_p0_lines : Nat) (i_p0_size : Int32) (i_p0_behind : Int32) (i_p0_token : Int32) (i_p0_place : Int32) (i_p0_value : Int64) (i_p0_misshapen : Int32) (i_p0_faultFound : Int32) (i_p0_faultPlace : Int32) (f_p0_text : Nat → Int32) : va_W := [(q_p0, .inr (2, [.ref q_p0_text, .ref q_p0_lines, .int i_p0_size, .int i_p0_behind, .int i_p0_token, .int i_p0_place, .long i_p0_value, .int i_p0_misshapen, .int i_p0_faultFound, .int i_p0_faultPlace])), (q_p0_text, .inl (cI, 4000, .inl f_p0_text))]
def rm_Rd_skipIdle : Room := { frames := 0, cells := 0, slots := 0, locals := 0 }
def B_Rd_skipIdle_63 (fl : Nat) (i_p0_size : Int32) (f_p0_text : Nat → Int32) : Nat → Int32 → Option (Int32)
  | 0, _ => none
  | nn + 1, i_p0_behind => (if i_p0_size ≤ i_p0_behind then (some i_p0_behind) else (if ¬ (i_p0_behind < 0 ∨ 4000 ≤ Int32.toNatClampNeg i_p0_behind) then (if (f_p0_text (Int32.toNatClampNeg i_p0_behind)) < (32 : Int32) then (some i_p0_behind) else (if ¬ (i_p0_behind < 0 ∨ 4000 ≤ Int32.toNatClampNeg i_p0_behind) then (if (126 : Int32) < (f_p0_text (Int32.toNatClampNeg i_p0_behind)) then (some i_p0_behind) else B_Rd_skipIdle_63 fl i_p0_size f_p0_text nn (i_p0_behind + (1 : Int32))) else none)) else none))
def B_Rd_skipIdle_38 (fl : Nat) (i_p0_size : Int32) (f_p0_text : Nat → Int32) (i_p0_behind : Int32) : Option (Int32) := (if i_p0_size ≤ i_p0_behind then (some i_p0_behind) else (if ¬ (i_p0_behind < 0 ∨ 4000 ≤ Int32.toNatClampNeg i_p0_behind) then (if ¬ (f_p0_text (Int32.toNatClampNeg i_p0_behind)) = (35 : Int32) then (some i_p0_behind) else B_Rd_skipIdle_63 fl i_p0_size f_p0_text fl i_p0_behind) else none))
def B_Rd_skipIdle_0 (fl : Nat) (i_p0_size : Int32) (f_p0_text : Nat → Int32) : Nat → Int32 → Option (Int32)
  | 0, _ => none
  | nn + 1, i_p0_behind => (if i_p0_size ≤ i_p0_behind then B_Rd_skipIdle_38 fl i_p0_size f_p0_text i_p0_behind else (if ¬ (i_p0_behind < 0 ∨ 4000 ≤ Int32.toNatClampNeg i_p0_behind) then (if ¬ (f_p0_text (Int32.toNatClampNeg i_p0_behind)) = (32 : Int32) then B_Rd_skipIdle_38 fl i_p0_size f_p0_text i_p0_behind else B_Rd_skipIdle_0 fl i_p0_size f_p0_text nn (i_p0_behind + (1 : Int32))) else none))
def m_Rd_skipIdle (fl : Nat) (i_p0_size : Int32) (f_p0_text : Nat → Int32) (i_p0_behind : Int32) : Option (Int32) := B_Rd_skipIdle_0 fl i_p0_size f_p0_text fl i_p0_behind
set_option maxHeartbeats 4000000 in
set_option maxRecDepth 100000 in
theorem w_Rd_skipIdle_63 {p : Program} {l : Launch} {e : Env} {s : State} {m : MethodId} {args : Array Value} {below : List Frame} {meth : Method} {c : Code} {D : va_G} {cI cJ cB : ClassId} {sa : Nat → Nat × Nat} {A : Nat → Prop} (fl : Nat) (q_p0 : Nat) (q_p0_text : Nat) (q_p0_lines : Nat) (i_p0_size : Int32) (f_p0_text : Nat → Int32) (i_p0_token : Int32) (i_p0_place : Int32) (i_p0_value : Int64) (i_p0_misshapen : Int32) (i_p0_faultFound : Int32) (i_p0_faultPlace : Int32) (res : Int32) (C0 : vz_Cx p s m meth c b_Rd_skipIdle 1 none "LinkEngine$Reader" "skipIdle" D [(cI, .int), (cJ, .long), (cB, .byte)] sa A args) : ∀ (nn : Nat), ∀ (i_p0_behind : Int32) (H : Heap) (locs : List Loc) (ls : Array Slot), B_Rd_skipIdle_63 fl i_p0_size f_p0_text nn i_p0_behind = some res → va_P D classes (ws_Rd_skipIdle cI cJ cB q_p0 q_p0_text q_p0_lines i_p0_size i_p0_behind i_p0_token i_p0_place i_p0_value i_p0_misshapen i_p0_faultFound i_p0_faultPlace f_p0_text) H → va_D A (ws_Rd_skipIdle cI cJ cB q_p0 q_p0_text q_p0_lines i_p0_size i_p0_behind i_p0_token i_p0_place i_p0_value i_p0_misshapen i_p0_faultFound i_p0_faultPlace f_p0_text) → va_S A s.heap H locs → lv_has ls 1 [(0, .ref q_p0)] → W p l e rm_Rd_skipIdle s m args below meth c H locs 0 0 (MQ below (va_Qv (fun (w : va_W) => w = (ws_Rd_skipIdle cI cJ cB q_p0 q_p0_text q_p0_lines i_p0_size res i_p0_token i_p0_place i_p0_value i_p0_misshapen i_p0_faultFound i_p0_faultPlace f_p0_text)) (vz_B D A) A) args s 0 0 A) (F0 m 63 ls []) := by
  obtain ⟨hx, hb, hr, hml, hown, ht, hlocks, hin, hN, hK, hA, hZ⟩ := id C0
  intro nn
  induction nn with
  | zero =>
    intro i_p0_behind H locs ls hm hP hD hS hl
    rw [B_Rd_skipIdle_63] at hm
    cases hm
  | succ nn ih =>
    intro i_p0_behind H locs ls hm hP hD hS hl
    rw [B_Rd_skipIdle_63] at hm
    refine lv_aload_n hx hb d_Rd_skipIdle_63 rfl (lv_at hl 0 rfl) ?_
    refine va_get (D := D) (ci := 2) (v := .int i_p0_behind) (C := R_Rd) (T := F_Rd) (N := 10) hx hb ht i_Rd hown hK hP 0 rfl rfl 3 (Nat.le_of_ble_eq_true rfl) (ht _ m_177) (fun _ h9 => h9) rfl d_Rd_skipIdle_64 ?_
    refine lv_aload_n hx hb d_Rd_skipIdle_67 rfl (lv_at hl 0 rfl) ?_
    refine va_get (D := D) (ci := 2) (v := .int i_p0_size) (C := R_Rd) (T := F_Rd) (N := 10) hx hb ht i_Rd hown hK hP 0 rfl rfl 2 (Nat.le_of_ble_eq_true rfl) (ht _ m_176) (fun _ h9 => h9) rfl d_Rd_skipIdle_68 ?_
    refine lv_icmp_ge (tgt := 115) hx hb d_Rd_skipIdle_71 (by decide) (fun hc => ?_) (fun hc => ?_)
    · rw [if_pos hc] at hm
      obtain rfl := Option.some.inj hm
      exact vz_vret hx hb hr hlocks hP hD hS (Nat.le_refl _) (Nat.le_refl _) d_Rd_skipIdle_115 rfl
    · rw [if_neg hc] at hm
      refine lv_aload_n hx hb d_Rd_skipIdle_74 rfl (lv_at hl 0 rfl) ?_
      refine va_get (D := D) (ci := 2) (v := .ref q_p0_text) (C := R_Rd) (T := F_Rd) (N := 10) hx hb ht i_Rd hown hK hP 0 rfl rfl 0 (Nat.le_of_ble_eq_true rfl) (ht _ m_9) (fun _ h9 => h9) rfl d_Rd_skipIdle_75 ?_
      refine lv_aload_n hx hb d_Rd_skipIdle_78 rfl (lv_at hl 0 rfl) ?_
      refine va_get (D := D) (ci := 2) (v := .int i_p0_behind) (C := R_Rd) (T := F_Rd) (N := 10) hx hb ht i_Rd hown hK hP 0 rfl rfl 3 (Nat.le_of_ble_eq_true rfl) (ht _ m_177) (fun _ h9 => h9) rfl d_Rd_skipIdle_79 ?_
      obtain ⟨hg, hm⟩ := vz_guard hm
      refine va_iald hx hb hK hP 1 0 rfl rfl hg d_Rd_skipIdle_82 ?_
      refine lv_bipush (v := 32) hx hb d_Rd_skipIdle_83 (by decide +kernel) ?_
      refine lv_icmp_lt (tgt := 115) hx hb d_Rd_skipIdle_85 (by decide) (fun hc => ?_) (fun hc => ?_)
      · rw [if_pos hc] at hm
        obtain rfl := Option.some.inj hm
        exact vz_vret hx hb hr hlocks hP hD hS (Nat.le_refl _) (Nat.le_refl _) d_Rd_skipIdle_115 rfl
      · rw [if_neg hc] at hm
        refine lv_aload_n hx hb d_Rd_skipIdle_88 rfl (lv_at hl 0 rfl) ?_
        refine va_get (D := D) (ci := 2) (v := .ref q_p0_text) (C := R_Rd) (T := F_Rd) (N := 10) hx hb ht i_Rd hown hK hP 0 rfl rfl 0 (Nat.le_of_ble_eq_true rfl) (ht _ m_9) (fun _ h9 => h9) rfl d_Rd_skipIdle_89 ?_
        refine lv_aload_n hx hb d_Rd_skipIdle_92 rfl (lv_at hl 0 rfl) ?_
        refine va_get (D := D) (ci := 2) (v := .int i_p0_behind) (C := R_Rd) (T := F_Rd) (N := 10) hx hb ht i_Rd hown hK hP 0 rfl rfl 3 (Nat.le_of_ble_eq_true rfl) (ht _ m_177) (fun _ h9 => h9) rfl d_Rd_skipIdle_93 ?_
        obtain ⟨hg, hm⟩ := vz_guard hm
        refine va_iald hx hb hK hP 1 0 rfl rfl hg d_Rd_skipIdle_96 ?_
        refine lv_bipush (v := 126) hx hb d_Rd_skipIdle_97 (by decide +kernel) ?_
        refine lv_icmp_gt (tgt := 115) hx hb d_Rd_skipIdle_99 (by decide) (fun hc => ?_) (fun hc => ?_)
        · rw [if_pos hc] at hm
          obtain rfl := Option.some.inj hm
          exact vz_vret hx hb hr hlocks hP hD hS (Nat.le_refl _) (Nat.le_refl _) d_Rd_skipIdle_115 rfl
        · rw [if_neg hc] at hm
          refine lv_aload_n hx hb d_Rd_skipIdle_102 rfl (lv_at hl 0 rfl) ?_
          refine lv_dup hx hb d_Rd_skipIdle_103 rfl ?_
          refine va_get (D := D) (ci := 2) (v := .int i_p0_behind) (C := R_Rd) (T := F_Rd) (N := 10) hx hb ht i_Rd hown hK hP 0 rfl rfl 3 (Nat.le_of_ble_eq_true rfl) (ht _ m_177) (fun _ h9 => h9) rfl d_Rd_skipIdle_104 ?_
          refine lv_iconst (v := 1) hx hb d_Rd_skipIdle_107 (by decide) ?_
          refine lv_iadd hx hb d_Rd_skipIdle_108 ?_
          refine va_put (D := D) (ci := 2) (v := .int (i_p0_behind + (1 : Int32))) (ty := .int) (C := R_Rd) (T := F_Rd) (N := 10) hx hb ht i_Rd t_Rd t_Rd_ok n_Rd hown hK hP hD hS 0 rfl rfl 3 (Nat.le_of_ble_eq_true rfl) (ht _ m_177) (fun _ h9 => h9) rfl (by decide +kernel) rfl rfl (Nat.le_of_ble_eq_true rfl) d_Rd_skipIdle_109 (fun H locs hP hD hS => ?_)
          have hP : va_P D classes (ws_Rd_skipIdle cI cJ cB q_p0 q_p0_text q_p0_lines i_p0_size (i_p0_behind + (1 : Int32)) i_p0_token i_p0_place i_p0_value i_p0_misshapen i_p0_faultFound i_p0_faultPlace f_p0_text) H := hP
          have hD : va_D A (ws_Rd_skipIdle cI cJ cB q_p0 q_p0_text q_p0_lines i_p0_size (i_p0_behind + (1 : Int32)) i_p0_token i_p0_place i_p0_value i_p0_misshapen i_p0_faultFound i_p0_faultPlace f_p0_text) := hD
          refine lv_goto (tgt := 63) hx hb d_Rd_skipIdle_112 (by decide) ?_
          exact ih (i_p0_behind + (1 : Int32)) _ _ _ hm hP hD hS (lv_sub hl [0] rfl)
set_option maxHeartbeats 4000000 in
set_option maxRecDepth 100000 in
theorem w_Rd_skipIdle_38 {p : Program} {l : Launch} {e : Env} {s : State} {m : MethodId} {args : Array Value} {below : List Frame} {meth : Method} {c : Code} {D : va_G} {cI cJ cB : ClassId} {sa : Nat → Nat × Nat} {A : Nat → Prop} (fl : Nat) (q_p0 : Nat) (q_p0_text : Nat) (q_p0_lines : Nat) (i_p0_size : Int32) (f_p0_text : Nat → Int32) (i_p0_token : Int32) (i_p0_place : Int32) (i_p0_value : Int64) (i_p0_misshapen : Int32) (i_p0_faultFound : Int32) (i_p0_faultPlace : Int32) (res : Int32) (C0 : vz_Cx p s m meth c b_Rd_skipIdle 1 none "LinkEngine$Reader" "skipIdle" D [(cI, .int), (cJ, .long), (cB, .byte)] sa A args) : ∀ (i_p0_behind : Int32) (H : Heap) (locs : List Loc) (ls : Array Slot), B_Rd_skipIdle_38 fl i_p0_size f_p0_text i_p0_behind = some res → va_P D classes (ws_Rd_skipIdle cI cJ cB q_p0 q_p0_text q_p0_lines i_p0_size i_p0_behind i_p0_token i_p0_place i_p0_value i_p0_misshapen i_p0_faultFound i_p0_faultPlace f_p0_text) H → va_D A (ws_Rd_skipIdle cI cJ cB q_p0 q_p0_text q_p0_lines i_p0_size i_p0_behind i_p0_token i_p0_place i_p0_value i_p0_misshapen i_p0_faultFound i_p0_faultPlace f_p0_text) → va_S A s.heap H locs → lv_has ls 1 [(0, .ref q_p0)] → W p l e rm_Rd_skipIdle s m args below meth c H locs 0 0 (MQ below (va_Qv (fun (w : va_W) => w = (ws_Rd_skipIdle cI cJ cB q_p0 q_p0_text q_p0_lines i_p0_size res i_p0_token i_p0_place i_p0_value i_p0_misshapen i_p0_faultFound i_p0_faultPlace f_p0_text)) (vz_B D A) A) args s 0 0 A) (F0 m 38 ls []) := by
  obtain ⟨hx, hb, hr, hml, hown, ht, hlocks, hin, hN, hK, hA, hZ⟩ := id C0
  intro i_p0_behind H locs ls hm hP hD hS hl
  unfold B_Rd_skipIdle_38 at hm
  refine lv_aload_n hx hb d_Rd_skipIdle_38 rfl (lv_at hl 0 rfl) ?_
  refine va_get (D := D) (ci := 2) (v := .int i_p0_behind) (C := R_Rd) (T := F_Rd) (N := 10) hx hb ht i_Rd hown hK hP 0 rfl rfl 3 (Nat.le_of_ble_eq_true rfl) (ht _ m_177) (fun _ h9 => h9) rfl d_Rd_skipIdle_39 ?_
  refine lv_aload_n hx hb d_Rd_skipIdle_42 rfl (lv_at hl 0 rfl) ?_
  refine va_get (D := D) (ci := 2) (v := .int i_p0_size) (C := R_Rd) (T := F_Rd) (N := 10) hx hb ht i_Rd hown hK hP 0 rfl rfl 2 (Nat.le_of_ble_eq_true rfl) (ht _ m_176) (fun _ h9 => h9) rfl d_Rd_skipIdle_43 ?_
  refine lv_icmp_ge (tgt := 115) hx hb d_Rd_skipIdle_46 (by decide) (fun hc => ?_) (fun hc => ?_)
  · rw [if_pos hc] at hm
    obtain rfl := Option.some.inj hm
    exact vz_vret hx hb hr hlocks hP hD hS (Nat.le_refl _) (Nat.le_refl _) d_Rd_skipIdle_115 rfl
  · rw [if_neg hc] at hm
    refine lv_aload_n hx hb d_Rd_skipIdle_49 rfl (lv_at hl 0 rfl) ?_
    refine va_get (D := D) (ci := 2) (v := .ref q_p0_text) (C := R_Rd) (T := F_Rd) (N := 10) hx hb ht i_Rd hown hK hP 0 rfl rfl 0 (Nat.le_of_ble_eq_true rfl) (ht _ m_9) (fun _ h9 => h9) rfl d_Rd_skipIdle_50 ?_
    refine lv_aload_n hx hb d_Rd_skipIdle_53 rfl (lv_at hl 0 rfl) ?_
    refine va_get (D := D) (ci := 2) (v := .int i_p0_behind) (C := R_Rd) (T := F_Rd) (N := 10) hx hb ht i_Rd hown hK hP 0 rfl rfl 3 (Nat.le_of_ble_eq_true rfl) (ht _ m_177) (fun _ h9 => h9) rfl d_Rd_skipIdle_54 ?_
    obtain ⟨hg, hm⟩ := vz_guard hm
    refine va_iald hx hb hK hP 1 0 rfl rfl hg d_Rd_skipIdle_57 ?_
    refine lv_bipush (v := 35) hx hb d_Rd_skipIdle_58 (by decide +kernel) ?_
    refine lv_icmp_ne (tgt := 115) hx hb d_Rd_skipIdle_60 (by decide) (fun hc => ?_) (fun hc => ?_)
    · rw [if_pos hc] at hm
      obtain rfl := Option.some.inj hm
      exact vz_vret hx hb hr hlocks hP hD hS (Nat.le_refl _) (Nat.le_refl _) d_Rd_skipIdle_115 rfl
    · rw [if_neg (fun q => q hc)] at hm
      exact w_Rd_skipIdle_63 fl q_p0 q_p0_text q_p0_lines i_p0_size f_p0_text i_p0_token i_p0_place i_p0_value i_p0_misshapen i_p0_faultFound i_p0_faultPlace res C0 fl i_p0_behind _ _ _ hm hP hD hS (lv_sub hl [0] rfl)
set_option maxHeartbeats 4000000 in
set_option maxRecDepth 100000 in
theorem w_Rd_skipIdle_0 {p : Program} {l : Launch} {e : Env} {s : State} {m : MethodId} {args : Array Value} {below : List Frame} {meth : Method} {c : Code} {D : va_G} {cI cJ cB : ClassId} {sa : Nat → Nat × Nat} {A : Nat → Prop} (fl : Nat) (q_p0 : Nat) (q_p0_text : Nat) (q_p0_lines : Nat) (i_p0_size : Int32) (f_p0_text : Nat → Int32) (i_p0_token : Int32) (i_p0_place : Int32) (i_p0_value : Int64) (i_p0_misshapen : Int32) (i_p0_faultFound : Int32) (i_p0_faultPlace : Int32) (res : Int32) (C0 : vz_Cx p s m meth c b_Rd_skipIdle 1 none "LinkEngine$Reader" "skipIdle" D [(cI, .int), (cJ, .long), (cB, .byte)] sa A args) : ∀ (nn : Nat), ∀ (i_p0_behind : Int32) (H : Heap) (locs : List Loc) (ls : Array Slot), B_Rd_skipIdle_0 fl i_p0_size f_p0_text nn i_p0_behind = some res → va_P D classes (ws_Rd_skipIdle cI cJ cB q_p0 q_p0_text q_p0_lines i_p0_size i_p0_behind i_p0_token i_p0_place i_p0_value i_p0_misshapen i_p0_faultFound i_p0_faultPlace f_p0_text) H → va_D A (ws_Rd_skipIdle cI cJ cB q_p0 q_p0_text q_p0_lines i_p0_size i_p0_behind i_p0_token i_p0_place i_p0_value i_p0_misshapen i_p0_faultFound i_p0_faultPlace f_p0_text) → va_S A s.heap H locs → lv_has ls 1 [(0, .ref q_p0)] → W p l e rm_Rd_skipIdle s m args below meth c H locs 0 0 (MQ below (va_Qv (fun (w : va_W) => w = (ws_Rd_skipIdle cI cJ cB q_p0 q_p0_text q_p0_lines i_p0_size res i_p0_token i_p0_place i_p0_value i_p0_misshapen i_p0_faultFound i_p0_faultPlace f_p0_text)) (vz_B D A) A) args s 0 0 A) (F0 m 0 ls []) := by
  obtain ⟨hx, hb, hr, hml, hown, ht, hlocks, hin, hN, hK, hA, hZ⟩ := id C0
  intro nn
  induction nn with
  | zero =>
    intro i_p0_behind H locs ls hm hP hD hS hl
    rw [B_Rd_skipIdle_0] at hm
    cases hm
  | succ nn ih =>
    intro i_p0_behind H locs ls hm hP hD hS hl
    rw [B_Rd_skipIdle_0] at hm
    refine lv_aload_n hx hb d_Rd_skipIdle_0 rfl (lv_at hl 0 rfl) ?_
    refine va_get (D := D) (ci := 2) (v := .int i_p0_behind) (C := R_Rd) (T := F_Rd) (N := 10) hx hb ht i_Rd hown hK hP 0 rfl rfl 3 (Nat.le_of_ble_eq_true rfl) (ht _ m_177) (fun _ h9 => h9) rfl d_Rd_skipIdle_1 ?_
    refine lv_aload_n hx hb d_Rd_skipIdle_4 rfl (lv_at hl 0 rfl) ?_
    refine va_get (D := D) (ci := 2) (v := .int i_p0_size) (C := R_Rd) (T := F_Rd) (N := 10) hx hb ht i_Rd hown hK hP 0 rfl rfl 2 (Nat.le_of_ble_eq_true rfl) (ht _ m_176) (fun _ h9 => h9) rfl d_Rd_skipIdle_5 ?_
    refine lv_icmp_ge (tgt := 38) hx hb d_Rd_skipIdle_8 (by decide) (fun hc => ?_) (fun hc => ?_)
    · rw [if_pos hc] at hm
      exact w_Rd_skipIdle_38 fl q_p0 q_p0_text q_p0_lines i_p0_size f_p0_text i_p0_token i_p0_place i_p0_value i_p0_misshapen i_p0_faultFound i_p0_faultPlace res C0 i_p0_behind _ _ _ hm hP hD hS (lv_sub hl [0] rfl)
    · rw [if_neg hc] at hm
      refine lv_aload_n hx hb d_Rd_skipIdle_11 rfl (lv_at hl 0 rfl) ?_
      refine va_get (D := D) (ci := 2) (v := .ref q_p0_text) (C := R_Rd) (T := F_Rd) (N := 10) hx hb ht i_Rd hown hK hP 0 rfl rfl 0 (Nat.le_of_ble_eq_true rfl) (ht _ m_9) (fun _ h9 => h9) rfl d_Rd_skipIdle_12 ?_
      refine lv_aload_n hx hb d_Rd_skipIdle_15 rfl (lv_at hl 0 rfl) ?_
      refine va_get (D := D) (ci := 2) (v := .int i_p0_behind) (C := R_Rd) (T := F_Rd) (N := 10) hx hb ht i_Rd hown hK hP 0 rfl rfl 3 (Nat.le_of_ble_eq_true rfl) (ht _ m_177) (fun _ h9 => h9) rfl d_Rd_skipIdle_16 ?_
      obtain ⟨hg, hm⟩ := vz_guard hm
      refine va_iald hx hb hK hP 1 0 rfl rfl hg d_Rd_skipIdle_19 ?_
      refine lv_bipush (v := 32) hx hb d_Rd_skipIdle_20 (by decide +kernel) ?_
      refine lv_icmp_ne (tgt := 38) hx hb d_Rd_skipIdle_22 (by decide) (fun hc => ?_) (fun hc => ?_)
      · rw [if_pos hc] at hm
        exact w_Rd_skipIdle_38 fl q_p0 q_p0_text q_p0_lines i_p0_size f_p0_text i_p0_token i_p0_place i_p0_value i_p0_misshapen i_p0_faultFound i_p0_faultPlace res C0 i_p0_behind _ _ _ hm hP hD hS (lv_sub hl [0] rfl)
      · rw [if_neg (fun q => q hc)] at hm
        refine lv_aload_n hx hb d_Rd_skipIdle_25 rfl (lv_at hl 0 rfl) ?_
        refine lv_dup hx hb d_Rd_skipIdle_26 rfl ?_
        refine va_get (D := D) (ci := 2) (v := .int i_p0_behind) (C := R_Rd) (T := F_Rd) (N := 10) hx hb ht i_Rd hown hK hP 0 rfl rfl 3 (Nat.le_of_ble_eq_true rfl) (ht _ m_177) (fun _ h9 => h9) rfl d_Rd_skipIdle_27 ?_
        refine lv_iconst (v := 1) hx hb d_Rd_skipIdle_30 (by decide) ?_
        refine lv_iadd hx hb d_Rd_skipIdle_31 ?_
        refine va_put (D := D) (ci := 2) (v := .int (i_p0_behind + (1 : Int32))) (ty := .int) (C := R_Rd) (T := F_Rd) (N := 10) hx hb ht i_Rd t_Rd t_Rd_ok n_Rd hown hK hP hD hS 0 rfl rfl 3 (Nat.le_of_ble_eq_true rfl) (ht _ m_177) (fun _ h9 => h9) rfl (by decide +kernel) rfl rfl (Nat.le_of_ble_eq_true rfl) d_Rd_skipIdle_32 (fun H locs hP hD hS => ?_)
        have hP : va_P D classes (ws_Rd_skipIdle cI cJ cB q_p0 q_p0_text q_p0_lines i_p0_size (i_p0_behind + (1 : Int32)) i_p0_token i_p0_place i_p0_value i_p0_misshapen i_p0_faultFound i_p0_faultPlace f_p0_text) H := hP
        have hD : va_D A (ws_Rd_skipIdle cI cJ cB q_p0 q_p0_text q_p0_lines i_p0_size (i_p0_behind + (1 : Int32)) i_p0_token i_p0_place i_p0_value i_p0_misshapen i_p0_faultFound i_p0_faultPlace f_p0_text) := hD
        refine lv_goto (tgt := 0) hx hb d_Rd_skipIdle_35 (by decide) ?_
        exact ih (i_p0_behind + (1 : Int32)) _ _ _ hm hP hD hS (lv_sub hl [0] rfl)
set_option maxHeartbeats 4000000 in
set_option maxRecDepth 100000 in
theorem k_Rd_skipIdle (l : Launch) (D : va_G) (cI cJ cB : ClassId) (sa : Nat → Nat × Nat) (fl : Nat) (q_p0 : Nat) (q_p0_text : Nat) (q_p0_lines : Nat) (i_p0_size : Int32) (f_p0_text : Nat → Int32) (i_p0_token : Int32) (i_p0_place : Int32) (i_p0_value : Int64) (i_p0_misshapen : Int32) (i_p0_faultFound : Int32) (i_p0_faultPlace : Int32) (i_p0_behind : Int32)  (res : Int32) (hm : m_Rd_skipIdle fl i_p0_size f_p0_text i_p0_behind = some res) : MtV l y_Rd_skipIdle (.code y_Rd_skipIdle b_Rd_skipIdle 1 none :: CW) rm_Rd_skipIdle D [(cI, .int), (cJ, .long), (cB, .byte)] sa [.ref q_p0] (ws_Rd_skipIdle cI cJ cB q_p0 q_p0_text q_p0_lines i_p0_size i_p0_behind i_p0_token i_p0_place i_p0_value i_p0_misshapen i_p0_faultFound i_p0_faultPlace f_p0_text) (fun (w : va_W) => w = (ws_Rd_skipIdle cI cJ cB q_p0 q_p0_text q_p0_lines i_p0_size res i_p0_token i_p0_place i_p0_value i_p0_misshapen i_p0_faultFound i_p0_faultPlace f_p0_text)) := by
  intro sz
  refine vz_start (Qc := fun A => va_Qv (fun (w : va_W) => w = (ws_Rd_skipIdle cI cJ cB q_p0 q_p0_text q_p0_lines i_p0_size res i_p0_token i_p0_place i_p0_value i_p0_misshapen i_p0_faultFound i_p0_faultPlace f_p0_text)) (vz_B D A) A) (lv0 := [(0, .ref q_p0)]) (by decide +kernel) (Nat.le_of_ble_eq_true rfl) rfl ?_
  intro p e s m below meth c A ls C0 hl
  obtain ⟨hx, hb, hr, hml, hown, ht, hlocks, hin, hN, hK, hP, hD, hA, hS, hZ⟩ := C0
  exact w_Rd_skipIdle_0 fl q_p0 q_p0_text q_p0_lines i_p0_size f_p0_text i_p0_token i_p0_place i_p0_value i_p0_misshapen i_p0_faultFound i_p0_faultPlace res ⟨hx, hb, hr, hml, hown, ht, hlocks, hin, hN, hK, hA, hZ⟩ fl i_p0_behind s.heap [] ls hm hP hD hS (lv_sub hl [0] rfl)
def ws_Rd_byteAt (cI cJ cB : ClassId) (q_p0 : Nat) (q_p0_text : Nat) (q_p0_lines : Nat) (i_p0_size : Int32) (i_p0_behind : Int32) (i_p0_token : Int32) (i_p0_place : Int32) (i_p0_value : Int64) (i_p0_misshapen : Int32) (i_p0_faultFound : Int32) (i_p0_faultPlace : Int32) (f_p0_text : Nat → Int32) : va_W := [(q_p0, .inr (2, [.ref q_p0_text, .ref q_p0_lines, .int i_p0_size, .int i_p0_behind, .int i_p0_token, .int i_p0_place, .long i_p0_value, .int i_p0_misshapen, .int i_p0_faultFound, .int i_p0_faultPlace])), (q_p0_text, .inl (cI, 4000, .inl f_p0_text))]
def rm_Rd_byteAt : Room := { frames := 0, cells := 0, slots := 0, locals := 0 }
def B_Rd_byteAt_0 (fl : Nat) (i_p0_size : Int32) (f_p0_text : Nat → Int32) (x1 : Int32) : Option (Int32) := (if x1 < (0 : Int32) then (some 10) else (if i_p0_size ≤ x1 then (some 10) else (if ¬ (x1 < 0 ∨ 4000 ≤ Int32.toNatClampNeg x1) then (some (f_p0_text (Int32.toNatClampNeg x1))) else none)))
def m_Rd_byteAt (fl : Nat) (i_p0_size : Int32) (f_p0_text : Nat → Int32) (x1 : Int32) : Option (Int32) := B_Rd_byteAt_0 fl i_p0_size f_p0_text x1
set_option maxHeartbeats 4000000 in
set_option maxRecDepth 100000 in
theorem w_Rd_byteAt_0 {p : Program} {l : Launch} {e : Env} {s : State} {m : MethodId} {args : Array Value} {below : List Frame} {meth : Method} {c : Code} {D : va_G} {cI cJ cB : ClassId} {sa : Nat → Nat × Nat} {A : Nat → Prop} (fl : Nat) (q_p0 : Nat) (q_p0_text : Nat) (q_p0_lines : Nat) (i_p0_size : Int32) (f_p0_text : Nat → Int32) (i_p0_behind : Int32) (i_p0_token : Int32) (i_p0_place : Int32) (i_p0_value : Int64) (i_p0_misshapen : Int32) (i_p0_faultFound : Int32) (i_p0_faultPlace : Int32) (res : Int32) (C0 : vz_Cx p s m meth c b_Rd_byteAt 2 (some .int) "LinkEngine$Reader" "byteAt" D [(cI, .int), (cJ, .long), (cB, .byte)] sa A args) : ∀ (x1 : Int32) (H : Heap) (locs : List Loc) (ls : Array Slot), B_Rd_byteAt_0 fl i_p0_size f_p0_text x1 = some res → va_P D classes (ws_Rd_byteAt cI cJ cB q_p0 q_p0_text q_p0_lines i_p0_size i_p0_behind i_p0_token i_p0_place i_p0_value i_p0_misshapen i_p0_faultFound i_p0_faultPlace f_p0_text) H → va_D A (ws_Rd_byteAt cI cJ cB q_p0 q_p0_text q_p0_lines i_p0_size i_p0_behind i_p0_token i_p0_place i_p0_value i_p0_misshapen i_p0_faultFound i_p0_faultPlace f_p0_text) → va_S A s.heap H locs → lv_has ls 2 [(0, .ref q_p0), (1, .int x1)] → W p l e rm_Rd_byteAt s m args below meth c H locs 0 0 (MQ below (va_Qi (fun (r : Int32) (w : va_W) => r = res ∧ w = (ws_Rd_byteAt cI cJ cB q_p0 q_p0_text q_p0_lines i_p0_size i_p0_behind i_p0_token i_p0_place i_p0_value i_p0_misshapen i_p0_faultFound i_p0_faultPlace f_p0_text)) (vz_B D A) A) args s 0 0 A) (F0 m 0 ls []) := by
  obtain ⟨hx, hb, hr, hml, hown, ht, hlocks, hin, hN, hK, hA, hZ⟩ := id C0
  intro x1 H locs ls hm hP hD hS hl
  unfold B_Rd_byteAt_0 at hm
  refine lv_iload_n hx hb d_Rd_byteAt_0 rfl (lv_at hl 1 rfl) ?_
  refine lv_if_lt (tgt := 21) hx hb d_Rd_byteAt_1 (by decide) (fun hc => ?_) (fun hc => ?_)
  · rw [if_pos hc] at hm
    refine lv_bipush (v := 10) hx hb d_Rd_byteAt_21 (by decide +kernel) ?_
    obtain rfl := Option.some.inj hm
    exact vz_iret hx hb hr rfl hlocks hP hD hS (Nat.le_refl _) (Nat.le_refl _) d_Rd_byteAt_23 ⟨rfl, rfl⟩
  · rw [if_neg hc] at hm
    refine lv_iload_n hx hb d_Rd_byteAt_4 rfl (lv_at hl 1 rfl) ?_
    refine lv_aload_n hx hb d_Rd_byteAt_5 rfl (lv_at hl 0 rfl) ?_
    refine va_get (D := D) (ci := 2) (v := .int i_p0_size) (C := R_Rd) (T := F_Rd) (N := 10) hx hb ht i_Rd hown hK hP 0 rfl rfl 2 (Nat.le_of_ble_eq_true rfl) (ht _ m_176) (fun _ h9 => h9) rfl d_Rd_byteAt_6 ?_
    refine lv_icmp_ge (tgt := 21) hx hb d_Rd_byteAt_9 (by decide) (fun hc => ?_) (fun hc => ?_)
    · rw [if_pos hc] at hm
      refine lv_bipush (v := 10) hx hb d_Rd_byteAt_21 (by decide +kernel) ?_
      obtain rfl := Option.some.inj hm
      exact vz_iret hx hb hr rfl hlocks hP hD hS (Nat.le_refl _) (Nat.le_refl _) d_Rd_byteAt_23 ⟨rfl, rfl⟩
    · rw [if_neg hc] at hm
      refine lv_aload_n hx hb d_Rd_byteAt_12 rfl (lv_at hl 0 rfl) ?_
      refine va_get (D := D) (ci := 2) (v := .ref q_p0_text) (C := R_Rd) (T := F_Rd) (N := 10) hx hb ht i_Rd hown hK hP 0 rfl rfl 0 (Nat.le_of_ble_eq_true rfl) (ht _ m_9) (fun _ h9 => h9) rfl d_Rd_byteAt_13 ?_
      refine lv_iload_n hx hb d_Rd_byteAt_16 rfl (lv_at hl 1 rfl) ?_
      obtain ⟨hg, hm⟩ := vz_guard hm
      refine va_iald hx hb hK hP 1 0 rfl rfl hg d_Rd_byteAt_17 ?_
      refine lv_goto (tgt := 23) hx hb d_Rd_byteAt_18 (by decide) ?_
      obtain rfl := Option.some.inj hm
      exact vz_iret hx hb hr rfl hlocks hP hD hS (Nat.le_refl _) (Nat.le_refl _) d_Rd_byteAt_23 ⟨rfl, rfl⟩
set_option maxHeartbeats 4000000 in
set_option maxRecDepth 100000 in
theorem k_Rd_byteAt (l : Launch) (D : va_G) (cI cJ cB : ClassId) (sa : Nat → Nat × Nat) (fl : Nat) (q_p0 : Nat) (q_p0_text : Nat) (q_p0_lines : Nat) (i_p0_size : Int32) (f_p0_text : Nat → Int32) (i_p0_behind : Int32) (i_p0_token : Int32) (i_p0_place : Int32) (i_p0_value : Int64) (i_p0_misshapen : Int32) (i_p0_faultFound : Int32) (i_p0_faultPlace : Int32) (x1 : Int32) (res : Int32) (hm : m_Rd_byteAt fl i_p0_size f_p0_text x1 = some res) : MtI l y_Rd_byteAt (.code y_Rd_byteAt b_Rd_byteAt 2 (some .int) :: CW) rm_Rd_byteAt D [(cI, .int), (cJ, .long), (cB, .byte)] sa [.ref q_p0, .int x1] (ws_Rd_byteAt cI cJ cB q_p0 q_p0_text q_p0_lines i_p0_size i_p0_behind i_p0_token i_p0_place i_p0_value i_p0_misshapen i_p0_faultFound i_p0_faultPlace f_p0_text) (fun (r : Int32) (w : va_W) => r = res ∧ w = (ws_Rd_byteAt cI cJ cB q_p0 q_p0_text q_p0_lines i_p0_size i_p0_behind i_p0_token i_p0_place i_p0_value i_p0_misshapen i_p0_faultFound i_p0_faultPlace f_p0_text)) := by
  intro sz
  refine vz_start (Qc := fun A => va_Qi (fun (r : Int32) (w : va_W) => r = res ∧ w = (ws_Rd_byteAt cI cJ cB q_p0 q_p0_text q_p0_lines i_p0_size i_p0_behind i_p0_token i_p0_place i_p0_value i_p0_misshapen i_p0_faultFound i_p0_faultPlace f_p0_text)) (vz_B D A) A) (lv0 := [(0, .ref q_p0), (1, .int x1)]) (by decide +kernel) (Nat.le_of_ble_eq_true rfl) rfl ?_
  intro p e s m below meth c A ls C0 hl
  obtain ⟨hx, hb, hr, hml, hown, ht, hlocks, hin, hN, hK, hP, hD, hA, hS, hZ⟩ := C0
  exact w_Rd_byteAt_0 fl q_p0 q_p0_text q_p0_lines i_p0_size f_p0_text i_p0_behind i_p0_token i_p0_place i_p0_value i_p0_misshapen i_p0_faultFound i_p0_faultPlace res ⟨hx, hb, hr, hml, hown, ht, hlocks, hin, hN, hK, hA, hZ⟩ x1 s.heap [] ls hm hP hD hS (lv_sub hl [0, 1] rfl)
def ws_Rd_isStray (cI cJ cB : ClassId)  : va_W := []
def rm_Rd_isStray : Room := { frames := 0, cells := 0, slots := 0, locals := 0 }
def B_Rd_isStray_12 (fl : Nat) (x0 : Int32) : Option (Int32) := (some 1)
def B_Rd_isStray_0 (fl : Nat) (x0 : Int32) : Option (Int32) := (if x0 < (32 : Int32) then B_Rd_isStray_12 fl x0 else (if x0 ≤ (126 : Int32) then (some 0) else B_Rd_isStray_12 fl x0))
def m_Rd_isStray (fl : Nat) (x0 : Int32) : Option (Int32) := B_Rd_isStray_0 fl  x0
set_option maxHeartbeats 4000000 in
set_option maxRecDepth 100000 in
theorem w_Rd_isStray_12 {p : Program} {l : Launch} {e : Env} {s : State} {m : MethodId} {args : Array Value} {below : List Frame} {meth : Method} {c : Code} {D : va_G} {cI cJ cB : ClassId} {sa : Nat → Nat × Nat} {A : Nat → Prop} (fl : Nat)   (res : Int32) (C0 : vz_Cx p s m meth c b_Rd_isStray 1 (some .boolean) "LinkEngine$Reader" "isStray" D [(cI, .int), (cJ, .long), (cB, .byte)] sa A args) : ∀ (x0 : Int32) (H : Heap) (locs : List Loc) (ls : Array Slot), B_Rd_isStray_12 fl x0 = some res → va_P D classes (ws_Rd_isStray cI cJ cB ) H → va_D A (ws_Rd_isStray cI cJ cB ) → va_S A s.heap H locs → lv_has ls 1 [(0, .int x0)] → W p l e rm_Rd_isStray s m args below meth c H locs 0 0 (MQ below (va_Qi (fun (r : Int32) (w : va_W) => r = res ∧ w = (ws_Rd_isStray cI cJ cB )) (vz_B D A) A) args s 0 0 A) (F0 m 12 ls []) := by
  obtain ⟨hx, hb, hr, hml, hown, ht, hlocks, hin, hN, hK, hA, hZ⟩ := id C0
  intro x0 H locs ls hm hP hD hS hl
  unfold B_Rd_isStray_12 at hm
  refine lv_iconst (v := 1) hx hb d_Rd_isStray_12 (by decide) ?_
  refine lv_goto (tgt := 17) hx hb d_Rd_isStray_13 (by decide) ?_
  obtain rfl := Option.some.inj hm
  exact vz_iret hx hb hr rfl hlocks hP hD hS (Nat.le_refl _) (Nat.le_refl _) d_Rd_isStray_17 ⟨rfl, rfl⟩
set_option maxHeartbeats 4000000 in
set_option maxRecDepth 100000 in
theorem w_Rd_isStray_0 {p : Program} {l : Launch} {e : Env} {s : State} {m : MethodId} {args : Array Value} {below : List Frame} {meth : Method} {c : Code} {D : va_G} {cI cJ cB : ClassId} {sa : Nat → Nat × Nat} {A : Nat → Prop} (fl : Nat)   (res : Int32) (C0 : vz_Cx p s m meth c b_Rd_isStray 1 (some .boolean) "LinkEngine$Reader" "isStray" D [(cI, .int), (cJ, .long), (cB, .byte)] sa A args) : ∀ (x0 : Int32) (H : Heap) (locs : List Loc) (ls : Array Slot), B_Rd_isStray_0 fl x0 = some res → va_P D classes (ws_Rd_isStray cI cJ cB ) H → va_D A (ws_Rd_isStray cI cJ cB ) → va_S A s.heap H locs → lv_has ls 1 [(0, .int x0)] → W p l e rm_Rd_isStray s m args below meth c H locs 0 0 (MQ below (va_Qi (fun (r : Int32) (w : va_W) => r = res ∧ w = (ws_Rd_isStray cI cJ cB )) (vz_B D A) A) args s 0 0 A) (F0 m 0 ls []) := by
  obtain ⟨hx, hb, hr, hml, hown, ht, hlocks, hin, hN, hK, hA, hZ⟩ := id C0
  intro x0 H locs ls hm hP hD hS hl
  unfold B_Rd_isStray_0 at hm
  refine lv_iload_n hx hb d_Rd_isStray_0 rfl (lv_at hl 0 rfl) ?_
  refine lv_bipush (v := 32) hx hb d_Rd_isStray_1 (by decide +kernel) ?_
  refine lv_icmp_lt (tgt := 12) hx hb d_Rd_isStray_3 (by decide) (fun hc => ?_) (fun hc => ?_)
  · rw [if_pos hc] at hm
    exact w_Rd_isStray_12 fl   res C0 x0 _ _ _ hm hP hD hS (lv_sub hl [0] rfl)
  · rw [if_neg hc] at hm
    refine lv_iload_n hx hb d_Rd_isStray_6 rfl (lv_at hl 0 rfl) ?_
    refine lv_bipush (v := 126) hx hb d_Rd_isStray_7 (by decide +kernel) ?_
    refine lv_icmp_le (tgt := 16) hx hb d_Rd_isStray_9 (by decide) (fun hc => ?_) (fun hc => ?_)
    · rw [if_pos hc] at hm
      refine lv_iconst (v := 0) hx hb d_Rd_isStray_16 (by decide) ?_
      obtain rfl := Option.some.inj hm
      exact vz_iret hx hb hr rfl hlocks hP hD hS (Nat.le_refl _) (Nat.le_refl _) d_Rd_isStray_17 ⟨rfl, rfl⟩
    · rw [if_neg hc] at hm
      exact w_Rd_isStray_12 fl   res C0 x0 _ _ _ hm hP hD hS (lv_sub hl [0] rfl)
set_option maxHeartbeats 4000000 in
set_option maxRecDepth 100000 in
theorem k_Rd_isStray (l : Launch) (D : va_G) (cI cJ cB : ClassId) (sa : Nat → Nat × Nat) (fl : Nat)   (x0 : Int32) (res : Int32) (hm : m_Rd_isStray fl x0 = some res) : MtI l y_Rd_isStray (.code y_Rd_isStray b_Rd_isStray 1 (some .boolean) :: CW) rm_Rd_isStray D [(cI, .int), (cJ, .long), (cB, .byte)] sa [.int x0] (ws_Rd_isStray cI cJ cB ) (fun (r : Int32) (w : va_W) => r = res ∧ w = (ws_Rd_isStray cI cJ cB )) := by
  intro sz
  refine vz_start (Qc := fun A => va_Qi (fun (r : Int32) (w : va_W) => r = res ∧ w = (ws_Rd_isStray cI cJ cB )) (vz_B D A) A) (lv0 := [(0, .int x0)]) (by decide +kernel) (Nat.le_of_ble_eq_true rfl) rfl ?_
  intro p e s m below meth c A ls C0 hl
  obtain ⟨hx, hb, hr, hml, hown, ht, hlocks, hin, hN, hK, hP, hD, hA, hS, hZ⟩ := C0
  exact w_Rd_isStray_0 fl   res ⟨hx, hb, hr, hml, hown, ht, hlocks, hin, hN, hK, hA, hZ⟩ x0 s.heap [] ls hm hP hD hS (lv_sub hl [0] rfl)
def ws_Rd_isLetter (cI cJ cB : ClassId)  : va_W := []
def rm_Rd_isLetter : Room := { frames := 0, cells := 0, slots := 0, locals := 0 }
def B_Rd_isLetter_24 (fl : Nat) (x0 : Int32) : Option (Int32) := (some 1)
def B_Rd_isLetter_12 (fl : Nat) (x0 : Int32) : Option (Int32) := (if x0 < (65 : Int32) then (some 0) else (if (90 : Int32) < x0 then (some 0) else B_Rd_isLetter_24 fl x0))
def B_Rd_isLetter_0 (fl : Nat) (x0 : Int32) : Option (Int32) := (if x0 < (97 : Int32) then B_Rd_isLetter_12 fl x0 else (if x0 ≤ (122 : Int32) then B_Rd_isLetter_24 fl x0 else B_Rd_isLetter_12 fl x0))
def m_Rd_isLetter (fl : Nat) (x0 : Int32) : Option (Int32) := B_Rd_isLetter_0 fl  x0
set_option maxHeartbeats 4000000 in
set_option maxRecDepth 100000 in
theorem w_Rd_isLetter_24 {p : Program} {l : Launch} {e : Env} {s : State} {m : MethodId} {args : Array Value} {below : List Frame} {meth : Method} {c : Code} {D : va_G} {cI cJ cB : ClassId} {sa : Nat → Nat × Nat} {A : Nat → Prop} (fl : Nat)   (res : Int32) (C0 : vz_Cx p s m meth c b_Rd_isLetter 1 (some .boolean) "LinkEngine$Reader" "isLetter" D [(cI, .int), (cJ, .long), (cB, .byte)] sa A args) : ∀ (x0 : Int32) (H : Heap) (locs : List Loc) (ls : Array Slot), B_Rd_isLetter_24 fl x0 = some res → va_P D classes (ws_Rd_isLetter cI cJ cB ) H → va_D A (ws_Rd_isLetter cI cJ cB ) → va_S A s.heap H locs → lv_has ls 1 [(0, .int x0)] → W p l e rm_Rd_isLetter s m args below meth c H locs 0 0 (MQ below (va_Qi (fun (r : Int32) (w : va_W) => r = res ∧ w = (ws_Rd_isLetter cI cJ cB )) (vz_B D A) A) args s 0 0 A) (F0 m 24 ls []) := by
  obtain ⟨hx, hb, hr, hml, hown, ht, hlocks, hin, hN, hK, hA, hZ⟩ := id C0
  intro x0 H locs ls hm hP hD hS hl
  unfold B_Rd_isLetter_24 at hm
  refine lv_iconst (v := 1) hx hb d_Rd_isLetter_24 (by decide) ?_
  refine lv_goto (tgt := 29) hx hb d_Rd_isLetter_25 (by decide) ?_
  obtain rfl := Option.some.inj hm
  exact vz_iret hx hb hr rfl hlocks hP hD hS (Nat.le_refl _) (Nat.le_refl _) d_Rd_isLetter_29 ⟨rfl, rfl⟩
set_option maxHeartbeats 4000000 in
set_option maxRecDepth 100000 in
theorem w_Rd_isLetter_12 {p : Program} {l : Launch} {e : Env} {s : State} {m : MethodId} {args : Array Value} {below : List Frame} {meth : Method} {c : Code} {D : va_G} {cI cJ cB : ClassId} {sa : Nat → Nat × Nat} {A : Nat → Prop} (fl : Nat)   (res : Int32) (C0 : vz_Cx p s m meth c b_Rd_isLetter 1 (some .boolean) "LinkEngine$Reader" "isLetter" D [(cI, .int), (cJ, .long), (cB, .byte)] sa A args) : ∀ (x0 : Int32) (H : Heap) (locs : List Loc) (ls : Array Slot), B_Rd_isLetter_12 fl x0 = some res → va_P D classes (ws_Rd_isLetter cI cJ cB ) H → va_D A (ws_Rd_isLetter cI cJ cB ) → va_S A s.heap H locs → lv_has ls 1 [(0, .int x0)] → W p l e rm_Rd_isLetter s m args below meth c H locs 0 0 (MQ below (va_Qi (fun (r : Int32) (w : va_W) => r = res ∧ w = (ws_Rd_isLetter cI cJ cB )) (vz_B D A) A) args s 0 0 A) (F0 m 12 ls []) := by
  obtain ⟨hx, hb, hr, hml, hown, ht, hlocks, hin, hN, hK, hA, hZ⟩ := id C0
  intro x0 H locs ls hm hP hD hS hl
  unfold B_Rd_isLetter_12 at hm
  refine lv_iload_n hx hb d_Rd_isLetter_12 rfl (lv_at hl 0 rfl) ?_
  refine lv_bipush (v := 65) hx hb d_Rd_isLetter_13 (by decide +kernel) ?_
  refine lv_icmp_lt (tgt := 28) hx hb d_Rd_isLetter_15 (by decide) (fun hc => ?_) (fun hc => ?_)
  · rw [if_pos hc] at hm
    refine lv_iconst (v := 0) hx hb d_Rd_isLetter_28 (by decide) ?_
    obtain rfl := Option.some.inj hm
    exact vz_iret hx hb hr rfl hlocks hP hD hS (Nat.le_refl _) (Nat.le_refl _) d_Rd_isLetter_29 ⟨rfl, rfl⟩
  · rw [if_neg hc] at hm
    refine lv_iload_n hx hb d_Rd_isLetter_18 rfl (lv_at hl 0 rfl) ?_
    refine lv_bipush (v := 90) hx hb d_Rd_isLetter_19 (by decide +kernel) ?_
    refine lv_icmp_gt (tgt := 28) hx hb d_Rd_isLetter_21 (by decide) (fun hc => ?_) (fun hc => ?_)
    · rw [if_pos hc] at hm
      refine lv_iconst (v := 0) hx hb d_Rd_isLetter_28 (by decide) ?_
      obtain rfl := Option.some.inj hm
      exact vz_iret hx hb hr rfl hlocks hP hD hS (Nat.le_refl _) (Nat.le_refl _) d_Rd_isLetter_29 ⟨rfl, rfl⟩
    · rw [if_neg hc] at hm
      exact w_Rd_isLetter_24 fl   res C0 x0 _ _ _ hm hP hD hS (lv_sub hl [0] rfl)
set_option maxHeartbeats 4000000 in
set_option maxRecDepth 100000 in
theorem w_Rd_isLetter_0 {p : Program} {l : Launch} {e : Env} {s : State} {m : MethodId} {args : Array Value} {below : List Frame} {meth : Method} {c : Code} {D : va_G} {cI cJ cB : ClassId} {sa : Nat → Nat × Nat} {A : Nat → Prop} (fl : Nat)   (res : Int32) (C0 : vz_Cx p s m meth c b_Rd_isLetter 1 (some .boolean) "LinkEngine$Reader" "isLetter" D [(cI, .int), (cJ, .long), (cB, .byte)] sa A args) : ∀ (x0 : Int32) (H : Heap) (locs : List Loc) (ls : Array Slot), B_Rd_isLetter_0 fl x0 = some res → va_P D classes (ws_Rd_isLetter cI cJ cB ) H → va_D A (ws_Rd_isLetter cI cJ cB ) → va_S A s.heap H locs → lv_has ls 1 [(0, .int x0)] → W p l e rm_Rd_isLetter s m args below meth c H locs 0 0 (MQ below (va_Qi (fun (r : Int32) (w : va_W) => r = res ∧ w = (ws_Rd_isLetter cI cJ cB )) (vz_B D A) A) args s 0 0 A) (F0 m 0 ls []) := by
  obtain ⟨hx, hb, hr, hml, hown, ht, hlocks, hin, hN, hK, hA, hZ⟩ := id C0
  intro x0 H locs ls hm hP hD hS hl
  unfold B_Rd_isLetter_0 at hm
  refine lv_iload_n hx hb d_Rd_isLetter_0 rfl (lv_at hl 0 rfl) ?_
  refine lv_bipush (v := 97) hx hb d_Rd_isLetter_1 (by decide +kernel) ?_
  refine lv_icmp_lt (tgt := 12) hx hb d_Rd_isLetter_3 (by decide) (fun hc => ?_) (fun hc => ?_)
  · rw [if_pos hc] at hm
    exact w_Rd_isLetter_12 fl   res C0 x0 _ _ _ hm hP hD hS (lv_sub hl [0] rfl)
  · rw [if_neg hc] at hm
    refine lv_iload_n hx hb d_Rd_isLetter_6 rfl (lv_at hl 0 rfl) ?_
    refine lv_bipush (v := 122) hx hb d_Rd_isLetter_7 (by decide +kernel) ?_
    refine lv_icmp_le (tgt := 24) hx hb d_Rd_isLetter_9 (by decide) (fun hc => ?_) (fun hc => ?_)
    · rw [if_pos hc] at hm
      exact w_Rd_isLetter_24 fl   res C0 x0 _ _ _ hm hP hD hS (lv_sub hl [0] rfl)
    · rw [if_neg hc] at hm
      exact w_Rd_isLetter_12 fl   res C0 x0 _ _ _ hm hP hD hS (lv_sub hl [0] rfl)
set_option maxHeartbeats 4000000 in
set_option maxRecDepth 100000 in
theorem k_Rd_isLetter (l : Launch) (D : va_G) (cI cJ cB : ClassId) (sa : Nat → Nat × Nat) (fl : Nat)   (x0 : Int32) (res : Int32) (hm : m_Rd_isLetter fl x0 = some res) : MtI l y_Rd_isLetter (.code y_Rd_isLetter b_Rd_isLetter 1 (some .boolean) :: CW) rm_Rd_isLetter D [(cI, .int), (cJ, .long), (cB, .byte)] sa [.int x0] (ws_Rd_isLetter cI cJ cB ) (fun (r : Int32) (w : va_W) => r = res ∧ w = (ws_Rd_isLetter cI cJ cB )) := by
  intro sz
  refine vz_start (Qc := fun A => va_Qi (fun (r : Int32) (w : va_W) => r = res ∧ w = (ws_Rd_isLetter cI cJ cB )) (vz_B D A) A) (lv0 := [(0, .int x0)]) (by decide +kernel) (Nat.le_of_ble_eq_true rfl) rfl ?_
  intro p e s m below meth c A ls C0 hl
  obtain ⟨hx, hb, hr, hml, hown, ht, hlocks, hin, hN, hK, hP, hD, hA, hS, hZ⟩ := C0
  exact w_Rd_isLetter_0 fl   res ⟨hx, hb, hr, hml, hown, ht, hlocks, hin, hN, hK, hA, hZ⟩ x0 s.heap [] ls hm hP hD hS (lv_sub hl [0] rfl)
def ws_Rd_takeDigits (cI cJ cB : ClassId) (q_p0 : Nat) (q_p0_text : Nat) (q_p0_lines : Nat) (i_p0_size : Int32) (i_p0_behind : Int32) (i_p0_token : Int32) (i_p0_place : Int32) (i_p0_value : Int64) (i_p0_misshapen : Int32) (i_p0_faultFound : Int32) (i_p0_faultPlace : Int32) (f_p0_text : Nat → Int32) : va_W := [(q_p0, .inr (2, [.ref q_p0_text, .ref q_p0_lines, .int i_p0_size, .int i_p0_behind, .int i_p0_token, .int i_p0_place, .long i_p0_value, .int i_p0_misshapen, .int i_p0_faultFound, .int i_p0_faultPlace])), (q_p0_text, .inl (cI, 4000, .inl f_p0_text))]
def rm_Rd_takeDigits : Room := { frames := 0, cells := 0, slots := 0, locals := 0 }
def B_Rd_takeDigits_129 (fl : Nat) (i_p0_size : Int32) (i_p0_place : Int32) (f_p0_text : Nat → Int32) (s0 : Int32) (x1 : Int32) (x2 : Int32) (i_p0_behind : Int32) (i_p0_value : Int64) (i_p0_misshapen : Int32) : Option (Int32 × Int64 × Int32) := (if s0 = 0 ∨ s0 = 1 then (some (i_p0_behind, i_p0_value, s0)) else none)
def B_Rd_takeDigits_124 (fl : Nat) (i_p0_size : Int32) (i_p0_place : Int32) (f_p0_text : Nat → Int32) (x1 : Int32) (x2 : Int32) (i_p0_behind : Int32) (i_p0_value : Int64) (i_p0_misshapen : Int32) : Option (Int32 × Int64 × Int32) := B_Rd_takeDigits_129 fl i_p0_size i_p0_place f_p0_text 1 x1 x2 i_p0_behind i_p0_value i_p0_misshapen
def B_Rd_takeDigits_128 (fl : Nat) (i_p0_size : Int32) (i_p0_place : Int32) (f_p0_text : Nat → Int32) (x1 : Int32) (x2 : Int32) (i_p0_behind : Int32) (i_p0_value : Int64) (i_p0_misshapen : Int32) : Option (Int32 × Int64 × Int32) := B_Rd_takeDigits_129 fl i_p0_size i_p0_place f_p0_text 0 x1 x2 i_p0_behind i_p0_value i_p0_misshapen
def B_Rd_takeDigits_98 (fl : Nat) (i_p0_size : Int32) (i_p0_place : Int32) (f_p0_text : Nat → Int32) (x1 : Int32) (i_p0_behind : Int32) (i_p0_value : Int64) (i_p0_misshapen : Int32) : Option (Int32 × Int64 × Int32) := (if (18 : Int32) < (i_p0_behind - i_p0_place) then B_Rd_takeDigits_124 fl i_p0_size i_p0_place f_p0_text x1 (i_p0_behind - i_p0_place) i_p0_behind i_p0_value i_p0_misshapen else (if (i_p0_behind - i_p0_place) ≤ (1 : Int32) then B_Rd_takeDigits_128 fl i_p0_size i_p0_place f_p0_text x1 (i_p0_behind - i_p0_place) i_p0_behind i_p0_value i_p0_misshapen else (if ¬ x1 = (0 : Int32) then B_Rd_takeDigits_128 fl i_p0_size i_p0_place f_p0_text x1 (i_p0_behind - i_p0_place) i_p0_behind i_p0_value i_p0_misshapen else B_Rd_takeDigits_124 fl i_p0_size i_p0_place f_p0_text x1 (i_p0_behind - i_p0_place) i_p0_behind i_p0_value i_p0_misshapen)))
def B_Rd_takeDigits_85 (fl : Nat) (i_p0_size : Int32) (i_p0_place : Int32) (f_p0_text : Nat → Int32) (kb_6 : Int32 → Int32 → Int64 → Int32 → Option (Int32 × Int64 × Int32)) (x1 : Int32) (i_p0_behind : Int32) (i_p0_value : Int64) (i_p0_misshapen : Int32) : Option (Int32 × Int64 × Int32) := kb_6 x1 (i_p0_behind + (1 : Int32)) i_p0_value i_p0_misshapen
def B_Rd_takeDigits_6 (fl : Nat) (i_p0_size : Int32) (i_p0_place : Int32) (f_p0_text : Nat → Int32) : Nat → Int32 → Int32 → Int64 → Int32 → Option (Int32 × Int64 × Int32)
  | 0, _, _, _, _ => none
  | nn + 1, x1, i_p0_behind, i_p0_value, i_p0_misshapen => (if i_p0_size ≤ i_p0_behind then B_Rd_takeDigits_98 fl i_p0_size i_p0_place f_p0_text x1 i_p0_behind i_p0_value i_p0_misshapen else (if ¬ (i_p0_behind < 0 ∨ 4000 ≤ Int32.toNatClampNeg i_p0_behind) then (if (f_p0_text (Int32.toNatClampNeg i_p0_behind)) < (48 : Int32) then B_Rd_takeDigits_98 fl i_p0_size i_p0_place f_p0_text x1 i_p0_behind i_p0_value i_p0_misshapen else (if ¬ (i_p0_behind < 0 ∨ 4000 ≤ Int32.toNatClampNeg i_p0_behind) then (if (57 : Int32) < (f_p0_text (Int32.toNatClampNeg i_p0_behind)) then B_Rd_takeDigits_98 fl i_p0_size i_p0_place f_p0_text x1 i_p0_behind i_p0_value i_p0_misshapen else (if (18 : Int32) ≤ (i_p0_behind - i_p0_place) then B_Rd_takeDigits_85 fl i_p0_size i_p0_place f_p0_text (B_Rd_takeDigits_6 fl i_p0_size i_p0_place f_p0_text nn) x1 i_p0_behind i_p0_value i_p0_misshapen else (if ¬ (i_p0_behind < 0 ∨ 4000 ≤ Int32.toNatClampNeg i_p0_behind) then B_Rd_takeDigits_85 fl i_p0_size i_p0_place f_p0_text (B_Rd_takeDigits_6 fl i_p0_size i_p0_place f_p0_text nn) x1 i_p0_behind (((10 : Int64) * i_p0_value) + (Int32.toInt64 ((f_p0_text (Int32.toNatClampNeg i_p0_behind)) - (48 : Int32)))) i_p0_misshapen else none))) else none)) else none))
def B_Rd_takeDigits_0 (fl : Nat) (i_p0_size : Int32) (i_p0_place : Int32) (f_p0_text : Nat → Int32) (x1 : Int32) (i_p0_behind : Int32) (i_p0_value : Int64) (i_p0_misshapen : Int32) : Option (Int32 × Int64 × Int32) := B_Rd_takeDigits_6 fl i_p0_size i_p0_place f_p0_text fl x1 i_p0_behind (Int32.toInt64 x1) i_p0_misshapen
def m_Rd_takeDigits (fl : Nat) (i_p0_size : Int32) (i_p0_place : Int32) (f_p0_text : Nat → Int32) (x1 : Int32) (i_p0_behind : Int32) (i_p0_value : Int64) (i_p0_misshapen : Int32) : Option (Int32 × Int64 × Int32) := B_Rd_takeDigits_0 fl i_p0_size i_p0_place f_p0_text x1 i_p0_behind i_p0_value i_p0_misshapen
set_option maxHeartbeats 4000000 in
set_option maxRecDepth 100000 in
theorem w_Rd_takeDigits_129 {p : Program} {l : Launch} {e : Env} {s : State} {m : MethodId} {args : Array Value} {below : List Frame} {meth : Method} {c : Code} {D : va_G} {cI cJ cB : ClassId} {sa : Nat → Nat × Nat} {A : Nat → Prop} (fl : Nat) (q_p0 : Nat) (q_p0_text : Nat) (q_p0_lines : Nat) (i_p0_size : Int32) (i_p0_place : Int32) (f_p0_text : Nat → Int32) (i_p0_token : Int32) (i_p0_faultFound : Int32) (i_p0_faultPlace : Int32) (res : Int32 × Int64 × Int32) (C0 : vz_Cx p s m meth c b_Rd_takeDigits 3 none "LinkEngine$Reader" "takeDigits" D [(cI, .int), (cJ, .long), (cB, .byte)] sa A args) : ∀ (s0 : Int32) (x1 : Int32) (x2 : Int32) (i_p0_behind : Int32) (i_p0_value : Int64) (i_p0_misshapen : Int32) (H : Heap) (locs : List Loc) (ls : Array Slot), B_Rd_takeDigits_129 fl i_p0_size i_p0_place f_p0_text s0 x1 x2 i_p0_behind i_p0_value i_p0_misshapen = some res → va_P D classes (ws_Rd_takeDigits cI cJ cB q_p0 q_p0_text q_p0_lines i_p0_size i_p0_behind i_p0_token i_p0_place i_p0_value i_p0_misshapen i_p0_faultFound i_p0_faultPlace f_p0_text) H → va_D A (ws_Rd_takeDigits cI cJ cB q_p0 q_p0_text q_p0_lines i_p0_size i_p0_behind i_p0_token i_p0_place i_p0_value i_p0_misshapen i_p0_faultFound i_p0_faultPlace f_p0_text) → va_S A s.heap H locs → lv_has ls 3 [(0, .ref q_p0), (1, .int x1), (2, .int x2)] → W p l e rm_Rd_takeDigits s m args below meth c H locs 0 0 (MQ below (va_Qv (fun (w : va_W) => w = (ws_Rd_takeDigits cI cJ cB q_p0 q_p0_text q_p0_lines i_p0_size res.1 i_p0_token i_p0_place res.2.1 res.2.2 i_p0_faultFound i_p0_faultPlace f_p0_text)) (vz_B D A) A) args s 0 0 A) (F0 m 129 ls [.int s0, .ref q_p0]) := by
  obtain ⟨hx, hb, hr, hml, hown, ht, hlocks, hin, hN, hK, hA, hZ⟩ := id C0
  intro s0 x1 x2 i_p0_behind i_p0_value i_p0_misshapen H locs ls hm hP hD hS hl
  unfold B_Rd_takeDigits_129 at hm
  obtain ⟨hg, hm⟩ := vz_guard hm
  refine va_put (D := D) (ci := 2) (v := .int s0) (ty := .boolean) (C := R_Rd) (T := F_Rd) (N := 10) hx hb ht i_Rd t_Rd t_Rd_ok n_Rd hown hK hP hD hS 0 rfl rfl 7 (Nat.le_of_ble_eq_true rfl) (ht _ m_350) (fun _ h9 => h9) rfl (by decide +kernel) (vz_nb hg) (vz_fb hg) (Nat.le_of_ble_eq_true rfl) d_Rd_takeDigits_129 (fun H locs hP hD hS => ?_)
  have hP : va_P D classes (ws_Rd_takeDigits cI cJ cB q_p0 q_p0_text q_p0_lines i_p0_size i_p0_behind i_p0_token i_p0_place i_p0_value s0 i_p0_faultFound i_p0_faultPlace f_p0_text) H := hP
  have hD : va_D A (ws_Rd_takeDigits cI cJ cB q_p0 q_p0_text q_p0_lines i_p0_size i_p0_behind i_p0_token i_p0_place i_p0_value s0 i_p0_faultFound i_p0_faultPlace f_p0_text) := hD
  obtain rfl := Option.some.inj hm
  exact vz_vret hx hb hr hlocks hP hD hS (Nat.le_refl _) (Nat.le_refl _) d_Rd_takeDigits_132 rfl
set_option maxHeartbeats 4000000 in
set_option maxRecDepth 100000 in
theorem w_Rd_takeDigits_124 {p : Program} {l : Launch} {e : Env} {s : State} {m : MethodId} {args : Array Value} {below : List Frame} {meth : Method} {c : Code} {D : va_G} {cI cJ cB : ClassId} {sa : Nat → Nat × Nat} {A : Nat → Prop} (fl : Nat) (q_p0 : Nat) (q_p0_text : Nat) (q_p0_lines : Nat) (i_p0_size : Int32) (i_p0_place : Int32) (f_p0_text : Nat → Int32) (i_p0_token : Int32) (i_p0_faultFound : Int32) (i_p0_faultPlace : Int32) (res : Int32 × Int64 × Int32) (C0 : vz_Cx p s m meth c b_Rd_takeDigits 3 none "LinkEngine$Reader" "takeDigits" D [(cI, .int), (cJ, .long), (cB, .byte)] sa A args) : ∀ (x1 : Int32) (x2 : Int32) (i_p0_behind : Int32) (i_p0_value : Int64) (i_p0_misshapen : Int32) (H : Heap) (locs : List Loc) (ls : Array Slot), B_Rd_takeDigits_124 fl i_p0_size i_p0_place f_p0_text x1 x2 i_p0_behind i_p0_value i_p0_misshapen = some res → va_P D classes (ws_Rd_takeDigits cI cJ cB q_p0 q_p0_text q_p0_lines i_p0_size i_p0_behind i_p0_token i_p0_place i_p0_value i_p0_misshapen i_p0_faultFound i_p0_faultPlace f_p0_text) H → va_D A (ws_Rd_takeDigits cI cJ cB q_p0 q_p0_text q_p0_lines i_p0_size i_p0_behind i_p0_token i_p0_place i_p0_value i_p0_misshapen i_p0_faultFound i_p0_faultPlace f_p0_text) → va_S A s.heap H locs → lv_has ls 3 [(0, .ref q_p0), (1, .int x1), (2, .int x2)] → W p l e rm_Rd_takeDigits s m args below meth c H locs 0 0 (MQ below (va_Qv (fun (w : va_W) => w = (ws_Rd_takeDigits cI cJ cB q_p0 q_p0_text q_p0_lines i_p0_size res.1 i_p0_token i_p0_place res.2.1 res.2.2 i_p0_faultFound i_p0_faultPlace f_p0_text)) (vz_B D A) A) args s 0 0 A) (F0 m 124 ls [.ref q_p0]) := by
  obtain ⟨hx, hb, hr, hml, hown, ht, hlocks, hin, hN, hK, hA, hZ⟩ := id C0
  intro x1 x2 i_p0_behind i_p0_value i_p0_misshapen H locs ls hm hP hD hS hl
  unfold B_Rd_takeDigits_124 at hm
  refine lv_iconst (v := 1) hx hb d_Rd_takeDigits_124 (by decide) ?_
  refine lv_goto (tgt := 129) hx hb d_Rd_takeDigits_125 (by decide) ?_
  exact w_Rd_takeDigits_129 fl q_p0 q_p0_text q_p0_lines i_p0_size i_p0_place f_p0_text i_p0_token i_p0_faultFound i_p0_faultPlace res C0 1 x1 x2 i_p0_behind i_p0_value i_p0_misshapen _ _ _ hm hP hD hS (lv_sub hl [0, 1, 2] rfl)
set_option maxHeartbeats 4000000 in
set_option maxRecDepth 100000 in
theorem w_Rd_takeDigits_128 {p : Program} {l : Launch} {e : Env} {s : State} {m : MethodId} {args : Array Value} {below : List Frame} {meth : Method} {c : Code} {D : va_G} {cI cJ cB : ClassId} {sa : Nat → Nat × Nat} {A : Nat → Prop} (fl : Nat) (q_p0 : Nat) (q_p0_text : Nat) (q_p0_lines : Nat) (i_p0_size : Int32) (i_p0_place : Int32) (f_p0_text : Nat → Int32) (i_p0_token : Int32) (i_p0_faultFound : Int32) (i_p0_faultPlace : Int32) (res : Int32 × Int64 × Int32) (C0 : vz_Cx p s m meth c b_Rd_takeDigits 3 none "LinkEngine$Reader" "takeDigits" D [(cI, .int), (cJ, .long), (cB, .byte)] sa A args) : ∀ (x1 : Int32) (x2 : Int32) (i_p0_behind : Int32) (i_p0_value : Int64) (i_p0_misshapen : Int32) (H : Heap) (locs : List Loc) (ls : Array Slot), B_Rd_takeDigits_128 fl i_p0_size i_p0_place f_p0_text x1 x2 i_p0_behind i_p0_value i_p0_misshapen = some res → va_P D classes (ws_Rd_takeDigits cI cJ cB q_p0 q_p0_text q_p0_lines i_p0_size i_p0_behind i_p0_token i_p0_place i_p0_value i_p0_misshapen i_p0_faultFound i_p0_faultPlace f_p0_text) H → va_D A (ws_Rd_takeDigits cI cJ cB q_p0 q_p0_text q_p0_lines i_p0_size i_p0_behind i_p0_token i_p0_place i_p0_value i_p0_misshapen i_p0_faultFound i_p0_faultPlace f_p0_text) → va_S A s.heap H locs → lv_has ls 3 [(0, .ref q_p0), (1, .int x1), (2, .int x2)] → W p l e rm_Rd_takeDigits s m args below meth c H locs 0 0 (MQ below (va_Qv (fun (w : va_W) => w = (ws_Rd_takeDigits cI cJ cB q_p0 q_p0_text q_p0_lines i_p0_size res.1 i_p0_token i_p0_place res.2.1 res.2.2 i_p0_faultFound i_p0_faultPlace f_p0_text)) (vz_B D A) A) args s 0 0 A) (F0 m 128 ls [.ref q_p0]) := by
  obtain ⟨hx, hb, hr, hml, hown, ht, hlocks, hin, hN, hK, hA, hZ⟩ := id C0
  intro x1 x2 i_p0_behind i_p0_value i_p0_misshapen H locs ls hm hP hD hS hl
  unfold B_Rd_takeDigits_128 at hm
  refine lv_iconst (v := 0) hx hb d_Rd_takeDigits_128 (by decide) ?_
  exact w_Rd_takeDigits_129 fl q_p0 q_p0_text q_p0_lines i_p0_size i_p0_place f_p0_text i_p0_token i_p0_faultFound i_p0_faultPlace res C0 0 x1 x2 i_p0_behind i_p0_value i_p0_misshapen _ _ _ hm hP hD hS (lv_sub hl [0, 1, 2] rfl)
set_option maxHeartbeats 4000000 in
set_option maxRecDepth 100000 in
theorem w_Rd_takeDigits_98 {p : Program} {l : Launch} {e : Env} {s : State} {m : MethodId} {args : Array Value} {below : List Frame} {meth : Method} {c : Code} {D : va_G} {cI cJ cB : ClassId} {sa : Nat → Nat × Nat} {A : Nat → Prop} (fl : Nat) (q_p0 : Nat) (q_p0_text : Nat) (q_p0_lines : Nat) (i_p0_size : Int32) (i_p0_place : Int32) (f_p0_text : Nat → Int32) (i_p0_token : Int32) (i_p0_faultFound : Int32) (i_p0_faultPlace : Int32) (res : Int32 × Int64 × Int32) (C0 : vz_Cx p s m meth c b_Rd_takeDigits 3 none "LinkEngine$Reader" "takeDigits" D [(cI, .int), (cJ, .long), (cB, .byte)] sa A args) : ∀ (x1 : Int32) (i_p0_behind : Int32) (i_p0_value : Int64) (i_p0_misshapen : Int32) (H : Heap) (locs : List Loc) (ls : Array Slot), B_Rd_takeDigits_98 fl i_p0_size i_p0_place f_p0_text x1 i_p0_behind i_p0_value i_p0_misshapen = some res → va_P D classes (ws_Rd_takeDigits cI cJ cB q_p0 q_p0_text q_p0_lines i_p0_size i_p0_behind i_p0_token i_p0_place i_p0_value i_p0_misshapen i_p0_faultFound i_p0_faultPlace f_p0_text) H → va_D A (ws_Rd_takeDigits cI cJ cB q_p0 q_p0_text q_p0_lines i_p0_size i_p0_behind i_p0_token i_p0_place i_p0_value i_p0_misshapen i_p0_faultFound i_p0_faultPlace f_p0_text) → va_S A s.heap H locs → lv_has ls 3 [(0, .ref q_p0), (1, .int x1)] → W p l e rm_Rd_takeDigits s m args below meth c H locs 0 0 (MQ below (va_Qv (fun (w : va_W) => w = (ws_Rd_takeDigits cI cJ cB q_p0 q_p0_text q_p0_lines i_p0_size res.1 i_p0_token i_p0_place res.2.1 res.2.2 i_p0_faultFound i_p0_faultPlace f_p0_text)) (vz_B D A) A) args s 0 0 A) (F0 m 98 ls []) := by
  obtain ⟨hx, hb, hr, hml, hown, ht, hlocks, hin, hN, hK, hA, hZ⟩ := id C0
  intro x1 i_p0_behind i_p0_value i_p0_misshapen H locs ls hm hP hD hS hl
  unfold B_Rd_takeDigits_98 at hm
  refine lv_aload_n hx hb d_Rd_takeDigits_98 rfl (lv_at hl 0 rfl) ?_
  refine va_get (D := D) (ci := 2) (v := .int i_p0_behind) (C := R_Rd) (T := F_Rd) (N := 10) hx hb ht i_Rd hown hK hP 0 rfl rfl 3 (Nat.le_of_ble_eq_true rfl) (ht _ m_177) (fun _ h9 => h9) rfl d_Rd_takeDigits_99 ?_
  refine lv_aload_n hx hb d_Rd_takeDigits_102 rfl (lv_at hl 0 rfl) ?_
  refine va_get (D := D) (ci := 2) (v := .int i_p0_place) (C := R_Rd) (T := F_Rd) (N := 10) hx hb ht i_Rd hown hK hP 0 rfl rfl 5 (Nat.le_of_ble_eq_true rfl) (ht _ m_351) (fun _ h9 => h9) rfl d_Rd_takeDigits_103 ?_
  refine lv_isub hx hb d_Rd_takeDigits_106 ?_
  refine lv_istore_n (lv' := [(2, .int (i_p0_behind - i_p0_place)), (0, .ref q_p0), (1, .int x1)]) hx hb d_Rd_takeDigits_107 rfl hl (by decide) rfl (fun ls hl => ?_)
  refine lv_aload_n hx hb d_Rd_takeDigits_108 rfl (lv_at hl 1 rfl) ?_
  refine lv_iload_n hx hb d_Rd_takeDigits_109 rfl (lv_at hl 0 rfl) ?_
  refine lv_bipush (v := 18) hx hb d_Rd_takeDigits_110 (by decide +kernel) ?_
  refine lv_icmp_gt (tgt := 124) hx hb d_Rd_takeDigits_112 (by decide) (fun hc => ?_) (fun hc => ?_)
  · rw [if_pos hc] at hm
    exact w_Rd_takeDigits_124 fl q_p0 q_p0_text q_p0_lines i_p0_size i_p0_place f_p0_text i_p0_token i_p0_faultFound i_p0_faultPlace res C0 x1 (i_p0_behind - i_p0_place) i_p0_behind i_p0_value i_p0_misshapen _ _ _ hm hP hD hS (lv_sub hl [1, 2, 0] rfl)
  · rw [if_neg hc] at hm
    refine lv_iload_n hx hb d_Rd_takeDigits_115 rfl (lv_at hl 0 rfl) ?_
    refine lv_iconst (v := 1) hx hb d_Rd_takeDigits_116 (by decide) ?_
    refine lv_icmp_le (tgt := 128) hx hb d_Rd_takeDigits_117 (by decide) (fun hc => ?_) (fun hc => ?_)
    · rw [if_pos hc] at hm
      exact w_Rd_takeDigits_128 fl q_p0 q_p0_text q_p0_lines i_p0_size i_p0_place f_p0_text i_p0_token i_p0_faultFound i_p0_faultPlace res C0 x1 (i_p0_behind - i_p0_place) i_p0_behind i_p0_value i_p0_misshapen _ _ _ hm hP hD hS (lv_sub hl [1, 2, 0] rfl)
    · rw [if_neg hc] at hm
      refine lv_iload_n hx hb d_Rd_takeDigits_120 rfl (lv_at hl 2 rfl) ?_
      refine lv_if_ne (tgt := 128) hx hb d_Rd_takeDigits_121 (by decide) (fun hc => ?_) (fun hc => ?_)
      · rw [if_pos hc] at hm
        exact w_Rd_takeDigits_128 fl q_p0 q_p0_text q_p0_lines i_p0_size i_p0_place f_p0_text i_p0_token i_p0_faultFound i_p0_faultPlace res C0 x1 (i_p0_behind - i_p0_place) i_p0_behind i_p0_value i_p0_misshapen _ _ _ hm hP hD hS (lv_sub hl [1, 2, 0] rfl)
      · rw [if_neg (fun q => q hc)] at hm
        exact w_Rd_takeDigits_124 fl q_p0 q_p0_text q_p0_lines i_p0_size i_p0_place f_p0_text i_p0_token i_p0_faultFound i_p0_faultPlace res C0 x1 (i_p0_behind - i_p0_place) i_p0_behind i_p0_value i_p0_misshapen _ _ _ hm hP hD hS (lv_sub hl [1, 2, 0] rfl)
set_option maxHeartbeats 4000000 in
set_option maxRecDepth 100000 in
theorem w_Rd_takeDigits_85 {p : Program} {l : Launch} {e : Env} {s : State} {m : MethodId} {args : Array Value} {below : List Frame} {meth : Method} {c : Code} {D : va_G} {cI cJ cB : ClassId} {sa : Nat → Nat × Nat} {A : Nat → Prop} (fl : Nat) (q_p0 : Nat) (q_p0_text : Nat) (q_p0_lines : Nat) (i_p0_size : Int32) (i_p0_place : Int32) (f_p0_text : Nat → Int32) (i_p0_token : Int32) (i_p0_faultFound : Int32) (i_p0_faultPlace : Int32) (res : Int32 × Int64 × Int32) (C0 : vz_Cx p s m meth c b_Rd_takeDigits 3 none "LinkEngine$Reader" "takeDigits" D [(cI, .int), (cJ, .long), (cB, .byte)] sa A args) (kb_6 : Int32 → Int32 → Int64 → Int32 → Option (Int32 × Int64 × Int32)) (hk_6 : ∀ (x1 : Int32) (i_p0_behind : Int32) (i_p0_value : Int64) (i_p0_misshapen : Int32) (H : Heap) (locs : List Loc) (ls : Array Slot), kb_6 x1 i_p0_behind i_p0_value i_p0_misshapen = some res → va_P D classes (ws_Rd_takeDigits cI cJ cB q_p0 q_p0_text q_p0_lines i_p0_size i_p0_behind i_p0_token i_p0_place i_p0_value i_p0_misshapen i_p0_faultFound i_p0_faultPlace f_p0_text) H → va_D A (ws_Rd_takeDigits cI cJ cB q_p0 q_p0_text q_p0_lines i_p0_size i_p0_behind i_p0_token i_p0_place i_p0_value i_p0_misshapen i_p0_faultFound i_p0_faultPlace f_p0_text) → va_S A s.heap H locs → lv_has ls 3 [(0, .ref q_p0), (1, .int x1)] → W p l e rm_Rd_takeDigits s m args below meth c H locs 0 0 (MQ below (va_Qv (fun (w : va_W) => w = (ws_Rd_takeDigits cI cJ cB q_p0 q_p0_text q_p0_lines i_p0_size res.1 i_p0_token i_p0_place res.2.1 res.2.2 i_p0_faultFound i_p0_faultPlace f_p0_text)) (vz_B D A) A) args s 0 0 A) (F0 m 6 ls [])) : ∀ (x1 : Int32) (i_p0_behind : Int32) (i_p0_value : Int64) (i_p0_misshapen : Int32) (H : Heap) (locs : List Loc) (ls : Array Slot), B_Rd_takeDigits_85 fl i_p0_size i_p0_place f_p0_text kb_6 x1 i_p0_behind i_p0_value i_p0_misshapen = some res → va_P D classes (ws_Rd_takeDigits cI cJ cB q_p0 q_p0_text q_p0_lines i_p0_size i_p0_behind i_p0_token i_p0_place i_p0_value i_p0_misshapen i_p0_faultFound i_p0_faultPlace f_p0_text) H → va_D A (ws_Rd_takeDigits cI cJ cB q_p0 q_p0_text q_p0_lines i_p0_size i_p0_behind i_p0_token i_p0_place i_p0_value i_p0_misshapen i_p0_faultFound i_p0_faultPlace f_p0_text) → va_S A s.heap H locs → lv_has ls 3 [(0, .ref q_p0), (1, .int x1)] → W p l e rm_Rd_takeDigits s m args below meth c H locs 0 0 (MQ below (va_Qv (fun (w : va_W) => w = (ws_Rd_takeDigits cI cJ cB q_p0 q_p0_text q_p0_lines i_p0_size res.1 i_p0_token i_p0_place res.2.1 res.2.2 i_p0_faultFound i_p0_faultPlace f_p0_text)) (vz_B D A) A) args s 0 0 A) (F0 m 85 ls []) := by
  obtain ⟨hx, hb, hr, hml, hown, ht, hlocks, hin, hN, hK, hA, hZ⟩ := id C0
  intro x1 i_p0_behind i_p0_value i_p0_misshapen H locs ls hm hP hD hS hl
  unfold B_Rd_takeDigits_85 at hm
  refine lv_aload_n hx hb d_Rd_takeDigits_85 rfl (lv_at hl 0 rfl) ?_
  refine lv_dup hx hb d_Rd_takeDigits_86 rfl ?_
  refine va_get (D := D) (ci := 2) (v := .int i_p0_behind) (C := R_Rd) (T := F_Rd) (N := 10) hx hb ht i_Rd hown hK hP 0 rfl rfl 3 (Nat.le_of_ble_eq_true rfl) (ht _ m_177) (fun _ h9 => h9) rfl d_Rd_takeDigits_87 ?_
  refine lv_iconst (v := 1) hx hb d_Rd_takeDigits_90 (by decide) ?_
  refine lv_iadd hx hb d_Rd_takeDigits_91 ?_
  refine va_put (D := D) (ci := 2) (v := .int (i_p0_behind + (1 : Int32))) (ty := .int) (C := R_Rd) (T := F_Rd) (N := 10) hx hb ht i_Rd t_Rd t_Rd_ok n_Rd hown hK hP hD hS 0 rfl rfl 3 (Nat.le_of_ble_eq_true rfl) (ht _ m_177) (fun _ h9 => h9) rfl (by decide +kernel) rfl rfl (Nat.le_of_ble_eq_true rfl) d_Rd_takeDigits_92 (fun H locs hP hD hS => ?_)
  have hP : va_P D classes (ws_Rd_takeDigits cI cJ cB q_p0 q_p0_text q_p0_lines i_p0_size (i_p0_behind + (1 : Int32)) i_p0_token i_p0_place i_p0_value i_p0_misshapen i_p0_faultFound i_p0_faultPlace f_p0_text) H := hP
  have hD : va_D A (ws_Rd_takeDigits cI cJ cB q_p0 q_p0_text q_p0_lines i_p0_size (i_p0_behind + (1 : Int32)) i_p0_token i_p0_place i_p0_value i_p0_misshapen i_p0_faultFound i_p0_faultPlace f_p0_text) := hD
  refine lv_goto (tgt := 6) hx hb d_Rd_takeDigits_95 (by decide) ?_
  exact hk_6 x1 (i_p0_behind + (1 : Int32)) i_p0_value i_p0_misshapen _ _ _ hm hP hD hS (lv_sub hl [0, 1] rfl)
set_option maxHeartbeats 4000000 in
set_option maxRecDepth 100000 in
theorem w_Rd_takeDigits_6 {p : Program} {l : Launch} {e : Env} {s : State} {m : MethodId} {args : Array Value} {below : List Frame} {meth : Method} {c : Code} {D : va_G} {cI cJ cB : ClassId} {sa : Nat → Nat × Nat} {A : Nat → Prop} (fl : Nat) (q_p0 : Nat) (q_p0_text : Nat) (q_p0_lines : Nat) (i_p0_size : Int32) (i_p0_place : Int32) (f_p0_text : Nat → Int32) (i_p0_token : Int32) (i_p0_faultFound : Int32) (i_p0_faultPlace : Int32) (res : Int32 × Int64 × Int32) (C0 : vz_Cx p s m meth c b_Rd_takeDigits 3 none "LinkEngine$Reader" "takeDigits" D [(cI, .int), (cJ, .long), (cB, .byte)] sa A args) : ∀ (nn : Nat), ∀ (x1 : Int32) (i_p0_behind : Int32) (i_p0_value : Int64) (i_p0_misshapen : Int32) (H : Heap) (locs : List Loc) (ls : Array Slot), B_Rd_takeDigits_6 fl i_p0_size i_p0_place f_p0_text nn x1 i_p0_behind i_p0_value i_p0_misshapen = some res → va_P D classes (ws_Rd_takeDigits cI cJ cB q_p0 q_p0_text q_p0_lines i_p0_size i_p0_behind i_p0_token i_p0_place i_p0_value i_p0_misshapen i_p0_faultFound i_p0_faultPlace f_p0_text) H → va_D A (ws_Rd_takeDigits cI cJ cB q_p0 q_p0_text q_p0_lines i_p0_size i_p0_behind i_p0_token i_p0_place i_p0_value i_p0_misshapen i_p0_faultFound i_p0_faultPlace f_p0_text) → va_S A s.heap H locs → lv_has ls 3 [(0, .ref q_p0), (1, .int x1)] → W p l e rm_Rd_takeDigits s m args below meth c H locs 0 0 (MQ below (va_Qv (fun (w : va_W) => w = (ws_Rd_takeDigits cI cJ cB q_p0 q_p0_text q_p0_lines i_p0_size res.1 i_p0_token i_p0_place res.2.1 res.2.2 i_p0_faultFound i_p0_faultPlace f_p0_text)) (vz_B D A) A) args s 0 0 A) (F0 m 6 ls []) := by
  obtain ⟨hx, hb, hr, hml, hown, ht, hlocks, hin, hN, hK, hA, hZ⟩ := id C0
  intro nn
  induction nn with
  | zero =>
    intro x1 i_p0_behind i_p0_value i_p0_misshapen H locs ls hm hP hD hS hl
    rw [B_Rd_takeDigits_6] at hm
    cases hm
  | succ nn ih =>
    intro x1 i_p0_behind i_p0_value i_p0_misshapen H locs ls hm hP hD hS hl
    rw [B_Rd_takeDigits_6] at hm
    refine lv_aload_n hx hb d_Rd_takeDigits_6 rfl (lv_at hl 0 rfl) ?_
    refine va_get (D := D) (ci := 2) (v := .int i_p0_behind) (C := R_Rd) (T := F_Rd) (N := 10) hx hb ht i_Rd hown hK hP 0 rfl rfl 3 (Nat.le_of_ble_eq_true rfl) (ht _ m_177) (fun _ h9 => h9) rfl d_Rd_takeDigits_7 ?_
    refine lv_aload_n hx hb d_Rd_takeDigits_10 rfl (lv_at hl 0 rfl) ?_
    refine va_get (D := D) (ci := 2) (v := .int i_p0_size) (C := R_Rd) (T := F_Rd) (N := 10) hx hb ht i_Rd hown hK hP 0 rfl rfl 2 (Nat.le_of_ble_eq_true rfl) (ht _ m_176) (fun _ h9 => h9) rfl d_Rd_takeDigits_11 ?_
    refine lv_icmp_ge (tgt := 98) hx hb d_Rd_takeDigits_14 (by decide) (fun hc => ?_) (fun hc => ?_)
    · rw [if_pos hc] at hm
      exact w_Rd_takeDigits_98 fl q_p0 q_p0_text q_p0_lines i_p0_size i_p0_place f_p0_text i_p0_token i_p0_faultFound i_p0_faultPlace res C0 x1 i_p0_behind i_p0_value i_p0_misshapen _ _ _ hm hP hD hS (lv_sub hl [0, 1] rfl)
    · rw [if_neg hc] at hm
      refine lv_aload_n hx hb d_Rd_takeDigits_17 rfl (lv_at hl 0 rfl) ?_
      refine va_get (D := D) (ci := 2) (v := .ref q_p0_text) (C := R_Rd) (T := F_Rd) (N := 10) hx hb ht i_Rd hown hK hP 0 rfl rfl 0 (Nat.le_of_ble_eq_true rfl) (ht _ m_9) (fun _ h9 => h9) rfl d_Rd_takeDigits_18 ?_
      refine lv_aload_n hx hb d_Rd_takeDigits_21 rfl (lv_at hl 0 rfl) ?_
      refine va_get (D := D) (ci := 2) (v := .int i_p0_behind) (C := R_Rd) (T := F_Rd) (N := 10) hx hb ht i_Rd hown hK hP 0 rfl rfl 3 (Nat.le_of_ble_eq_true rfl) (ht _ m_177) (fun _ h9 => h9) rfl d_Rd_takeDigits_22 ?_
      obtain ⟨hg, hm⟩ := vz_guard hm
      refine va_iald hx hb hK hP 1 0 rfl rfl hg d_Rd_takeDigits_25 ?_
      refine lv_bipush (v := 48) hx hb d_Rd_takeDigits_26 (by decide +kernel) ?_
      refine lv_icmp_lt (tgt := 98) hx hb d_Rd_takeDigits_28 (by decide) (fun hc => ?_) (fun hc => ?_)
      · rw [if_pos hc] at hm
        exact w_Rd_takeDigits_98 fl q_p0 q_p0_text q_p0_lines i_p0_size i_p0_place f_p0_text i_p0_token i_p0_faultFound i_p0_faultPlace res C0 x1 i_p0_behind i_p0_value i_p0_misshapen _ _ _ hm hP hD hS (lv_sub hl [0, 1] rfl)
      · rw [if_neg hc] at hm
        refine lv_aload_n hx hb d_Rd_takeDigits_31 rfl (lv_at hl 0 rfl) ?_
        refine va_get (D := D) (ci := 2) (v := .ref q_p0_text) (C := R_Rd) (T := F_Rd) (N := 10) hx hb ht i_Rd hown hK hP 0 rfl rfl 0 (Nat.le_of_ble_eq_true rfl) (ht _ m_9) (fun _ h9 => h9) rfl d_Rd_takeDigits_32 ?_
        refine lv_aload_n hx hb d_Rd_takeDigits_35 rfl (lv_at hl 0 rfl) ?_
        refine va_get (D := D) (ci := 2) (v := .int i_p0_behind) (C := R_Rd) (T := F_Rd) (N := 10) hx hb ht i_Rd hown hK hP 0 rfl rfl 3 (Nat.le_of_ble_eq_true rfl) (ht _ m_177) (fun _ h9 => h9) rfl d_Rd_takeDigits_36 ?_
        obtain ⟨hg, hm⟩ := vz_guard hm
        refine va_iald hx hb hK hP 1 0 rfl rfl hg d_Rd_takeDigits_39 ?_
        refine lv_bipush (v := 57) hx hb d_Rd_takeDigits_40 (by decide +kernel) ?_
        refine lv_icmp_gt (tgt := 98) hx hb d_Rd_takeDigits_42 (by decide) (fun hc => ?_) (fun hc => ?_)
        · rw [if_pos hc] at hm
          exact w_Rd_takeDigits_98 fl q_p0 q_p0_text q_p0_lines i_p0_size i_p0_place f_p0_text i_p0_token i_p0_faultFound i_p0_faultPlace res C0 x1 i_p0_behind i_p0_value i_p0_misshapen _ _ _ hm hP hD hS (lv_sub hl [0, 1] rfl)
        · rw [if_neg hc] at hm
          refine lv_aload_n hx hb d_Rd_takeDigits_45 rfl (lv_at hl 0 rfl) ?_
          refine va_get (D := D) (ci := 2) (v := .int i_p0_behind) (C := R_Rd) (T := F_Rd) (N := 10) hx hb ht i_Rd hown hK hP 0 rfl rfl 3 (Nat.le_of_ble_eq_true rfl) (ht _ m_177) (fun _ h9 => h9) rfl d_Rd_takeDigits_46 ?_
          refine lv_aload_n hx hb d_Rd_takeDigits_49 rfl (lv_at hl 0 rfl) ?_
          refine va_get (D := D) (ci := 2) (v := .int i_p0_place) (C := R_Rd) (T := F_Rd) (N := 10) hx hb ht i_Rd hown hK hP 0 rfl rfl 5 (Nat.le_of_ble_eq_true rfl) (ht _ m_351) (fun _ h9 => h9) rfl d_Rd_takeDigits_50 ?_
          refine lv_isub hx hb d_Rd_takeDigits_53 ?_
          refine lv_bipush (v := 18) hx hb d_Rd_takeDigits_54 (by decide +kernel) ?_
          refine lv_icmp_ge (tgt := 85) hx hb d_Rd_takeDigits_56 (by decide) (fun hc => ?_) (fun hc => ?_)
          · rw [if_pos hc] at hm
            exact w_Rd_takeDigits_85 fl q_p0 q_p0_text q_p0_lines i_p0_size i_p0_place f_p0_text i_p0_token i_p0_faultFound i_p0_faultPlace res C0 (B_Rd_takeDigits_6 fl i_p0_size i_p0_place f_p0_text nn) ih x1 i_p0_behind i_p0_value i_p0_misshapen _ _ _ hm hP hD hS (lv_sub hl [0, 1] rfl)
          · rw [if_neg hc] at hm
            refine lv_aload_n hx hb d_Rd_takeDigits_59 rfl (lv_at hl 0 rfl) ?_
            refine lv_ldc2 hx hb hown (ht _ m_352) d_Rd_takeDigits_60 ?_
            refine lv_aload_n hx hb d_Rd_takeDigits_63 rfl (lv_at hl 0 rfl) ?_
            refine va_get (D := D) (ci := 2) (v := .long i_p0_value) (C := R_Rd) (T := F_Rd) (N := 10) hx hb ht i_Rd hown hK hP 0 rfl rfl 6 (Nat.le_of_ble_eq_true rfl) (ht _ m_353) (fun _ h9 => h9) rfl d_Rd_takeDigits_64 ?_
            refine lv_lmul hx hb d_Rd_takeDigits_67 ?_
            refine lv_aload_n hx hb d_Rd_takeDigits_68 rfl (lv_at hl 0 rfl) ?_
            refine va_get (D := D) (ci := 2) (v := .ref q_p0_text) (C := R_Rd) (T := F_Rd) (N := 10) hx hb ht i_Rd hown hK hP 0 rfl rfl 0 (Nat.le_of_ble_eq_true rfl) (ht _ m_9) (fun _ h9 => h9) rfl d_Rd_takeDigits_69 ?_
            refine lv_aload_n hx hb d_Rd_takeDigits_72 rfl (lv_at hl 0 rfl) ?_
            refine va_get (D := D) (ci := 2) (v := .int i_p0_behind) (C := R_Rd) (T := F_Rd) (N := 10) hx hb ht i_Rd hown hK hP 0 rfl rfl 3 (Nat.le_of_ble_eq_true rfl) (ht _ m_177) (fun _ h9 => h9) rfl d_Rd_takeDigits_73 ?_
            obtain ⟨hg, hm⟩ := vz_guard hm
            refine va_iald hx hb hK hP 1 0 rfl rfl hg d_Rd_takeDigits_76 ?_
            refine lv_bipush (v := 48) hx hb d_Rd_takeDigits_77 (by decide +kernel) ?_
            refine lv_isub hx hb d_Rd_takeDigits_79 ?_
            refine lv_i2l hx hb d_Rd_takeDigits_80 rfl ?_
            refine lv_ladd hx hb d_Rd_takeDigits_81 ?_
            refine va_put (D := D) (ci := 2) (v := .long (((10 : Int64) * i_p0_value) + (Int32.toInt64 ((f_p0_text (Int32.toNatClampNeg i_p0_behind)) - (48 : Int32))))) (ty := .long) (C := R_Rd) (T := F_Rd) (N := 10) hx hb ht i_Rd t_Rd t_Rd_ok n_Rd hown hK hP hD hS 0 rfl rfl 6 (Nat.le_of_ble_eq_true rfl) (ht _ m_353) (fun _ h9 => h9) rfl (by decide +kernel) rfl rfl (Nat.le_of_ble_eq_true rfl) d_Rd_takeDigits_82 (fun H locs hP hD hS => ?_)
            have hP : va_P D classes (ws_Rd_takeDigits cI cJ cB q_p0 q_p0_text q_p0_lines i_p0_size i_p0_behind i_p0_token i_p0_place (((10 : Int64) * i_p0_value) + (Int32.toInt64 ((f_p0_text (Int32.toNatClampNeg i_p0_behind)) - (48 : Int32)))) i_p0_misshapen i_p0_faultFound i_p0_faultPlace f_p0_text) H := hP
            have hD : va_D A (ws_Rd_takeDigits cI cJ cB q_p0 q_p0_text q_p0_lines i_p0_size i_p0_behind i_p0_token i_p0_place (((10 : Int64) * i_p0_value) + (Int32.toInt64 ((f_p0_text (Int32.toNatClampNeg i_p0_behind)) - (48 : Int32)))) i_p0_misshapen i_p0_faultFound i_p0_faultPlace f_p0_text) := hD
            exact w_Rd_takeDigits_85 fl q_p0 q_p0_text q_p0_lines i_p0_size i_p0_place f_p0_text i_p0_token i_p0_faultFound i_p0_faultPlace res C0 (B_Rd_takeDigits_6 fl i_p0_size i_p0_place f_p0_text nn) ih x1 i_p0_behind (((10 : Int64) * i_p0_value) + (Int32.toInt64 ((f_p0_text (Int32.toNatClampNeg i_p0_behind)) - (48 : Int32)))) i_p0_misshapen _ _ _ hm hP hD hS (lv_sub hl [0, 1] rfl)
set_option maxHeartbeats 4000000 in
set_option maxRecDepth 100000 in
theorem w_Rd_takeDigits_0 {p : Program} {l : Launch} {e : Env} {s : State} {m : MethodId} {args : Array Value} {below : List Frame} {meth : Method} {c : Code} {D : va_G} {cI cJ cB : ClassId} {sa : Nat → Nat × Nat} {A : Nat → Prop} (fl : Nat) (q_p0 : Nat) (q_p0_text : Nat) (q_p0_lines : Nat) (i_p0_size : Int32) (i_p0_place : Int32) (f_p0_text : Nat → Int32) (i_p0_token : Int32) (i_p0_faultFound : Int32) (i_p0_faultPlace : Int32) (res : Int32 × Int64 × Int32) (C0 : vz_Cx p s m meth c b_Rd_takeDigits 3 none "LinkEngine$Reader" "takeDigits" D [(cI, .int), (cJ, .long), (cB, .byte)] sa A args) : ∀ (x1 : Int32) (i_p0_behind : Int32) (i_p0_value : Int64) (i_p0_misshapen : Int32) (H : Heap) (locs : List Loc) (ls : Array Slot), B_Rd_takeDigits_0 fl i_p0_size i_p0_place f_p0_text x1 i_p0_behind i_p0_value i_p0_misshapen = some res → va_P D classes (ws_Rd_takeDigits cI cJ cB q_p0 q_p0_text q_p0_lines i_p0_size i_p0_behind i_p0_token i_p0_place i_p0_value i_p0_misshapen i_p0_faultFound i_p0_faultPlace f_p0_text) H → va_D A (ws_Rd_takeDigits cI cJ cB q_p0 q_p0_text q_p0_lines i_p0_size i_p0_behind i_p0_token i_p0_place i_p0_value i_p0_misshapen i_p0_faultFound i_p0_faultPlace f_p0_text) → va_S A s.heap H locs → lv_has ls 3 [(0, .ref q_p0), (1, .int x1)] → W p l e rm_Rd_takeDigits s m args below meth c H locs 0 0 (MQ below (va_Qv (fun (w : va_W) => w = (ws_Rd_takeDigits cI cJ cB q_p0 q_p0_text q_p0_lines i_p0_size res.1 i_p0_token i_p0_place res.2.1 res.2.2 i_p0_faultFound i_p0_faultPlace f_p0_text)) (vz_B D A) A) args s 0 0 A) (F0 m 0 ls []) := by
  obtain ⟨hx, hb, hr, hml, hown, ht, hlocks, hin, hN, hK, hA, hZ⟩ := id C0
  intro x1 i_p0_behind i_p0_value i_p0_misshapen H locs ls hm hP hD hS hl
  unfold B_Rd_takeDigits_0 at hm
  refine lv_aload_n hx hb d_Rd_takeDigits_0 rfl (lv_at hl 0 rfl) ?_
  refine lv_iload_n hx hb d_Rd_takeDigits_1 rfl (lv_at hl 1 rfl) ?_
  refine lv_i2l hx hb d_Rd_takeDigits_2 rfl ?_
  refine va_put (D := D) (ci := 2) (v := .long (Int32.toInt64 x1)) (ty := .long) (C := R_Rd) (T := F_Rd) (N := 10) hx hb ht i_Rd t_Rd t_Rd_ok n_Rd hown hK hP hD hS 0 rfl rfl 6 (Nat.le_of_ble_eq_true rfl) (ht _ m_353) (fun _ h9 => h9) rfl (by decide +kernel) rfl rfl (Nat.le_of_ble_eq_true rfl) d_Rd_takeDigits_3 (fun H locs hP hD hS => ?_)
  have hP : va_P D classes (ws_Rd_takeDigits cI cJ cB q_p0 q_p0_text q_p0_lines i_p0_size i_p0_behind i_p0_token i_p0_place (Int32.toInt64 x1) i_p0_misshapen i_p0_faultFound i_p0_faultPlace f_p0_text) H := hP
  have hD : va_D A (ws_Rd_takeDigits cI cJ cB q_p0 q_p0_text q_p0_lines i_p0_size i_p0_behind i_p0_token i_p0_place (Int32.toInt64 x1) i_p0_misshapen i_p0_faultFound i_p0_faultPlace f_p0_text) := hD
  exact w_Rd_takeDigits_6 fl q_p0 q_p0_text q_p0_lines i_p0_size i_p0_place f_p0_text i_p0_token i_p0_faultFound i_p0_faultPlace res C0 fl x1 i_p0_behind (Int32.toInt64 x1) i_p0_misshapen _ _ _ hm hP hD hS (lv_sub hl [0, 1] rfl)
set_option maxHeartbeats 4000000 in
set_option maxRecDepth 100000 in
theorem k_Rd_takeDigits (l : Launch) (D : va_G) (cI cJ cB : ClassId) (sa : Nat → Nat × Nat) (fl : Nat) (q_p0 : Nat) (q_p0_text : Nat) (q_p0_lines : Nat) (i_p0_size : Int32) (i_p0_place : Int32) (f_p0_text : Nat → Int32) (i_p0_token : Int32) (i_p0_faultFound : Int32) (i_p0_faultPlace : Int32) (i_p0_behind : Int32) (i_p0_value : Int64) (i_p0_misshapen : Int32) (x1 : Int32) (res : Int32 × Int64 × Int32) (hm : m_Rd_takeDigits fl i_p0_size i_p0_place f_p0_text x1 i_p0_behind i_p0_value i_p0_misshapen = some res) : MtV l y_Rd_takeDigits (.code y_Rd_takeDigits b_Rd_takeDigits 3 none :: CW) rm_Rd_takeDigits D [(cI, .int), (cJ, .long), (cB, .byte)] sa [.ref q_p0, .int x1] (ws_Rd_takeDigits cI cJ cB q_p0 q_p0_text q_p0_lines i_p0_size i_p0_behind i_p0_token i_p0_place i_p0_value i_p0_misshapen i_p0_faultFound i_p0_faultPlace f_p0_text) (fun (w : va_W) => w = (ws_Rd_takeDigits cI cJ cB q_p0 q_p0_text q_p0_lines i_p0_size res.1 i_p0_token i_p0_place res.2.1 res.2.2 i_p0_faultFound i_p0_faultPlace f_p0_text)) := by
  intro sz
  refine vz_start (Qc := fun A => va_Qv (fun (w : va_W) => w = (ws_Rd_takeDigits cI cJ cB q_p0 q_p0_text q_p0_lines i_p0_size res.1 i_p0_token i_p0_place res.2.1 res.2.2 i_p0_faultFound i_p0_faultPlace f_p0_text)) (vz_B D A) A) (lv0 := [(0, .ref q_p0), (1, .int x1)]) (by decide +kernel) (Nat.le_of_ble_eq_true rfl) rfl ?_
  intro p e s m below meth c A ls C0 hl
  obtain ⟨hx, hb, hr, hml, hown, ht, hlocks, hin, hN, hK, hP, hD, hA, hS, hZ⟩ := C0
  exact w_Rd_takeDigits_0 fl q_p0 q_p0_text q_p0_lines i_p0_size i_p0_place f_p0_text i_p0_token i_p0_faultFound i_p0_faultPlace res ⟨hx, hb, hr, hml, hown, ht, hlocks, hin, hN, hK, hA, hZ⟩ x1 i_p0_behind i_p0_value i_p0_misshapen s.heap [] ls hm hP hD hS (lv_sub hl [0, 1] rfl)
def ws_En_wordOf (cI cJ cB : ClassId)  : va_W := []
def rm_En_wordOf : Room := { frames := 0, cells := 0, slots := 0, locals := 0 }
def B_En_wordOf_0 (fl : Nat) (x0 : Int32) : Option (Nat) := (if x0 = 1 then (some 0) else (if x0 = 2 then (some 1) else (if x0 = 3 then (some 2) else (if x0 = 4 then (some 3) else (if x0 = 5 then (some 4) else (if x0 = 6 then (some 5) else (if x0 = 7 then (some 6) else (if x0 = 8 then (some 7) else (if x0 = 9 then (some 8) else (if x0 = 10 then (some 9) else (if x0 = 11 then (some 10) else (if x0 = 12 then (some 11) else (if x0 = 13 then (some 12) else (if x0 = 14 then (some 13) else (if x0 = 15 then (some 14) else (if x0 = 16 then (some 15) else (if x0 = 17 then (some 16) else (if x0 = 18 then (some 17) else (some 18)))))))))))))))))))
def m_En_wordOf (fl : Nat) (x0 : Int32) : Option (Nat) := B_En_wordOf_0 fl  x0
set_option maxHeartbeats 4000000 in
set_option maxRecDepth 100000 in
theorem w_En_wordOf_0 {p : Program} {l : Launch} {e : Env} {s : State} {m : MethodId} {args : Array Value} {below : List Frame} {meth : Method} {c : Code} {D : va_G} {cI cJ cB : ClassId} {sa : Nat → Nat × Nat} {A : Nat → Prop} (fl : Nat)   (res : Nat) (C0 : vz_Cx p s m meth c b_En_wordOf 1 (some (.object "java/lang/String")) "LinkEngine" "wordOf" D [(cI, .int), (cJ, .long), (cB, .byte)] sa A args) : ∀ (x0 : Int32) (H : Heap) (locs : List Loc) (ls : Array Slot), B_En_wordOf_0 fl x0 = some res → va_P D classes (ws_En_wordOf cI cJ cB ) H → va_D A (ws_En_wordOf cI cJ cB ) → va_S A s.heap H locs → lv_has ls 1 [(0, .int x0)] → W p l e rm_En_wordOf s m args below meth c H locs 0 0 (MQ below (va_Qr (fun (w : va_W) => w = (ws_En_wordOf cI cJ cB )) (vz_Br D A (sa res).1) A) args s 0 0 A) (F0 m 0 ls []) := by
  obtain ⟨hx, hb, hr, hml, hown, ht, hlocks, hin, hN, hK, hA, hZ⟩ := id C0
  intro x0 H locs ls hm hP hD hS hl
  unfold B_En_wordOf_0 at hm
  refine lv_iload_n hx hb d_En_wordOf_0 rfl (lv_at hl 0 rfl) ?_
  by_cases h_1 : x0 = 1
  · rw [if_pos h_1] at hm
    refine lv_tableIn (off := 87) (tgt := 88) hx hb d_En_wordOf_1 (by rw [h_1]; decide) (by rw [h_1]; decide) (by rw [h_1] <;> rfl) (by decide) ?_
    refine vz_ldcwS hx hb hown (hZ.2.1 0 ("LinkEngine", 375, "code") rfl) d_En_wordOf_88 ?_
    obtain rfl := Option.some.inj hm
    exact vz_aret hx hb hr hlocks hP hD hS (Nat.le_refl _) (Nat.le_refl _) d_En_wordOf_91 rfl
  · rw [if_neg h_1] at hm
    by_cases h_2 : x0 = 2
    · rw [if_pos h_2] at hm
      refine lv_tableIn (off := 91) (tgt := 92) hx hb d_En_wordOf_1 (by rw [h_2]; decide) (by rw [h_2]; decide) (by rw [h_2] <;> rfl) (by decide) ?_
      refine vz_ldcwS hx hb hown (hZ.2.1 1 ("LinkEngine", 377, "braid") rfl) d_En_wordOf_92 ?_
      obtain rfl := Option.some.inj hm
      exact vz_aret hx hb hr hlocks hP hD hS (Nat.le_refl _) (Nat.le_refl _) d_En_wordOf_95 rfl
    · rw [if_neg h_2] at hm
      by_cases h_3 : x0 = 3
      · rw [if_pos h_3] at hm
        refine lv_tableIn (off := 95) (tgt := 96) hx hb d_En_wordOf_1 (by rw [h_3]; decide) (by rw [h_3]; decide) (by rw [h_3] <;> rfl) (by decide) ?_
        refine vz_ldcwS hx hb hown (hZ.2.1 2 ("LinkEngine", 379, "undo") rfl) d_En_wordOf_96 ?_
        obtain rfl := Option.some.inj hm
        exact vz_aret hx hb hr hlocks hP hD hS (Nat.le_refl _) (Nat.le_refl _) d_En_wordOf_99 rfl
      · rw [if_neg h_3] at hm
        by_cases h_4 : x0 = 4
        · rw [if_pos h_4] at hm
          refine lv_tableIn (off := 99) (tgt := 100) hx hb d_En_wordOf_1 (by rw [h_4]; decide) (by rw [h_4]; decide) (by rw [h_4] <;> rfl) (by decide) ?_
          refine vz_ldcwS hx hb hown (hZ.2.1 3 ("LinkEngine", 380, "slide") rfl) d_En_wordOf_100 ?_
          obtain rfl := Option.some.inj hm
          exact vz_aret hx hb hr hlocks hP hD hS (Nat.le_refl _) (Nat.le_refl _) d_En_wordOf_103 rfl
        · rw [if_neg h_4] at hm
          by_cases h_5 : x0 = 5
          · rw [if_pos h_5] at hm
            refine lv_tableIn (off := 103) (tgt := 104) hx hb d_En_wordOf_1 (by rw [h_5]; decide) (by rw [h_5]; decide) (by rw [h_5] <;> rfl) (by decide) ?_
            refine vz_ldcwS hx hb hown (hZ.2.1 4 ("LinkEngine", 381, "twist") rfl) d_En_wordOf_104 ?_
            obtain rfl := Option.some.inj hm
            exact vz_aret hx hb hr hlocks hP hD hS (Nat.le_refl _) (Nat.le_refl _) d_En_wordOf_107 rfl
          · rw [if_neg h_5] at hm
            by_cases h_6 : x0 = 6
            · rw [if_pos h_6] at hm
              refine lv_tableIn (off := 107) (tgt := 108) hx hb d_En_wordOf_1 (by rw [h_6]; decide) (by rw [h_6]; decide) (by rw [h_6] <;> rfl) (by decide) ?_
              refine vz_ldcwS hx hb hown (hZ.2.1 5 ("LinkEngine", 382, "push") rfl) d_En_wordOf_108 ?_
              obtain rfl := Option.some.inj hm
              exact vz_aret hx hb hr hlocks hP hD hS (Nat.le_refl _) (Nat.le_refl _) d_En_wordOf_111 rfl
            · rw [if_neg h_6] at hm
              by_cases h_7 : x0 = 7
              · rw [if_pos h_7] at hm
                refine lv_tableIn (off := 111) (tgt := 112) hx hb d_En_wordOf_1 (by rw [h_7]; decide) (by rw [h_7]; decide) (by rw [h_7] <;> rfl) (by decide) ?_
                refine vz_ldcwS hx hb hown (hZ.2.1 6 ("LinkEngine", 383, "simplify") rfl) d_En_wordOf_112 ?_
                obtain rfl := Option.some.inj hm
                exact vz_aret hx hb hr hlocks hP hD hS (Nat.le_refl _) (Nat.le_refl _) d_En_wordOf_115 rfl
              · rw [if_neg h_7] at hm
                by_cases h_8 : x0 = 8
                · rw [if_pos h_8] at hm
                  refine lv_tableIn (off := 115) (tgt := 116) hx hb d_En_wordOf_1 (by rw [h_8]; decide) (by rw [h_8]; decide) (by rw [h_8] <;> rfl) (by decide) ?_
                  refine vz_ldcwS hx hb hown (hZ.2.1 7 ("LinkEngine", 384, "mirror") rfl) d_En_wordOf_116 ?_
                  obtain rfl := Option.some.inj hm
                  exact vz_aret hx hb hr hlocks hP hD hS (Nat.le_refl _) (Nat.le_refl _) d_En_wordOf_119 rfl
                · rw [if_neg h_8] at hm
                  by_cases h_9 : x0 = 9
                  · rw [if_pos h_9] at hm
                    refine lv_tableIn (off := 119) (tgt := 120) hx hb d_En_wordOf_1 (by rw [h_9]; decide) (by rw [h_9]; decide) (by rw [h_9] <;> rfl) (by decide) ?_
                    refine vz_ldcwS hx hb hown (hZ.2.1 8 ("LinkEngine", 385, "reverse") rfl) d_En_wordOf_120 ?_
                    obtain rfl := Option.some.inj hm
                    exact vz_aret hx hb hr hlocks hP hD hS (Nat.le_refl _) (Nat.le_refl _) d_En_wordOf_123 rfl
                  · rw [if_neg h_9] at hm
                    by_cases h_10 : x0 = 10
                    · rw [if_pos h_10] at hm
                      refine lv_tableIn (off := 123) (tgt := 124) hx hb d_En_wordOf_1 (by rw [h_10]; decide) (by rw [h_10]; decide) (by rw [h_10] <;> rfl) (by decide) ?_
                      refine vz_ldcwS hx hb hown (hZ.2.1 9 ("LinkEngine", 386, "change") rfl) d_En_wordOf_124 ?_
                      obtain rfl := Option.some.inj hm
                      exact vz_aret hx hb hr hlocks hP hD hS (Nat.le_refl _) (Nat.le_refl _) d_En_wordOf_127 rfl
                    · rw [if_neg h_10] at hm
                      by_cases h_11 : x0 = 11
                      · rw [if_pos h_11] at hm
                        refine lv_tableIn (off := 127) (tgt := 128) hx hb d_En_wordOf_1 (by rw [h_11]; decide) (by rw [h_11]; decide) (by rw [h_11] <;> rfl) (by decide) ?_
                        refine vz_ldcwS hx hb hown (hZ.2.1 10 ("LinkEngine", 387, "smooth") rfl) d_En_wordOf_128 ?_
                        obtain rfl := Option.some.inj hm
                        exact vz_aret hx hb hr hlocks hP hD hS (Nat.le_refl _) (Nat.le_refl _) d_En_wordOf_131 rfl
                      · rw [if_neg h_11] at hm
                        by_cases h_12 : x0 = 12
                        · rw [if_pos h_12] at hm
                          refine lv_tableIn (off := 131) (tgt := 132) hx hb d_En_wordOf_1 (by rw [h_12]; decide) (by rw [h_12]; decide) (by rw [h_12] <;> rfl) (by decide) ?_
                          refine vz_ldcwS hx hb hown (hZ.2.1 11 ("LinkEngine", 388, "number") rfl) d_En_wordOf_132 ?_
                          obtain rfl := Option.some.inj hm
                          exact vz_aret hx hb hr hlocks hP hD hS (Nat.le_refl _) (Nat.le_refl _) d_En_wordOf_135 rfl
                        · rw [if_neg h_12] at hm
                          by_cases h_13 : x0 = 13
                          · rw [if_pos h_13] at hm
                            refine lv_tableIn (off := 135) (tgt := 136) hx hb d_En_wordOf_1 (by rw [h_13]; decide) (by rw [h_13]; decide) (by rw [h_13] <;> rfl) (by decide) ?_
                            refine vz_ldcwS hx hb hown (hZ.2.1 12 ("LinkEngine", 389, "show") rfl) d_En_wordOf_136 ?_
                            obtain rfl := Option.some.inj hm
                            exact vz_aret hx hb hr hlocks hP hD hS (Nat.le_refl _) (Nat.le_refl _) d_En_wordOf_139 rfl
                          · rw [if_neg h_13] at hm
                            by_cases h_14 : x0 = 14
                            · rw [if_pos h_14] at hm
                              refine lv_tableIn (off := 139) (tgt := 140) hx hb d_En_wordOf_1 (by rw [h_14]; decide) (by rw [h_14]; decide) (by rw [h_14] <;> rfl) (by decide) ?_
                              refine vz_ldcwS hx hb hown (hZ.2.1 13 ("LinkEngine", 391, "count") rfl) d_En_wordOf_140 ?_
                              obtain rfl := Option.some.inj hm
                              exact vz_aret hx hb hr hlocks hP hD hS (Nat.le_refl _) (Nat.le_refl _) d_En_wordOf_143 rfl
                            · rw [if_neg h_14] at hm
                              by_cases h_15 : x0 = 15
                              · rw [if_pos h_15] at hm
                                refine lv_tableIn (off := 143) (tgt := 144) hx hb d_En_wordOf_1 (by rw [h_15]; decide) (by rw [h_15]; decide) (by rw [h_15] <;> rfl) (by decide) ?_
                                refine vz_ldcwS hx hb hown (hZ.2.1 14 ("LinkEngine", 392, "faces") rfl) d_En_wordOf_144 ?_
                                obtain rfl := Option.some.inj hm
                                exact vz_aret hx hb hr hlocks hP hD hS (Nat.le_refl _) (Nat.le_refl _) d_En_wordOf_147 rfl
                              · rw [if_neg h_15] at hm
                                by_cases h_16 : x0 = 16
                                · rw [if_pos h_16] at hm
                                  refine lv_tableIn (off := 147) (tgt := 148) hx hb d_En_wordOf_1 (by rw [h_16]; decide) (by rw [h_16]; decide) (by rw [h_16] <;> rfl) (by decide) ?_
                                  refine vz_ldcwS hx hb hown (hZ.2.1 15 ("LinkEngine", 393, "bracket") rfl) d_En_wordOf_148 ?_
                                  obtain rfl := Option.some.inj hm
                                  exact vz_aret hx hb hr hlocks hP hD hS (Nat.le_refl _) (Nat.le_refl _) d_En_wordOf_151 rfl
                                · rw [if_neg h_16] at hm
                                  by_cases h_17 : x0 = 17
                                  · rw [if_pos h_17] at hm
                                    refine lv_tableIn (off := 151) (tgt := 152) hx hb d_En_wordOf_1 (by rw [h_17]; decide) (by rw [h_17]; decide) (by rw [h_17] <;> rfl) (by decide) ?_
                                    refine vz_ldcwS hx hb hown (hZ.2.1 16 ("LinkEngine", 394, "jones") rfl) d_En_wordOf_152 ?_
                                    obtain rfl := Option.some.inj hm
                                    exact vz_aret hx hb hr hlocks hP hD hS (Nat.le_refl _) (Nat.le_refl _) d_En_wordOf_155 rfl
                                  · rw [if_neg h_17] at hm
                                    by_cases h_18 : x0 = 18
                                    · rw [if_pos h_18] at hm
                                      refine lv_tableIn (off := 155) (tgt := 156) hx hb d_En_wordOf_1 (by rw [h_18]; decide) (by rw [h_18]; decide) (by rw [h_18] <;> rfl) (by decide) ?_
                                      refine vz_ldcwS hx hb hown (hZ.2.1 17 ("LinkEngine", 396, "alexander") rfl) d_En_wordOf_156 ?_
                                      obtain rfl := Option.some.inj hm
                                      exact vz_aret hx hb hr hlocks hP hD hS (Nat.le_refl _) (Nat.le_refl _) d_En_wordOf_159 rfl
                                    · rw [if_neg h_18] at hm
                                      refine lv_tableOut (tgt := 160) hx hb d_En_wordOf_1 (by
                                          have hz : ∀ (k : Int32) (a : Int), ¬ x0 = k → k.toInt = a → ¬ Int32.toInt x0 = a := fun k a h1 h2 => lv_neT h1 h2
                                          have z1 := hz 1 1 h_1 (by decide); have z2 := hz 2 2 h_2 (by decide); have z3 := hz 3 3 h_3 (by decide); have z4 := hz 4 4 h_4 (by decide); have z5 := hz 5 5 h_5 (by decide); have z6 := hz 6 6 h_6 (by decide); have z7 := hz 7 7 h_7 (by decide); have z8 := hz 8 8 h_8 (by decide); have z9 := hz 9 9 h_9 (by decide); have z10 := hz 10 10 h_10 (by decide); have z11 := hz 11 11 h_11 (by decide); have z12 := hz 12 12 h_12 (by decide); have z13 := hz 13 13 h_13 (by decide); have z14 := hz 14 14 h_14 (by decide); have z15 := hz 15 15 h_15 (by decide); have z16 := hz 16 16 h_16 (by decide); have z17 := hz 17 17 h_17 (by decide); have z18 := hz 18 18 h_18 (by decide)
                                          omega) (by decide) ?_
                                      refine vz_ldcwS hx hb hown (hZ.2.1 18 ("LinkEngine", 397, "") rfl) d_En_wordOf_160 ?_
                                      obtain rfl := Option.some.inj hm
                                      exact vz_aret hx hb hr hlocks hP hD hS (Nat.le_refl _) (Nat.le_refl _) d_En_wordOf_163 rfl
set_option maxHeartbeats 4000000 in
set_option maxRecDepth 100000 in
theorem k_En_wordOf (l : Launch) (D : va_G) (cI cJ cB : ClassId) (sa : Nat → Nat × Nat) (fl : Nat)   (x0 : Int32) (res : Nat) (hm : m_En_wordOf fl x0 = some res) : MtR l y_En_wordOf (.code y_En_wordOf b_En_wordOf 1 (some (.object "java/lang/String")) :: CW) rm_En_wordOf D [(cI, .int), (cJ, .long), (cB, .byte)] sa [.int x0] (ws_En_wordOf cI cJ cB ) (sa res).1 (fun (w : va_W) => w = (ws_En_wordOf cI cJ cB )) := by
  intro sz
  refine vz_start (Qc := fun A => va_Qr (fun (w : va_W) => w = (ws_En_wordOf cI cJ cB )) (vz_Br D A (sa res).1) A) (lv0 := [(0, .int x0)]) (by decide +kernel) (Nat.le_of_ble_eq_true rfl) rfl ?_
  intro p e s m below meth c A ls C0 hl
  obtain ⟨hx, hb, hr, hml, hown, ht, hlocks, hin, hN, hK, hP, hD, hA, hS, hZ⟩ := C0
  exact w_En_wordOf_0 fl   res ⟨hx, hb, hr, hml, hown, ht, hlocks, hin, hN, hK, hA, hZ⟩ x0 s.heap [] ls hm hP hD hS (lv_sub hl [0] rfl)
def ws_Rd_isWord (cI cJ cB : ClassId) (q_p0 : Nat) (q_p0_text : Nat) (q_p0_lines : Nat) (i_p0_size : Int32) (i_p0_behind : Int32) (i_p0_token : Int32) (i_p0_place : Int32) (i_p0_value : Int64) (i_p0_misshapen : Int32) (i_p0_faultFound : Int32) (i_p0_faultPlace : Int32) (f_p0_text : Nat → Int32) : va_W := [(q_p0, .inr (2, [.ref q_p0_text, .ref q_p0_lines, .int i_p0_size, .int i_p0_behind, .int i_p0_token, .int i_p0_place, .long i_p0_value, .int i_p0_misshapen, .int i_p0_faultFound, .int i_p0_faultPlace])), (q_p0_text, .inl (cI, 4000, .inl f_p0_text))]
def rm_Rd_isWord : Room := { frames := 4, cells := 0, slots := 0, locals := 85 }
def B_Rd_isWord_28 (fl : Nat) (i_p0_behind : Int32) (i_p0_token : Int32) (i_p0_place : Int32) (f_p0_text : Nat → Int32) : Nat → Nat → Int32 → Option (Int32)
  | 0, _, _ => none
  | nn + 1, x1, x2 => (if x1 < 79 then (if (nI (strL.getD x1 0)) ≤ x2 then (some 1) else (if ¬ ((i_p0_place + x2) < 0 ∨ 4000 ≤ Int32.toNatClampNeg (i_p0_place + x2)) then (if x1 < 79 ∧ ¬ x2 < 0 ∧ x2 < nI (strL.getD x1 0) then (if (f_p0_text (Int32.toNatClampNeg (i_p0_place + x2))) = ((strB.getD x1 []).getD (Int32.toNatClampNeg x2) 0) then B_Rd_isWord_28 fl i_p0_behind i_p0_token i_p0_place f_p0_text nn x1 (x2 + 1) else (some 0)) else none) else none)) else none)
def B_Rd_isWord_0 (fl : Nat) (i_p0_behind : Int32) (i_p0_token : Int32) (i_p0_place : Int32) (f_p0_text : Nat → Int32) (x1 : Nat) : Option (Int32) := (if ¬ i_p0_token = (2 : Int32) then (some 0) else (if x1 < 79 then (if (i_p0_behind - i_p0_place) = (nI (strL.getD x1 0)) then B_Rd_isWord_28 fl i_p0_behind i_p0_token i_p0_place f_p0_text fl x1 0 else (some 0)) else none))
def m_Rd_isWord (fl : Nat) (i_p0_behind : Int32) (i_p0_token : Int32) (i_p0_place : Int32) (f_p0_text : Nat → Int32) (x1 : Nat) : Option (Int32) := B_Rd_isWord_0 fl i_p0_behind i_p0_token i_p0_place f_p0_text x1
set_option maxHeartbeats 4000000 in
set_option maxRecDepth 100000 in
theorem w_Rd_isWord_28 {p : Program} {l : Launch} {e : Env} {s : State} {m : MethodId} {args : Array Value} {below : List Frame} {meth : Method} {c : Code} {D : va_G} {cI cJ cB : ClassId} {sa : Nat → Nat × Nat} {A : Nat → Prop} (fl : Nat) (q_p0 : Nat) (q_p0_text : Nat) (q_p0_lines : Nat) (i_p0_behind : Int32) (i_p0_token : Int32) (i_p0_place : Int32) (f_p0_text : Nat → Int32) (i_p0_size : Int32) (i_p0_value : Int64) (i_p0_misshapen : Int32) (i_p0_faultFound : Int32) (i_p0_faultPlace : Int32) (res : Int32) (C0 : vz_Cx p s m meth c b_Rd_isWord 3 (some .boolean) "LinkEngine$Reader" "isWord" D [(cI, .int), (cJ, .long), (cB, .byte)] sa A args) : ∀ (nn : Nat), ∀ (x1 : Nat) (x2 : Int32) (H : Heap) (locs : List Loc) (ls : Array Slot), B_Rd_isWord_28 fl i_p0_behind i_p0_token i_p0_place f_p0_text nn x1 x2 = some res → va_P D classes (ws_Rd_isWord cI cJ cB q_p0 q_p0_text q_p0_lines i_p0_size i_p0_behind i_p0_token i_p0_place i_p0_value i_p0_misshapen i_p0_faultFound i_p0_faultPlace f_p0_text) H → va_D A (ws_Rd_isWord cI cJ cB q_p0 q_p0_text q_p0_lines i_p0_size i_p0_behind i_p0_token i_p0_place i_p0_value i_p0_misshapen i_p0_faultFound i_p0_faultPlace f_p0_text) → va_S A s.heap H locs → lv_has ls 3 [(0, .ref q_p0), (1, .ref (sa x1).1), (2, .int x2)] → W p l e rm_Rd_isWord s m args below meth c H locs 0 0 (MQ below (va_Qi (fun (r : Int32) (w : va_W) => r = res ∧ w = (ws_Rd_isWord cI cJ cB q_p0 q_p0_text q_p0_lines i_p0_size i_p0_behind i_p0_token i_p0_place i_p0_value i_p0_misshapen i_p0_faultFound i_p0_faultPlace f_p0_text)) (vz_B D A) A) args s 0 0 A) (F0 m 28 ls []) := by
  obtain ⟨hx, hb, hr, hml, hown, ht, hlocks, hin, hN, hK, hA, hZ⟩ := id C0
  intro nn
  induction nn with
  | zero =>
    intro x1 x2 H locs ls hm hP hD hS hl
    rw [B_Rd_isWord_28] at hm
    cases hm
  | succ nn ih =>
    intro x1 x2 H locs ls hm hP hD hS hl
    rw [B_Rd_isWord_28] at hm
    refine lv_iload_n hx hb d_Rd_isWord_28 rfl (lv_at hl 2 rfl) ?_
    refine lv_aload_n hx hb d_Rd_isWord_29 rfl (lv_at hl 1 rfl) ?_
    obtain ⟨hg, hm⟩ := vz_guard hm
    refine vz_callXi (n := 0) (As := []) (rest := [.int x2]) (wc := []) (wr := (ws_Rd_isWord cI cJ cB q_p0 q_p0_text q_p0_lines i_p0_size i_p0_behind i_p0_token i_p0_place i_p0_value i_p0_misshapen i_p0_faultFound i_p0_faultPlace f_p0_text)) (k1 := 0) (n1 := 0) hx hb hml hown ht hN hZ hK hP hD hS hA (k_Str_length l D cI cJ cB sa x1 hg) m_354 m_335 m_355 m_356 m_357 (vz_recvS hZ hg hS) (by decide +kernel) ⟨Nat.le_of_ble_eq_true rfl, Nat.le_of_ble_eq_true rfl⟩ [] [0, 1] rfl rfl (by decide) (by decide) (by decide) rfl hl.1 rfl (Nat.le_of_ble_eq_true rfl) rfl rfl ⟨Nat.zero_le _, Nat.zero_le _⟩ d_Rd_isWord_30 (fun r1 w1 H locs hw hP hD hS => ?_)
    obtain ⟨hr1, rfl⟩ := hw
    subst hr1
    have hP : va_P D classes (ws_Rd_isWord cI cJ cB q_p0 q_p0_text q_p0_lines i_p0_size i_p0_behind i_p0_token i_p0_place i_p0_value i_p0_misshapen i_p0_faultFound i_p0_faultPlace f_p0_text) H := hP.sub [0, 1] rfl
    have hD : va_D A (ws_Rd_isWord cI cJ cB q_p0 q_p0_text q_p0_lines i_p0_size i_p0_behind i_p0_token i_p0_place i_p0_value i_p0_misshapen i_p0_faultFound i_p0_faultPlace f_p0_text) := hD.sub [0, 1] (by decide) rfl
    refine lv_icmp_ge (tgt := 63) hx hb d_Rd_isWord_33 (by decide) (fun hc => ?_) (fun hc => ?_)
    · rw [if_pos hc] at hm
      refine lv_iconst (v := 1) hx hb d_Rd_isWord_63 (by decide) ?_
      obtain rfl := Option.some.inj hm
      exact vz_iret hx hb hr rfl hlocks hP hD hS (Nat.le_refl _) (Nat.le_refl _) d_Rd_isWord_64 ⟨rfl, rfl⟩
    · rw [if_neg hc] at hm
      refine lv_aload_n hx hb d_Rd_isWord_36 rfl (lv_at hl 0 rfl) ?_
      refine va_get (D := D) (ci := 2) (v := .ref q_p0_text) (C := R_Rd) (T := F_Rd) (N := 10) hx hb ht i_Rd hown hK hP 0 rfl rfl 0 (Nat.le_of_ble_eq_true rfl) (ht _ m_9) (fun _ h9 => h9) rfl d_Rd_isWord_37 ?_
      refine lv_aload_n hx hb d_Rd_isWord_40 rfl (lv_at hl 0 rfl) ?_
      refine va_get (D := D) (ci := 2) (v := .int i_p0_place) (C := R_Rd) (T := F_Rd) (N := 10) hx hb ht i_Rd hown hK hP 0 rfl rfl 5 (Nat.le_of_ble_eq_true rfl) (ht _ m_351) (fun _ h9 => h9) rfl d_Rd_isWord_41 ?_
      refine lv_iload_n hx hb d_Rd_isWord_44 rfl (lv_at hl 2 rfl) ?_
      refine lv_iadd hx hb d_Rd_isWord_45 ?_
      obtain ⟨hg, hm⟩ := vz_guard hm
      refine va_iald hx hb hK hP 1 0 rfl rfl hg d_Rd_isWord_46 ?_
      refine lv_aload_n hx hb d_Rd_isWord_47 rfl (lv_at hl 1 rfl) ?_
      refine lv_iload_n hx hb d_Rd_isWord_48 rfl (lv_at hl 2 rfl) ?_
      obtain ⟨hg, hm⟩ := vz_guard hm
      refine vz_callXi (n := 1) (As := [.int x2]) (rest := [.int (f_p0_text (Int32.toNatClampNeg (i_p0_place + x2)))]) (wc := []) (wr := (ws_Rd_isWord cI cJ cB q_p0 q_p0_text q_p0_lines i_p0_size i_p0_behind i_p0_token i_p0_place i_p0_value i_p0_misshapen i_p0_faultFound i_p0_faultPlace f_p0_text)) (k1 := 0) (n1 := 0) hx hb hml hown ht hN hZ hK hP hD hS hA (k_Str_charAt l D cI cJ cB sa x1 x2 hg.1 hg.2.1 hg.2.2) m_358 m_335 m_359 m_360 m_361 (vz_recvS hZ hg.1 hS) (by decide +kernel) ⟨Nat.le_of_ble_eq_true rfl, Nat.le_of_ble_eq_true rfl⟩ [] [0, 1] rfl rfl (by decide) (by decide) (by decide) rfl hl.1 rfl (Nat.le_of_ble_eq_true rfl) rfl rfl ⟨Nat.zero_le _, Nat.zero_le _⟩ d_Rd_isWord_49 (fun r1 w1 H locs hw hP hD hS => ?_)
      obtain ⟨hr1, rfl⟩ := hw
      subst hr1
      have hP : va_P D classes (ws_Rd_isWord cI cJ cB q_p0 q_p0_text q_p0_lines i_p0_size i_p0_behind i_p0_token i_p0_place i_p0_value i_p0_misshapen i_p0_faultFound i_p0_faultPlace f_p0_text) H := hP.sub [0, 1] rfl
      have hD : va_D A (ws_Rd_isWord cI cJ cB q_p0 q_p0_text q_p0_lines i_p0_size i_p0_behind i_p0_token i_p0_place i_p0_value i_p0_misshapen i_p0_faultFound i_p0_faultPlace f_p0_text) := hD.sub [0, 1] (by decide) rfl
      refine lv_icmp_eq (tgt := 57) hx hb d_Rd_isWord_52 (by decide) (fun hc => ?_) (fun hc => ?_)
      · rw [if_pos hc] at hm
        refine lv_iinc (v := (x2 + 1)) (lv' := [(2, .int (x2 + 1)), (0, .ref q_p0), (1, .ref (sa x1).1)]) hx hb d_Rd_isWord_57 hl (k := 2) rfl rfl (by decide) rfl (fun ls hl => ?_)
        refine lv_goto (tgt := 28) hx hb d_Rd_isWord_60 (by decide) ?_
        exact ih x1 (x2 + 1) _ _ _ hm hP hD hS (lv_sub hl [1, 2, 0] rfl)
      · rw [if_neg hc] at hm
        refine lv_iconst (v := 0) hx hb d_Rd_isWord_55 (by decide) ?_
        obtain rfl := Option.some.inj hm
        exact vz_iret hx hb hr rfl hlocks hP hD hS (Nat.le_refl _) (Nat.le_refl _) d_Rd_isWord_56 ⟨rfl, rfl⟩
set_option maxHeartbeats 4000000 in
set_option maxRecDepth 100000 in
theorem w_Rd_isWord_0 {p : Program} {l : Launch} {e : Env} {s : State} {m : MethodId} {args : Array Value} {below : List Frame} {meth : Method} {c : Code} {D : va_G} {cI cJ cB : ClassId} {sa : Nat → Nat × Nat} {A : Nat → Prop} (fl : Nat) (q_p0 : Nat) (q_p0_text : Nat) (q_p0_lines : Nat) (i_p0_behind : Int32) (i_p0_token : Int32) (i_p0_place : Int32) (f_p0_text : Nat → Int32) (i_p0_size : Int32) (i_p0_value : Int64) (i_p0_misshapen : Int32) (i_p0_faultFound : Int32) (i_p0_faultPlace : Int32) (res : Int32) (C0 : vz_Cx p s m meth c b_Rd_isWord 3 (some .boolean) "LinkEngine$Reader" "isWord" D [(cI, .int), (cJ, .long), (cB, .byte)] sa A args) : ∀ (x1 : Nat) (H : Heap) (locs : List Loc) (ls : Array Slot), B_Rd_isWord_0 fl i_p0_behind i_p0_token i_p0_place f_p0_text x1 = some res → va_P D classes (ws_Rd_isWord cI cJ cB q_p0 q_p0_text q_p0_lines i_p0_size i_p0_behind i_p0_token i_p0_place i_p0_value i_p0_misshapen i_p0_faultFound i_p0_faultPlace f_p0_text) H → va_D A (ws_Rd_isWord cI cJ cB q_p0 q_p0_text q_p0_lines i_p0_size i_p0_behind i_p0_token i_p0_place i_p0_value i_p0_misshapen i_p0_faultFound i_p0_faultPlace f_p0_text) → va_S A s.heap H locs → lv_has ls 3 [(0, .ref q_p0), (1, .ref (sa x1).1)] → W p l e rm_Rd_isWord s m args below meth c H locs 0 0 (MQ below (va_Qi (fun (r : Int32) (w : va_W) => r = res ∧ w = (ws_Rd_isWord cI cJ cB q_p0 q_p0_text q_p0_lines i_p0_size i_p0_behind i_p0_token i_p0_place i_p0_value i_p0_misshapen i_p0_faultFound i_p0_faultPlace f_p0_text)) (vz_B D A) A) args s 0 0 A) (F0 m 0 ls []) := by
  obtain ⟨hx, hb, hr, hml, hown, ht, hlocks, hin, hN, hK, hA, hZ⟩ := id C0
  intro x1 H locs ls hm hP hD hS hl
  unfold B_Rd_isWord_0 at hm
  refine lv_aload_n hx hb d_Rd_isWord_0 rfl (lv_at hl 0 rfl) ?_
  refine va_get (D := D) (ci := 2) (v := .int i_p0_token) (C := R_Rd) (T := F_Rd) (N := 10) hx hb ht i_Rd hown hK hP 0 rfl rfl 4 (Nat.le_of_ble_eq_true rfl) (ht _ m_362) (fun _ h9 => h9) rfl d_Rd_isWord_1 ?_
  refine lv_iconst (v := 2) hx hb d_Rd_isWord_4 (by decide) ?_
  refine lv_icmp_ne (tgt := 24) hx hb d_Rd_isWord_5 (by decide) (fun hc => ?_) (fun hc => ?_)
  · rw [if_pos hc] at hm
    refine lv_iconst (v := 0) hx hb d_Rd_isWord_24 (by decide) ?_
    obtain rfl := Option.some.inj hm
    exact vz_iret hx hb hr rfl hlocks hP hD hS (Nat.le_refl _) (Nat.le_refl _) d_Rd_isWord_25 ⟨rfl, rfl⟩
  · rw [if_neg (fun q => q hc)] at hm
    refine lv_aload_n hx hb d_Rd_isWord_8 rfl (lv_at hl 0 rfl) ?_
    refine va_get (D := D) (ci := 2) (v := .int i_p0_behind) (C := R_Rd) (T := F_Rd) (N := 10) hx hb ht i_Rd hown hK hP 0 rfl rfl 3 (Nat.le_of_ble_eq_true rfl) (ht _ m_177) (fun _ h9 => h9) rfl d_Rd_isWord_9 ?_
    refine lv_aload_n hx hb d_Rd_isWord_12 rfl (lv_at hl 0 rfl) ?_
    refine va_get (D := D) (ci := 2) (v := .int i_p0_place) (C := R_Rd) (T := F_Rd) (N := 10) hx hb ht i_Rd hown hK hP 0 rfl rfl 5 (Nat.le_of_ble_eq_true rfl) (ht _ m_351) (fun _ h9 => h9) rfl d_Rd_isWord_13 ?_
    refine lv_isub hx hb d_Rd_isWord_16 ?_
    refine lv_aload_n hx hb d_Rd_isWord_17 rfl (lv_at hl 1 rfl) ?_
    obtain ⟨hg, hm⟩ := vz_guard hm
    refine vz_callXi (n := 0) (As := []) (rest := [.int (i_p0_behind - i_p0_place)]) (wc := []) (wr := (ws_Rd_isWord cI cJ cB q_p0 q_p0_text q_p0_lines i_p0_size i_p0_behind i_p0_token i_p0_place i_p0_value i_p0_misshapen i_p0_faultFound i_p0_faultPlace f_p0_text)) (k1 := 0) (n1 := 0) hx hb hml hown ht hN hZ hK hP hD hS hA (k_Str_length l D cI cJ cB sa x1 hg) m_354 m_335 m_355 m_356 m_357 (vz_recvS hZ hg hS) (by decide +kernel) ⟨Nat.le_of_ble_eq_true rfl, Nat.le_of_ble_eq_true rfl⟩ [] [0, 1] rfl rfl (by decide) (by decide) (by decide) rfl hl.1 rfl (Nat.le_of_ble_eq_true rfl) rfl rfl ⟨Nat.zero_le _, Nat.zero_le _⟩ d_Rd_isWord_18 (fun r1 w1 H locs hw hP hD hS => ?_)
    obtain ⟨hr1, rfl⟩ := hw
    subst hr1
    have hP : va_P D classes (ws_Rd_isWord cI cJ cB q_p0 q_p0_text q_p0_lines i_p0_size i_p0_behind i_p0_token i_p0_place i_p0_value i_p0_misshapen i_p0_faultFound i_p0_faultPlace f_p0_text) H := hP.sub [0, 1] rfl
    have hD : va_D A (ws_Rd_isWord cI cJ cB q_p0 q_p0_text q_p0_lines i_p0_size i_p0_behind i_p0_token i_p0_place i_p0_value i_p0_misshapen i_p0_faultFound i_p0_faultPlace f_p0_text) := hD.sub [0, 1] (by decide) rfl
    refine lv_icmp_eq (tgt := 26) hx hb d_Rd_isWord_21 (by decide) (fun hc => ?_) (fun hc => ?_)
    · rw [if_pos hc] at hm
      refine lv_iconst (v := 0) hx hb d_Rd_isWord_26 (by decide) ?_
      refine lv_istore_n (lv' := [(2, .int 0), (0, .ref q_p0), (1, .ref (sa x1).1)]) hx hb d_Rd_isWord_27 rfl hl (by decide) rfl (fun ls hl => ?_)
      exact w_Rd_isWord_28 fl q_p0 q_p0_text q_p0_lines i_p0_behind i_p0_token i_p0_place f_p0_text i_p0_size i_p0_value i_p0_misshapen i_p0_faultFound i_p0_faultPlace res C0 fl x1 0 _ _ _ hm hP hD hS (lv_sub hl [1, 2, 0] rfl)
    · rw [if_neg hc] at hm
      refine lv_iconst (v := 0) hx hb d_Rd_isWord_24 (by decide) ?_
      obtain rfl := Option.some.inj hm
      exact vz_iret hx hb hr rfl hlocks hP hD hS (Nat.le_refl _) (Nat.le_refl _) d_Rd_isWord_25 ⟨rfl, rfl⟩
set_option maxHeartbeats 4000000 in
set_option maxRecDepth 100000 in
theorem k_Rd_isWord (l : Launch) (D : va_G) (cI cJ cB : ClassId) (sa : Nat → Nat × Nat) (fl : Nat) (q_p0 : Nat) (q_p0_text : Nat) (q_p0_lines : Nat) (i_p0_behind : Int32) (i_p0_token : Int32) (i_p0_place : Int32) (f_p0_text : Nat → Int32) (i_p0_size : Int32) (i_p0_value : Int64) (i_p0_misshapen : Int32) (i_p0_faultFound : Int32) (i_p0_faultPlace : Int32) (x1 : Nat) (res : Int32) (hm : m_Rd_isWord fl i_p0_behind i_p0_token i_p0_place f_p0_text x1 = some res) : MtI l y_Rd_isWord (.code y_Rd_isWord b_Rd_isWord 3 (some .boolean) :: CW) rm_Rd_isWord D [(cI, .int), (cJ, .long), (cB, .byte)] sa [.ref q_p0, .ref (sa x1).1] (ws_Rd_isWord cI cJ cB q_p0 q_p0_text q_p0_lines i_p0_size i_p0_behind i_p0_token i_p0_place i_p0_value i_p0_misshapen i_p0_faultFound i_p0_faultPlace f_p0_text) (fun (r : Int32) (w : va_W) => r = res ∧ w = (ws_Rd_isWord cI cJ cB q_p0 q_p0_text q_p0_lines i_p0_size i_p0_behind i_p0_token i_p0_place i_p0_value i_p0_misshapen i_p0_faultFound i_p0_faultPlace f_p0_text)) := by
  intro sz
  refine vz_start (Qc := fun A => va_Qi (fun (r : Int32) (w : va_W) => r = res ∧ w = (ws_Rd_isWord cI cJ cB q_p0 q_p0_text q_p0_lines i_p0_size i_p0_behind i_p0_token i_p0_place i_p0_value i_p0_misshapen i_p0_faultFound i_p0_faultPlace f_p0_text)) (vz_B D A) A) (lv0 := [(0, .ref q_p0), (1, .ref (sa x1).1)]) (by decide +kernel) (Nat.le_of_ble_eq_true rfl) rfl ?_
  intro p e s m below meth c A ls C0 hl
  obtain ⟨hx, hb, hr, hml, hown, ht, hlocks, hin, hN, hK, hP, hD, hA, hS, hZ⟩ := C0
  exact w_Rd_isWord_0 fl q_p0 q_p0_text q_p0_lines i_p0_behind i_p0_token i_p0_place f_p0_text i_p0_size i_p0_value i_p0_misshapen i_p0_faultFound i_p0_faultPlace res ⟨hx, hb, hr, hml, hown, ht, hlocks, hin, hN, hK, hA, hZ⟩ x1 s.heap [] ls hm hP hD hS (lv_sub hl [0, 1] rfl)
def ws_Rd_refuse (cI cJ cB : ClassId) (q_p0 : Nat) (q_p0_text : Nat) (q_p0_lines : Nat) (i_p0_size : Int32) (i_p0_behind : Int32) (i_p0_token : Int32) (i_p0_place : Int32) (i_p0_value : Int64) (i_p0_misshapen : Int32) (i_p0_faultFound : Int32) (i_p0_faultPlace : Int32) : va_W := [(q_p0, .inr (2, [.ref q_p0_text, .ref q_p0_lines, .int i_p0_size, .int i_p0_behind, .int i_p0_token, .int i_p0_place, .long i_p0_value, .int i_p0_misshapen, .int i_p0_faultFound, .int i_p0_faultPlace]))]
def rm_Rd_refuse : Room := { frames := 0, cells := 0, slots := 0, locals := 0 }
def B_Rd_refuse_58 (fl : Nat) (i_p0_token : Int32) (i_p0_place : Int32) (i_p0_value : Int64) (i_p0_misshapen : Int32) (x1 : Int32) (i_p0_faultFound : Int32) (i_p0_faultPlace : Int32) : Option (Int32 × Int32 × Int32) := (some (0, x1, i_p0_faultPlace))
def B_Rd_refuse_50 (fl : Nat) (i_p0_token : Int32) (i_p0_place : Int32) (i_p0_value : Int64) (i_p0_misshapen : Int32) (x1 : Int32) (i_p0_faultFound : Int32) (i_p0_faultPlace : Int32) : Option (Int32 × Int32 × Int32) := (some (0, 2, i_p0_faultPlace))
def B_Rd_refuse_0 (fl : Nat) (i_p0_token : Int32) (i_p0_place : Int32) (i_p0_value : Int64) (i_p0_misshapen : Int32) (x1 : Int32) (i_p0_faultFound : Int32) (i_p0_faultPlace : Int32) : Option (Int32 × Int32 × Int32) := (if ¬ i_p0_token = (1 : Int32) then (if ¬ i_p0_token = (3 : Int32) then B_Rd_refuse_58 fl i_p0_token i_p0_place i_p0_value i_p0_misshapen x1 i_p0_faultFound i_p0_place else (if ¬ i_p0_misshapen = (0 : Int32) then B_Rd_refuse_50 fl i_p0_token i_p0_place i_p0_value i_p0_misshapen x1 i_p0_faultFound i_p0_place else (if (lg_cmp i_p0_value 9999) ≤ (0 : Int32) then B_Rd_refuse_58 fl i_p0_token i_p0_place i_p0_value i_p0_misshapen x1 i_p0_faultFound i_p0_place else B_Rd_refuse_50 fl i_p0_token i_p0_place i_p0_value i_p0_misshapen x1 i_p0_faultFound i_p0_place))) else (some (0, 1, i_p0_place)))
def m_Rd_refuse (fl : Nat) (i_p0_token : Int32) (i_p0_place : Int32) (i_p0_value : Int64) (i_p0_misshapen : Int32) (x1 : Int32) (i_p0_faultFound : Int32) (i_p0_faultPlace : Int32) : Option (Int32 × Int32 × Int32) := B_Rd_refuse_0 fl i_p0_token i_p0_place i_p0_value i_p0_misshapen x1 i_p0_faultFound i_p0_faultPlace
set_option maxHeartbeats 4000000 in
set_option maxRecDepth 100000 in
theorem w_Rd_refuse_58 {p : Program} {l : Launch} {e : Env} {s : State} {m : MethodId} {args : Array Value} {below : List Frame} {meth : Method} {c : Code} {D : va_G} {cI cJ cB : ClassId} {sa : Nat → Nat × Nat} {A : Nat → Prop} (fl : Nat) (q_p0 : Nat) (q_p0_text : Nat) (q_p0_lines : Nat) (i_p0_token : Int32) (i_p0_place : Int32) (i_p0_value : Int64) (i_p0_misshapen : Int32) (i_p0_size : Int32) (i_p0_behind : Int32) (res : Int32 × Int32 × Int32) (C0 : vz_Cx p s m meth c b_Rd_refuse 2 (some .boolean) "LinkEngine$Reader" "refuse" D [(cI, .int), (cJ, .long), (cB, .byte)] sa A args) : ∀ (x1 : Int32) (i_p0_faultFound : Int32) (i_p0_faultPlace : Int32) (H : Heap) (locs : List Loc) (ls : Array Slot), B_Rd_refuse_58 fl i_p0_token i_p0_place i_p0_value i_p0_misshapen x1 i_p0_faultFound i_p0_faultPlace = some res → va_P D classes (ws_Rd_refuse cI cJ cB q_p0 q_p0_text q_p0_lines i_p0_size i_p0_behind i_p0_token i_p0_place i_p0_value i_p0_misshapen i_p0_faultFound i_p0_faultPlace) H → va_D A (ws_Rd_refuse cI cJ cB q_p0 q_p0_text q_p0_lines i_p0_size i_p0_behind i_p0_token i_p0_place i_p0_value i_p0_misshapen i_p0_faultFound i_p0_faultPlace) → va_S A s.heap H locs → lv_has ls 2 [(0, .ref q_p0), (1, .int x1)] → W p l e rm_Rd_refuse s m args below meth c H locs 0 0 (MQ below (va_Qi (fun (r : Int32) (w : va_W) => r = res.1 ∧ w = (ws_Rd_refuse cI cJ cB q_p0 q_p0_text q_p0_lines i_p0_size i_p0_behind i_p0_token i_p0_place i_p0_value i_p0_misshapen res.2.1 res.2.2)) (vz_B D A) A) args s 0 0 A) (F0 m 58 ls []) := by
  obtain ⟨hx, hb, hr, hml, hown, ht, hlocks, hin, hN, hK, hA, hZ⟩ := id C0
  intro x1 i_p0_faultFound i_p0_faultPlace H locs ls hm hP hD hS hl
  unfold B_Rd_refuse_58 at hm
  refine lv_aload_n hx hb d_Rd_refuse_58 rfl (lv_at hl 0 rfl) ?_
  refine lv_iload_n hx hb d_Rd_refuse_59 rfl (lv_at hl 1 rfl) ?_
  refine va_put (D := D) (ci := 2) (v := .int x1) (ty := .int) (C := R_Rd) (T := F_Rd) (N := 10) hx hb ht i_Rd t_Rd t_Rd_ok n_Rd hown hK hP hD hS 0 rfl rfl 8 (Nat.le_of_ble_eq_true rfl) (ht _ m_178) (fun _ h9 => h9) rfl (by decide +kernel) rfl rfl (Nat.le_of_ble_eq_true rfl) d_Rd_refuse_60 (fun H locs hP hD hS => ?_)
  have hP : va_P D classes (ws_Rd_refuse cI cJ cB q_p0 q_p0_text q_p0_lines i_p0_size i_p0_behind i_p0_token i_p0_place i_p0_value i_p0_misshapen x1 i_p0_faultPlace) H := hP
  have hD : va_D A (ws_Rd_refuse cI cJ cB q_p0 q_p0_text q_p0_lines i_p0_size i_p0_behind i_p0_token i_p0_place i_p0_value i_p0_misshapen x1 i_p0_faultPlace) := hD
  refine lv_iconst (v := 0) hx hb d_Rd_refuse_63 (by decide) ?_
  obtain rfl := Option.some.inj hm
  exact vz_iret hx hb hr rfl hlocks hP hD hS (Nat.le_refl _) (Nat.le_refl _) d_Rd_refuse_64 ⟨rfl, rfl⟩
set_option maxHeartbeats 4000000 in
set_option maxRecDepth 100000 in
theorem w_Rd_refuse_50 {p : Program} {l : Launch} {e : Env} {s : State} {m : MethodId} {args : Array Value} {below : List Frame} {meth : Method} {c : Code} {D : va_G} {cI cJ cB : ClassId} {sa : Nat → Nat × Nat} {A : Nat → Prop} (fl : Nat) (q_p0 : Nat) (q_p0_text : Nat) (q_p0_lines : Nat) (i_p0_token : Int32) (i_p0_place : Int32) (i_p0_value : Int64) (i_p0_misshapen : Int32) (i_p0_size : Int32) (i_p0_behind : Int32) (res : Int32 × Int32 × Int32) (C0 : vz_Cx p s m meth c b_Rd_refuse 2 (some .boolean) "LinkEngine$Reader" "refuse" D [(cI, .int), (cJ, .long), (cB, .byte)] sa A args) : ∀ (x1 : Int32) (i_p0_faultFound : Int32) (i_p0_faultPlace : Int32) (H : Heap) (locs : List Loc) (ls : Array Slot), B_Rd_refuse_50 fl i_p0_token i_p0_place i_p0_value i_p0_misshapen x1 i_p0_faultFound i_p0_faultPlace = some res → va_P D classes (ws_Rd_refuse cI cJ cB q_p0 q_p0_text q_p0_lines i_p0_size i_p0_behind i_p0_token i_p0_place i_p0_value i_p0_misshapen i_p0_faultFound i_p0_faultPlace) H → va_D A (ws_Rd_refuse cI cJ cB q_p0 q_p0_text q_p0_lines i_p0_size i_p0_behind i_p0_token i_p0_place i_p0_value i_p0_misshapen i_p0_faultFound i_p0_faultPlace) → va_S A s.heap H locs → lv_has ls 2 [(0, .ref q_p0), (1, .int x1)] → W p l e rm_Rd_refuse s m args below meth c H locs 0 0 (MQ below (va_Qi (fun (r : Int32) (w : va_W) => r = res.1 ∧ w = (ws_Rd_refuse cI cJ cB q_p0 q_p0_text q_p0_lines i_p0_size i_p0_behind i_p0_token i_p0_place i_p0_value i_p0_misshapen res.2.1 res.2.2)) (vz_B D A) A) args s 0 0 A) (F0 m 50 ls []) := by
  obtain ⟨hx, hb, hr, hml, hown, ht, hlocks, hin, hN, hK, hA, hZ⟩ := id C0
  intro x1 i_p0_faultFound i_p0_faultPlace H locs ls hm hP hD hS hl
  unfold B_Rd_refuse_50 at hm
  refine lv_aload_n hx hb d_Rd_refuse_50 rfl (lv_at hl 0 rfl) ?_
  refine lv_iconst (v := 2) hx hb d_Rd_refuse_51 (by decide) ?_
  refine va_put (D := D) (ci := 2) (v := .int 2) (ty := .int) (C := R_Rd) (T := F_Rd) (N := 10) hx hb ht i_Rd t_Rd t_Rd_ok n_Rd hown hK hP hD hS 0 rfl rfl 8 (Nat.le_of_ble_eq_true rfl) (ht _ m_178) (fun _ h9 => h9) rfl (by decide +kernel) rfl rfl (Nat.le_of_ble_eq_true rfl) d_Rd_refuse_52 (fun H locs hP hD hS => ?_)
  have hP : va_P D classes (ws_Rd_refuse cI cJ cB q_p0 q_p0_text q_p0_lines i_p0_size i_p0_behind i_p0_token i_p0_place i_p0_value i_p0_misshapen 2 i_p0_faultPlace) H := hP
  have hD : va_D A (ws_Rd_refuse cI cJ cB q_p0 q_p0_text q_p0_lines i_p0_size i_p0_behind i_p0_token i_p0_place i_p0_value i_p0_misshapen 2 i_p0_faultPlace) := hD
  refine lv_goto (tgt := 63) hx hb d_Rd_refuse_55 (by decide) ?_
  refine lv_iconst (v := 0) hx hb d_Rd_refuse_63 (by decide) ?_
  obtain rfl := Option.some.inj hm
  exact vz_iret hx hb hr rfl hlocks hP hD hS (Nat.le_refl _) (Nat.le_refl _) d_Rd_refuse_64 ⟨rfl, rfl⟩
set_option maxHeartbeats 4000000 in
set_option maxRecDepth 100000 in
theorem w_Rd_refuse_0 {p : Program} {l : Launch} {e : Env} {s : State} {m : MethodId} {args : Array Value} {below : List Frame} {meth : Method} {c : Code} {D : va_G} {cI cJ cB : ClassId} {sa : Nat → Nat × Nat} {A : Nat → Prop} (fl : Nat) (q_p0 : Nat) (q_p0_text : Nat) (q_p0_lines : Nat) (i_p0_token : Int32) (i_p0_place : Int32) (i_p0_value : Int64) (i_p0_misshapen : Int32) (i_p0_size : Int32) (i_p0_behind : Int32) (res : Int32 × Int32 × Int32) (C0 : vz_Cx p s m meth c b_Rd_refuse 2 (some .boolean) "LinkEngine$Reader" "refuse" D [(cI, .int), (cJ, .long), (cB, .byte)] sa A args) : ∀ (x1 : Int32) (i_p0_faultFound : Int32) (i_p0_faultPlace : Int32) (H : Heap) (locs : List Loc) (ls : Array Slot), B_Rd_refuse_0 fl i_p0_token i_p0_place i_p0_value i_p0_misshapen x1 i_p0_faultFound i_p0_faultPlace = some res → va_P D classes (ws_Rd_refuse cI cJ cB q_p0 q_p0_text q_p0_lines i_p0_size i_p0_behind i_p0_token i_p0_place i_p0_value i_p0_misshapen i_p0_faultFound i_p0_faultPlace) H → va_D A (ws_Rd_refuse cI cJ cB q_p0 q_p0_text q_p0_lines i_p0_size i_p0_behind i_p0_token i_p0_place i_p0_value i_p0_misshapen i_p0_faultFound i_p0_faultPlace) → va_S A s.heap H locs → lv_has ls 2 [(0, .ref q_p0), (1, .int x1)] → W p l e rm_Rd_refuse s m args below meth c H locs 0 0 (MQ below (va_Qi (fun (r : Int32) (w : va_W) => r = res.1 ∧ w = (ws_Rd_refuse cI cJ cB q_p0 q_p0_text q_p0_lines i_p0_size i_p0_behind i_p0_token i_p0_place i_p0_value i_p0_misshapen res.2.1 res.2.2)) (vz_B D A) A) args s 0 0 A) (F0 m 0 ls []) := by
  obtain ⟨hx, hb, hr, hml, hown, ht, hlocks, hin, hN, hK, hA, hZ⟩ := id C0
  intro x1 i_p0_faultFound i_p0_faultPlace H locs ls hm hP hD hS hl
  unfold B_Rd_refuse_0 at hm
  refine lv_aload_n hx hb d_Rd_refuse_0 rfl (lv_at hl 0 rfl) ?_
  refine lv_aload_n hx hb d_Rd_refuse_1 rfl (lv_at hl 0 rfl) ?_
  refine va_get (D := D) (ci := 2) (v := .int i_p0_place) (C := R_Rd) (T := F_Rd) (N := 10) hx hb ht i_Rd hown hK hP 0 rfl rfl 5 (Nat.le_of_ble_eq_true rfl) (ht _ m_351) (fun _ h9 => h9) rfl d_Rd_refuse_2 ?_
  refine va_put (D := D) (ci := 2) (v := .int i_p0_place) (ty := .int) (C := R_Rd) (T := F_Rd) (N := 10) hx hb ht i_Rd t_Rd t_Rd_ok n_Rd hown hK hP hD hS 0 rfl rfl 9 (Nat.le_of_ble_eq_true rfl) (ht _ m_16) (fun _ h9 => h9) rfl (by decide +kernel) rfl rfl (Nat.le_of_ble_eq_true rfl) d_Rd_refuse_5 (fun H locs hP hD hS => ?_)
  have hP : va_P D classes (ws_Rd_refuse cI cJ cB q_p0 q_p0_text q_p0_lines i_p0_size i_p0_behind i_p0_token i_p0_place i_p0_value i_p0_misshapen i_p0_faultFound i_p0_place) H := hP
  have hD : va_D A (ws_Rd_refuse cI cJ cB q_p0 q_p0_text q_p0_lines i_p0_size i_p0_behind i_p0_token i_p0_place i_p0_value i_p0_misshapen i_p0_faultFound i_p0_place) := hD
  refine lv_aload_n hx hb d_Rd_refuse_8 rfl (lv_at hl 0 rfl) ?_
  refine va_get (D := D) (ci := 2) (v := .int i_p0_token) (C := R_Rd) (T := F_Rd) (N := 10) hx hb ht i_Rd hown hK hP 0 rfl rfl 4 (Nat.le_of_ble_eq_true rfl) (ht _ m_362) (fun _ h9 => h9) rfl d_Rd_refuse_9 ?_
  refine lv_iconst (v := 1) hx hb d_Rd_refuse_12 (by decide) ?_
  refine lv_icmp_ne (tgt := 24) hx hb d_Rd_refuse_13 (by decide) (fun hc => ?_) (fun hc => ?_)
  · rw [if_pos hc] at hm
    refine lv_aload_n hx hb d_Rd_refuse_24 rfl (lv_at hl 0 rfl) ?_
    refine va_get (D := D) (ci := 2) (v := .int i_p0_token) (C := R_Rd) (T := F_Rd) (N := 10) hx hb ht i_Rd hown hK hP 0 rfl rfl 4 (Nat.le_of_ble_eq_true rfl) (ht _ m_362) (fun _ h9 => h9) rfl d_Rd_refuse_25 ?_
    refine lv_iconst (v := 3) hx hb d_Rd_refuse_28 (by decide) ?_
    refine lv_icmp_ne (tgt := 58) hx hb d_Rd_refuse_29 (by decide) (fun hc => ?_) (fun hc => ?_)
    · rw [if_pos hc] at hm
      exact w_Rd_refuse_58 fl q_p0 q_p0_text q_p0_lines i_p0_token i_p0_place i_p0_value i_p0_misshapen i_p0_size i_p0_behind res C0 x1 i_p0_faultFound i_p0_place _ _ _ hm hP hD hS (lv_sub hl [0, 1] rfl)
    · rw [if_neg (fun q => q hc)] at hm
      refine lv_aload_n hx hb d_Rd_refuse_32 rfl (lv_at hl 0 rfl) ?_
      refine va_get (D := D) (ci := 2) (v := .int i_p0_misshapen) (C := R_Rd) (T := F_Rd) (N := 10) hx hb ht i_Rd hown hK hP 0 rfl rfl 7 (Nat.le_of_ble_eq_true rfl) (ht _ m_350) (fun _ h9 => h9) rfl d_Rd_refuse_33 ?_
      refine lv_if_ne (tgt := 50) hx hb d_Rd_refuse_36 (by decide) (fun hc => ?_) (fun hc => ?_)
      · rw [if_pos hc] at hm
        exact w_Rd_refuse_50 fl q_p0 q_p0_text q_p0_lines i_p0_token i_p0_place i_p0_value i_p0_misshapen i_p0_size i_p0_behind res C0 x1 i_p0_faultFound i_p0_place _ _ _ hm hP hD hS (lv_sub hl [0, 1] rfl)
      · rw [if_neg (fun q => q hc)] at hm
        refine lv_aload_n hx hb d_Rd_refuse_39 rfl (lv_at hl 0 rfl) ?_
        refine va_get (D := D) (ci := 2) (v := .long i_p0_value) (C := R_Rd) (T := F_Rd) (N := 10) hx hb ht i_Rd hown hK hP 0 rfl rfl 6 (Nat.le_of_ble_eq_true rfl) (ht _ m_353) (fun _ h9 => h9) rfl d_Rd_refuse_40 ?_
        refine lv_ldc2 hx hb hown (ht _ m_363) d_Rd_refuse_43 ?_
        refine W.lcmp hx hb d_Rd_refuse_46 ?_
        refine lv_if_le (tgt := 58) hx hb d_Rd_refuse_47 (by decide) (fun hc => ?_) (fun hc => ?_)
        · rw [if_pos hc] at hm
          exact w_Rd_refuse_58 fl q_p0 q_p0_text q_p0_lines i_p0_token i_p0_place i_p0_value i_p0_misshapen i_p0_size i_p0_behind res C0 x1 i_p0_faultFound i_p0_place _ _ _ hm hP hD hS (lv_sub hl [0, 1] rfl)
        · rw [if_neg hc] at hm
          exact w_Rd_refuse_50 fl q_p0 q_p0_text q_p0_lines i_p0_token i_p0_place i_p0_value i_p0_misshapen i_p0_size i_p0_behind res C0 x1 i_p0_faultFound i_p0_place _ _ _ hm hP hD hS (lv_sub hl [0, 1] rfl)
  · rw [if_neg (fun q => q hc)] at hm
    refine lv_aload_n hx hb d_Rd_refuse_16 rfl (lv_at hl 0 rfl) ?_
    refine lv_iconst (v := 1) hx hb d_Rd_refuse_17 (by decide) ?_
    refine va_put (D := D) (ci := 2) (v := .int 1) (ty := .int) (C := R_Rd) (T := F_Rd) (N := 10) hx hb ht i_Rd t_Rd t_Rd_ok n_Rd hown hK hP hD hS 0 rfl rfl 8 (Nat.le_of_ble_eq_true rfl) (ht _ m_178) (fun _ h9 => h9) rfl (by decide +kernel) rfl rfl (Nat.le_of_ble_eq_true rfl) d_Rd_refuse_18 (fun H locs hP hD hS => ?_)
    have hP : va_P D classes (ws_Rd_refuse cI cJ cB q_p0 q_p0_text q_p0_lines i_p0_size i_p0_behind i_p0_token i_p0_place i_p0_value i_p0_misshapen 1 i_p0_place) H := hP
    have hD : va_D A (ws_Rd_refuse cI cJ cB q_p0 q_p0_text q_p0_lines i_p0_size i_p0_behind i_p0_token i_p0_place i_p0_value i_p0_misshapen 1 i_p0_place) := hD
    refine lv_goto (tgt := 63) hx hb d_Rd_refuse_21 (by decide) ?_
    refine lv_iconst (v := 0) hx hb d_Rd_refuse_63 (by decide) ?_
    obtain rfl := Option.some.inj hm
    exact vz_iret hx hb hr rfl hlocks hP hD hS (Nat.le_refl _) (Nat.le_refl _) d_Rd_refuse_64 ⟨rfl, rfl⟩
set_option maxHeartbeats 4000000 in
set_option maxRecDepth 100000 in
theorem k_Rd_refuse (l : Launch) (D : va_G) (cI cJ cB : ClassId) (sa : Nat → Nat × Nat) (fl : Nat) (q_p0 : Nat) (q_p0_text : Nat) (q_p0_lines : Nat) (i_p0_token : Int32) (i_p0_place : Int32) (i_p0_value : Int64) (i_p0_misshapen : Int32) (i_p0_size : Int32) (i_p0_behind : Int32) (i_p0_faultFound : Int32) (i_p0_faultPlace : Int32) (x1 : Int32) (res : Int32 × Int32 × Int32) (hm : m_Rd_refuse fl i_p0_token i_p0_place i_p0_value i_p0_misshapen x1 i_p0_faultFound i_p0_faultPlace = some res) : MtI l y_Rd_refuse (.code y_Rd_refuse b_Rd_refuse 2 (some .boolean) :: CW) rm_Rd_refuse D [(cI, .int), (cJ, .long), (cB, .byte)] sa [.ref q_p0, .int x1] (ws_Rd_refuse cI cJ cB q_p0 q_p0_text q_p0_lines i_p0_size i_p0_behind i_p0_token i_p0_place i_p0_value i_p0_misshapen i_p0_faultFound i_p0_faultPlace) (fun (r : Int32) (w : va_W) => r = res.1 ∧ w = (ws_Rd_refuse cI cJ cB q_p0 q_p0_text q_p0_lines i_p0_size i_p0_behind i_p0_token i_p0_place i_p0_value i_p0_misshapen res.2.1 res.2.2)) := by
  intro sz
  refine vz_start (Qc := fun A => va_Qi (fun (r : Int32) (w : va_W) => r = res.1 ∧ w = (ws_Rd_refuse cI cJ cB q_p0 q_p0_text q_p0_lines i_p0_size i_p0_behind i_p0_token i_p0_place i_p0_value i_p0_misshapen res.2.1 res.2.2)) (vz_B D A) A) (lv0 := [(0, .ref q_p0), (1, .int x1)]) (by decide +kernel) (Nat.le_of_ble_eq_true rfl) rfl ?_
  intro p e s m below meth c A ls C0 hl
  obtain ⟨hx, hb, hr, hml, hown, ht, hlocks, hin, hN, hK, hP, hD, hA, hS, hZ⟩ := C0
  exact w_Rd_refuse_0 fl q_p0 q_p0_text q_p0_lines i_p0_token i_p0_place i_p0_value i_p0_misshapen i_p0_size i_p0_behind res ⟨hx, hb, hr, hml, hown, ht, hlocks, hin, hN, hK, hA, hZ⟩ x1 i_p0_faultFound i_p0_faultPlace s.heap [] ls hm hP hD hS (lv_sub hl [0, 1] rfl)
def ws_Li_isFull (cI cJ cB : ClassId) (q_p0 : Nat) (q_p0_kind : Nat) (q_p0_start : Nat) (q_p0_value : Nat) (i_p0_count : Int32) (i_p0_done : Int32) : va_W := [(q_p0, .inr (1, [.ref q_p0_kind, .ref q_p0_start, .ref q_p0_value, .int i_p0_count, .int i_p0_done]))]
def rm_Li_isFull : Room := { frames := 0, cells := 0, slots := 0, locals := 0 }
def B_Li_isFull_0 (fl : Nat) (i_p0_count : Int32) : Option (Int32) := (if i_p0_count < (64 : Int32) then (some 0) else (some 1))
def m_Li_isFull (fl : Nat) (i_p0_count : Int32) : Option (Int32) := B_Li_isFull_0 fl i_p0_count
set_option maxHeartbeats 4000000 in
set_option maxRecDepth 100000 in
theorem w_Li_isFull_0 {p : Program} {l : Launch} {e : Env} {s : State} {m : MethodId} {args : Array Value} {below : List Frame} {meth : Method} {c : Code} {D : va_G} {cI cJ cB : ClassId} {sa : Nat → Nat × Nat} {A : Nat → Prop} (fl : Nat) (q_p0 : Nat) (q_p0_kind : Nat) (q_p0_start : Nat) (q_p0_value : Nat) (i_p0_count : Int32) (i_p0_done : Int32) (res : Int32) (C0 : vz_Cx p s m meth c b_Li_isFull 1 (some .boolean) "LinkEngine$Lines" "isFull" D [(cI, .int), (cJ, .long), (cB, .byte)] sa A args) : ∀ (H : Heap) (locs : List Loc) (ls : Array Slot), B_Li_isFull_0 fl i_p0_count = some res → va_P D classes (ws_Li_isFull cI cJ cB q_p0 q_p0_kind q_p0_start q_p0_value i_p0_count i_p0_done) H → va_D A (ws_Li_isFull cI cJ cB q_p0 q_p0_kind q_p0_start q_p0_value i_p0_count i_p0_done) → va_S A s.heap H locs → lv_has ls 1 [(0, .ref q_p0)] → W p l e rm_Li_isFull s m args below meth c H locs 0 0 (MQ below (va_Qi (fun (r : Int32) (w : va_W) => r = res ∧ w = (ws_Li_isFull cI cJ cB q_p0 q_p0_kind q_p0_start q_p0_value i_p0_count i_p0_done)) (vz_B D A) A) args s 0 0 A) (F0 m 0 ls []) := by
  obtain ⟨hx, hb, hr, hml, hown, ht, hlocks, hin, hN, hK, hA, hZ⟩ := id C0
  intro H locs ls hm hP hD hS hl
  unfold B_Li_isFull_0 at hm
  refine lv_aload_n hx hb d_Li_isFull_0 rfl (lv_at hl 0 rfl) ?_
  refine va_get (D := D) (ci := 1) (v := .int i_p0_count) (C := R_Li) (T := F_Li) (N := 5) hx hb ht i_Li hown hK hP 0 rfl rfl 3 (Nat.le_of_ble_eq_true rfl) (ht _ m_174) (fun _ h9 => h9) rfl d_Li_isFull_1 ?_
  refine lv_bipush (v := 64) hx hb d_Li_isFull_4 (by decide +kernel) ?_
  refine lv_icmp_lt (tgt := 13) hx hb d_Li_isFull_6 (by decide) (fun hc => ?_) (fun hc => ?_)
  · rw [if_pos hc] at hm
    refine lv_iconst (v := 0) hx hb d_Li_isFull_13 (by decide) ?_
    obtain rfl := Option.some.inj hm
    exact vz_iret hx hb hr rfl hlocks hP hD hS (Nat.le_refl _) (Nat.le_refl _) d_Li_isFull_14 ⟨rfl, rfl⟩
  · rw [if_neg hc] at hm
    refine lv_iconst (v := 1) hx hb d_Li_isFull_9 (by decide) ?_
    refine lv_goto (tgt := 14) hx hb d_Li_isFull_10 (by decide) ?_
    obtain rfl := Option.some.inj hm
    exact vz_iret hx hb hr rfl hlocks hP hD hS (Nat.le_refl _) (Nat.le_refl _) d_Li_isFull_14 ⟨rfl, rfl⟩
set_option maxHeartbeats 4000000 in
set_option maxRecDepth 100000 in
theorem k_Li_isFull (l : Launch) (D : va_G) (cI cJ cB : ClassId) (sa : Nat → Nat × Nat) (fl : Nat) (q_p0 : Nat) (q_p0_kind : Nat) (q_p0_start : Nat) (q_p0_value : Nat) (i_p0_count : Int32) (i_p0_done : Int32)  (res : Int32) (hm : m_Li_isFull fl i_p0_count = some res) : MtI l y_Li_isFull (.code y_Li_isFull b_Li_isFull 1 (some .boolean) :: CW) rm_Li_isFull D [(cI, .int), (cJ, .long), (cB, .byte)] sa [.ref q_p0] (ws_Li_isFull cI cJ cB q_p0 q_p0_kind q_p0_start q_p0_value i_p0_count i_p0_done) (fun (r : Int32) (w : va_W) => r = res ∧ w = (ws_Li_isFull cI cJ cB q_p0 q_p0_kind q_p0_start q_p0_value i_p0_count i_p0_done)) := by
  intro sz
  refine vz_start (Qc := fun A => va_Qi (fun (r : Int32) (w : va_W) => r = res ∧ w = (ws_Li_isFull cI cJ cB q_p0 q_p0_kind q_p0_start q_p0_value i_p0_count i_p0_done)) (vz_B D A) A) (lv0 := [(0, .ref q_p0)]) (by decide +kernel) (Nat.le_of_ble_eq_true rfl) rfl ?_
  intro p e s m below meth c A ls C0 hl
  obtain ⟨hx, hb, hr, hml, hown, ht, hlocks, hin, hN, hK, hP, hD, hA, hS, hZ⟩ := C0
  exact w_Li_isFull_0 fl q_p0 q_p0_kind q_p0_start q_p0_value i_p0_count i_p0_done res ⟨hx, hb, hr, hml, hown, ht, hlocks, hin, hN, hK, hA, hZ⟩  s.heap [] ls hm hP hD hS (lv_sub hl [0] rfl)
