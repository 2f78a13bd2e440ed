def ws_Rd_isMark (cI cJ cB : ClassId) (q_p0 : Nat) (q_p0_text : Nat) (q_p0_lines : Nat) (i_p0_size : Int32) (i_p0_behind : Int32) (i_p0_token : Int32) (i_p0_place : Int32) (i_p0_value : Int64) (i_p0_misshapen : Int32) (i_p0_faultFound : Int32) (i_p0_faultPlace : Int32) : va_W := [(q_p0, .inr (2, [.ref q_p0_text, .ref q_p0_lines, .int i_p0_size, .int i_p0_behind, .int i_p0_token, .int i_p0_place, .long i_p0_value, .int i_p0_misshapen, .int i_p0_faultFound, .int i_p0_faultPlace]))]
def rm_Rd_isMark : Room := { frames := 0, cells := 0, slots := 0, locals := 0 }
def B_Rd_isMark_0 (fl : Nat) (i_p0_token : Int32) (i_p0_value : Int64) (x1 : Int32) : Option (Int32) := (if ¬ i_p0_token = (4 : Int32) then (some 0) else (if ¬ (lg_cmp i_p0_value (Int32.toInt64 x1)) = (0 : Int32) then (some 0) else (some 1)))
def m_Rd_isMark (fl : Nat) (i_p0_token : Int32) (i_p0_value : Int64) (x1 : Int32) : Option (Int32) := B_Rd_isMark_0 fl i_p0_token i_p0_value x1
set_option maxHeartbeats 4000000 in
set_option maxRecDepth 100000 in
theorem w_Rd_isMark_0 {p : Program} {l : Launch} {e : Env} {s : State} {m : MethodId} {args : Array Value} {below : List Frame} {meth : Method} {c : Code} {D : va_G} {cI cJ cB : ClassId} {A : Nat → Prop} (fl : Nat) (q_p0 : Nat) (q_p0_text : Nat) (q_p0_lines : Nat) (i_p0_token : Int32) (i_p0_value : Int64) (i_p0_size : Int32) (i_p0_behind : Int32) (i_p0_place : Int32) (i_p0_misshapen : Int32) (i_p0_faultFound : Int32) (i_p0_faultPlace : Int32) (res : Int32) (C0 : vz_Cx p s m meth c b_Rd_isMark 2 (some .boolean) "LinkEngine$Reader" "isMark" D [(cI, .int), (cJ, .long), (cB, .byte)] A args) : ∀ (x1 : Int32) (H : Heap) (locs : List Loc) (ls : Array Slot), B_Rd_isMark_0 fl i_p0_token i_p0_value x1 = some res → va_P D classes (ws_Rd_isMark cI cJ cB q_p0 q_p0_text q_p0_lines i_p0_size i_p0_behind i_p0_token i_p0_place i_p0_value i_p0_misshapen i_p0_faultFound i_p0_faultPlace) H → va_D A (ws_Rd_isMark cI cJ cB q_p0 q_p0_text q_p0_lines i_p0_size i_p0_behind i_p0_token i_p0_place i_p0_value i_p0_misshapen i_p0_faultFound i_p0_faultPlace) → va_S A s.heap H locs → lv_has ls 2 [(0, .ref q_p0), (1, .int x1)] → W p l e rm_Rd_isMark s m args below meth c H locs 0 0 (MQ below (va_Qi (fun (r : Int32) (w : va_W) => r = res ∧ w = (ws_Rd_isMark cI cJ cB q_p0 q_p0_text q_p0_lines i_p0_size i_p0_behind i_p0_token i_p0_place i_p0_value i_p0_misshapen i_p0_faultFound i_p0_faultPlace)) (vz_B D A) A) args s 0 0 A) (F0 m 0 ls []) := by
  obtain ⟨hx, hb, hr, hml, hown, ht, hlocks, hin, hN, hK, hA⟩ := id C0
  intro x1 H locs ls hm hP hD hS hl
  unfold B_Rd_isMark_0 at hm
  refine lv_aload_n hx hb d_Rd_isMark_0 rfl (lv_at hl 0 rfl) ?_
  refine va_get (D := D) (ci := 2) (v := .int i_p0_token) (C := R_Rd) (T := F_Rd) (N := 10) hx hb ht i_Rd hown hK hP 0 rfl rfl 4 (Nat.le_of_ble_eq_true rfl) (ht _ m_330) (fun _ h9 => h9) rfl d_Rd_isMark_1 ?_
  refine lv_iconst (v := 4) hx hb d_Rd_isMark_4 (by decide) ?_
  refine lv_icmp_ne (tgt := 22) hx hb d_Rd_isMark_5 (by decide) (fun hc => ?_) (fun hc => ?_)
  · rw [if_pos hc] at hm
    refine lv_iconst (v := 0) hx hb d_Rd_isMark_22 (by decide) ?_
    obtain rfl := Option.some.inj hm
    exact vz_iret hx hb hr rfl hlocks hP hD hS (Nat.le_refl _) (Nat.le_refl _) d_Rd_isMark_23 ⟨rfl, rfl⟩
  · rw [if_neg (fun q => q hc)] at hm
    refine lv_aload_n hx hb d_Rd_isMark_8 rfl (lv_at hl 0 rfl) ?_
    refine va_get (D := D) (ci := 2) (v := .long i_p0_value) (C := R_Rd) (T := F_Rd) (N := 10) hx hb ht i_Rd hown hK hP 0 rfl rfl 6 (Nat.le_of_ble_eq_true rfl) (ht _ m_329) (fun _ h9 => h9) rfl d_Rd_isMark_9 ?_
    refine lv_iload_n hx hb d_Rd_isMark_12 rfl (lv_at hl 1 rfl) ?_
    refine lv_i2l hx hb d_Rd_isMark_13 rfl ?_
    refine W.lcmp hx hb d_Rd_isMark_14 ?_
    refine lv_if_ne (tgt := 22) hx hb d_Rd_isMark_15 (by decide) (fun hc => ?_) (fun hc => ?_)
    · rw [if_pos hc] at hm
      refine lv_iconst (v := 0) hx hb d_Rd_isMark_22 (by decide) ?_
      obtain rfl := Option.some.inj hm
      exact vz_iret hx hb hr rfl hlocks hP hD hS (Nat.le_refl _) (Nat.le_refl _) d_Rd_isMark_23 ⟨rfl, rfl⟩
    · rw [if_neg (fun q => q hc)] at hm
      refine lv_iconst (v := 1) hx hb d_Rd_isMark_18 (by decide) ?_
      refine lv_goto (tgt := 23) hx hb d_Rd_isMark_19 (by decide) ?_
      obtain rfl := Option.some.inj hm
      exact vz_iret hx hb hr rfl hlocks hP hD hS (Nat.le_refl _) (Nat.le_refl _) d_Rd_isMark_23 ⟨rfl, rfl⟩
set_option maxHeartbeats 4000000 in
set_option maxRecDepth 100000 in
theorem k_Rd_isMark (l : Launch) (D : va_G) (cI cJ cB : ClassId) (fl : Nat) (q_p0 : Nat) (q_p0_text : Nat) (q_p0_lines : Nat) (i_p0_token : Int32) (i_p0_value : Int64) (i_p0_size : Int32) (i_p0_behind : Int32) (i_p0_place : Int32) (i_p0_misshapen : Int32) (i_p0_faultFound : Int32) (i_p0_faultPlace : Int32) (x1 : Int32) (res : Int32) (hm : m_Rd_isMark fl i_p0_token i_p0_value x1 = some res) : MtI l y_Rd_isMark (.code y_Rd_isMark b_Rd_isMark 2 (some .boolean) :: CW) rm_Rd_isMark D [(cI, .int), (cJ, .long), (cB, .byte)] [.ref q_p0, .int x1] (ws_Rd_isMark cI cJ cB q_p0 q_p0_text q_p0_lines i_p0_size i_p0_behind i_p0_token i_p0_place i_p0_value i_p0_misshapen i_p0_faultFound i_p0_faultPlace) (fun (r : Int32) (w : va_W) => r = res ∧ w = (ws_Rd_isMark cI cJ cB q_p0 q_p0_text q_p0_lines i_p0_size i_p0_behind i_p0_token i_p0_place i_p0_value i_p0_misshapen i_p0_faultFound i_p0_faultPlace)) := by
  intro sz
  refine vz_start (Qc := fun A => va_Qi (fun (r : Int32) (w : va_W) => r = res ∧ w = (ws_Rd_isMark cI cJ cB q_p0 q_p0_text q_p0_lines i_p0_size i_p0_behind i_p0_token i_p0_place i_p0_value i_p0_misshapen i_p0_faultFound i_p0_faultPlace)) (vz_B D A) A) (lv0 := [(0, .ref q_p0), (1, .int x1)]) (by decide +kernel) (Nat.le_of_ble_eq_true rfl) rfl ?_
  intro p e s m below meth c A ls C0 hl
  obtain ⟨hx, hb, hr, hml, hown, ht, hlocks, hin, hN, hK, hP, hD, hA, hS⟩ := C0
  exact w_Rd_isMark_0 fl q_p0 q_p0_text q_p0_lines i_p0_token i_p0_value i_p0_size i_p0_behind i_p0_place i_p0_misshapen i_p0_faultFound i_p0_faultPlace res ⟨hx, hb, hr, hml, hown, ht, hlocks, hin, hN, hK, hA⟩ x1 s.heap [] ls hm hP hD hS (lv_sub hl [0, 1] rfl)
def ws_Li_add (cI cJ cB : ClassId) (q_p0 : Nat) (q_p0_kind : Nat) (q_p0_start : Nat) (q_p0_value : Nat) (i_p0_count : Int32) (i_p0_done : Int32) (f_p0_start : Nat → Int32) (f_p0_value : Nat → Int64) : va_W := [(q_p0, .inr (1, [.ref q_p0_kind, .ref q_p0_start, .ref q_p0_value, .int i_p0_count, .int i_p0_done])), (q_p0_start, .inl (cI, 65, .inl f_p0_start)), (q_p0_value, .inl (cJ, 4000, .inr (.inl f_p0_value)))]
def rm_Li_add : Room := { frames := 0, cells := 0, slots := 0, locals := 0 }
def B_Li_add_0 (fl : Nat) (i_p0_count : Int32) (x1 : Int64) (f_p0_start : Nat → Int32) (f_p0_value : Nat → Int64) : Option ((Nat → Int32) × (Nat → Int64)) := (if ¬ (i_p0_count < 0 ∨ 65 ≤ Int32.toNatClampNeg i_p0_count) then (if i_p0_count ≤ (0 : Int32) then (some (f_p0_start, f_p0_value)) else (if (4000 : Int32) ≤ (f_p0_start (Int32.toNatClampNeg i_p0_count)) then (some (f_p0_start, f_p0_value)) else (if ¬ ((f_p0_start (Int32.toNatClampNeg i_p0_count)) < 0 ∨ 4000 ≤ Int32.toNatClampNeg (f_p0_start (Int32.toNatClampNeg i_p0_count))) then (if ¬ (i_p0_count < 0 ∨ 65 ≤ Int32.toNatClampNeg i_p0_count) then (some ((upd f_p0_start (Int32.toNatClampNeg i_p0_count) ((f_p0_start (Int32.toNatClampNeg i_p0_count)) + (1 : Int32))), (vp_updL f_p0_value (Int32.toNatClampNeg (f_p0_start (Int32.toNatClampNeg i_p0_count))) x1))) else none) else none))) else none)
def m_Li_add (fl : Nat) (i_p0_count : Int32) (x1 : Int64) (f_p0_start : Nat → Int32) (f_p0_value : Nat → Int64) : Option ((Nat → Int32) × (Nat → Int64)) := B_Li_add_0 fl i_p0_count x1 f_p0_start f_p0_value
set_option maxHeartbeats 4000000 in
set_option maxRecDepth 100000 in
theorem w_Li_add_0 {p : Program} {l : Launch} {e : Env} {s : State} {m : MethodId} {args : Array Value} {below : List Frame} {meth : Method} {c : Code} {D : va_G} {cI cJ cB : ClassId} {A : Nat → Prop} (fl : Nat) (q_p0 : Nat) (q_p0_kind : Nat) (q_p0_start : Nat) (q_p0_value : Nat) (i_p0_count : Int32) (i_p0_done : Int32) (res : (Nat → Int32) × (Nat → Int64)) (C0 : vz_Cx p s m meth c b_Li_add 4 none "LinkEngine$Lines" "add" D [(cI, .int), (cJ, .long), (cB, .byte)] A args) : ∀ (x1 : Int64) (f_p0_start : Nat → Int32) (f_p0_value : Nat → Int64) (H : Heap) (locs : List Loc) (ls : Array Slot), B_Li_add_0 fl i_p0_count x1 f_p0_start f_p0_value = some res → va_P D classes (ws_Li_add cI cJ cB q_p0 q_p0_kind q_p0_start q_p0_value i_p0_count i_p0_done f_p0_start f_p0_value) H → va_D A (ws_Li_add cI cJ cB q_p0 q_p0_kind q_p0_start q_p0_value i_p0_count i_p0_done f_p0_start f_p0_value) → va_S A s.heap H locs → lv_has ls 4 [(0, .ref q_p0), (1, .long x1)] → W p l e rm_Li_add s m args below meth c H locs 0 0 (MQ below (va_Qv (fun (w : va_W) => w = (ws_Li_add cI cJ cB q_p0 q_p0_kind q_p0_start q_p0_value i_p0_count i_p0_done res.1 res.2)) (vz_B D A) A) args s 0 0 A) (F0 m 0 ls []) := by
  obtain ⟨hx, hb, hr, hml, hown, ht, hlocks, hin, hN, hK, hA⟩ := id C0
  intro x1 f_p0_start f_p0_value H locs ls hm hP hD hS hl
  unfold B_Li_add_0 at hm
  refine lv_aload_n hx hb d_Li_add_0 rfl (lv_at hl 0 rfl) ?_
  refine va_get (D := D) (ci := 1) (v := .ref q_p0_start) (C := R_Li) (T := F_Li) (N := 5) hx hb ht i_Li hown hK hP 0 rfl rfl 1 (Nat.le_of_ble_eq_true rfl) (ht _ m_5) (fun _ h9 => h9) rfl d_Li_add_1 ?_
  refine lv_aload_n hx hb d_Li_add_4 rfl (lv_at hl 0 rfl) ?_
  refine va_get (D := D) (ci := 1) (v := .int i_p0_count) (C := R_Li) (T := F_Li) (N := 5) hx hb ht i_Li hown hK hP 0 rfl rfl 3 (Nat.le_of_ble_eq_true rfl) (ht _ m_174) (fun _ h9 => h9) rfl d_Li_add_5 ?_
  obtain ⟨hg, hm⟩ := vz_guard hm
  refine va_iald hx hb hK hP 1 0 rfl rfl hg d_Li_add_8 ?_
  refine lv_istore_n (lv' := [(3, .int (f_p0_start (Int32.toNatClampNeg i_p0_count))), (0, .ref q_p0), (1, .long x1)]) hx hb d_Li_add_9 rfl hl (by decide) rfl (fun ls hl => ?_)
  refine lv_aload_n hx hb d_Li_add_10 rfl (lv_at hl 1 rfl) ?_
  refine va_get (D := D) (ci := 1) (v := .int i_p0_count) (C := R_Li) (T := F_Li) (N := 5) hx hb ht i_Li hown hK hP 0 rfl rfl 3 (Nat.le_of_ble_eq_true rfl) (ht _ m_174) (fun _ h9 => h9) rfl d_Li_add_11 ?_
  refine lv_if_le (tgt := 43) hx hb d_Li_add_14 (by decide) (fun hc => ?_) (fun hc => ?_)
  · rw [if_pos hc] at hm
    obtain rfl := Option.some.inj hm
    exact vz_vret hx hb hr hlocks hP hD hS (Nat.le_refl _) (Nat.le_refl _) d_Li_add_43 rfl
  · rw [if_neg hc] at hm
    refine lv_iload_n hx hb d_Li_add_17 rfl (lv_at hl 0 rfl) ?_
    refine lv_sipush (v := 4000) hx hb d_Li_add_18 (by decide +kernel) ?_
    refine lv_icmp_ge (tgt := 43) hx hb d_Li_add_21 (by decide) (fun hc => ?_) (fun hc => ?_)
    · rw [if_pos hc] at hm
      obtain rfl := Option.some.inj hm
      exact vz_vret hx hb hr hlocks hP hD hS (Nat.le_refl _) (Nat.le_refl _) d_Li_add_43 rfl
    · rw [if_neg hc] at hm
      refine lv_aload_n hx hb d_Li_add_24 rfl (lv_at hl 1 rfl) ?_
      refine va_get (D := D) (ci := 1) (v := .ref q_p0_value) (C := R_Li) (T := F_Li) (N := 5) hx hb ht i_Li hown hK hP 0 rfl rfl 2 (Nat.le_of_ble_eq_true rfl) (ht _ m_7) (fun _ h9 => h9) rfl d_Li_add_25 ?_
      refine lv_iload_n hx hb d_Li_add_28 rfl (lv_at hl 0 rfl) ?_
      refine lv_lload_n hx hb d_Li_add_29 rfl (lv_at hl 2 rfl) ?_
      obtain ⟨hg, hm⟩ := vz_guard hm
      refine va_last hx hb hK hP hD hS 2 1 rfl rfl hg d_Li_add_30 (fun H locs hP hD hS => ?_)
      have hP : va_P D classes (ws_Li_add cI cJ cB q_p0 q_p0_kind q_p0_start q_p0_value i_p0_count i_p0_done f_p0_start (vp_updL f_p0_value (Int32.toNatClampNeg (f_p0_start (Int32.toNatClampNeg i_p0_count))) x1)) H := hP
      have hD : va_D A (ws_Li_add cI cJ cB q_p0 q_p0_kind q_p0_start q_p0_value i_p0_count i_p0_done f_p0_start (vp_updL f_p0_value (Int32.toNatClampNeg (f_p0_start (Int32.toNatClampNeg i_p0_count))) x1)) := hD
      refine lv_aload_n hx hb d_Li_add_31 rfl (lv_at hl 1 rfl) ?_
      refine va_get (D := D) (ci := 1) (v := .ref q_p0_start) (C := R_Li) (T := F_Li) (N := 5) hx hb ht i_Li hown hK hP 0 rfl rfl 1 (Nat.le_of_ble_eq_true rfl) (ht _ m_5) (fun _ h9 => h9) rfl d_Li_add_32 ?_
      refine lv_aload_n hx hb d_Li_add_35 rfl (lv_at hl 1 rfl) ?_
      refine va_get (D := D) (ci := 1) (v := .int i_p0_count) (C := R_Li) (T := F_Li) (N := 5) hx hb ht i_Li hown hK hP 0 rfl rfl 3 (Nat.le_of_ble_eq_true rfl) (ht _ m_174) (fun _ h9 => h9) rfl d_Li_add_36 ?_
      refine lv_iload_n hx hb d_Li_add_39 rfl (lv_at hl 0 rfl) ?_
      refine lv_iconst (v := 1) hx hb d_Li_add_40 (by decide) ?_
      refine lv_iadd hx hb d_Li_add_41 ?_
      obtain ⟨hg, hm⟩ := vz_guard hm
      refine va_iast hx hb hK hP hD hS 1 0 rfl rfl hg d_Li_add_42 (fun H locs hP hD hS => ?_)
      have hP : va_P D classes (ws_Li_add cI cJ cB q_p0 q_p0_kind q_p0_start q_p0_value i_p0_count i_p0_done (upd f_p0_start (Int32.toNatClampNeg i_p0_count) ((f_p0_start (Int32.toNatClampNeg i_p0_count)) + (1 : Int32))) (vp_updL f_p0_value (Int32.toNatClampNeg (f_p0_start (Int32.toNatClampNeg i_p0_count))) x1)) H := hP
      have hD : va_D A (ws_Li_add cI cJ cB q_p0 q_p0_kind q_p0_start q_p0_value i_p0_count i_p0_done (upd f_p0_start (Int32.toNatClampNeg i_p0_count) ((f_p0_start (Int32.toNatClampNeg i_p0_count)) + (1 : Int32))) (vp_updL f_p0_value (Int32.toNatClampNeg (f_p0_start (Int32.toNatClampNeg i_p0_count))) x1)) := hD
      obtain rfl := Option.some.inj hm
      exact vz_vret hx hb hr hlocks hP hD hS (Nat.le_refl _) (Nat.le_refl _) d_Li_add_43 rfl
set_option maxHeartbeats 4000000 in
set_option maxRecDepth 100000 in
theorem k_Li_add (l : Launch) (D : va_G) (cI cJ cB : ClassId) (fl : Nat) (q_p0 : Nat) (q_p0_kind : Nat) (q_p0_start : Nat) (q_p0_value : Nat) (i_p0_count : Int32) (i_p0_done : Int32) (f_p0_start : Nat → Int32) (f_p0_value : Nat → Int64) (x1 : Int64) (res : (Nat → Int32) × (Nat → Int64)) (hm : m_Li_add fl i_p0_count x1 f_p0_start f_p0_value = some res) : MtV l y_Li_add (.code y_Li_add b_Li_add 4 none :: CW) rm_Li_add D [(cI, .int), (cJ, .long), (cB, .byte)] [.ref q_p0, .long x1] (ws_Li_add cI cJ cB q_p0 q_p0_kind q_p0_start q_p0_value i_p0_count i_p0_done f_p0_start f_p0_value) (fun (w : va_W) => w = (ws_Li_add cI cJ cB q_p0 q_p0_kind q_p0_start q_p0_value i_p0_count i_p0_done res.1 res.2)) := by
  intro sz
  refine vz_start (Qc := fun A => va_Qv (fun (w : va_W) => w = (ws_Li_add cI cJ cB q_p0 q_p0_kind q_p0_start q_p0_value i_p0_count i_p0_done res.1 res.2)) (vz_B D A) A) (lv0 := [(0, .ref q_p0), (1, .long x1)]) (by decide +kernel) (Nat.le_of_ble_eq_true rfl) rfl ?_
  intro p e s m below meth c A ls C0 hl
  obtain ⟨hx, hb, hr, hml, hown, ht, hlocks, hin, hN, hK, hP, hD, hA, hS⟩ := C0
  exact w_Li_add_0 fl q_p0 q_p0_kind q_p0_start q_p0_value i_p0_count i_p0_done res ⟨hx, hb, hr, hml, hown, ht, hlocks, hin, hN, hK, hA⟩ x1 f_p0_start f_p0_value s.heap [] ls hm hP hD hS (lv_sub hl [0, 1] rfl)
def ws_Li_waiting (cI cJ cB : ClassId) (q_p0 : Nat) (q_p0_kind : Nat) (q_p0_start : Nat) (q_p0_value : Nat) (i_p0_count : Int32) (i_p0_done : Int32) : va_W := [(q_p0, .inr (1, [.ref q_p0_kind, .ref q_p0_start, .ref q_p0_value, .int i_p0_count, .int i_p0_done]))]
def rm_Li_waiting : Room := { frames := 0, cells := 0, slots := 0, locals := 0 }
def B_Li_waiting_0 (fl : Nat) (i_p0_count : Int32) (i_p0_done : Int32) : Option (Int32) := (some (i_p0_count - i_p0_done))
def m_Li_waiting (fl : Nat) (i_p0_count : Int32) (i_p0_done : Int32) : Option (Int32) := B_Li_waiting_0 fl i_p0_count i_p0_done
set_option maxHeartbeats 4000000 in
set_option maxRecDepth 100000 in
theorem w_Li_waiting_0 {p : Program} {l : Launch} {e : Env} {s : State} {m : MethodId} {args : Array Value} {below : List Frame} {meth : Method} {c : Code} {D : va_G} {cI cJ cB : ClassId} {A : Nat → Prop} (fl : Nat) (q_p0 : Nat) (q_p0_kind : Nat) (q_p0_start : Nat) (q_p0_value : Nat) (i_p0_count : Int32) (i_p0_done : Int32) (res : Int32) (C0 : vz_Cx p s m meth c b_Li_waiting 1 (some .int) "LinkEngine$Lines" "waiting" D [(cI, .int), (cJ, .long), (cB, .byte)] A args) : ∀ (H : Heap) (locs : List Loc) (ls : Array Slot), B_Li_waiting_0 fl i_p0_count i_p0_done = some res → va_P D classes (ws_Li_waiting cI cJ cB q_p0 q_p0_kind q_p0_start q_p0_value i_p0_count i_p0_done) H → va_D A (ws_Li_waiting cI cJ cB q_p0 q_p0_kind q_p0_start q_p0_value i_p0_count i_p0_done) → va_S A s.heap H locs → lv_has ls 1 [(0, .ref q_p0)] → W p l e rm_Li_waiting s m args below meth c H locs 0 0 (MQ below (va_Qi (fun (r : Int32) (w : va_W) => r = res ∧ w = (ws_Li_waiting cI cJ cB q_p0 q_p0_kind q_p0_start q_p0_value i_p0_count i_p0_done)) (vz_B D A) A) args s 0 0 A) (F0 m 0 ls []) := by
  obtain ⟨hx, hb, hr, hml, hown, ht, hlocks, hin, hN, hK, hA⟩ := id C0
  intro H locs ls hm hP hD hS hl
  unfold B_Li_waiting_0 at hm
  refine lv_aload_n hx hb d_Li_waiting_0 rfl (lv_at hl 0 rfl) ?_
  refine va_get (D := D) (ci := 1) (v := .int i_p0_count) (C := R_Li) (T := F_Li) (N := 5) hx hb ht i_Li hown hK hP 0 rfl rfl 3 (Nat.le_of_ble_eq_true rfl) (ht _ m_174) (fun _ h9 => h9) rfl d_Li_waiting_1 ?_
  refine lv_aload_n hx hb d_Li_waiting_4 rfl (lv_at hl 0 rfl) ?_
  refine va_get (D := D) (ci := 1) (v := .int i_p0_done) (C := R_Li) (T := F_Li) (N := 5) hx hb ht i_Li hown hK hP 0 rfl rfl 4 (Nat.le_of_ble_eq_true rfl) (ht _ m_175) (fun _ h9 => h9) rfl d_Li_waiting_5 ?_
  refine lv_isub hx hb d_Li_waiting_8 ?_
  obtain rfl := Option.some.inj hm
  exact vz_iret hx hb hr rfl hlocks hP hD hS (Nat.le_refl _) (Nat.le_refl _) d_Li_waiting_9 ⟨rfl, rfl⟩
set_option maxHeartbeats 4000000 in
set_option maxRecDepth 100000 in
theorem k_Li_waiting (l : Launch) (D : va_G) (cI cJ cB : ClassId) (fl : Nat) (q_p0 : Nat) (q_p0_kind : Nat) (q_p0_start : Nat) (q_p0_value : Nat) (i_p0_count : Int32) (i_p0_done : Int32)  (res : Int32) (hm : m_Li_waiting fl i_p0_count i_p0_done = some res) : MtI l y_Li_waiting (.code y_Li_waiting b_Li_waiting 1 (some .int) :: CW) rm_Li_waiting D [(cI, .int), (cJ, .long), (cB, .byte)] [.ref q_p0] (ws_Li_waiting cI cJ cB q_p0 q_p0_kind q_p0_start q_p0_value i_p0_count i_p0_done) (fun (r : Int32) (w : va_W) => r = res ∧ w = (ws_Li_waiting cI cJ cB q_p0 q_p0_kind q_p0_start q_p0_value i_p0_count i_p0_done)) := by
  intro sz
  refine vz_start (Qc := fun A => va_Qi (fun (r : Int32) (w : va_W) => r = res ∧ w = (ws_Li_waiting cI cJ cB q_p0 q_p0_kind q_p0_start q_p0_value i_p0_count i_p0_done)) (vz_B D A) A) (lv0 := [(0, .ref q_p0)]) (by decide +kernel) (Nat.le_of_ble_eq_true rfl) rfl ?_
  intro p e s m below meth c A ls C0 hl
  obtain ⟨hx, hb, hr, hml, hown, ht, hlocks, hin, hN, hK, hP, hD, hA, hS⟩ := C0
  exact w_Li_waiting_0 fl q_p0 q_p0_kind q_p0_start q_p0_value i_p0_count i_p0_done res ⟨hx, hb, hr, hml, hown, ht, hlocks, hin, hN, hK, hA⟩  s.heap [] ls hm hP hD hS (lv_sub hl [0] rfl)
def ws_En_fault (cI cJ cB : ClassId) (q_p0 : Nat) (q_p0_reader : Nat) (q_p0_tape : Nat) (q_p0_lines : Nat) (q_p0_paper : Nat) (q_p0_moves : Nat) (q_p0_stateSum : Nat) (q_p0_minor : Nat) (q_p0_polynomial : Nat) (q_p0_now : Nat) (q_p0_next : Nat) (q_p0_trial : Nat) (q_p0_latest : Nat) (q_p0_earlier : Nat) (q_p0_spare : Nat) (q_p0_reader_text : Nat) (q_p0_reader_lines : Nat) (i_p0_onTape : Int32) (i_p0_hasRead : Int32) (i_p0_linesDone : Int32) (i_p0_sumsDone : Int32) (i_p0_reader_size : Int32) (i_p0_reader_behind : Int32) (i_p0_reader_token : Int32) (i_p0_reader_place : Int32) (i_p0_reader_value : Int64) (i_p0_reader_misshapen : Int32) (i_p0_reader_faultFound : Int32) (i_p0_reader_faultPlace : Int32) : va_W := [(q_p0, .inr (0, [.ref q_p0_reader, .ref q_p0_tape, .ref q_p0_lines, .ref q_p0_paper, .ref q_p0_moves, .ref q_p0_stateSum, .ref q_p0_minor, .ref q_p0_polynomial, .ref q_p0_now, .ref q_p0_next, .ref q_p0_trial, .ref q_p0_latest, .ref q_p0_earlier, .ref q_p0_spare, .int i_p0_onTape, .int i_p0_hasRead, .int i_p0_linesDone, .int i_p0_sumsDone])), (q_p0_reader, .inr (2, [.ref q_p0_reader_text, .ref q_p0_reader_lines, .int i_p0_reader_size, .int i_p0_reader_behind, .int i_p0_reader_token, .int i_p0_reader_place, .long i_p0_reader_value, .int i_p0_reader_misshapen, .int i_p0_reader_faultFound, .int i_p0_reader_faultPlace]))]
def rm_En_fault : Room := { frames := 0, cells := 0, slots := 0, locals := 0 }
def B_En_fault_0 (fl : Nat) (i_p0_hasRead : Int32) (i_p0_reader_faultFound : Int32) (i_p0_reader_faultPlace : Int32) (x1 : Int32) : Option (Int32) := (if ¬ i_p0_hasRead = (0 : Int32) then (if x1 = 0 then (some i_p0_reader_faultFound) else (if x1 = 1 then (some i_p0_reader_faultPlace) else (some (-1)))) else (some (-1)))
def m_En_fault (fl : Nat) (i_p0_hasRead : Int32) (i_p0_reader_faultFound : Int32) (i_p0_reader_faultPlace : Int32) (x1 : Int32) : Option (Int32) := B_En_fault_0 fl i_p0_hasRead i_p0_reader_faultFound i_p0_reader_faultPlace x1
set_option maxHeartbeats 4000000 in
set_option maxRecDepth 100000 in
theorem w_En_fault_0 {p : Program} {l : Launch} {e : Env} {s : State} {m : MethodId} {args : Array Value} {below : List Frame} {meth : Method} {c : Code} {D : va_G} {cI cJ cB : ClassId} {A : Nat → Prop} (fl : Nat) (q_p0 : Nat) (q_p0_reader : Nat) (q_p0_tape : Nat) (q_p0_lines : Nat) (q_p0_paper : Nat) (q_p0_moves : Nat) (q_p0_stateSum : Nat) (q_p0_minor : Nat) (q_p0_polynomial : Nat) (q_p0_now : Nat) (q_p0_next : Nat) (q_p0_trial : Nat) (q_p0_latest : Nat) (q_p0_earlier : Nat) (q_p0_spare : Nat) (q_p0_reader_text : Nat) (q_p0_reader_lines : Nat) (i_p0_hasRead : Int32) (i_p0_reader_faultFound : Int32) (i_p0_reader_faultPlace : Int32) (i_p0_onTape : Int32) (i_p0_linesDone : Int32) (i_p0_sumsDone : Int32) (i_p0_reader_size : Int32) (i_p0_reader_behind : Int32) (i_p0_reader_token : Int32) (i_p0_reader_place : Int32) (i_p0_reader_value : Int64) (i_p0_reader_misshapen : Int32) (res : Int32) (C0 : vz_Cx p s m meth c b_En_fault 2 (some .int) "LinkEngine" "fault" D [(cI, .int), (cJ, .long), (cB, .byte)] A args) : ∀ (x1 : Int32) (H : Heap) (locs : List Loc) (ls : Array Slot), B_En_fault_0 fl i_p0_hasRead i_p0_reader_faultFound i_p0_reader_faultPlace x1 = some res → va_P D classes (ws_En_fault cI cJ cB q_p0 q_p0_reader q_p0_tape q_p0_lines q_p0_paper q_p0_moves q_p0_stateSum q_p0_minor q_p0_polynomial q_p0_now q_p0_next q_p0_trial q_p0_latest q_p0_earlier q_p0_spare q_p0_reader_text q_p0_reader_lines i_p0_onTape i_p0_hasRead i_p0_linesDone i_p0_sumsDone i_p0_reader_size i_p0_reader_behind i_p0_reader_token i_p0_reader_place i_p0_reader_value i_p0_reader_misshapen i_p0_reader_faultFound i_p0_reader_faultPlace) H → va_D A (ws_En_fault cI cJ cB q_p0 q_p0_reader q_p0_tape q_p0_lines q_p0_paper q_p0_moves q_p0_stateSum q_p0_minor q_p0_polynomial q_p0_now q_p0_next q_p0_trial q_p0_latest q_p0_earlier q_p0_spare q_p0_reader_text q_p0_reader_lines i_p0_onTape i_p0_hasRead i_p0_linesDone i_p0_sumsDone i_p0_reader_size i_p0_reader_behind i_p0_reader_token i_p0_reader_place i_p0_reader_value i_p0_reader_misshapen i_p0_reader_faultFound i_p0_reader_faultPlace) → va_S A s.heap H locs → lv_has ls 2 [(0, .ref q_p0), (1, .int x1)] → W p l e rm_En_fault s m args below meth c H locs 0 0 (MQ below (va_Qi (fun (r : Int32) (w : va_W) => r = res ∧ w = (ws_En_fault cI cJ cB q_p0 q_p0_reader q_p0_tape q_p0_lines q_p0_paper q_p0_moves q_p0_stateSum q_p0_minor q_p0_polynomial q_p0_now q_p0_next q_p0_trial q_p0_latest q_p0_earlier q_p0_spare q_p0_reader_text q_p0_reader_lines i_p0_onTape i_p0_hasRead i_p0_linesDone i_p0_sumsDone i_p0_reader_size i_p0_reader_behind i_p0_reader_token i_p0_reader_place i_p0_reader_value i_p0_reader_misshapen i_p0_reader_faultFound i_p0_reader_faultPlace)) (vz_B D A) A) args s 0 0 A) (F0 m 0 ls []) := by
  obtain ⟨hx, hb, hr, hml, hown, ht, hlocks, hin, hN, hK, hA⟩ := id C0
  intro x1 H locs ls hm hP hD hS hl
  unfold B_En_fault_0 at hm
  refine lv_aload_n hx hb d_En_fault_0 rfl (lv_at hl 0 rfl) ?_
  refine va_get (D := D) (ci := 0) (v := .int i_p0_hasRead) (C := R_En) (T := F_En) (N := 18) hx hb ht i_En hown hK hP 0 rfl rfl 15 (Nat.le_of_ble_eq_true rfl) (ht _ m_173) (fun _ h9 => h9) rfl d_En_fault_1 ?_
  refine lv_if_ne (tgt := 9) hx hb d_En_fault_4 (by decide) (fun hc => ?_) (fun hc => ?_)
  · rw [if_pos hc] at hm
    refine lv_iload_n hx hb d_En_fault_9 rfl (lv_at hl 1 rfl) ?_
    by_cases h_0 : x1 = 0
    · rw [if_pos h_0] at hm
      refine lv_lookup (off := 26) (tgt := 36) hx hb d_En_fault_10 (by decide) (by rw [h_0] <;> rfl) (by decide) ?_
      refine lv_aload_n hx hb d_En_fault_36 rfl (lv_at hl 0 rfl) ?_
      refine va_get (D := D) (ci := 0) (v := .ref q_p0_reader) (C := R_En) (T := F_En) (N := 18) hx hb ht i_En hown hK hP 0 rfl rfl 0 (Nat.le_of_ble_eq_true rfl) (ht _ m_64) (fun _ h9 => h9) rfl d_En_fault_37 ?_
      refine va_getN (D := D) (ci := 2) (v := .int i_p0_reader_faultFound) (C := R_Rd) (T := F_Rd) (N := 10) hx hb ht i_Rd hown hK hP 1 rfl rfl 8 (Nat.le_of_ble_eq_true rfl) (va_Nw.use rfl (hN _ n_14)) (fun _ h9 => h9) rfl d_En_fault_40 ?_
      obtain rfl := Option.some.inj hm
      exact vz_iret hx hb hr rfl hlocks hP hD hS (Nat.le_refl _) (Nat.le_refl _) d_En_fault_43 ⟨rfl, rfl⟩
    · rw [if_neg h_0] at hm
      by_cases h_1 : x1 = 1
      · rw [if_pos h_1] at hm
        refine lv_lookup (off := 34) (tgt := 44) hx hb d_En_fault_10 (by decide) (by rw [h_1] <;> rfl) (by decide) ?_
        refine lv_aload_n hx hb d_En_fault_44 rfl (lv_at hl 0 rfl) ?_
        refine va_get (D := D) (ci := 0) (v := .ref q_p0_reader) (C := R_En) (T := F_En) (N := 18) hx hb ht i_En hown hK hP 0 rfl rfl 0 (Nat.le_of_ble_eq_true rfl) (ht _ m_64) (fun _ h9 => h9) rfl d_En_fault_45 ?_
        refine va_getN (D := D) (ci := 2) (v := .int i_p0_reader_faultPlace) (C := R_Rd) (T := F_Rd) (N := 10) hx hb ht i_Rd hown hK hP 1 rfl rfl 9 (Nat.le_of_ble_eq_true rfl) (va_Nw.use rfl (hN _ n_27)) (fun _ h9 => h9) rfl d_En_fault_48 ?_
        obtain rfl := Option.some.inj hm
        exact vz_iret hx hb hr rfl hlocks hP hD hS (Nat.le_refl _) (Nat.le_refl _) d_En_fault_51 ⟨rfl, rfl⟩
      · rw [if_neg h_1] at hm
        refine lv_lookup (off := 42) (tgt := 52) hx hb d_En_fault_10 (by decide) (by
            show Op.lookupswitch.offset [(0, 26), (1, 34)] 42 (Int32.toInt x1) = 42
            rw [lv_osw h_0 (by decide), lv_osw h_1 (by decide)] <;> rfl) (by decide) ?_
        refine lv_iconst (v := (-1)) hx hb d_En_fault_52 (by decide) ?_
        obtain rfl := Option.some.inj hm
        exact vz_iret hx hb hr rfl hlocks hP hD hS (Nat.le_refl _) (Nat.le_refl _) d_En_fault_53 ⟨rfl, rfl⟩
  · rw [if_neg (fun q => q hc)] at hm
    refine lv_iconst (v := (-1)) hx hb d_En_fault_7 (by decide) ?_
    obtain rfl := Option.some.inj hm
    exact vz_iret hx hb hr rfl hlocks hP hD hS (Nat.le_refl _) (Nat.le_refl _) d_En_fault_8 ⟨rfl, rfl⟩
set_option maxHeartbeats 4000000 in
set_option maxRecDepth 100000 in
theorem k_En_fault (l : Launch) (D : va_G) (cI cJ cB : ClassId) (fl : Nat) (q_p0 : Nat) (q_p0_reader : Nat) (q_p0_tape : Nat) (q_p0_lines : Nat) (q_p0_paper : Nat) (q_p0_moves : Nat) (q_p0_stateSum : Nat) (q_p0_minor : Nat) (q_p0_polynomial : Nat) (q_p0_now : Nat) (q_p0_next : Nat) (q_p0_trial : Nat) (q_p0_latest : Nat) (q_p0_earlier : Nat) (q_p0_spare : Nat) (q_p0_reader_text : Nat) (q_p0_reader_lines : Nat) (i_p0_hasRead : Int32) (i_p0_reader_faultFound : Int32) (i_p0_reader_faultPlace : Int32) (i_p0_onTape : Int32) (i_p0_linesDone : Int32) (i_p0_sumsDone : Int32) (i_p0_reader_size : Int32) (i_p0_reader_behind : Int32) (i_p0_reader_token : Int32) (i_p0_reader_place : Int32) (i_p0_reader_value : Int64) (i_p0_reader_misshapen : Int32) (x1 : Int32) (res : Int32) (hm : m_En_fault fl i_p0_hasRead i_p0_reader_faultFound i_p0_reader_faultPlace x1 = some res) : MtI l y_En_fault (.code y_En_fault b_En_fault 2 (some .int) :: CW) rm_En_fault D [(cI, .int), (cJ, .long), (cB, .byte)] [.ref q_p0, .int x1] (ws_En_fault cI cJ cB q_p0 q_p0_reader q_p0_tape q_p0_lines q_p0_paper q_p0_moves q_p0_stateSum q_p0_minor q_p0_polynomial q_p0_now q_p0_next q_p0_trial q_p0_latest q_p0_earlier q_p0_spare q_p0_reader_text q_p0_reader_lines i_p0_onTape i_p0_hasRead i_p0_linesDone i_p0_sumsDone i_p0_reader_size i_p0_reader_behind i_p0_reader_token i_p0_reader_place i_p0_reader_value i_p0_reader_misshapen i_p0_reader_faultFound i_p0_reader_faultPlace) (fun (r : Int32) (w : va_W) => r = res ∧ w = (ws_En_fault cI cJ cB q_p0 q_p0_reader q_p0_tape q_p0_lines q_p0_paper q_p0_moves q_p0_stateSum q_p0_minor q_p0_polynomial q_p0_now q_p0_next q_p0_trial q_p0_latest q_p0_earlier q_p0_spare q_p0_reader_text q_p0_reader_lines i_p0_onTape i_p0_hasRead i_p0_linesDone i_p0_sumsDone i_p0_reader_size i_p0_reader_behind i_p0_reader_token i_p0_reader_place i_p0_reader_value i_p0_reader_misshapen i_p0_reader_faultFound i_p0_reader_faultPlace)) := by
  intro sz
  refine vz_start (Qc := fun A => va_Qi (fun (r : Int32) (w : va_W) => r = res ∧ w = (ws_En_fault cI cJ cB q_p0 q_p0_reader q_p0_tape q_p0_lines q_p0_paper q_p0_moves q_p0_stateSum q_p0_minor q_p0_polynomial q_p0_now q_p0_next q_p0_trial q_p0_latest q_p0_earlier q_p0_spare q_p0_reader_text q_p0_reader_lines i_p0_onTape i_p0_hasRead i_p0_linesDone i_p0_sumsDone i_p0_reader_size i_p0_reader_behind i_p0_reader_token i_p0_reader_place i_p0_reader_value i_p0_reader_misshapen i_p0_reader_faultFound i_p0_reader_faultPlace)) (vz_B D A) A) (lv0 := [(0, .ref q_p0), (1, .int x1)]) (by decide +kernel) (Nat.le_of_ble_eq_true rfl) rfl ?_
  intro p e s m below meth c A ls C0 hl
  obtain ⟨hx, hb, hr, hml, hown, ht, hlocks, hin, hN, hK, hP, hD, hA, hS⟩ := C0
  exact w_En_fault_0 fl q_p0 q_p0_reader q_p0_tape q_p0_lines q_p0_paper q_p0_moves q_p0_stateSum q_p0_minor q_p0_polynomial q_p0_now q_p0_next q_p0_trial q_p0_latest q_p0_earlier q_p0_spare q_p0_reader_text q_p0_reader_lines i_p0_hasRead i_p0_reader_faultFound i_p0_reader_faultPlace i_p0_onTape i_p0_linesDone i_p0_sumsDone i_p0_reader_size i_p0_reader_behind i_p0_reader_token i_p0_reader_place i_p0_reader_value i_p0_reader_misshapen res ⟨hx, hb, hr, hml, hown, ht, hlocks, hin, hN, hK, hA⟩ x1 s.heap [] ls hm hP hD hS (lv_sub hl [0, 1] rfl)
def ws_Li_kindOfNext (cI cJ cB : ClassId) (q_p0 : Nat) (q_p0_kind : Nat) (q_p0_start : Nat) (q_p0_value : Nat) (i_p0_count : Int32) (i_p0_done : Int32) (f_p0_kind : Nat → Int32) : va_W := [(q_p0, .inr (1, [.ref q_p0_kind, .ref q_p0_start, .ref q_p0_value, .int i_p0_count, .int i_p0_done])), (q_p0_kind, .inl (cI, 64, .inl f_p0_kind))]
def rm_Li_kindOfNext : Room := { frames := 0, cells := 0, slots := 0, locals := 0 }
def B_Li_kindOfNext_0 (fl : Nat) (i_p0_count : Int32) (i_p0_done : Int32) (f_p0_kind : Nat → Int32) : Option (Int32) := (if i_p0_count ≤ i_p0_done then (some 0) else (if ¬ (i_p0_done < 0 ∨ 64 ≤ Int32.toNatClampNeg i_p0_done) then (some (f_p0_kind (Int32.toNatClampNeg i_p0_done))) else none))
def m_Li_kindOfNext (fl : Nat) (i_p0_count : Int32) (i_p0_done : Int32) (f_p0_kind : Nat → Int32) : Option (Int32) := B_Li_kindOfNext_0 fl i_p0_count i_p0_done f_p0_kind
set_option maxHeartbeats 4000000 in
set_option maxRecDepth 100000 in
theorem w_Li_kindOfNext_0 {p : Program} {l : Launch} {e : Env} {s : State} {m : MethodId} {args : Array Value} {below : List Frame} {meth : Method} {c : Code} {D : va_G} {cI cJ cB : ClassId} {A : Nat → Prop} (fl : Nat) (q_p0 : Nat) (q_p0_kind : Nat) (q_p0_start : Nat) (q_p0_value : Nat) (i_p0_count : Int32) (i_p0_done : Int32) (f_p0_kind : Nat → Int32) (res : Int32) (C0 : vz_Cx p s m meth c b_Li_kindOfNext 1 (some .int) "LinkEngine$Lines" "kindOfNext" D [(cI, .int), (cJ, .long), (cB, .byte)] A args) : ∀ (H : Heap) (locs : List Loc) (ls : Array Slot), B_Li_kindOfNext_0 fl i_p0_count i_p0_done f_p0_kind = some res → va_P D classes (ws_Li_kindOfNext cI cJ cB q_p0 q_p0_kind q_p0_start q_p0_value i_p0_count i_p0_done f_p0_kind) H → va_D A (ws_Li_kindOfNext cI cJ cB q_p0 q_p0_kind q_p0_start q_p0_value i_p0_count i_p0_done f_p0_kind) → va_S A s.heap H locs → lv_has ls 1 [(0, .ref q_p0)] → W p l e rm_Li_kindOfNext s m args below meth c H locs 0 0 (MQ below (va_Qi (fun (r : Int32) (w : va_W) => r = res ∧ w = (ws_Li_kindOfNext cI cJ cB q_p0 q_p0_kind q_p0_start q_p0_value i_p0_count i_p0_done f_p0_kind)) (vz_B D A) A) args s 0 0 A) (F0 m 0 ls []) := by
  obtain ⟨hx, hb, hr, hml, hown, ht, hlocks, hin, hN, hK, hA⟩ := id C0
  intro H locs ls hm hP hD hS hl
  unfold B_Li_kindOfNext_0 at hm
  refine lv_aload_n hx hb d_Li_kindOfNext_0 rfl (lv_at hl 0 rfl) ?_
  refine va_get (D := D) (ci := 1) (v := .int i_p0_done) (C := R_Li) (T := F_Li) (N := 5) hx hb ht i_Li hown hK hP 0 rfl rfl 4 (Nat.le_of_ble_eq_true rfl) (ht _ m_175) (fun _ h9 => h9) rfl d_Li_kindOfNext_1 ?_
  refine lv_aload_n hx hb d_Li_kindOfNext_4 rfl (lv_at hl 0 rfl) ?_
  refine va_get (D := D) (ci := 1) (v := .int i_p0_count) (C := R_Li) (T := F_Li) (N := 5) hx hb ht i_Li hown hK hP 0 rfl rfl 3 (Nat.le_of_ble_eq_true rfl) (ht _ m_174) (fun _ h9 => h9) rfl d_Li_kindOfNext_5 ?_
  refine lv_icmp_ge (tgt := 23) hx hb d_Li_kindOfNext_8 (by decide) (fun hc => ?_) (fun hc => ?_)
  · rw [if_pos hc] at hm
    refine lv_iconst (v := 0) hx hb d_Li_kindOfNext_23 (by decide) ?_
    obtain rfl := Option.some.inj hm
    exact vz_iret hx hb hr rfl hlocks hP hD hS (Nat.le_refl _) (Nat.le_refl _) d_Li_kindOfNext_24 ⟨rfl, rfl⟩
  · rw [if_neg hc] at hm
    refine lv_aload_n hx hb d_Li_kindOfNext_11 rfl (lv_at hl 0 rfl) ?_
    refine va_get (D := D) (ci := 1) (v := .ref q_p0_kind) (C := R_Li) (T := F_Li) (N := 5) hx hb ht i_Li hown hK hP 0 rfl rfl 0 (Nat.le_of_ble_eq_true rfl) (ht _ m_4) (fun _ h9 => h9) rfl d_Li_kindOfNext_12 ?_
    refine lv_aload_n hx hb d_Li_kindOfNext_15 rfl (lv_at hl 0 rfl) ?_
    refine va_get (D := D) (ci := 1) (v := .int i_p0_done) (C := R_Li) (T := F_Li) (N := 5) hx hb ht i_Li hown hK hP 0 rfl rfl 4 (Nat.le_of_ble_eq_true rfl) (ht _ m_175) (fun _ h9 => h9) rfl d_Li_kindOfNext_16 ?_
    obtain ⟨hg, hm⟩ := vz_guard hm
    refine va_iald hx hb hK hP 1 0 rfl rfl hg d_Li_kindOfNext_19 ?_
    refine lv_goto (tgt := 24) hx hb d_Li_kindOfNext_20 (by decide) ?_
    obtain rfl := Option.some.inj hm
    exact vz_iret hx hb hr rfl hlocks hP hD hS (Nat.le_refl _) (Nat.le_refl _) d_Li_kindOfNext_24 ⟨rfl, rfl⟩
set_option maxHeartbeats 4000000 in
set_option maxRecDepth 100000 in
theorem k_Li_kindOfNext (l : Launch) (D : va_G) (cI cJ cB : ClassId) (fl : Nat) (q_p0 : Nat) (q_p0_kind : Nat) (q_p0_start : Nat) (q_p0_value : Nat) (i_p0_count : Int32) (i_p0_done : Int32) (f_p0_kind : Nat → Int32)  (res : Int32) (hm : m_Li_kindOfNext fl i_p0_count i_p0_done f_p0_kind = some res) : MtI l y_Li_kindOfNext (.code y_Li_kindOfNext b_Li_kindOfNext 1 (some .int) :: CW) rm_Li_kindOfNext D [(cI, .int), (cJ, .long), (cB, .byte)] [.ref q_p0] (ws_Li_kindOfNext cI cJ cB q_p0 q_p0_kind q_p0_start q_p0_value i_p0_count i_p0_done f_p0_kind) (fun (r : Int32) (w : va_W) => r = res ∧ w = (ws_Li_kindOfNext cI cJ cB q_p0 q_p0_kind q_p0_start q_p0_value i_p0_count i_p0_done f_p0_kind)) := by
  intro sz
  refine vz_start (Qc := fun A => va_Qi (fun (r : Int32) (w : va_W) => r = res ∧ w = (ws_Li_kindOfNext cI cJ cB q_p0 q_p0_kind q_p0_start q_p0_value i_p0_count i_p0_done f_p0_kind)) (vz_B D A) A) (lv0 := [(0, .ref q_p0)]) (by decide +kernel) (Nat.le_of_ble_eq_true rfl) rfl ?_
  intro p e s m below meth c A ls C0 hl
  obtain ⟨hx, hb, hr, hml, hown, ht, hlocks, hin, hN, hK, hP, hD, hA, hS⟩ := C0
  exact w_Li_kindOfNext_0 fl q_p0 q_p0_kind q_p0_start q_p0_value i_p0_count i_p0_done f_p0_kind res ⟨hx, hb, hr, hml, hown, ht, hlocks, hin, hN, hK, hA⟩  s.heap [] ls hm hP hD hS (lv_sub hl [0] rfl)
def ws_Di_clear (cI cJ cB : ClassId) (q_p0 : Nat) (q_p0_sign : Nat) (q_p0_label : Nat) (q_p0_shape : Nat) (i_p0_count : Int32) (i_p0_circles : Int32) (i_p0_shapeIsKnown : Int32) : va_W := [(q_p0, .inr (4, [.ref q_p0_sign, .ref q_p0_label, .ref q_p0_shape, .int i_p0_count, .int i_p0_circles, .int i_p0_shapeIsKnown]))]
def rm_Di_clear : Room := { frames := 0, cells := 0, slots := 0, locals := 0 }
def B_Di_clear_0 (fl : Nat) (i_p0_count : Int32) (i_p0_circles : Int32) (i_p0_shapeIsKnown : Int32) : Option (Int32 × Int32 × Int32) := (some (0, 0, 0))
def m_Di_clear (fl : Nat) (i_p0_count : Int32) (i_p0_circles : Int32) (i_p0_shapeIsKnown : Int32) : Option (Int32 × Int32 × Int32) := B_Di_clear_0 fl  i_p0_count i_p0_circles i_p0_shapeIsKnown
set_option maxHeartbeats 4000000 in
set_option maxRecDepth 100000 in
theorem w_Di_clear_0 {p : Program} {l : Launch} {e : Env} {s : State} {m : MethodId} {args : Array Value} {below : List Frame} {meth : Method} {c : Code} {D : va_G} {cI cJ cB : ClassId} {A : Nat → Prop} (fl : Nat) (q_p0 : Nat) (q_p0_sign : Nat) (q_p0_label : Nat) (q_p0_shape : Nat)  (res : Int32 × Int32 × Int32) (C0 : vz_Cx p s m meth c b_Di_clear 1 none "LinkEngine$Diagram" "clear" D [(cI, .int), (cJ, .long), (cB, .byte)] A args) : ∀ (i_p0_count : Int32) (i_p0_circles : Int32) (i_p0_shapeIsKnown : Int32) (H : Heap) (locs : List Loc) (ls : Array Slot), B_Di_clear_0 fl i_p0_count i_p0_circles i_p0_shapeIsKnown = some res → va_P D classes (ws_Di_clear cI cJ cB q_p0 q_p0_sign q_p0_label q_p0_shape i_p0_count i_p0_circles i_p0_shapeIsKnown) H → va_D A (ws_Di_clear cI cJ cB q_p0 q_p0_sign q_p0_label q_p0_shape i_p0_count i_p0_circles i_p0_shapeIsKnown) → va_S A s.heap H locs → lv_has ls 1 [(0, .ref q_p0)] → W p l e rm_Di_clear s m args below meth c H locs 0 0 (MQ below (va_Qv (fun (w : va_W) => w = (ws_Di_clear cI cJ cB q_p0 q_p0_sign q_p0_label q_p0_shape res.1 res.2.1 res.2.2)) (vz_B D A) A) args s 0 0 A) (F0 m 0 ls []) := by
  obtain ⟨hx, hb, hr, hml, hown, ht, hlocks, hin, hN, hK, hA⟩ := id C0
  intro i_p0_count i_p0_circles i_p0_shapeIsKnown H locs ls hm hP hD hS hl
  unfold B_Di_clear_0 at hm
  refine lv_aload_n hx hb d_Di_clear_0 rfl (lv_at hl 0 rfl) ?_
  refine lv_iconst (v := 0) hx hb d_Di_clear_1 (by decide) ?_
  refine va_put (D := D) (ci := 4) (v := .int 0) (ty := .int) (C := R_Di) (T := F_Di) (N := 6) hx hb ht i_Di t_Di t_Di_ok n_Di hown hK hP hD hS 0 rfl rfl 3 (Nat.le_of_ble_eq_true rfl) (ht _ m_238) (fun _ h9 => h9) rfl (by decide +kernel) rfl rfl (Nat.le_of_ble_eq_true rfl) d_Di_clear_2 (fun H locs hP hD hS => ?_)
  have hP : va_P D classes (ws_Di_clear cI cJ cB q_p0 q_p0_sign q_p0_label q_p0_shape 0 i_p0_circles i_p0_shapeIsKnown) H := hP
  have hD : va_D A (ws_Di_clear cI cJ cB q_p0 q_p0_sign q_p0_label q_p0_shape 0 i_p0_circles i_p0_shapeIsKnown) := hD
  refine lv_aload_n hx hb d_Di_clear_5 rfl (lv_at hl 0 rfl) ?_
  refine lv_iconst (v := 0) hx hb d_Di_clear_6 (by decide) ?_
  refine va_put (D := D) (ci := 4) (v := .int 0) (ty := .int) (C := R_Di) (T := F_Di) (N := 6) hx hb ht i_Di t_Di t_Di_ok n_Di hown hK hP hD hS 0 rfl rfl 4 (Nat.le_of_ble_eq_true rfl) (ht _ m_332) (fun _ h9 => h9) rfl (by decide +kernel) rfl rfl (Nat.le_of_ble_eq_true rfl) d_Di_clear_7 (fun H locs hP hD hS => ?_)
  have hP : va_P D classes (ws_Di_clear cI cJ cB q_p0 q_p0_sign q_p0_label q_p0_shape 0 0 i_p0_shapeIsKnown) H := hP
  have hD : va_D A (ws_Di_clear cI cJ cB q_p0 q_p0_sign q_p0_label q_p0_shape 0 0 i_p0_shapeIsKnown) := hD
  refine lv_aload_n hx hb d_Di_clear_10 rfl (lv_at hl 0 rfl) ?_
  refine lv_iconst (v := 0) hx hb d_Di_clear_11 (by decide) ?_
  refine va_put (D := D) (ci := 4) (v := .int 0) (ty := .boolean) (C := R_Di) (T := F_Di) (N := 6) hx hb ht i_Di t_Di t_Di_ok n_Di hown hK hP hD hS 0 rfl rfl 5 (Nat.le_of_ble_eq_true rfl) (ht _ m_229) (fun _ h9 => h9) rfl (by decide +kernel) rfl rfl (Nat.le_of_ble_eq_true rfl) d_Di_clear_12 (fun H locs hP hD hS => ?_)
  have hP : va_P D classes (ws_Di_clear cI cJ cB q_p0 q_p0_sign q_p0_label q_p0_shape 0 0 0) H := hP
  have hD : va_D A (ws_Di_clear cI cJ cB q_p0 q_p0_sign q_p0_label q_p0_shape 0 0 0) := hD
  obtain rfl := Option.some.inj hm
  exact vz_vret hx hb hr hlocks hP hD hS (Nat.le_refl _) (Nat.le_refl _) d_Di_clear_15 rfl
set_option maxHeartbeats 4000000 in
set_option maxRecDepth 100000 in
theorem k_Di_clear (l : Launch) (D : va_G) (cI cJ cB : ClassId) (fl : Nat) (q_p0 : Nat) (q_p0_sign : Nat) (q_p0_label : Nat) (q_p0_shape : Nat) (i_p0_count : Int32) (i_p0_circles : Int32) (i_p0_shapeIsKnown : Int32)  (res : Int32 × Int32 × Int32) (hm : m_Di_clear fl i_p0_count i_p0_circles i_p0_shapeIsKnown = some res) : MtV l y_Di_clear (.code y_Di_clear b_Di_clear 1 none :: CW) rm_Di_clear D [(cI, .int), (cJ, .long), (cB, .byte)] [.ref q_p0] (ws_Di_clear cI cJ cB q_p0 q_p0_sign q_p0_label q_p0_shape i_p0_count i_p0_circles i_p0_shapeIsKnown) (fun (w : va_W) => w = (ws_Di_clear cI cJ cB q_p0 q_p0_sign q_p0_label q_p0_shape res.1 res.2.1 res.2.2)) := by
  intro sz
  refine vz_start (Qc := fun A => va_Qv (fun (w : va_W) => w = (ws_Di_clear cI cJ cB q_p0 q_p0_sign q_p0_label q_p0_shape res.1 res.2.1 res.2.2)) (vz_B D A) A) (lv0 := [(0, .ref q_p0)]) (by decide +kernel) (Nat.le_of_ble_eq_true rfl) rfl ?_
  intro p e s m below meth c A ls C0 hl
  obtain ⟨hx, hb, hr, hml, hown, ht, hlocks, hin, hN, hK, hP, hD, hA, hS⟩ := C0
  exact w_Di_clear_0 fl q_p0 q_p0_sign q_p0_label q_p0_shape  res ⟨hx, hb, hr, hml, hown, ht, hlocks, hin, hN, hK, hA⟩ i_p0_count i_p0_circles i_p0_shapeIsKnown s.heap [] ls hm hP hD hS (lv_sub hl [0] rfl)
def ws_Li_numbers (cI cJ cB : ClassId) (q_p0 : Nat) (q_p0_kind : Nat) (q_p0_start : Nat) (q_p0_value : Nat) (i_p0_count : Int32) (i_p0_done : Int32) (f_p0_start : Nat → Int32) : va_W := [(q_p0, .inr (1, [.ref q_p0_kind, .ref q_p0_start, .ref q_p0_value, .int i_p0_count, .int i_p0_done])), (q_p0_start, .inl (cI, 65, .inl f_p0_start))]
def rm_Li_numbers : Room := { frames := 0, cells := 0, slots := 0, locals := 0 }
def B_Li_numbers_0 (fl : Nat) (i_p0_count : Int32) (i_p0_done : Int32) (f_p0_start : Nat → Int32) : Option (Int32) := (if i_p0_count ≤ i_p0_done then (some 0) else (if ¬ ((i_p0_done + (1 : Int32)) < 0 ∨ 65 ≤ Int32.toNatClampNeg (i_p0_done + (1 : Int32))) then (if ¬ (i_p0_done < 0 ∨ 65 ≤ Int32.toNatClampNeg i_p0_done) then (some ((f_p0_start (Int32.toNatClampNeg (i_p0_done + (1 : Int32)))) - (f_p0_start (Int32.toNatClampNeg i_p0_done)))) else none) else none))
def m_Li_numbers (fl : Nat) (i_p0_count : Int32) (i_p0_done : Int32) (f_p0_start : Nat → Int32) : Option (Int32) := B_Li_numbers_0 fl i_p0_count i_p0_done f_p0_start
set_option maxHeartbeats 4000000 in
set_option maxRecDepth 100000 in
theorem w_Li_numbers_0 {p : Program} {l : Launch} {e : Env} {s : State} {m : MethodId} {args : Array Value} {below : List Frame} {meth : Method} {c : Code} {D : va_G} {cI cJ cB : ClassId} {A : Nat → Prop} (fl : Nat) (q_p0 : Nat) (q_p0_kind : Nat) (q_p0_start : Nat) (q_p0_value : Nat) (i_p0_count : Int32) (i_p0_done : Int32) (f_p0_start : Nat → Int32) (res : Int32) (C0 : vz_Cx p s m meth c b_Li_numbers 1 (some .int) "LinkEngine$Lines" "numbers" D [(cI, .int), (cJ, .long), (cB, .byte)] A args) : ∀ (H : Heap) (locs : List Loc) (ls : Array Slot), B_Li_numbers_0 fl i_p0_count i_p0_done f_p0_start = some res → va_P D classes (ws_Li_numbers cI cJ cB q_p0 q_p0_kind q_p0_start q_p0_value i_p0_count i_p0_done f_p0_start) H → va_D A (ws_Li_numbers cI cJ cB q_p0 q_p0_kind q_p0_start q_p0_value i_p0_count i_p0_done f_p0_start) → va_S A s.heap H locs → lv_has ls 1 [(0, .ref q_p0)] → W p l e rm_Li_numbers s m args below meth c H locs 0 0 (MQ below (va_Qi (fun (r : Int32) (w : va_W) => r = res ∧ w = (ws_Li_numbers cI cJ cB q_p0 q_p0_kind q_p0_start q_p0_value i_p0_count i_p0_done f_p0_start)) (vz_B D A) A) args s 0 0 A) (F0 m 0 ls []) := by
  obtain ⟨hx, hb, hr, hml, hown, ht, hlocks, hin, hN, hK, hA⟩ := id C0
  intro H locs ls hm hP hD hS hl
  unfold B_Li_numbers_0 at hm
  refine lv_aload_n hx hb d_Li_numbers_0 rfl (lv_at hl 0 rfl) ?_
  refine va_get (D := D) (ci := 1) (v := .int i_p0_done) (C := R_Li) (T := F_Li) (N := 5) hx hb ht i_Li hown hK hP 0 rfl rfl 4 (Nat.le_of_ble_eq_true rfl) (ht _ m_175) (fun _ h9 => h9) rfl d_Li_numbers_1 ?_
  refine lv_aload_n hx hb d_Li_numbers_4 rfl (lv_at hl 0 rfl) ?_
  refine va_get (D := D) (ci := 1) (v := .int i_p0_count) (C := R_Li) (T := F_Li) (N := 5) hx hb ht i_Li hown hK hP 0 rfl rfl 3 (Nat.le_of_ble_eq_true rfl) (ht _ m_174) (fun _ h9 => h9) rfl d_Li_numbers_5 ?_
  refine lv_icmp_ge (tgt := 35) hx hb d_Li_numbers_8 (by decide) (fun hc => ?_) (fun hc => ?_)
  · rw [if_pos hc] at hm
    refine lv_iconst (v := 0) hx hb d_Li_numbers_35 (by decide) ?_
    obtain rfl := Option.some.inj hm
    exact vz_iret hx hb hr rfl hlocks hP hD hS (Nat.le_refl _) (Nat.le_refl _) d_Li_numbers_36 ⟨rfl, rfl⟩
  · rw [if_neg hc] at hm
    refine lv_aload_n hx hb d_Li_numbers_11 rfl (lv_at hl 0 rfl) ?_
    refine va_get (D := D) (ci := 1) (v := .ref q_p0_start) (C := R_Li) (T := F_Li) (N := 5) hx hb ht i_Li hown hK hP 0 rfl rfl 1 (Nat.le_of_ble_eq_true rfl) (ht _ m_5) (fun _ h9 => h9) rfl d_Li_numbers_12 ?_
    refine lv_aload_n hx hb d_Li_numbers_15 rfl (lv_at hl 0 rfl) ?_
    refine va_get (D := D) (ci := 1) (v := .int i_p0_done) (C := R_Li) (T := F_Li) (N := 5) hx hb ht i_Li hown hK hP 0 rfl rfl 4 (Nat.le_of_ble_eq_true rfl) (ht _ m_175) (fun _ h9 => h9) rfl d_Li_numbers_16 ?_
    refine lv_iconst (v := 1) hx hb d_Li_numbers_19 (by decide) ?_
    refine lv_iadd hx hb d_Li_numbers_20 ?_
    obtain ⟨hg, hm⟩ := vz_guard hm
    refine va_iald hx hb hK hP 1 0 rfl rfl hg d_Li_numbers_21 ?_
    refine lv_aload_n hx hb d_Li_numbers_22 rfl (lv_at hl 0 rfl) ?_
    refine va_get (D := D) (ci := 1) (v := .ref q_p0_start) (C := R_Li) (T := F_Li) (N := 5) hx hb ht i_Li hown hK hP 0 rfl rfl 1 (Nat.le_of_ble_eq_true rfl) (ht _ m_5) (fun _ h9 => h9) rfl d_Li_numbers_23 ?_
    refine lv_aload_n hx hb d_Li_numbers_26 rfl (lv_at hl 0 rfl) ?_
    refine va_get (D := D) (ci := 1) (v := .int i_p0_done) (C := R_Li) (T := F_Li) (N := 5) hx hb ht i_Li hown hK hP 0 rfl rfl 4 (Nat.le_of_ble_eq_true rfl) (ht _ m_175) (fun _ h9 => h9) rfl d_Li_numbers_27 ?_
    obtain ⟨hg, hm⟩ := vz_guard hm
    refine va_iald hx hb hK hP 1 0 rfl rfl hg d_Li_numbers_30 ?_
    refine lv_isub hx hb d_Li_numbers_31 ?_
    refine lv_goto (tgt := 36) hx hb d_Li_numbers_32 (by decide) ?_
    obtain rfl := Option.some.inj hm
    exact vz_iret hx hb hr rfl hlocks hP hD hS (Nat.le_refl _) (Nat.le_refl _) d_Li_numbers_36 ⟨rfl, rfl⟩
set_option maxHeartbeats 4000000 in
set_option maxRecDepth 100000 in
theorem k_Li_numbers (l : Launch) (D : va_G) (cI cJ cB : ClassId) (fl : Nat) (q_p0 : Nat) (q_p0_kind : Nat) (q_p0_start : Nat) (q_p0_value : Nat) (i_p0_count : Int32) (i_p0_done : Int32) (f_p0_start : Nat → Int32)  (res : Int32) (hm : m_Li_numbers fl i_p0_count i_p0_done f_p0_start = some res) : MtI l y_Li_numbers (.code y_Li_numbers b_Li_numbers 1 (some .int) :: CW) rm_Li_numbers D [(cI, .int), (cJ, .long), (cB, .byte)] [.ref q_p0] (ws_Li_numbers cI cJ cB q_p0 q_p0_kind q_p0_start q_p0_value i_p0_count i_p0_done f_p0_start) (fun (r : Int32) (w : va_W) => r = res ∧ w = (ws_Li_numbers cI cJ cB q_p0 q_p0_kind q_p0_start q_p0_value i_p0_count i_p0_done f_p0_start)) := by
  intro sz
  refine vz_start (Qc := fun A => va_Qi (fun (r : Int32) (w : va_W) => r = res ∧ w = (ws_Li_numbers cI cJ cB q_p0 q_p0_kind q_p0_start q_p0_value i_p0_count i_p0_done f_p0_start)) (vz_B D A) A) (lv0 := [(0, .ref q_p0)]) (by decide +kernel) (Nat.le_of_ble_eq_true rfl) rfl ?_
  intro p e s m below meth c A ls C0 hl
  obtain ⟨hx, hb, hr, hml, hown, ht, hlocks, hin, hN, hK, hP, hD, hA, hS⟩ := C0
  exact w_Li_numbers_0 fl q_p0 q_p0_kind q_p0_start q_p0_value i_p0_count i_p0_done f_p0_start res ⟨hx, hb, hr, hml, hown, ht, hlocks, hin, hN, hK, hA⟩  s.heap [] ls hm hP hD hS (lv_sub hl [0] rfl)
def ws_Li_longNumber (cI cJ cB : ClassId) (q_p0 : Nat) (q_p0_kind : Nat) (q_p0_start : Nat) (q_p0_value : Nat) (i_p0_count : Int32) (i_p0_done : Int32) (f_p0_start : Nat → Int32) (f_p0_value : Nat → Int64) : va_W := [(q_p0, .inr (1, [.ref q_p0_kind, .ref q_p0_start, .ref q_p0_value, .int i_p0_count, .int i_p0_done])), (q_p0_start, .inl (cI, 65, .inl f_p0_start)), (q_p0_value, .inl (cJ, 4000, .inr (.inl f_p0_value)))]
def rm_Li_longNumber : Room := { frames := 0, cells := 0, slots := 0, locals := 0 }
def B_Li_longNumber_0 (fl : Nat) (i_p0_count : Int32) (i_p0_done : Int32) (f_p0_start : Nat → Int32) (f_p0_value : Nat → Int64) (x1 : Int32) : Option (Int64) := (if i_p0_count ≤ i_p0_done then (some 0) else (if x1 < (0 : Int32) then (some 0) else (if ¬ ((i_p0_done + (1 : Int32)) < 0 ∨ 65 ≤ Int32.toNatClampNeg (i_p0_done + (1 : Int32))) then (if ¬ (i_p0_done < 0 ∨ 65 ≤ Int32.toNatClampNeg i_p0_done) then (if x1 < ((f_p0_start (Int32.toNatClampNeg (i_p0_done + (1 : Int32)))) - (f_p0_start (Int32.toNatClampNeg i_p0_done))) then (if ¬ (i_p0_done < 0 ∨ 65 ≤ Int32.toNatClampNeg i_p0_done) then (if ¬ (((f_p0_start (Int32.toNatClampNeg i_p0_done)) + x1) < 0 ∨ 4000 ≤ Int32.toNatClampNeg ((f_p0_start (Int32.toNatClampNeg i_p0_done)) + x1)) then (some (f_p0_value (Int32.toNatClampNeg ((f_p0_start (Int32.toNatClampNeg i_p0_done)) + x1)))) else none) else none) else (some 0)) else none) else none)))
def m_Li_longNumber (fl : Nat) (i_p0_count : Int32) (i_p0_done : Int32) (f_p0_start : Nat → Int32) (f_p0_value : Nat → Int64) (x1 : Int32) : Option (Int64) := B_Li_longNumber_0 fl i_p0_count i_p0_done f_p0_start f_p0_value x1
set_option maxHeartbeats 4000000 in
set_option maxRecDepth 100000 in
theorem w_Li_longNumber_0 {p : Program} {l : Launch} {e : Env} {s : State} {m : MethodId} {args : Array Value} {below : List Frame} {meth : Method} {c : Code} {D : va_G} {cI cJ cB : ClassId} {A : Nat → Prop} (fl : Nat) (q_p0 : Nat) (q_p0_kind : Nat) (q_p0_start : Nat) (q_p0_value : Nat) (i_p0_count : Int32) (i_p0_done : Int32) (f_p0_start : Nat → Int32) (f_p0_value : Nat → Int64) (res : Int64) (C0 : vz_Cx p s m meth c b_Li_longNumber 2 (some .long) "LinkEngine$Lines" "longNumber" D [(cI, .int), (cJ, .long), (cB, .byte)] A args) : ∀ (x1 : Int32) (H : Heap) (locs : List Loc) (ls : Array Slot), B_Li_longNumber_0 fl i_p0_count i_p0_done f_p0_start f_p0_value x1 = some res → va_P D classes (ws_Li_longNumber cI cJ cB q_p0 q_p0_kind q_p0_start q_p0_value i_p0_count i_p0_done f_p0_start f_p0_value) H → va_D A (ws_Li_longNumber cI cJ cB q_p0 q_p0_kind q_p0_start q_p0_value i_p0_count i_p0_done f_p0_start f_p0_value) → va_S A s.heap H locs → lv_has ls 2 [(0, .ref q_p0), (1, .int x1)] → W p l e rm_Li_longNumber s m args below meth c H locs 0 0 (MQ below (va_Ql (fun (r : Int64) (w : va_W) => r = res ∧ w = (ws_Li_longNumber cI cJ cB q_p0 q_p0_kind q_p0_start q_p0_value i_p0_count i_p0_done f_p0_start f_p0_value)) (vz_B D A) A) args s 0 0 A) (F0 m 0 ls []) := by
  obtain ⟨hx, hb, hr, hml, hown, ht, hlocks, hin, hN, hK, hA⟩ := id C0
  intro x1 H locs ls hm hP hD hS hl
  unfold B_Li_longNumber_0 at hm
  refine lv_aload_n hx hb d_Li_longNumber_0 rfl (lv_at hl 0 rfl) ?_
  refine va_get (D := D) (ci := 1) (v := .int i_p0_done) (C := R_Li) (T := F_Li) (N := 5) hx hb ht i_Li hown hK hP 0 rfl rfl 4 (Nat.le_of_ble_eq_true rfl) (ht _ m_175) (fun _ h9 => h9) rfl d_Li_longNumber_1 ?_
  refine lv_aload_n hx hb d_Li_longNumber_4 rfl (lv_at hl 0 rfl) ?_
  refine va_get (D := D) (ci := 1) (v := .int i_p0_count) (C := R_Li) (T := F_Li) (N := 5) hx hb ht i_Li hown hK hP 0 rfl rfl 3 (Nat.le_of_ble_eq_true rfl) (ht _ m_174) (fun _ h9 => h9) rfl d_Li_longNumber_5 ?_
  refine lv_icmp_ge (tgt := 40) hx hb d_Li_longNumber_8 (by decide) (fun hc => ?_) (fun hc => ?_)
  · rw [if_pos hc] at hm
    refine lv_lconst (v := 0) hx hb d_Li_longNumber_40 (by decide) ?_
    obtain rfl := Option.some.inj hm
    exact vz_lret hx hb hr hlocks hP hD hS (Nat.le_refl _) (Nat.le_refl _) d_Li_longNumber_41 ⟨rfl, rfl⟩
  · rw [if_neg hc] at hm
    refine lv_iload_n hx hb d_Li_longNumber_11 rfl (lv_at hl 1 rfl) ?_
    refine lv_if_lt (tgt := 40) hx hb d_Li_longNumber_12 (by decide) (fun hc => ?_) (fun hc => ?_)
    · rw [if_pos hc] at hm
      refine lv_lconst (v := 0) hx hb d_Li_longNumber_40 (by decide) ?_
      obtain rfl := Option.some.inj hm
      exact vz_lret hx hb hr hlocks hP hD hS (Nat.le_refl _) (Nat.le_refl _) d_Li_longNumber_41 ⟨rfl, rfl⟩
    · rw [if_neg hc] at hm
      refine lv_iload_n hx hb d_Li_longNumber_15 rfl (lv_at hl 1 rfl) ?_
      refine lv_aload_n hx hb d_Li_longNumber_16 rfl (lv_at hl 0 rfl) ?_
      refine va_get (D := D) (ci := 1) (v := .ref q_p0_start) (C := R_Li) (T := F_Li) (N := 5) hx hb ht i_Li hown hK hP 0 rfl rfl 1 (Nat.le_of_ble_eq_true rfl) (ht _ m_5) (fun _ h9 => h9) rfl d_Li_longNumber_17 ?_
      refine lv_aload_n hx hb d_Li_longNumber_20 rfl (lv_at hl 0 rfl) ?_
      refine va_get (D := D) (ci := 1) (v := .int i_p0_done) (C := R_Li) (T := F_Li) (N := 5) hx hb ht i_Li hown hK hP 0 rfl rfl 4 (Nat.le_of_ble_eq_true rfl) (ht _ m_175) (fun _ h9 => h9) rfl d_Li_longNumber_21 ?_
      refine lv_iconst (v := 1) hx hb d_Li_longNumber_24 (by decide) ?_
      refine lv_iadd hx hb d_Li_longNumber_25 ?_
      obtain ⟨hg, hm⟩ := vz_guard hm
      refine va_iald hx hb hK hP 1 0 rfl rfl hg d_Li_longNumber_26 ?_
      refine lv_aload_n hx hb d_Li_longNumber_27 rfl (lv_at hl 0 rfl) ?_
      refine va_get (D := D) (ci := 1) (v := .ref q_p0_start) (C := R_Li) (T := F_Li) (N := 5) hx hb ht i_Li hown hK hP 0 rfl rfl 1 (Nat.le_of_ble_eq_true rfl) (ht _ m_5) (fun _ h9 => h9) rfl d_Li_longNumber_28 ?_
      refine lv_aload_n hx hb d_Li_longNumber_31 rfl (lv_at hl 0 rfl) ?_
      refine va_get (D := D) (ci := 1) (v := .int i_p0_done) (C := R_Li) (T := F_Li) (N := 5) hx hb ht i_Li hown hK hP 0 rfl rfl 4 (Nat.le_of_ble_eq_true rfl) (ht _ m_175) (fun _ h9 => h9) rfl d_Li_longNumber_32 ?_
      obtain ⟨hg, hm⟩ := vz_guard hm
      refine va_iald hx hb hK hP 1 0 rfl rfl hg d_Li_longNumber_35 ?_
      refine lv_isub hx hb d_Li_longNumber_36 ?_
      refine lv_icmp_lt (tgt := 42) hx hb d_Li_longNumber_37 (by decide) (fun hc => ?_) (fun hc => ?_)
      · rw [if_pos hc] at hm
        refine lv_aload_n hx hb d_Li_longNumber_42 rfl (lv_at hl 0 rfl) ?_
        refine va_get (D := D) (ci := 1) (v := .ref q_p0_value) (C := R_Li) (T := F_Li) (N := 5) hx hb ht i_Li hown hK hP 0 rfl rfl 2 (Nat.le_of_ble_eq_true rfl) (ht _ m_7) (fun _ h9 => h9) rfl d_Li_longNumber_43 ?_
        refine lv_aload_n hx hb d_Li_longNumber_46 rfl (lv_at hl 0 rfl) ?_
        refine va_get (D := D) (ci := 1) (v := .ref q_p0_start) (C := R_Li) (T := F_Li) (N := 5) hx hb ht i_Li hown hK hP 0 rfl rfl 1 (Nat.le_of_ble_eq_true rfl) (ht _ m_5) (fun _ h9 => h9) rfl d_Li_longNumber_47 ?_
        refine lv_aload_n hx hb d_Li_longNumber_50 rfl (lv_at hl 0 rfl) ?_
        refine va_get (D := D) (ci := 1) (v := .int i_p0_done) (C := R_Li) (T := F_Li) (N := 5) hx hb ht i_Li hown hK hP 0 rfl rfl 4 (Nat.le_of_ble_eq_true rfl) (ht _ m_175) (fun _ h9 => h9) rfl d_Li_longNumber_51 ?_
        obtain ⟨hg, hm⟩ := vz_guard hm
        refine va_iald hx hb hK hP 1 0 rfl rfl hg d_Li_longNumber_54 ?_
        refine lv_iload_n hx hb d_Li_longNumber_55 rfl (lv_at hl 1 rfl) ?_
        refine lv_iadd hx hb d_Li_longNumber_56 ?_
        obtain ⟨hg, hm⟩ := vz_guard hm
        refine va_lald hx hb hK hP 2 1 rfl rfl hg d_Li_longNumber_57 ?_
        obtain rfl := Option.some.inj hm
        exact vz_lret hx hb hr hlocks hP hD hS (Nat.le_refl _) (Nat.le_refl _) d_Li_longNumber_58 ⟨rfl, rfl⟩
      · rw [if_neg hc] at hm
        refine lv_lconst (v := 0) hx hb d_Li_longNumber_40 (by decide) ?_
        obtain rfl := Option.some.inj hm
        exact vz_lret hx hb hr hlocks hP hD hS (Nat.le_refl _) (Nat.le_refl _) d_Li_longNumber_41 ⟨rfl, rfl⟩
set_option maxHeartbeats 4000000 in
set_option maxRecDepth 100000 in
theorem k_Li_longNumber (l : Launch) (D : va_G) (cI cJ cB : ClassId) (fl : Nat) (q_p0 : Nat) (q_p0_kind : Nat) (q_p0_start : Nat) (q_p0_value : Nat) (i_p0_count : Int32) (i_p0_done : Int32) (f_p0_start : Nat → Int32) (f_p0_value : Nat → Int64) (x1 : Int32) (res : Int64) (hm : m_Li_longNumber fl i_p0_count i_p0_done f_p0_start f_p0_value x1 = some res) : MtL l y_Li_longNumber (.code y_Li_longNumber b_Li_longNumber 2 (some .long) :: CW) rm_Li_longNumber D [(cI, .int), (cJ, .long), (cB, .byte)] [.ref q_p0, .int x1] (ws_Li_longNumber cI cJ cB q_p0 q_p0_kind q_p0_start q_p0_value i_p0_count i_p0_done f_p0_start f_p0_value) (fun (r : Int64) (w : va_W) => r = res ∧ w = (ws_Li_longNumber cI cJ cB q_p0 q_p0_kind q_p0_start q_p0_value i_p0_count i_p0_done f_p0_start f_p0_value)) := by
  intro sz
  refine vz_start (Qc := fun A => va_Ql (fun (r : Int64) (w : va_W) => r = res ∧ w = (ws_Li_longNumber cI cJ cB q_p0 q_p0_kind q_p0_start q_p0_value i_p0_count i_p0_done f_p0_start f_p0_value)) (vz_B D A) A) (lv0 := [(0, .ref q_p0), (1, .int x1)]) (by decide +kernel) (Nat.le_of_ble_eq_true rfl) rfl ?_
  intro p e s m below meth c A ls C0 hl
  obtain ⟨hx, hb, hr, hml, hown, ht, hlocks, hin, hN, hK, hP, hD, hA, hS⟩ := C0
  exact w_Li_longNumber_0 fl q_p0 q_p0_kind q_p0_start q_p0_value i_p0_count i_p0_done f_p0_start f_p0_value res ⟨hx, hb, hr, hml, hown, ht, hlocks, hin, hN, hK, hA⟩ x1 s.heap [] ls hm hP hD hS (lv_sub hl [0, 1] rfl)
def ws_Pa_put (cI cJ cB : ClassId) (q_p0 : Nat) (q_p0_bytes : Nat) (q_p0_digits : Nat) (i_p0_size : Int32) (i_p0_overflown : Int32) (f_p0_bytes : Nat → Int32) : va_W := [(q_p0, .inr (3, [.ref q_p0_bytes, .ref q_p0_digits, .int i_p0_size, .int i_p0_overflown])), (q_p0_bytes, .inl (cI, 4000, .inl f_p0_bytes))]
def rm_Pa_put : Room := { frames := 0, cells := 0, slots := 0, locals := 0 }
def B_Pa_put_0 (fl : Nat) (x1 : Int32) (i_p0_size : Int32) (i_p0_overflown : Int32) (f_p0_bytes : Nat → Int32) : Option (Int32 × Int32 × (Nat → Int32)) := (if (4000 : Int32) ≤ i_p0_size then (some (i_p0_size, 1, f_p0_bytes)) else (if ¬ (i_p0_size < 0 ∨ 4000 ≤ Int32.toNatClampNeg i_p0_size) then (some ((i_p0_size + (1 : Int32)), i_p0_overflown, (upd f_p0_bytes (Int32.toNatClampNeg i_p0_size) x1))) else none))
def m_Pa_put (fl : Nat) (x1 : Int32) (i_p0_size : Int32) (i_p0_overflown : Int32) (f_p0_bytes : Nat → Int32) : Option (Int32 × Int32 × (Nat → Int32)) := B_Pa_put_0 fl  x1 i_p0_size i_p0_overflown f_p0_bytes
set_option maxHeartbeats 4000000 in
set_option maxRecDepth 100000 in
theorem w_Pa_put_0 {p : Program} {l : Launch} {e : Env} {s : State} {m : MethodId} {args : Array Value} {below : List Frame} {meth : Method} {c : Code} {D : va_G} {cI cJ cB : ClassId} {A : Nat → Prop} (fl : Nat) (q_p0 : Nat) (q_p0_bytes : Nat) (q_p0_digits : Nat)  (res : Int32 × Int32 × (Nat → Int32)) (C0 : vz_Cx p s m meth c b_Pa_put 2 none "LinkEngine$Paper" "put" D [(cI, .int), (cJ, .long), (cB, .byte)] A args) : ∀ (x1 : Int32) (i_p0_size : Int32) (i_p0_overflown : Int32) (f_p0_bytes : Nat → Int32) (H : Heap) (locs : List Loc) (ls : Array Slot), B_Pa_put_0 fl x1 i_p0_size i_p0_overflown f_p0_bytes = some res → va_P D classes (ws_Pa_put cI cJ cB q_p0 q_p0_bytes q_p0_digits i_p0_size i_p0_overflown f_p0_bytes) H → va_D A (ws_Pa_put cI cJ cB q_p0 q_p0_bytes q_p0_digits i_p0_size i_p0_overflown f_p0_bytes) → va_S A s.heap H locs → lv_has ls 2 [(0, .ref q_p0), (1, .int x1)] → W p l e rm_Pa_put s m args below meth c H locs 0 0 (MQ below (va_Qv (fun (w : va_W) => w = (ws_Pa_put cI cJ cB q_p0 q_p0_bytes q_p0_digits res.1 res.2.1 res.2.2)) (vz_B D A) A) args s 0 0 A) (F0 m 0 ls []) := by
  obtain ⟨hx, hb, hr, hml, hown, ht, hlocks, hin, hN, hK, hA⟩ := id C0
  intro x1 i_p0_size i_p0_overflown f_p0_bytes H locs ls hm hP hD hS hl
  unfold B_Pa_put_0 at hm
  refine lv_aload_n hx hb d_Pa_put_0 rfl (lv_at hl 0 rfl) ?_
  refine va_get (D := D) (ci := 3) (v := .int i_p0_size) (C := R_Pa) (T := F_Pa) (N := 4) hx hb ht i_Pa hown hK hP 0 rfl rfl 2 (Nat.le_of_ble_eq_true rfl) (ht _ m_333) (fun _ h9 => h9) rfl d_Pa_put_1 ?_
  refine lv_sipush (v := 4000) hx hb d_Pa_put_4 (by decide +kernel) ?_
  refine lv_icmp_ge (tgt := 33) hx hb d_Pa_put_7 (by decide) (fun hc => ?_) (fun hc => ?_)
  · rw [if_pos hc] at hm
    refine lv_aload_n hx hb d_Pa_put_33 rfl (lv_at hl 0 rfl) ?_
    refine lv_iconst (v := 1) hx hb d_Pa_put_34 (by decide) ?_
    refine va_put (D := D) (ci := 3) (v := .int 1) (ty := .boolean) (C := R_Pa) (T := F_Pa) (N := 4) hx hb ht i_Pa t_Pa t_Pa_ok n_Pa hown hK hP hD hS 0 rfl rfl 3 (Nat.le_of_ble_eq_true rfl) (ht _ m_334) (fun _ h9 => h9) rfl (by decide +kernel) rfl rfl (Nat.le_of_ble_eq_true rfl) d_Pa_put_35 (fun H locs hP hD hS => ?_)
    have hP : va_P D classes (ws_Pa_put cI cJ cB q_p0 q_p0_bytes q_p0_digits i_p0_size 1 f_p0_bytes) H := hP
    have hD : va_D A (ws_Pa_put cI cJ cB q_p0 q_p0_bytes q_p0_digits i_p0_size 1 f_p0_bytes) := hD
    obtain rfl := Option.some.inj hm
    exact vz_vret hx hb hr hlocks hP hD hS (Nat.le_refl _) (Nat.le_refl _) d_Pa_put_38 rfl
  · rw [if_neg hc] at hm
    refine lv_aload_n hx hb d_Pa_put_10 rfl (lv_at hl 0 rfl) ?_
    refine va_get (D := D) (ci := 3) (v := .ref q_p0_bytes) (C := R_Pa) (T := F_Pa) (N := 4) hx hb ht i_Pa hown hK hP 0 rfl rfl 0 (Nat.le_of_ble_eq_true rfl) (ht _ m_18) (fun _ h9 => h9) rfl d_Pa_put_11 ?_
    refine lv_aload_n hx hb d_Pa_put_14 rfl (lv_at hl 0 rfl) ?_
    refine va_get (D := D) (ci := 3) (v := .int i_p0_size) (C := R_Pa) (T := F_Pa) (N := 4) hx hb ht i_Pa hown hK hP 0 rfl rfl 2 (Nat.le_of_ble_eq_true rfl) (ht _ m_333) (fun _ h9 => h9) rfl d_Pa_put_15 ?_
    refine lv_iload_n hx hb d_Pa_put_18 rfl (lv_at hl 1 rfl) ?_
    obtain ⟨hg, hm⟩ := vz_guard hm
    refine va_iast hx hb hK hP hD hS 1 0 rfl rfl hg d_Pa_put_19 (fun H locs hP hD hS => ?_)
    have hP : va_P D classes (ws_Pa_put cI cJ cB q_p0 q_p0_bytes q_p0_digits i_p0_size i_p0_overflown (upd f_p0_bytes (Int32.toNatClampNeg i_p0_size) x1)) H := hP
    have hD : va_D A (ws_Pa_put cI cJ cB q_p0 q_p0_bytes q_p0_digits i_p0_size i_p0_overflown (upd f_p0_bytes (Int32.toNatClampNeg i_p0_size) x1)) := hD
    refine lv_aload_n hx hb d_Pa_put_20 rfl (lv_at hl 0 rfl) ?_
    refine lv_dup hx hb d_Pa_put_21 rfl ?_
    refine va_get (D := D) (ci := 3) (v := .int i_p0_size) (C := R_Pa) (T := F_Pa) (N := 4) hx hb ht i_Pa hown hK hP 0 rfl rfl 2 (Nat.le_of_ble_eq_true rfl) (ht _ m_333) (fun _ h9 => h9) rfl d_Pa_put_22 ?_
    refine lv_iconst (v := 1) hx hb d_Pa_put_25 (by decide) ?_
    refine lv_iadd hx hb d_Pa_put_26 ?_
    refine va_put (D := D) (ci := 3) (v := .int (i_p0_size + (1 : Int32))) (ty := .int) (C := R_Pa) (T := F_Pa) (N := 4) hx hb ht i_Pa t_Pa t_Pa_ok n_Pa hown hK hP hD hS 0 rfl rfl 2 (Nat.le_of_ble_eq_true rfl) (ht _ m_333) (fun _ h9 => h9) rfl (by decide +kernel) rfl rfl (Nat.le_of_ble_eq_true rfl) d_Pa_put_27 (fun H locs hP hD hS => ?_)
    have hP : va_P D classes (ws_Pa_put cI cJ cB q_p0 q_p0_bytes q_p0_digits (i_p0_size + (1 : Int32)) i_p0_overflown (upd f_p0_bytes (Int32.toNatClampNeg i_p0_size) x1)) H := hP
    have hD : va_D A (ws_Pa_put cI cJ cB q_p0 q_p0_bytes q_p0_digits (i_p0_size + (1 : Int32)) i_p0_overflown (upd f_p0_bytes (Int32.toNatClampNeg i_p0_size) x1)) := hD
    refine lv_goto (tgt := 38) hx hb d_Pa_put_30 (by decide) ?_
    obtain rfl := Option.some.inj hm
    exact vz_vret hx hb hr hlocks hP hD hS (Nat.le_refl _) (Nat.le_refl _) d_Pa_put_38 rfl
set_option maxHeartbeats 4000000 in
set_option maxRecDepth 100000 in
theorem k_Pa_put (l : Launch) (D : va_G) (cI cJ cB : ClassId) (fl : Nat) (q_p0 : Nat) (q_p0_bytes : Nat) (q_p0_digits : Nat) (i_p0_size : Int32) (i_p0_overflown : Int32) (f_p0_bytes : Nat → Int32) (x1 : Int32) (res : Int32 × Int32 × (Nat → Int32)) (hm : m_Pa_put fl x1 i_p0_size i_p0_overflown f_p0_bytes = some res) : MtV l y_Pa_put (.code y_Pa_put b_Pa_put 2 none :: CW) rm_Pa_put D [(cI, .int), (cJ, .long), (cB, .byte)] [.ref q_p0, .int x1] (ws_Pa_put cI cJ cB q_p0 q_p0_bytes q_p0_digits i_p0_size i_p0_overflown f_p0_bytes) (fun (w : va_W) => w = (ws_Pa_put cI cJ cB q_p0 q_p0_bytes q_p0_digits res.1 res.2.1 res.2.2)) := by
  intro sz
  refine vz_start (Qc := fun A => va_Qv (fun (w : va_W) => w = (ws_Pa_put cI cJ cB q_p0 q_p0_bytes q_p0_digits res.1 res.2.1 res.2.2)) (vz_B D A) A) (lv0 := [(0, .ref q_p0), (1, .int x1)]) (by decide +kernel) (Nat.le_of_ble_eq_true rfl) rfl ?_
  intro p e s m below meth c A ls C0 hl
  obtain ⟨hx, hb, hr, hml, hown, ht, hlocks, hin, hN, hK, hP, hD, hA, hS⟩ := C0
  exact w_Pa_put_0 fl q_p0 q_p0_bytes q_p0_digits  res ⟨hx, hb, hr, hml, hown, ht, hlocks, hin, hN, hK, hA⟩ x1 i_p0_size i_p0_overflown f_p0_bytes s.heap [] ls hm hP hD hS (lv_sub hl [0, 1] rfl)
def ws_Pa_putEnd (cI cJ cB : ClassId) (q_p0 : Nat) (q_p0_bytes : Nat) (q_p0_digits : Nat) (i_p0_size : Int32) (i_p0_overflown : Int32) (f_p0_bytes : Nat → Int32) : va_W := [(q_p0, .inr (3, [.ref q_p0_bytes, .ref q_p0_digits, .int i_p0_size, .int i_p0_overflown])), (q_p0_bytes, .inl (cI, 4000, .inl f_p0_bytes))]
def rm_Pa_putEnd : Room := { frames := 1, cells := 0, slots := 0, locals := 21 }
def B_Pa_putEnd_0 (fl : Nat) (i_p0_size : Int32) (i_p0_overflown : Int32) (f_p0_bytes : Nat → Int32) : Option (Int32 × Int32 × (Nat → Int32)) := ((m_Pa_put fl 10 i_p0_size i_p0_overflown f_p0_bytes).bind fun o0 => (some (o0.1, o0.2.1, o0.2.2)))
def m_Pa_putEnd (fl : Nat) (i_p0_size : Int32) (i_p0_overflown : Int32) (f_p0_bytes : Nat → Int32) : Option (Int32 × Int32 × (Nat → Int32)) := B_Pa_putEnd_0 fl  i_p0_size i_p0_overflown f_p0_bytes
set_option maxHeartbeats 4000000 in
set_option maxRecDepth 100000 in
theorem w_Pa_putEnd_0 {p : Program} {l : Launch} {e : Env} {s : State} {m : MethodId} {args : Array Value} {below : List Frame} {meth : Method} {c : Code} {D : va_G} {cI cJ cB : ClassId} {A : Nat → Prop} (fl : Nat) (q_p0 : Nat) (q_p0_bytes : Nat) (q_p0_digits : Nat)  (res : Int32 × Int32 × (Nat → Int32)) (C0 : vz_Cx p s m meth c b_Pa_putEnd 1 none "LinkEngine$Paper" "putEnd" D [(cI, .int), (cJ, .long), (cB, .byte)] A args) : ∀ (i_p0_size : Int32) (i_p0_overflown : Int32) (f_p0_bytes : Nat → Int32) (H : Heap) (locs : List Loc) (ls : Array Slot), B_Pa_putEnd_0 fl i_p0_size i_p0_overflown f_p0_bytes = some res → va_P D classes (ws_Pa_putEnd cI cJ cB q_p0 q_p0_bytes q_p0_digits i_p0_size i_p0_overflown f_p0_bytes) H → va_D A (ws_Pa_putEnd cI cJ cB q_p0 q_p0_bytes q_p0_digits i_p0_size i_p0_overflown f_p0_bytes) → va_S A s.heap H locs → lv_has ls 1 [(0, .ref q_p0)] → W p l e rm_Pa_putEnd s m args below meth c H locs 0 0 (MQ below (va_Qv (fun (w : va_W) => w = (ws_Pa_putEnd cI cJ cB q_p0 q_p0_bytes q_p0_digits res.1 res.2.1 res.2.2)) (vz_B D A) A) args s 0 0 A) (F0 m 0 ls []) := by
  obtain ⟨hx, hb, hr, hml, hown, ht, hlocks, hin, hN, hK, hA⟩ := id C0
  intro i_p0_size i_p0_overflown f_p0_bytes H locs ls hm hP hD hS hl
  unfold B_Pa_putEnd_0 at hm
  refine lv_aload_n hx hb d_Pa_putEnd_0 rfl (lv_at hl 0 rfl) ?_
  refine lv_bipush (v := 10) hx hb d_Pa_putEnd_1 (by decide +kernel) ?_
  obtain ⟨o0, ho0, hm⟩ := vz_bind hm
  try dsimp only at hm
  refine vz_callVv (n := 1) (As := [.int 10]) (rest := []) (wc := (ws_Pa_put cI cJ cB q_p0 q_p0_bytes q_p0_digits i_p0_size i_p0_overflown f_p0_bytes)) (wr := []) (k1 := 0) (n1 := 0) hx hb hml hown ht hN hK hP hD hS hA (k_Pa_put l D cI cJ cB fl q_p0 q_p0_bytes q_p0_digits i_p0_size i_p0_overflown f_p0_bytes 10 o0 ho0) m_338 m_69 m_335 m_336 m_337 (hc := (rfl : classes[3]? = some (R_Pa, F_Pa, 4))) 0 rfl (by decide +kernel) ⟨Nat.le_of_ble_eq_true rfl, Nat.le_of_ble_eq_true rfl⟩ [0, 1] [] rfl rfl (by decide) (by decide) (by decide) rfl hl.1 rfl (Nat.le_of_ble_eq_true rfl) rfl rfl ⟨Nat.zero_le _, Nat.zero_le _⟩ d_Pa_putEnd_3 (fun w1 H locs hw hP hD hS => ?_)
  subst hw
  have hP : va_P D classes (ws_Pa_putEnd cI cJ cB q_p0 q_p0_bytes q_p0_digits o0.1 o0.2.1 o0.2.2) H := hP.sub [0, 1] rfl
  have hD : va_D A (ws_Pa_putEnd cI cJ cB q_p0 q_p0_bytes q_p0_digits o0.1 o0.2.1 o0.2.2) := hD.sub [0, 1] (by decide) rfl
  obtain rfl := Option.some.inj hm
  exact vz_vret hx hb hr hlocks hP hD hS (Nat.le_refl _) (Nat.le_refl _) d_Pa_putEnd_6 rfl
set_option maxHeartbeats 4000000 in
set_option maxRecDepth 100000 in
theorem k_Pa_putEnd (l : Launch) (D : va_G) (cI cJ cB : ClassId) (fl : Nat) (q_p0 : Nat) (q_p0_bytes : Nat) (q_p0_digits : Nat) (i_p0_size : Int32) (i_p0_overflown : Int32) (f_p0_bytes : Nat → Int32)  (res : Int32 × Int32 × (Nat → Int32)) (hm : m_Pa_putEnd fl i_p0_size i_p0_overflown f_p0_bytes = some res) : MtV l y_Pa_putEnd (.code y_Pa_putEnd b_Pa_putEnd 1 none :: CW) rm_Pa_putEnd D [(cI, .int), (cJ, .long), (cB, .byte)] [.ref q_p0] (ws_Pa_putEnd cI cJ cB q_p0 q_p0_bytes q_p0_digits i_p0_size i_p0_overflown f_p0_bytes) (fun (w : va_W) => w = (ws_Pa_putEnd cI cJ cB q_p0 q_p0_bytes q_p0_digits res.1 res.2.1 res.2.2)) := by
  intro sz
  refine vz_start (Qc := fun A => va_Qv (fun (w : va_W) => w = (ws_Pa_putEnd cI cJ cB q_p0 q_p0_bytes q_p0_digits res.1 res.2.1 res.2.2)) (vz_B D A) A) (lv0 := [(0, .ref q_p0)]) (by decide +kernel) (Nat.le_of_ble_eq_true rfl) rfl ?_
  intro p e s m below meth c A ls C0 hl
  obtain ⟨hx, hb, hr, hml, hown, ht, hlocks, hin, hN, hK, hP, hD, hA, hS⟩ := C0
  exact w_Pa_putEnd_0 fl q_p0 q_p0_bytes q_p0_digits  res ⟨hx, hb, hr, hml, hown, ht, hlocks, hin, hN, hK, hA⟩ i_p0_size i_p0_overflown f_p0_bytes s.heap [] ls hm hP hD hS (lv_sub hl [0] rfl)
def ws_Sh_clear (cI cJ cB : ClassId) (q_p0 : Nat) (q_p0_key : Nat) (q_p0_name : Nat) (q_p0_from : Nat) (q_p0_to : Nat) (q_p0_edgeAt : Nat) (q_p0_componentOf : Nat) (q_p0_arcOf : Nat) (q_p0_pieceOf : Nat) (q_p0_faceOf : Nat) (q_p0_faceStart : Nat) (q_p0_faceSize : Nat) (q_p0_scratch : Nat) (i_p0_edges : Int32) (i_p0_components : Int32) (i_p0_pieces : Int32) (i_p0_faces : Int32) (i_p0_brokenRule : Int32) (i_p0_culprit : Int32) : va_W := [(q_p0, .inr (5, [.ref q_p0_key, .ref q_p0_name, .ref q_p0_from, .ref q_p0_to, .ref q_p0_edgeAt, .ref q_p0_componentOf, .ref q_p0_arcOf, .ref q_p0_pieceOf, .ref q_p0_faceOf, .ref q_p0_faceStart, .ref q_p0_faceSize, .ref q_p0_scratch, .int i_p0_edges, .int i_p0_components, .int i_p0_pieces, .int i_p0_faces, .int i_p0_brokenRule, .int i_p0_culprit]))]
def rm_Sh_clear : Room := { frames := 0, cells := 0, slots := 0, locals := 0 }
def B_Sh_clear_0 (fl : Nat) (i_p0_edges : Int32) (i_p0_components : Int32) (i_p0_pieces : Int32) (i_p0_faces : Int32) (i_p0_brokenRule : Int32) (i_p0_culprit : Int32) : Option (Int32 × Int32 × Int32 × Int32 × Int32 × Int32) := (some (0, 0, 0, 0, 0, 0))
def m_Sh_clear (fl : Nat) (i_p0_edges : Int32) (i_p0_components : Int32) (i_p0_pieces : Int32) (i_p0_faces : Int32) (i_p0_brokenRule : Int32) (i_p0_culprit : Int32) : Option (Int32 × Int32 × Int32 × Int32 × Int32 × Int32) := B_Sh_clear_0 fl  i_p0_edges i_p0_components i_p0_pieces i_p0_faces i_p0_brokenRule i_p0_culprit
set_option maxHeartbeats 4000000 in
set_option maxRecDepth 100000 in
theorem w_Sh_clear_0 {p : Program} {l : Launch} {e : Env} {s : State} {m : MethodId} {args : Array Value} {below : List Frame} {meth : Method} {c : Code} {D : va_G} {cI cJ cB : ClassId} {A : Nat → Prop} (fl : Nat) (q_p0 : Nat) (q_p0_key : Nat) (q_p0_name : Nat) (q_p0_from : Nat) (q_p0_to : Nat) (q_p0_edgeAt : Nat) (q_p0_componentOf : Nat) (q_p0_arcOf : Nat) (q_p0_pieceOf : Nat) (q_p0_faceOf : Nat) (q_p0_faceStart : Nat) (q_p0_faceSize : Nat) (q_p0_scratch : Nat)  (res : Int32 × Int32 × Int32 × Int32 × Int32 × Int32) (C0 : vz_Cx p s m meth c b_Sh_clear 1 none "LinkEngine$Shape" "clear" D [(cI, .int), (cJ, .long), (cB, .byte)] A args) : ∀ (i_p0_edges : Int32) (i_p0_components : Int32) (i_p0_pieces : Int32) (i_p0_faces : Int32) (i_p0_brokenRule : Int32) (i_p0_culprit : Int32) (H : Heap) (locs : List Loc) (ls : Array Slot), B_Sh_clear_0 fl i_p0_edges i_p0_components i_p0_pieces i_p0_faces i_p0_brokenRule i_p0_culprit = some res → va_P D classes (ws_Sh_clear cI cJ cB q_p0 q_p0_key q_p0_name q_p0_from q_p0_to q_p0_edgeAt q_p0_componentOf q_p0_arcOf q_p0_pieceOf q_p0_faceOf q_p0_faceStart q_p0_faceSize q_p0_scratch i_p0_edges i_p0_components i_p0_pieces i_p0_faces i_p0_brokenRule i_p0_culprit) H → va_D A (ws_Sh_clear cI cJ cB q_p0 q_p0_key q_p0_name q_p0_from q_p0_to q_p0_edgeAt q_p0_componentOf q_p0_arcOf q_p0_pieceOf q_p0_faceOf q_p0_faceStart q_p0_faceSize q_p0_scratch i_p0_edges i_p0_components i_p0_pieces i_p0_faces i_p0_brokenRule i_p0_culprit) → va_S A s.heap H locs → lv_has ls 1 [(0, .ref q_p0)] → W p l e rm_Sh_clear s m args below meth c H locs 0 0 (MQ below (va_Qv (fun (w : va_W) => w = (ws_Sh_clear cI cJ cB q_p0 q_p0_key q_p0_name q_p0_from q_p0_to q_p0_edgeAt q_p0_componentOf q_p0_arcOf q_p0_pieceOf q_p0_faceOf q_p0_faceStart q_p0_faceSize q_p0_scratch res.1 res.2.1 res.2.2.1 res.2.2.2.1 res.2.2.2.2.1 res.2.2.2.2.2)) (vz_B D A) A) args s 0 0 A) (F0 m 0 ls []) := by
  obtain ⟨hx, hb, hr, hml, hown, ht, hlocks, hin, hN, hK, hA⟩ := id C0
  intro i_p0_edges i_p0_components i_p0_pieces i_p0_faces i_p0_brokenRule i_p0_culprit H locs ls hm hP hD hS hl
  unfold B_Sh_clear_0 at hm
  refine lv_aload_n hx hb d_Sh_clear_0 rfl (lv_at hl 0 rfl) ?_
  refine lv_iconst (v := 0) hx hb d_Sh_clear_1 (by decide) ?_
  refine va_put (D := D) (ci := 5) (v := .int 0) (ty := .int) (C := R_Sh) (T := F_Sh) (N := 18) hx hb ht i_Sh t_Sh t_Sh_ok n_Sh hown hK hP hD hS 0 rfl rfl 12 (Nat.le_of_ble_eq_true rfl) (ht _ m_219) (fun _ h9 => h9) rfl (by decide +kernel) rfl rfl (Nat.le_of_ble_eq_true rfl) d_Sh_clear_2 (fun H locs hP hD hS => ?_)
  have hP : va_P D classes (ws_Sh_clear cI cJ cB q_p0 q_p0_key q_p0_name q_p0_from q_p0_to q_p0_edgeAt q_p0_componentOf q_p0_arcOf q_p0_pieceOf q_p0_faceOf q_p0_faceStart q_p0_faceSize q_p0_scratch 0 i_p0_components i_p0_pieces i_p0_faces i_p0_brokenRule i_p0_culprit) H := hP
  have hD : va_D A (ws_Sh_clear cI cJ cB q_p0 q_p0_key q_p0_name q_p0_from q_p0_to q_p0_edgeAt q_p0_componentOf q_p0_arcOf q_p0_pieceOf q_p0_faceOf q_p0_faceStart q_p0_faceSize q_p0_scratch 0 i_p0_components i_p0_pieces i_p0_faces i_p0_brokenRule i_p0_culprit) := hD
  refine lv_aload_n hx hb d_Sh_clear_5 rfl (lv_at hl 0 rfl) ?_
  refine lv_iconst (v := 0) hx hb d_Sh_clear_6 (by decide) ?_
  refine va_put (D := D) (ci := 5) (v := .int 0) (ty := .int) (C := R_Sh) (T := F_Sh) (N := 18) hx hb ht i_Sh t_Sh t_Sh_ok n_Sh hown hK hP hD hS 0 rfl rfl 13 (Nat.le_of_ble_eq_true rfl) (ht _ m_220) (fun _ h9 => h9) rfl (by decide +kernel) rfl rfl (Nat.le_of_ble_eq_true rfl) d_Sh_clear_7 (fun H locs hP hD hS => ?_)
  have hP : va_P D classes (ws_Sh_clear cI cJ cB q_p0 q_p0_key q_p0_name q_p0_from q_p0_to q_p0_edgeAt q_p0_componentOf q_p0_arcOf q_p0_pieceOf q_p0_faceOf q_p0_faceStart q_p0_faceSize q_p0_scratch 0 0 i_p0_pieces i_p0_faces i_p0_brokenRule i_p0_culprit) H := hP
  have hD : va_D A (ws_Sh_clear cI cJ cB q_p0 q_p0_key q_p0_name q_p0_from q_p0_to q_p0_edgeAt q_p0_componentOf q_p0_arcOf q_p0_pieceOf q_p0_faceOf q_p0_faceStart q_p0_faceSize q_p0_scratch 0 0 i_p0_pieces i_p0_faces i_p0_brokenRule i_p0_culprit) := hD
  refine lv_aload_n hx hb d_Sh_clear_10 rfl (lv_at hl 0 rfl) ?_
  refine lv_iconst (v := 0) hx hb d_Sh_clear_11 (by decide) ?_
  refine va_put (D := D) (ci := 5) (v := .int 0) (ty := .int) (C := R_Sh) (T := F_Sh) (N := 18) hx hb ht i_Sh t_Sh t_Sh_ok n_Sh hown hK hP hD hS 0 rfl rfl 14 (Nat.le_of_ble_eq_true rfl) (ht _ m_221) (fun _ h9 => h9) rfl (by decide +kernel) rfl rfl (Nat.le_of_ble_eq_true rfl) d_Sh_clear_12 (fun H locs hP hD hS => ?_)
  have hP : va_P D classes (ws_Sh_clear cI cJ cB q_p0 q_p0_key q_p0_name q_p0_from q_p0_to q_p0_edgeAt q_p0_componentOf q_p0_arcOf q_p0_pieceOf q_p0_faceOf q_p0_faceStart q_p0_faceSize q_p0_scratch 0 0 0 i_p0_faces i_p0_brokenRule i_p0_culprit) H := hP
  have hD : va_D A (ws_Sh_clear cI cJ cB q_p0 q_p0_key q_p0_name q_p0_from q_p0_to q_p0_edgeAt q_p0_componentOf q_p0_arcOf q_p0_pieceOf q_p0_faceOf q_p0_faceStart q_p0_faceSize q_p0_scratch 0 0 0 i_p0_faces i_p0_brokenRule i_p0_culprit) := hD
  refine lv_aload_n hx hb d_Sh_clear_15 rfl (lv_at hl 0 rfl) ?_
  refine lv_iconst (v := 0) hx hb d_Sh_clear_16 (by decide) ?_
  refine va_put (D := D) (ci := 5) (v := .int 0) (ty := .int) (C := R_Sh) (T := F_Sh) (N := 18) hx hb ht i_Sh t_Sh t_Sh_ok n_Sh hown hK hP hD hS 0 rfl rfl 15 (Nat.le_of_ble_eq_true rfl) (ht _ m_222) (fun _ h9 => h9) rfl (by decide +kernel) rfl rfl (Nat.le_of_ble_eq_true rfl) d_Sh_clear_17 (fun H locs hP hD hS => ?_)
  have hP : va_P D classes (ws_Sh_clear cI cJ cB q_p0 q_p0_key q_p0_name q_p0_from q_p0_to q_p0_edgeAt q_p0_componentOf q_p0_arcOf q_p0_pieceOf q_p0_faceOf q_p0_faceStart q_p0_faceSize q_p0_scratch 0 0 0 0 i_p0_brokenRule i_p0_culprit) H := hP
  have hD : va_D A (ws_Sh_clear cI cJ cB q_p0 q_p0_key q_p0_name q_p0_from q_p0_to q_p0_edgeAt q_p0_componentOf q_p0_arcOf q_p0_pieceOf q_p0_faceOf q_p0_faceStart q_p0_faceSize q_p0_scratch 0 0 0 0 i_p0_brokenRule i_p0_culprit) := hD
  refine lv_aload_n hx hb d_Sh_clear_20 rfl (lv_at hl 0 rfl) ?_
  refine lv_iconst (v := 0) hx hb d_Sh_clear_21 (by decide) ?_
  refine va_put (D := D) (ci := 5) (v := .int 0) (ty := .int) (C := R_Sh) (T := F_Sh) (N := 18) hx hb ht i_Sh t_Sh t_Sh_ok n_Sh hown hK hP hD hS 0 rfl rfl 16 (Nat.le_of_ble_eq_true rfl) (ht _ m_223) (fun _ h9 => h9) rfl (by decide +kernel) rfl rfl (Nat.le_of_ble_eq_true rfl) d_Sh_clear_22 (fun H locs hP hD hS => ?_)
  have hP : va_P D classes (ws_Sh_clear cI cJ cB q_p0 q_p0_key q_p0_name q_p0_from q_p0_to q_p0_edgeAt q_p0_componentOf q_p0_arcOf q_p0_pieceOf q_p0_faceOf q_p0_faceStart q_p0_faceSize q_p0_scratch 0 0 0 0 0 i_p0_culprit) H := hP
  have hD : va_D A (ws_Sh_clear cI cJ cB q_p0 q_p0_key q_p0_name q_p0_from q_p0_to q_p0_edgeAt q_p0_componentOf q_p0_arcOf q_p0_pieceOf q_p0_faceOf q_p0_faceStart q_p0_faceSize q_p0_scratch 0 0 0 0 0 i_p0_culprit) := hD
  refine lv_aload_n hx hb d_Sh_clear_25 rfl (lv_at hl 0 rfl) ?_
  refine lv_iconst (v := 0) hx hb d_Sh_clear_26 (by decide) ?_
  refine va_put (D := D) (ci := 5) (v := .int 0) (ty := .int) (C := R_Sh) (T := F_Sh) (N := 18) hx hb ht i_Sh t_Sh t_Sh_ok n_Sh hown hK hP hD hS 0 rfl rfl 17 (Nat.le_of_ble_eq_true rfl) (ht _ m_224) (fun _ h9 => h9) rfl (by decide +kernel) rfl rfl (Nat.le_of_ble_eq_true rfl) d_Sh_clear_27 (fun H locs hP hD hS => ?_)
  have hP : va_P D classes (ws_Sh_clear cI cJ cB q_p0 q_p0_key q_p0_name q_p0_from q_p0_to q_p0_edgeAt q_p0_componentOf q_p0_arcOf q_p0_pieceOf q_p0_faceOf q_p0_faceStart q_p0_faceSize q_p0_scratch 0 0 0 0 0 0) H := hP
  have hD : va_D A (ws_Sh_clear cI cJ cB q_p0 q_p0_key q_p0_name q_p0_from q_p0_to q_p0_edgeAt q_p0_componentOf q_p0_arcOf q_p0_pieceOf q_p0_faceOf q_p0_faceStart q_p0_faceSize q_p0_scratch 0 0 0 0 0 0) := hD
  obtain rfl := Option.some.inj hm
  exact vz_vret hx hb hr hlocks hP hD hS (Nat.le_refl _) (Nat.le_refl _) d_Sh_clear_30 rfl
set_option maxHeartbeats 4000000 in
set_option maxRecDepth 100000 in
theorem k_Sh_clear (l : Launch) (D : va_G) (cI cJ cB : ClassId) (fl : Nat) (q_p0 : Nat) (q_p0_key : Nat) (q_p0_name : Nat) (q_p0_from : Nat) (q_p0_to : Nat) (q_p0_edgeAt : Nat) (q_p0_componentOf : Nat) (q_p0_arcOf : Nat) (q_p0_pieceOf : Nat) (q_p0_faceOf : Nat) (q_p0_faceStart : Nat) (q_p0_faceSize : Nat) (q_p0_scratch : Nat) (i_p0_edges : Int32) (i_p0_components : Int32) (i_p0_pieces : Int32) (i_p0_faces : Int32) (i_p0_brokenRule : Int32) (i_p0_culprit : Int32)  (res : Int32 × Int32 × Int32 × Int32 × Int32 × Int32) (hm : m_Sh_clear fl i_p0_edges i_p0_components i_p0_pieces i_p0_faces i_p0_brokenRule i_p0_culprit = some res) : MtV l y_Sh_clear (.code y_Sh_clear b_Sh_clear 1 none :: CW) rm_Sh_clear D [(cI, .int), (cJ, .long), (cB, .byte)] [.ref q_p0] (ws_Sh_clear cI cJ cB q_p0 q_p0_key q_p0_name q_p0_from q_p0_to q_p0_edgeAt q_p0_componentOf q_p0_arcOf q_p0_pieceOf q_p0_faceOf q_p0_faceStart q_p0_faceSize q_p0_scratch i_p0_edges i_p0_components i_p0_pieces i_p0_faces i_p0_brokenRule i_p0_culprit) (fun (w : va_W) => w = (ws_Sh_clear cI cJ cB q_p0 q_p0_key q_p0_name q_p0_from q_p0_to q_p0_edgeAt q_p0_componentOf q_p0_arcOf q_p0_pieceOf q_p0_faceOf q_p0_faceStart q_p0_faceSize q_p0_scratch res.1 res.2.1 res.2.2.1 res.2.2.2.1 res.2.2.2.2.1 res.2.2.2.2.2)) := by
  intro sz
  refine vz_start (Qc := fun A => va_Qv (fun (w : va_W) => w = (ws_Sh_clear cI cJ cB q_p0 q_p0_key q_p0_name q_p0_from q_p0_to q_p0_edgeAt q_p0_componentOf q_p0_arcOf q_p0_pieceOf q_p0_faceOf q_p0_faceStart q_p0_faceSize q_p0_scratch res.1 res.2.1 res.2.2.1 res.2.2.2.1 res.2.2.2.2.1 res.2.2.2.2.2)) (vz_B D A) A) (lv0 := [(0, .ref q_p0)]) (by decide +kernel) (Nat.le_of_ble_eq_true rfl) rfl ?_
  intro p e s m below meth c A ls C0 hl
  obtain ⟨hx, hb, hr, hml, hown, ht, hlocks, hin, hN, hK, hP, hD, hA, hS⟩ := C0
  exact w_Sh_clear_0 fl q_p0 q_p0_key q_p0_name q_p0_from q_p0_to q_p0_edgeAt q_p0_componentOf q_p0_arcOf q_p0_pieceOf q_p0_faceOf q_p0_faceStart q_p0_faceSize q_p0_scratch  res ⟨hx, hb, hr, hml, hown, ht, hlocks, hin, hN, hK, hA⟩ i_p0_edges i_p0_components i_p0_pieces i_p0_faces i_p0_brokenRule i_p0_culprit s.heap [] ls hm hP hD hS (lv_sub hl [0] rfl)
def ws_Sh_sortPlaces (cI cJ cB : ClassId) (q_p0 : Nat) (q_p0_key : Nat) (q_p0_name : Nat) (q_p0_from : Nat) (q_p0_to : Nat) (q_p0_edgeAt : Nat) (q_p0_componentOf : Nat) (q_p0_arcOf : Nat) (q_p0_pieceOf : Nat) (q_p0_faceOf : Nat) (q_p0_faceStart : Nat) (q_p0_faceSize : Nat) (q_p0_scratch : Nat) (q_p1 : Nat) (q_p1_sign : Nat) (q_p1_label : Nat) (q_p1_shape : Nat) (i_p0_edges : Int32) (i_p0_components : Int32) (i_p0_pieces : Int32) (i_p0_faces : Int32) (i_p0_brokenRule : Int32) (i_p0_culprit : Int32) (f_p0_key : Nat → Int32) (i_p1_count : Int32) (i_p1_circles : Int32) (i_p1_shapeIsKnown : Int32) (f_p1_label : Nat → Int32) : va_W := [(q_p0, .inr (5, [.ref q_p0_key, .ref q_p0_name, .ref q_p0_from, .ref q_p0_to, .ref q_p0_edgeAt, .ref q_p0_componentOf, .ref q_p0_arcOf, .ref q_p0_pieceOf, .ref q_p0_faceOf, .ref q_p0_faceStart, .ref q_p0_faceSize, .ref q_p0_scratch, .int i_p0_edges, .int i_p0_components, .int i_p0_pieces, .int i_p0_faces, .int i_p0_brokenRule, .int i_p0_culprit])), (q_p0_key, .inl (cI, 80, .inl f_p0_key)), (q_p1, .inr (4, [.ref q_p1_sign, .ref q_p1_label, .ref q_p1_shape, .int i_p1_count, .int i_p1_circles, .int i_p1_shapeIsKnown])), (q_p1_label, .inl (cI, 80, .inl f_p1_label))]
def rm_Sh_sortPlaces : Room := { frames := 0, cells := 0, slots := 0, locals := 0 }
def B_Sh_sortPlaces_67 (fl : Nat) (i_p1_count : Int32) (f_p1_label : Nat → Int32) (kb_2 : Int32 → (Nat → Int32) → Option ((Nat → Int32))) (x2 : Int32) (x3 : Int32) (x4 : Int32) (f_p0_key : Nat → Int32) : Option ((Nat → Int32)) := (if ¬ (x4 < 0 ∨ 80 ≤ Int32.toNatClampNeg x4) then kb_2 (x2 + 1) (upd f_p0_key (Int32.toNatClampNeg x4) x3) else none)
def B_Sh_sortPlaces_27 (fl : Nat) (i_p1_count : Int32) (f_p1_label : Nat → Int32) (kb_2 : Int32 → (Nat → Int32) → Option ((Nat → Int32))) : Nat → Int32 → Int32 → Int32 → (Nat → Int32) → Option ((Nat → Int32))
  | 0, _, _, _, _ => none
  | nn + 1, x2, x3, x4, f_p0_key => (if x4 ≤ (0 : Int32) then B_Sh_sortPlaces_67 fl i_p1_count f_p1_label kb_2 x2 x3 x4 f_p0_key else (if ¬ ((x4 - (1 : Int32)) < 0 ∨ 80 ≤ Int32.toNatClampNeg (x4 - (1 : Int32))) then (if (f_p0_key (Int32.toNatClampNeg (x4 - (1 : Int32)))) ≤ x3 then B_Sh_sortPlaces_67 fl i_p1_count f_p1_label kb_2 x2 x3 x4 f_p0_key else (if ¬ ((x4 - (1 : Int32)) < 0 ∨ 80 ≤ Int32.toNatClampNeg (x4 - (1 : Int32))) then (if ¬ (x4 < 0 ∨ 80 ≤ Int32.toNatClampNeg x4) then B_Sh_sortPlaces_27 fl i_p1_count f_p1_label kb_2 nn x2 x3 (x4 + (-1)) (upd f_p0_key (Int32.toNatClampNeg x4) (f_p0_key (Int32.toNatClampNeg (x4 - (1 : Int32))))) else none) else none)) else none))
def B_Sh_sortPlaces_2 (fl : Nat) (i_p1_count : Int32) (f_p1_label : Nat → Int32) : Nat → Int32 → (Nat → Int32) → Option ((Nat → Int32))
  | 0, _, _ => none
  | nn + 1, x2, f_p0_key => (if ((4 : Int32) * i_p1_count) ≤ x2 then (some f_p0_key) else (if ¬ (x2 < 0 ∨ 80 ≤ Int32.toNatClampNeg x2) then B_Sh_sortPlaces_27 fl i_p1_count f_p1_label (B_Sh_sortPlaces_2 fl i_p1_count f_p1_label nn) fl x2 (((f_p1_label (Int32.toNatClampNeg x2)) <<< ((7 : Int32) &&& 31)) ||| x2) x2 f_p0_key else none))
def B_Sh_sortPlaces_0 (fl : Nat) (i_p1_count : Int32) (f_p1_label : Nat → Int32) (f_p0_key : Nat → Int32) : Option ((Nat → Int32)) := B_Sh_sortPlaces_2 fl i_p1_count f_p1_label fl 0 f_p0_key
def m_Sh_sortPlaces (fl : Nat) (i_p1_count : Int32) (f_p1_label : Nat → Int32) (f_p0_key : Nat → Int32) : Option ((Nat → Int32)) := B_Sh_sortPlaces_0 fl i_p1_count f_p1_label f_p0_key
set_option maxHeartbeats 4000000 in
set_option maxRecDepth 100000 in
theorem w_Sh_sortPlaces_67 {p : Program} {l : Launch} {e : Env} {s : State} {m : MethodId} {args : Array Value} {below : List Frame} {meth : Method} {c : Code} {D : va_G} {cI cJ cB : ClassId} {A : Nat → Prop} (fl : Nat) (q_p0 : Nat) (q_p0_key : Nat) (q_p0_name : Nat) (q_p0_from : Nat) (q_p0_to : Nat) (q_p0_edgeAt : Nat) (q_p0_componentOf : Nat) (q_p0_arcOf : Nat) (q_p0_pieceOf : Nat) (q_p0_faceOf : Nat) (q_p0_faceStart : Nat) (q_p0_faceSize : Nat) (q_p0_scratch : Nat) (q_p1 : Nat) (q_p1_sign : Nat) (q_p1_label : Nat) (q_p1_shape : Nat) (i_p1_count : Int32) (f_p1_label : Nat → Int32) (i_p0_edges : Int32) (i_p0_components : Int32) (i_p0_pieces : Int32) (i_p0_faces : Int32) (i_p0_brokenRule : Int32) (i_p0_culprit : Int32) (i_p1_circles : Int32) (i_p1_shapeIsKnown : Int32) (res : (Nat → Int32)) (C0 : vz_Cx p s m meth c b_Sh_sortPlaces 5 none "LinkEngine$Shape" "sortPlaces" D [(cI, .int), (cJ, .long), (cB, .byte)] A args) (kb_2 : Int32 → (Nat → Int32) → Option ((Nat → Int32))) (hk_2 : ∀ (x2 : Int32) (f_p0_key : Nat → Int32) (H : Heap) (locs : List Loc) (ls : Array Slot), kb_2 x2 f_p0_key = some res → va_P D classes (ws_Sh_sortPlaces cI cJ cB q_p0 q_p0_key q_p0_name q_p0_from q_p0_to q_p0_edgeAt q_p0_componentOf q_p0_arcOf q_p0_pieceOf q_p0_faceOf q_p0_faceStart q_p0_faceSize q_p0_scratch q_p1 q_p1_sign q_p1_label q_p1_shape i_p0_edges i_p0_components i_p0_pieces i_p0_faces i_p0_brokenRule i_p0_culprit f_p0_key i_p1_count i_p1_circles i_p1_shapeIsKnown f_p1_label) H → va_D A (ws_Sh_sortPlaces cI cJ cB q_p0 q_p0_key q_p0_name q_p0_from q_p0_to q_p0_edgeAt q_p0_componentOf q_p0_arcOf q_p0_pieceOf q_p0_faceOf q_p0_faceStart q_p0_faceSize q_p0_scratch q_p1 q_p1_sign q_p1_label q_p1_shape i_p0_edges i_p0_components i_p0_pieces i_p0_faces i_p0_brokenRule i_p0_culprit f_p0_key i_p1_count i_p1_circles i_p1_shapeIsKnown f_p1_label) → va_S A s.heap H locs → lv_has ls 5 [(0, .ref q_p0), (1, .ref q_p1), (2, .int x2)] → W p l e rm_Sh_sortPlaces s m args below meth c H locs 0 0 (MQ below (va_Qv (fun (w : va_W) => w = (ws_Sh_sortPlaces cI cJ cB q_p0 q_p0_key q_p0_name q_p0_from q_p0_to q_p0_edgeAt q_p0_componentOf q_p0_arcOf q_p0_pieceOf q_p0_faceOf q_p0_faceStart q_p0_faceSize q_p0_scratch q_p1 q_p1_sign q_p1_label q_p1_shape i_p0_edges i_p0_components i_p0_pieces i_p0_faces i_p0_brokenRule i_p0_culprit res i_p1_count i_p1_circles i_p1_shapeIsKnown f_p1_label)) (vz_B D A) A) args s 0 0 A) (F0 m 2 ls [])) : ∀ (x2 : Int32) (x3 : Int32) (x4 : Int32) (f_p0_key : Nat → Int32) (H : Heap) (locs : List Loc) (ls : Array Slot), B_Sh_sortPlaces_67 fl i_p1_count f_p1_label kb_2 x2 x3 x4 f_p0_key = some res → va_P D classes (ws_Sh_sortPlaces cI cJ cB q_p0 q_p0_key q_p0_name q_p0_from q_p0_to q_p0_edgeAt q_p0_componentOf q_p0_arcOf q_p0_pieceOf q_p0_faceOf q_p0_faceStart q_p0_faceSize q_p0_scratch q_p1 q_p1_sign q_p1_label q_p1_shape i_p0_edges i_p0_components i_p0_pieces i_p0_faces i_p0_brokenRule i_p0_culprit f_p0_key i_p1_count i_p1_circles i_p1_shapeIsKnown f_p1_label) H → va_D A (ws_Sh_sortPlaces cI cJ cB q_p0 q_p0_key q_p0_name q_p0_from q_p0_to q_p0_edgeAt q_p0_componentOf q_p0_arcOf q_p0_pieceOf q_p0_faceOf q_p0_faceStart q_p0_faceSize q_p0_scratch q_p1 q_p1_sign q_p1_label q_p1_shape i_p0_edges i_p0_components i_p0_pieces i_p0_faces i_p0_brokenRule i_p0_culprit f_p0_key i_p1_count i_p1_circles i_p1_shapeIsKnown f_p1_label) → va_S A s.heap H locs → lv_has ls 5 [(0, .ref q_p0), (1, .ref q_p1), (2, .int x2), (3, .int x3), (4, .int x4)] → W p l e rm_Sh_sortPlaces s m args below meth c H locs 0 0 (MQ below (va_Qv (fun (w : va_W) => w = (ws_Sh_sortPlaces cI cJ cB q_p0 q_p0_key q_p0_name q_p0_from q_p0_to q_p0_edgeAt q_p0_componentOf q_p0_arcOf q_p0_pieceOf q_p0_faceOf q_p0_faceStart q_p0_faceSize q_p0_scratch q_p1 q_p1_sign q_p1_label q_p1_shape i_p0_edges i_p0_components i_p0_pieces i_p0_faces i_p0_brokenRule i_p0_culprit res i_p1_count i_p1_circles i_p1_shapeIsKnown f_p1_label)) (vz_B D A) A) args s 0 0 A) (F0 m 67 ls []) := by
  obtain ⟨hx, hb, hr, hml, hown, ht, hlocks, hin, hN, hK, hA⟩ := id C0
  intro x2 x3 x4 f_p0_key H locs ls hm hP hD hS hl
  unfold B_Sh_sortPlaces_67 at hm
  refine lv_aload_n hx hb d_Sh_sortPlaces_67 rfl (lv_at hl 0 rfl) ?_
  refine va_get (D := D) (ci := 5) (v := .ref q_p0_key) (C := R_Sh) (T := F_Sh) (N := 18) hx hb ht i_Sh hown hK hP 0 rfl rfl 0 (Nat.le_of_ble_eq_true rfl) (ht _ m_32) (fun _ h9 => h9) rfl d_Sh_sortPlaces_68 ?_
  refine lv_iload hx hb d_Sh_sortPlaces_71 (lv_at hl 4 rfl) ?_
  refine lv_iload_n hx hb d_Sh_sortPlaces_73 rfl (lv_at hl 3 rfl) ?_
  obtain ⟨hg, hm⟩ := vz_guard hm
  refine va_iast hx hb hK hP hD hS 1 0 rfl rfl hg d_Sh_sortPlaces_74 (fun H locs hP hD hS => ?_)
  have hP : va_P D classes (ws_Sh_sortPlaces cI cJ cB q_p0 q_p0_key q_p0_name q_p0_from q_p0_to q_p0_edgeAt q_p0_componentOf q_p0_arcOf q_p0_pieceOf q_p0_faceOf q_p0_faceStart q_p0_faceSize q_p0_scratch q_p1 q_p1_sign q_p1_label q_p1_shape i_p0_edges i_p0_components i_p0_pieces i_p0_faces i_p0_brokenRule i_p0_culprit (upd f_p0_key (Int32.toNatClampNeg x4) x3) i_p1_count i_p1_circles i_p1_shapeIsKnown f_p1_label) H := hP
  have hD : va_D A (ws_Sh_sortPlaces cI cJ cB q_p0 q_p0_key q_p0_name q_p0_from q_p0_to q_p0_edgeAt q_p0_componentOf q_p0_arcOf q_p0_pieceOf q_p0_faceOf q_p0_faceStart q_p0_faceSize q_p0_scratch q_p1 q_p1_sign q_p1_label q_p1_shape i_p0_edges i_p0_components i_p0_pieces i_p0_faces i_p0_brokenRule i_p0_culprit (upd f_p0_key (Int32.toNatClampNeg x4) x3) i_p1_count i_p1_circles i_p1_shapeIsKnown f_p1_label) := hD
  refine lv_iinc (v := (x2 + 1)) (lv' := [(2, .int (x2 + 1)), (0, .ref q_p0), (1, .ref q_p1), (3, .int x3), (4, .int x4)]) hx hb d_Sh_sortPlaces_75 hl (k := 2) rfl rfl (by decide) rfl (fun ls hl => ?_)
  refine lv_goto (tgt := 2) hx hb d_Sh_sortPlaces_78 (by decide) ?_
  exact hk_2 (x2 + 1) (upd f_p0_key (Int32.toNatClampNeg x4) x3) _ _ _ hm hP hD hS (lv_sub hl [1, 2, 0] rfl)
set_option maxHeartbeats 4000000 in
set_option maxRecDepth 100000 in
theorem w_Sh_sortPlaces_27 {p : Program} {l : Launch} {e : Env} {s : State} {m : MethodId} {args : Array Value} {below : List Frame} {meth : Method} {c : Code} {D : va_G} {cI cJ cB : ClassId} {A : Nat → Prop} (fl : Nat) (q_p0 : Nat) (q_p0_key : Nat) (q_p0_name : Nat) (q_p0_from : Nat) (q_p0_to : Nat) (q_p0_edgeAt : Nat) (q_p0_componentOf : Nat) (q_p0_arcOf : Nat) (q_p0_pieceOf : Nat) (q_p0_faceOf : Nat) (q_p0_faceStart : Nat) (q_p0_faceSize : Nat) (q_p0_scratch : Nat) (q_p1 : Nat) (q_p1_sign : Nat) (q_p1_label : Nat) (q_p1_shape : Nat) (i_p1_count : Int32) (f_p1_label : Nat → Int32) (i_p0_edges : Int32) (i_p0_components : Int32) (i_p0_pieces : Int32) (i_p0_faces : Int32) (i_p0_brokenRule : Int32) (i_p0_culprit : Int32) (i_p1_circles : Int32) (i_p1_shapeIsKnown : Int32) (res : (Nat → Int32)) (C0 : vz_Cx p s m meth c b_Sh_sortPlaces 5 none "LinkEngine$Shape" "sortPlaces" D [(cI, .int), (cJ, .long), (cB, .byte)] A args) (kb_2 : Int32 → (Nat → Int32) → Option ((Nat → Int32))) (hk_2 : ∀ (x2 : Int32) (f_p0_key : Nat → Int32) (H : Heap) (locs : List Loc) (ls : Array Slot), kb_2 x2 f_p0_key = some res → va_P D classes (ws_Sh_sortPlaces cI cJ cB q_p0 q_p0_key q_p0_name q_p0_from q_p0_to q_p0_edgeAt q_p0_componentOf q_p0_arcOf q_p0_pieceOf q_p0_faceOf q_p0_faceStart q_p0_faceSize q_p0_scratch q_p1 q_p1_sign q_p1_label q_p1_shape i_p0_edges i_p0_components i_p0_pieces i_p0_faces i_p0_brokenRule i_p0_culprit f_p0_key i_p1_count i_p1_circles i_p1_shapeIsKnown f_p1_label) H → va_D A (ws_Sh_sortPlaces cI cJ cB q_p0 q_p0_key q_p0_name q_p0_from q_p0_to q_p0_edgeAt q_p0_componentOf q_p0_arcOf q_p0_pieceOf q_p0_faceOf q_p0_faceStart q_p0_faceSize q_p0_scratch q_p1 q_p1_sign q_p1_label q_p1_shape i_p0_edges i_p0_components i_p0_pieces i_p0_faces i_p0_brokenRule i_p0_culprit f_p0_key i_p1_count i_p1_circles i_p1_shapeIsKnown f_p1_label) → va_S A s.heap H locs → lv_has ls 5 [(0, .ref q_p0), (1, .ref q_p1), (2, .int x2)] → W p l e rm_Sh_sortPlaces s m args below meth c H locs 0 0 (MQ below (va_Qv (fun (w : va_W) => w = (ws_Sh_sortPlaces cI cJ cB q_p0 q_p0_key q_p0_name q_p0_from q_p0_to q_p0_edgeAt q_p0_componentOf q_p0_arcOf q_p0_pieceOf q_p0_faceOf q_p0_faceStart q_p0_faceSize q_p0_scratch q_p1 q_p1_sign q_p1_label q_p1_shape i_p0_edges i_p0_components i_p0_pieces i_p0_faces i_p0_brokenRule i_p0_culprit res i_p1_count i_p1_circles i_p1_shapeIsKnown f_p1_label)) (vz_B D A) A) args s 0 0 A) (F0 m 2 ls [])) : ∀ (nn : Nat), ∀ (x2 : Int32) (x3 : Int32) (x4 : Int32) (f_p0_key : Nat → Int32) (H : Heap) (locs : List Loc) (ls : Array Slot), B_Sh_sortPlaces_27 fl i_p1_count f_p1_label kb_2 nn x2 x3 x4 f_p0_key = some res → va_P D classes (ws_Sh_sortPlaces cI cJ cB q_p0 q_p0_key q_p0_name q_p0_from q_p0_to q_p0_edgeAt q_p0_componentOf q_p0_arcOf q_p0_pieceOf q_p0_faceOf q_p0_faceStart q_p0_faceSize q_p0_scratch q_p1 q_p1_sign q_p1_label q_p1_shape i_p0_edges i_p0_components i_p0_pieces i_p0_faces i_p0_brokenRule i_p0_culprit f_p0_key i_p1_count i_p1_circles i_p1_shapeIsKnown f_p1_label) H → va_D A (ws_Sh_sortPlaces cI cJ cB q_p0 q_p0_key q_p0_name q_p0_from q_p0_to q_p0_edgeAt q_p0_componentOf q_p0_arcOf q_p0_pieceOf q_p0_faceOf q_p0_faceStart q_p0_faceSize q_p0_scratch q_p1 q_p1_sign q_p1_label q_p1_shape i_p0_edges i_p0_components i_p0_pieces i_p0_faces i_p0_brokenRule i_p0_culprit f_p0_key i_p1_count i_p1_circles i_p1_shapeIsKnown f_p1_label) → va_S A s.heap H locs → lv_has ls 5 [(0, .ref q_p0), (1, .ref q_p1), (2, .int x2), (3, .int x3), (4, .int x4)] → W p l e rm_Sh_sortPlaces s m args below meth c H locs 0 0 (MQ below (va_Qv (fun (w : va_W) => w = (ws_Sh_sortPlaces cI cJ cB q_p0 q_p0_key q_p0_name q_p0_from q_p0_to q_p0_edgeAt q_p0_componentOf q_p0_arcOf q_p0_pieceOf q_p0_faceOf q_p0_faceStart q_p0_faceSize q_p0_scratch q_p1 q_p1_sign q_p1_label q_p1_shape i_p0_edges i_p0_components i_p0_pieces i_p0_faces i_p0_brokenRule i_p0_culprit res i_p1_count i_p1_circles i_p1_shapeIsKnown f_p1_label)) (vz_B D A) A) args s 0 0 A) (F0 m 27 ls []) := by
  obtain ⟨hx, hb, hr, hml, hown, ht, hlocks, hin, hN, hK, hA⟩ := id C0
  intro nn
  induction nn with
  | zero =>
    intro x2 x3 x4 f_p0_key H locs ls hm hP hD hS hl
    rw [B_Sh_sortPlaces_27] at hm
    cases hm
  | succ nn ih =>
    intro x2 x3 x4 f_p0_key H locs ls hm hP hD hS hl
    rw [B_Sh_sortPlaces_27] at hm
    refine lv_iload hx hb d_Sh_sortPlaces_27 (lv_at hl 4 rfl) ?_
    refine lv_if_le (tgt := 67) hx hb d_Sh_sortPlaces_29 (by decide) (fun hc => ?_) (fun hc => ?_)
    · rw [if_pos hc] at hm
      exact w_Sh_sortPlaces_67 fl q_p0 q_p0_key q_p0_name q_p0_from q_p0_to q_p0_edgeAt q_p0_componentOf q_p0_arcOf q_p0_pieceOf q_p0_faceOf q_p0_faceStart q_p0_faceSize q_p0_scratch q_p1 q_p1_sign q_p1_label q_p1_shape i_p1_count f_p1_label i_p0_edges i_p0_components i_p0_pieces i_p0_faces i_p0_brokenRule i_p0_culprit i_p1_circles i_p1_shapeIsKnown res C0 kb_2 hk_2 x2 x3 x4 f_p0_key _ _ _ hm hP hD hS (lv_sub hl [0, 1, 2, 3, 4] rfl)
    · rw [if_neg hc] at hm
      refine lv_aload_n hx hb d_Sh_sortPlaces_32 rfl (lv_at hl 0 rfl) ?_
      refine va_get (D := D) (ci := 5) (v := .ref q_p0_key) (C := R_Sh) (T := F_Sh) (N := 18) hx hb ht i_Sh hown hK hP 0 rfl rfl 0 (Nat.le_of_ble_eq_true rfl) (ht _ m_32) (fun _ h9 => h9) rfl d_Sh_sortPlaces_33 ?_
      refine lv_iload hx hb d_Sh_sortPlaces_36 (lv_at hl 4 rfl) ?_
      refine lv_iconst (v := 1) hx hb d_Sh_sortPlaces_38 (by decide) ?_
      refine lv_isub hx hb d_Sh_sortPlaces_39 ?_
      obtain ⟨hg, hm⟩ := vz_guard hm
      refine va_iald hx hb hK hP 1 0 rfl rfl hg d_Sh_sortPlaces_40 ?_
      refine lv_iload_n hx hb d_Sh_sortPlaces_41 rfl (lv_at hl 3 rfl) ?_
      refine lv_icmp_le (tgt := 67) hx hb d_Sh_sortPlaces_42 (by decide) (fun hc => ?_) (fun hc => ?_)
      · rw [if_pos hc] at hm
        exact w_Sh_sortPlaces_67 fl q_p0 q_p0_key q_p0_name q_p0_from q_p0_to q_p0_edgeAt q_p0_componentOf q_p0_arcOf q_p0_pieceOf q_p0_faceOf q_p0_faceStart q_p0_faceSize q_p0_scratch q_p1 q_p1_sign q_p1_label q_p1_shape i_p1_count f_p1_label i_p0_edges i_p0_components i_p0_pieces i_p0_faces i_p0_brokenRule i_p0_culprit i_p1_circles i_p1_shapeIsKnown res C0 kb_2 hk_2 x2 x3 x4 f_p0_key _ _ _ hm hP hD hS (lv_sub hl [0, 1, 2, 3, 4] rfl)
      · rw [if_neg hc] at hm
        refine lv_aload_n hx hb d_Sh_sortPlaces_45 rfl (lv_at hl 0 rfl) ?_
        refine va_get (D := D) (ci := 5) (v := .ref q_p0_key) (C := R_Sh) (T := F_Sh) (N := 18) hx hb ht i_Sh hown hK hP 0 rfl rfl 0 (Nat.le_of_ble_eq_true rfl) (ht _ m_32) (fun _ h9 => h9) rfl d_Sh_sortPlaces_46 ?_
        refine lv_iload hx hb d_Sh_sortPlaces_49 (lv_at hl 4 rfl) ?_
        refine lv_aload_n hx hb d_Sh_sortPlaces_51 rfl (lv_at hl 0 rfl) ?_
        refine va_get (D := D) (ci := 5) (v := .ref q_p0_key) (C := R_Sh) (T := F_Sh) (N := 18) hx hb ht i_Sh hown hK hP 0 rfl rfl 0 (Nat.le_of_ble_eq_true rfl) (ht _ m_32) (fun _ h9 => h9) rfl d_Sh_sortPlaces_52 ?_
        refine lv_iload hx hb d_Sh_sortPlaces_55 (lv_at hl 4 rfl) ?_
        refine lv_iconst (v := 1) hx hb d_Sh_sortPlaces_57 (by decide) ?_
        refine lv_isub hx hb d_Sh_sortPlaces_58 ?_
        obtain ⟨hg, hm⟩ := vz_guard hm
        refine va_iald hx hb hK hP 1 0 rfl rfl hg d_Sh_sortPlaces_59 ?_
        obtain ⟨hg, hm⟩ := vz_guard hm
        refine va_iast hx hb hK hP hD hS 1 0 rfl rfl hg d_Sh_sortPlaces_60 (fun H locs hP hD hS => ?_)
        have hP : va_P D classes (ws_Sh_sortPlaces cI cJ cB q_p0 q_p0_key q_p0_name q_p0_from q_p0_to q_p0_edgeAt q_p0_componentOf q_p0_arcOf q_p0_pieceOf q_p0_faceOf q_p0_faceStart q_p0_faceSize q_p0_scratch q_p1 q_p1_sign q_p1_label q_p1_shape i_p0_edges i_p0_components i_p0_pieces i_p0_faces i_p0_brokenRule i_p0_culprit (upd f_p0_key (Int32.toNatClampNeg x4) (f_p0_key (Int32.toNatClampNeg (x4 - (1 : Int32))))) i_p1_count i_p1_circles i_p1_shapeIsKnown f_p1_label) H := hP
        have hD : va_D A (ws_Sh_sortPlaces cI cJ cB q_p0 q_p0_key q_p0_name q_p0_from q_p0_to q_p0_edgeAt q_p0_componentOf q_p0_arcOf q_p0_pieceOf q_p0_faceOf q_p0_faceStart q_p0_faceSize q_p0_scratch q_p1 q_p1_sign q_p1_label q_p1_shape i_p0_edges i_p0_components i_p0_pieces i_p0_faces i_p0_brokenRule i_p0_culprit (upd f_p0_key (Int32.toNatClampNeg x4) (f_p0_key (Int32.toNatClampNeg (x4 - (1 : Int32))))) i_p1_count i_p1_circles i_p1_shapeIsKnown f_p1_label) := hD
        refine lv_iinc (v := (x4 + (-1))) (lv' := [(4, .int (x4 + (-1))), (0, .ref q_p0), (1, .ref q_p1), (2, .int x2), (3, .int x3)]) hx hb d_Sh_sortPlaces_61 hl (k := 4) rfl rfl (by decide) rfl (fun ls hl => ?_)
        refine lv_goto (tgt := 27) hx hb d_Sh_sortPlaces_64 (by decide) ?_
        exact ih x2 x3 (x4 + (-1)) (upd f_p0_key (Int32.toNatClampNeg x4) (f_p0_key (Int32.toNatClampNeg (x4 - (1 : Int32))))) _ _ _ hm hP hD hS (lv_sub hl [1, 2, 3, 4, 0] rfl)
set_option maxHeartbeats 4000000 in
set_option maxRecDepth 100000 in
theorem w_Sh_sortPlaces_2 {p : Program} {l : Launch} {e : Env} {s : State} {m : MethodId} {args : Array Value} {below : List Frame} {meth : Method} {c : Code} {D : va_G} {cI cJ cB : ClassId} {A : Nat → Prop} (fl : Nat) (q_p0 : Nat) (q_p0_key : Nat) (q_p0_name : Nat) (q_p0_from : Nat) (q_p0_to : Nat) (q_p0_edgeAt : Nat) (q_p0_componentOf : Nat) (q_p0_arcOf : Nat) (q_p0_pieceOf : Nat) (q_p0_faceOf : Nat) (q_p0_faceStart : Nat) (q_p0_faceSize : Nat) (q_p0_scratch : Nat) (q_p1 : Nat) (q_p1_sign : Nat) (q_p1_label : Nat) (q_p1_shape : Nat) (i_p1_count : Int32) (f_p1_label : Nat → Int32) (i_p0_edges : Int32) (i_p0_components : Int32) (i_p0_pieces : Int32) (i_p0_faces : Int32) (i_p0_brokenRule : Int32) (i_p0_culprit : Int32) (i_p1_circles : Int32) (i_p1_shapeIsKnown : Int32) (res : (Nat → Int32)) (C0 : vz_Cx p s m meth c b_Sh_sortPlaces 5 none "LinkEngine$Shape" "sortPlaces" D [(cI, .int), (cJ, .long), (cB, .byte)] A args) : ∀ (nn : Nat), ∀ (x2 : Int32) (f_p0_key : Nat → Int32) (H : Heap) (locs : List Loc) (ls : Array Slot), B_Sh_sortPlaces_2 fl i_p1_count f_p1_label nn x2 f_p0_key = some res → va_P D classes (ws_Sh_sortPlaces cI cJ cB q_p0 q_p0_key q_p0_name q_p0_from q_p0_to q_p0_edgeAt q_p0_componentOf q_p0_arcOf q_p0_pieceOf q_p0_faceOf q_p0_faceStart q_p0_faceSize q_p0_scratch q_p1 q_p1_sign q_p1_label q_p1_shape i_p0_edges i_p0_components i_p0_pieces i_p0_faces i_p0_brokenRule i_p0_culprit f_p0_key i_p1_count i_p1_circles i_p1_shapeIsKnown f_p1_label) H → va_D A (ws_Sh_sortPlaces cI cJ cB q_p0 q_p0_key q_p0_name q_p0_from q_p0_to q_p0_edgeAt q_p0_componentOf q_p0_arcOf q_p0_pieceOf q_p0_faceOf q_p0_faceStart q_p0_faceSize q_p0_scratch q_p1 q_p1_sign q_p1_label q_p1_shape i_p0_edges i_p0_components i_p0_pieces i_p0_faces i_p0_brokenRule i_p0_culprit f_p0_key i_p1_count i_p1_circles i_p1_shapeIsKnown f_p1_label) → va_S A s.heap H locs → lv_has ls 5 [(0, .ref q_p0), (1, .ref q_p1), (2, .int x2)] → W p l e rm_Sh_sortPlaces s m args below meth c H locs 0 0 (MQ below (va_Qv (fun (w : va_W) => w = (ws_Sh_sortPlaces cI cJ cB q_p0 q_p0_key q_p0_name q_p0_from q_p0_to q_p0_edgeAt q_p0_componentOf q_p0_arcOf q_p0_pieceOf q_p0_faceOf q_p0_faceStart q_p0_faceSize q_p0_scratch q_p1 q_p1_sign q_p1_label q_p1_shape i_p0_edges i_p0_components i_p0_pieces i_p0_faces i_p0_brokenRule i_p0_culprit res i_p1_count i_p1_circles i_p1_shapeIsKnown f_p1_label)) (vz_B D A) A) args s 0 0 A) (F0 m 2 ls []) := by
  obtain ⟨hx, hb, hr, hml, hown, ht, hlocks, hin, hN, hK, hA⟩ := id C0
  intro nn
  induction nn with
  | zero =>
    intro x2 f_p0_key H locs ls hm hP hD hS hl
    rw [B_Sh_sortPlaces_2] at hm
    cases hm
  | succ nn ih =>
    intro x2 f_p0_key H locs ls hm hP hD hS hl
    rw [B_Sh_sortPlaces_2] at hm
    refine lv_iload_n hx hb d_Sh_sortPlaces_2 rfl (lv_at hl 2 rfl) ?_
    refine lv_iconst (v := 4) hx hb d_Sh_sortPlaces_3 (by decide) ?_
    refine lv_aload_n hx hb d_Sh_sortPlaces_4 rfl (lv_at hl 1 rfl) ?_
    refine va_getN (D := D) (ci := 4) (v := .int i_p1_count) (C := R_Di) (T := F_Di) (N := 6) hx hb ht i_Di hown hK hP 2 rfl rfl 3 (Nat.le_of_ble_eq_true rfl) (va_Nw.use rfl (hN _ n_18)) (fun _ h9 => h9) rfl d_Sh_sortPlaces_5 ?_
    refine lv_imul hx hb d_Sh_sortPlaces_8 ?_
    refine lv_icmp_ge (tgt := 81) hx hb d_Sh_sortPlaces_9 (by decide) (fun hc => ?_) (fun hc => ?_)
    · rw [if_pos hc] at hm
      obtain rfl := Option.some.inj hm
      exact vz_vret hx hb hr hlocks hP hD hS (Nat.le_refl _) (Nat.le_refl _) d_Sh_sortPlaces_81 rfl
    · rw [if_neg hc] at hm
      refine lv_aload_n hx hb d_Sh_sortPlaces_12 rfl (lv_at hl 1 rfl) ?_
      refine va_getN (D := D) (ci := 4) (v := .ref q_p1_label) (C := R_Di) (T := F_Di) (N := 6) hx hb ht i_Di hown hK hP 2 rfl rfl 1 (Nat.le_of_ble_eq_true rfl) (va_Nw.use rfl (hN _ n_28)) (fun _ h9 => h9) rfl d_Sh_sortPlaces_13 ?_
      refine lv_iload_n hx hb d_Sh_sortPlaces_16 rfl (lv_at hl 2 rfl) ?_
      obtain ⟨hg, hm⟩ := vz_guard hm
      refine va_iald hx hb hK hP 3 0 rfl rfl hg d_Sh_sortPlaces_17 ?_
      refine lv_bipush (v := 7) hx hb d_Sh_sortPlaces_18 (by decide +kernel) ?_
      refine lv_ishl hx hb d_Sh_sortPlaces_20 ?_
      refine lv_iload_n hx hb d_Sh_sortPlaces_21 rfl (lv_at hl 2 rfl) ?_
      refine lv_ior hx hb d_Sh_sortPlaces_22 ?_
      refine lv_istore_n (lv' := [(3, .int (((f_p1_label (Int32.toNatClampNeg x2)) <<< ((7 : Int32) &&& 31)) ||| x2)), (0, .ref q_p0), (1, .ref q_p1), (2, .int x2)]) hx hb d_Sh_sortPlaces_23 rfl hl (by decide) rfl (fun ls hl => ?_)
      refine lv_iload_n hx hb d_Sh_sortPlaces_24 rfl (lv_at hl 3 rfl) ?_
      refine lv_istore (lv' := [(4, .int x2), (3, .int (((f_p1_label (Int32.toNatClampNeg x2)) <<< ((7 : Int32) &&& 31)) ||| x2)), (0, .ref q_p0), (1, .ref q_p1), (2, .int x2)]) hx hb d_Sh_sortPlaces_25 hl (by decide) rfl (fun ls hl => ?_)
      exact w_Sh_sortPlaces_27 fl q_p0 q_p0_key q_p0_name q_p0_from q_p0_to q_p0_edgeAt q_p0_componentOf q_p0_arcOf q_p0_pieceOf q_p0_faceOf q_p0_faceStart q_p0_faceSize q_p0_scratch q_p1 q_p1_sign q_p1_label q_p1_shape i_p1_count f_p1_label i_p0_edges i_p0_components i_p0_pieces i_p0_faces i_p0_brokenRule i_p0_culprit i_p1_circles i_p1_shapeIsKnown res C0 (B_Sh_sortPlaces_2 fl i_p1_count f_p1_label nn) ih fl x2 (((f_p1_label (Int32.toNatClampNeg x2)) <<< ((7 : Int32) &&& 31)) ||| x2) x2 f_p0_key _ _ _ hm hP hD hS (lv_sub hl [2, 3, 4, 1, 0] rfl)
set_option maxHeartbeats 4000000 in
set_option maxRecDepth 100000 in
theorem w_Sh_sortPlaces_0 {p : Program} {l : Launch} {e : Env} {s : State} {m : MethodId} {args : Array Value} {below : List Frame} {meth : Method} {c : Code} {D : va_G} {cI cJ cB : ClassId} {A : Nat → Prop} (fl : Nat) (q_p0 : Nat) (q_p0_key : Nat) (q_p0_name : Nat) (q_p0_from : Nat) (q_p0_to : Nat) (q_p0_edgeAt : Nat) (q_p0_componentOf : Nat) (q_p0_arcOf : Nat) (q_p0_pieceOf : Nat) (q_p0_faceOf : Nat) (q_p0_faceStart : Nat) (q_p0_faceSize : Nat) (q_p0_scratch : Nat) (q_p1 : Nat) (q_p1_sign : Nat) (q_p1_label : Nat) (q_p1_shape : Nat) (i_p1_count : Int32) (f_p1_label : Nat → Int32) (i_p0_edges : Int32) (i_p0_components : Int32) (i_p0_pieces : Int32) (i_p0_faces : Int32) (i_p0_brokenRule : Int32) (i_p0_culprit : Int32) (i_p1_circles : Int32) (i_p1_shapeIsKnown : Int32) (res : (Nat → Int32)) (C0 : vz_Cx p s m meth c b_Sh_sortPlaces 5 none "LinkEngine$Shape" "sortPlaces" D [(cI, .int), (cJ, .long), (cB, .byte)] A args) : ∀ (f_p0_key : Nat → Int32) (H : Heap) (locs : List Loc) (ls : Array Slot), B_Sh_sortPlaces_0 fl i_p1_count f_p1_label f_p0_key = some res → va_P D classes (ws_Sh_sortPlaces cI cJ cB q_p0 q_p0_key q_p0_name q_p0_from q_p0_to q_p0_edgeAt q_p0_componentOf q_p0_arcOf q_p0_pieceOf q_p0_faceOf q_p0_faceStart q_p0_faceSize q_p0_scratch q_p1 q_p1_sign q_p1_label q_p1_shape i_p0_edges i_p0_components i_p0_pieces i_p0_faces i_p0_brokenRule i_p0_culprit f_p0_key i_p1_count i_p1_circles i_p1_shapeIsKnown f_p1_label) H → va_D A (ws_Sh_sortPlaces cI cJ cB q_p0 q_p0_key q_p0_name q_p0_from q_p0_to q_p0_edgeAt q_p0_componentOf q_p0_arcOf q_p0_pieceOf q_p0_faceOf q_p0_faceStart q_p0_faceSize q_p0_scratch q_p1 q_p1_sign q_p1_label q_p1_shape i_p0_edges i_p0_components i_p0_pieces i_p0_faces i_p0_brokenRule i_p0_culprit f_p0_key i_p1_count i_p1_circles i_p1_shapeIsKnown f_p1_label) → va_S A s.heap H locs → lv_has ls 5 [(0, .ref q_p0), (1, .ref q_p1)] → W p l e rm_Sh_sortPlaces s m args below meth c H locs 0 0 (MQ below (va_Qv (fun (w : va_W) => w = (ws_Sh_sortPlaces cI cJ cB q_p0 q_p0_key q_p0_name q_p0_from q_p0_to q_p0_edgeAt q_p0_componentOf q_p0_arcOf q_p0_pieceOf q_p0_faceOf q_p0_faceStart q_p0_faceSize q_p0_scratch q_p1 q_p1_sign q_p1_label q_p1_shape i_p0_edges i_p0_components i_p0_pieces i_p0_faces i_p0_brokenRule i_p0_culprit res i_p1_count i_p1_circles i_p1_shapeIsKnown f_p1_label)) (vz_B D A) A) args s 0 0 A) (F0 m 0 ls []) := by
  obtain ⟨hx, hb, hr, hml, hown, ht, hlocks, hin, hN, hK, hA⟩ := id C0
  intro f_p0_key H locs ls hm hP hD hS hl
  unfold B_Sh_sortPlaces_0 at hm
  refine lv_iconst (v := 0) hx hb d_Sh_sortPlaces_0 (by decide) ?_
  refine lv_istore_n (lv' := [(2, .int 0), (0, .ref q_p0), (1, .ref q_p1)]) hx hb d_Sh_sortPlaces_1 rfl hl (by decide) rfl (fun ls hl => ?_)
  exact w_Sh_sortPlaces_2 fl q_p0 q_p0_key q_p0_name q_p0_from q_p0_to q_p0_edgeAt q_p0_componentOf q_p0_arcOf q_p0_pieceOf q_p0_faceOf q_p0_faceStart q_p0_faceSize q_p0_scratch q_p1 q_p1_sign q_p1_label q_p1_shape i_p1_count f_p1_label i_p0_edges i_p0_components i_p0_pieces i_p0_faces i_p0_brokenRule i_p0_culprit i_p1_circles i_p1_shapeIsKnown res C0 fl 0 f_p0_key _ _ _ hm hP hD hS (lv_sub hl [1, 2, 0] rfl)
set_option maxHeartbeats 4000000 in
set_option maxRecDepth 100000 in
theorem k_Sh_sortPlaces (l : Launch) (D : va_G) (cI cJ cB : ClassId) (fl : Nat) (q_p0 : Nat) (q_p0_key : Nat) (q_p0_name : Nat) (q_p0_from : Nat) (q_p0_to : Nat) (q_p0_edgeAt : Nat) (q_p0_componentOf : Nat) (q_p0_arcOf : Nat) (q_p0_pieceOf : Nat) (q_p0_faceOf : Nat) (q_p0_faceStart : Nat) (q_p0_faceSize : Nat) (q_p0_scratch : Nat) (q_p1 : Nat) (q_p1_sign : Nat) (q_p1_label : Nat) (q_p1_shape : Nat) (i_p1_count : Int32) (f_p1_label : Nat → Int32) (i_p0_edges : Int32) (i_p0_components : Int32) (i_p0_pieces : Int32) (i_p0_faces : Int32) (i_p0_brokenRule : Int32) (i_p0_culprit : Int32) (i_p1_circles : Int32) (i_p1_shapeIsKnown : Int32) (f_p0_key : Nat → Int32)  (res : (Nat → Int32)) (hm : m_Sh_sortPlaces fl i_p1_count f_p1_label f_p0_key = some res) : MtV l y_Sh_sortPlaces (.code y_Sh_sortPlaces b_Sh_sortPlaces 5 none :: CW) rm_Sh_sortPlaces D [(cI, .int), (cJ, .long), (cB, .byte)] [.ref q_p0, .ref q_p1] (ws_Sh_sortPlaces cI cJ cB q_p0 q_p0_key q_p0_name q_p0_from q_p0_to q_p0_edgeAt q_p0_componentOf q_p0_arcOf q_p0_pieceOf q_p0_faceOf q_p0_faceStart q_p0_faceSize q_p0_scratch q_p1 q_p1_sign q_p1_label q_p1_shape i_p0_edges i_p0_components i_p0_pieces i_p0_faces i_p0_brokenRule i_p0_culprit f_p0_key i_p1_count i_p1_circles i_p1_shapeIsKnown f_p1_label) (fun (w : va_W) => w = (ws_Sh_sortPlaces cI cJ cB q_p0 q_p0_key q_p0_name q_p0_from q_p0_to q_p0_edgeAt q_p0_componentOf q_p0_arcOf q_p0_pieceOf q_p0_faceOf q_p0_faceStart q_p0_faceSize q_p0_scratch q_p1 q_p1_sign q_p1_label q_p1_shape i_p0_edges i_p0_components i_p0_pieces i_p0_faces i_p0_brokenRule i_p0_culprit res i_p1_count i_p1_circles i_p1_shapeIsKnown f_p1_label)) := by
  intro sz
  refine vz_start (Qc := fun A => va_Qv (fun (w : va_W) => w = (ws_Sh_sortPlaces cI cJ cB q_p0 q_p0_key q_p0_name q_p0_from q_p0_to q_p0_edgeAt q_p0_componentOf q_p0_arcOf q_p0_pieceOf q_p0_faceOf q_p0_faceStart q_p0_faceSize q_p0_scratch q_p1 q_p1_sign q_p1_label q_p1_shape i_p0_edges i_p0_components i_p0_pieces i_p0_faces i_p0_brokenRule i_p0_culprit res i_p1_count i_p1_circles i_p1_shapeIsKnown f_p1_label)) (vz_B D A) A) (lv0 := [(0, .ref q_p0), (1, .ref q_p1)]) (by decide +kernel) (Nat.le_of_ble_eq_true rfl) rfl ?_
  intro p e s m below meth c A ls C0 hl
  obtain ⟨hx, hb, hr, hml, hown, ht, hlocks, hin, hN, hK, hP, hD, hA, hS⟩ := C0
  exact w_Sh_sortPlaces_0 fl q_p0 q_p0_key q_p0_name q_p0_from q_p0_to q_p0_edgeAt q_p0_componentOf q_p0_arcOf q_p0_pieceOf q_p0_faceOf q_p0_faceStart q_p0_faceSize q_p0_scratch q_p1 q_p1_sign q_p1_label q_p1_shape i_p1_count f_p1_label i_p0_edges i_p0_components i_p0_pieces i_p0_faces i_p0_brokenRule i_p0_culprit i_p1_circles i_p1_shapeIsKnown res ⟨hx, hb, hr, hml, hown, ht, hlocks, hin, hN, hK, hA⟩ f_p0_key s.heap [] ls hm hP hD hS (lv_sub hl [0, 1] rfl)
