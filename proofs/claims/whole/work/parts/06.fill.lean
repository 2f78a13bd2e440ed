def fillF {α : Type} (f : Nat → α) (n : Nat) (v : α) : Nat → α := fun j => if j < n then v else f j
theorem k_fillI_step (f : Nat → Int32) (i : Nat) (v : Int32) : upd (fillF f i v) i v = fillF f (i + 1) v := by
  funext j
  unfold upd fillF
  by_cases h : j = i
  · rw [if_pos h, if_pos (by omega)]
  · rw [if_neg h]
    by_cases q : j < i
    · rw [if_pos q, if_pos (by omega)]
    · rw [if_neg q, if_neg (by omega)]
set_option maxHeartbeats 4000000 in
theorem k_fillI_loop {p : Program} {l : Launch} {e : Env} {R : Room} {s : State} {m : MethodId} {args : Array Value} {below : List Frame} {meth : Method} {c : Code} {D : va_G} {cI cJ cB : ClassId} {A : Nat → Prop} {Q : State → Prop} {h0 n : Nat} {v : Int32} {f : Nat → Int32} (hn : n < 2 ^ 31) (hx : p.tables.exec = Jvm.exec) (hb : c.code = b_Arr_fill) (hK : va_K D classes [(cI, .int), (cJ, .long), (cB, .byte)] s)
    (hend : ∀ (H : Heap) (locs : List Loc) (ls : Array Slot), va_P D classes [(h0, .inl (cI, n, .inl (fillF f n v)))] H → va_D A [(h0, .inl (cI, n, .inl (fillF f n v)))] → va_S A s.heap H locs → W p l e R s m args below meth c H locs 0 0 Q (F0 m 20 ls [])) :
    ∀ (k i : Nat) (H : Heap) (locs : List Loc) (ls : Array Slot), i ≤ n → n ≤ i + k → va_P D classes [(h0, .inl (cI, n, .inl (fillF f i v)))] H → va_D A [(h0, .inl (cI, n, .inl (fillF f i v)))] → va_S A s.heap H locs → lv_has ls 4 [(2, .int (nI i)), (3, .int (nI n)), (0, .ref h0), (1, .int v)] → W p l e R s m args below meth c H locs 0 0 Q (F0 m 5 ls []) := by
  intro k
  induction k with
  | zero =>
    intro i H locs ls h1 h2 hP hD hS hl
    have hi : i = n := by omega
    subst hi
    refine lv_iload_n hx hb d_Arr_fill_5 rfl (lv_at hl 0 rfl) ?_
    refine lv_iload_n hx hb d_Arr_fill_6 rfl (lv_at hl 1 rfl) ?_
    refine vz_icmp_ge_t (tgt := 20) hx hb d_Arr_fill_7 (by decide) (nI_le (Nat.le_refl _) hn) ?_
    exact hend H locs ls hP hD hS
  | succ k ih =>
    intro i H locs ls h1 h2 hP hD hS hl
    refine lv_iload_n hx hb d_Arr_fill_5 rfl (lv_at hl 0 rfl) ?_
    refine lv_iload_n hx hb d_Arr_fill_6 rfl (lv_at hl 1 rfl) ?_
    rcases Nat.lt_or_ge i n with q | q
    · refine vz_icmp_ge_f (tgt := 20) hx hb d_Arr_fill_7 (by decide) (nI_ge q hn) ?_
      refine lv_aload_n hx hb d_Arr_fill_10 rfl (lv_at hl 2 rfl) ?_
      refine lv_iload_n hx hb d_Arr_fill_11 rfl (lv_at hl 0 rfl) ?_
      refine lv_iload_n hx hb d_Arr_fill_12 rfl (lv_at hl 3 rfl) ?_
      refine va_iast hx hb hK hP hD hS 0 0 rfl rfl (vp_in_nI q hn) d_Arr_fill_13 (fun H locs hP hD hS => ?_)
      rw [nI_clamp (by omega), k_fillI_step] at hP hD
      refine lv_iinc (v := nI (i + 1)) (lv' := [(2, .int (nI (i + 1))), (3, .int (nI n)), (0, .ref h0), (1, .int v)]) hx hb d_Arr_fill_14 hl (k := 0) rfl (nI_1 i) (by decide) rfl (fun ls hl => ?_)
      refine lv_goto (tgt := 5) hx hb d_Arr_fill_17 (by decide) ?_
      exact ih (i + 1) H locs ls q (by omega) hP hD hS hl
    · have hi : i = n := by omega
      subst hi
      refine vz_icmp_ge_t (tgt := 20) hx hb d_Arr_fill_7 (by decide) (nI_le (Nat.le_refl _) hn) ?_
      exact hend H locs ls hP hD hS
set_option maxHeartbeats 4000000 in
/-- Arrays.fill, exactly -/
theorem k_fillI (l : Launch) (D : va_G) (cI cJ cB : ClassId) (sa : Nat → Nat × Nat) (h0 : Nat) (v : Int32) (n : Nat) (f : Nat → Int32) (hn : n < 2 ^ 31) : MtV l y_Arr_fill (.code y_Arr_fill b_Arr_fill 4 none :: CW) ({ frames := 0, cells := 0, slots := 0, locals := 0 }) D [(cI, .int), (cJ, .long), (cB, .byte)] sa [.ref h0, .int v] [(h0, .inl (cI, n, .inl f))] (fun (w : va_W) => w = [(h0, .inl (cI, n, .inl (fillF f n v)))]) := by
  intro sz
  refine vz_start (Qc := fun A => va_Qv (fun (w : va_W) => w = [(h0, .inl (cI, n, .inl (fillF f n v)))]) (vz_B D A) A) (lv0 := [(0, .ref h0), (1, .int v)]) (by decide +kernel) (Nat.le_of_ble_eq_true rfl) rfl ?_
  intro p e s m below meth c A ls C0 hl
  obtain ⟨hx, hb, hr, hml, hown, ht, hlocks, hin, hN, hK, hP, hD, hA, hS, hZ⟩ := C0
  have hf : fillF f 0 v = f := by funext j; unfold fillF; exact if_neg (Nat.not_lt_zero j)
  refine lv_iconst (v := nI 0) hx hb d_Arr_fill_0 (by decide) ?_
  refine lv_istore_n (lv' := [(2, .int (nI 0)), (0, .ref h0), (1, .int v)]) hx hb d_Arr_fill_1 rfl hl (by decide) rfl (fun ls hl => ?_)
  refine lv_aload_n hx hb d_Arr_fill_2 rfl (lv_at hl 1 rfl) ?_
  refine va_alen (v := nI n) hx hb hK hP 0 0 rfl rfl rfl d_Arr_fill_3 ?_
  refine lv_istore_n (lv' := [(3, .int (nI n)), (2, .int (nI 0)), (0, .ref h0), (1, .int v)]) hx hb d_Arr_fill_4 rfl hl (by decide) rfl (fun ls hl => ?_)
  refine k_fillI_loop (D := D) (A := A) (h0 := h0) (n := n) (v := v) (f := f) hn hx hb hK (fun H locs ls hP hD hS => vz_vret (post := fun (w : va_W) => w = [(h0, .inl (cI, n, .inl (fillF f n v)))]) hx hb hr hlocks hP hD hS (Nat.le_of_ble_eq_true rfl) (Nat.le_of_ble_eq_true rfl) d_Arr_fill_20 rfl) n 0 s.heap [] ls (Nat.zero_le _) (by omega) (hf.symm ▸ hP) (hf.symm ▸ hD) hS ?_
  exact lv_sub hl [1, 0, 2, 3] rfl
theorem k_fillJ_step (f : Nat → Int64) (i : Nat) (v : Int64) : vp_updL (fillF f i v) i v = fillF f (i + 1) v := by
  funext j
  unfold vp_updL fillF
  by_cases h : j = i
  · rw [if_pos h, if_pos (by omega)]
  · rw [if_neg h]
    by_cases q : j < i
    · rw [if_pos q, if_pos (by omega)]
    · rw [if_neg q, if_neg (by omega)]
set_option maxHeartbeats 4000000 in
theorem k_fillJ_loop {p : Program} {l : Launch} {e : Env} {R : Room} {s : State} {m : MethodId} {args : Array Value} {below : List Frame} {meth : Method} {c : Code} {D : va_G} {cI cJ cB : ClassId} {A : Nat → Prop} {Q : State → Prop} {h0 n : Nat} {v : Int64} {f : Nat → Int64} (hn : n < 2 ^ 31) (hx : p.tables.exec = Jvm.exec) (hb : c.code = b_Arr_fill2) (hK : va_K D classes [(cI, .int), (cJ, .long), (cB, .byte)] s)
    (hend : ∀ (H : Heap) (locs : List Loc) (ls : Array Slot), va_P D classes [(h0, .inl (cJ, n, .inr (.inl (fillF f n v))))] H → va_D A [(h0, .inl (cJ, n, .inr (.inl (fillF f n v))))] → va_S A s.heap H locs → W p l e R s m args below meth c H locs 0 0 Q (F0 m 22 ls [])) :
    ∀ (k i : Nat) (H : Heap) (locs : List Loc) (ls : Array Slot), i ≤ n → n ≤ i + k → va_P D classes [(h0, .inl (cJ, n, .inr (.inl (fillF f i v))))] H → va_D A [(h0, .inl (cJ, n, .inr (.inl (fillF f i v))))] → va_S A s.heap H locs → lv_has ls 5 [(3, .int (nI i)), (4, .int (nI n)), (0, .ref h0), (1, .long v)] → W p l e R s m args below meth c H locs 0 0 Q (F0 m 6 ls []) := by
  intro k
  induction k with
  | zero =>
    intro i H locs ls h1 h2 hP hD hS hl
    have hi : i = n := by omega
    subst hi
    refine lv_iload_n hx hb d_Arr_fill2_6 rfl (lv_at hl 0 rfl) ?_
    refine lv_iload hx hb d_Arr_fill2_7 (lv_at hl 1 rfl) ?_
    refine vz_icmp_ge_t (tgt := 22) hx hb d_Arr_fill2_9 (by decide) (nI_le (Nat.le_refl _) hn) ?_
    exact hend H locs ls hP hD hS
  | succ k ih =>
    intro i H locs ls h1 h2 hP hD hS hl
    refine lv_iload_n hx hb d_Arr_fill2_6 rfl (lv_at hl 0 rfl) ?_
    refine lv_iload hx hb d_Arr_fill2_7 (lv_at hl 1 rfl) ?_
    rcases Nat.lt_or_ge i n with q | q
    · refine vz_icmp_ge_f (tgt := 22) hx hb d_Arr_fill2_9 (by decide) (nI_ge q hn) ?_
      refine lv_aload_n hx hb d_Arr_fill2_12 rfl (lv_at hl 2 rfl) ?_
      refine lv_iload_n hx hb d_Arr_fill2_13 rfl (lv_at hl 0 rfl) ?_
      refine lv_lload_n hx hb d_Arr_fill2_14 rfl (lv_at hl 3 rfl) ?_
      refine va_last hx hb hK hP hD hS 0 1 rfl rfl (vp_in_nI q hn) d_Arr_fill2_15 (fun H locs hP hD hS => ?_)
      rw [nI_clamp (by omega), k_fillJ_step] at hP hD
      refine lv_iinc (v := nI (i + 1)) (lv' := [(3, .int (nI (i + 1))), (4, .int (nI n)), (0, .ref h0), (1, .long v)]) hx hb d_Arr_fill2_16 hl (k := 0) rfl (nI_1 i) (by decide) rfl (fun ls hl => ?_)
      refine lv_goto (tgt := 6) hx hb d_Arr_fill2_19 (by decide) ?_
      exact ih (i + 1) H locs ls q (by omega) hP hD hS hl
    · have hi : i = n := by omega
      subst hi
      refine vz_icmp_ge_t (tgt := 22) hx hb d_Arr_fill2_9 (by decide) (nI_le (Nat.le_refl _) hn) ?_
      exact hend H locs ls hP hD hS
set_option maxHeartbeats 4000000 in
/-- Arrays.fill, exactly -/
theorem k_fillJ (l : Launch) (D : va_G) (cI cJ cB : ClassId) (sa : Nat → Nat × Nat) (h0 : Nat) (v : Int64) (n : Nat) (f : Nat → Int64) (hn : n < 2 ^ 31) : MtV l y_Arr_fill2 (.code y_Arr_fill2 b_Arr_fill2 5 none :: CW) ({ frames := 0, cells := 0, slots := 0, locals := 0 }) D [(cI, .int), (cJ, .long), (cB, .byte)] sa [.ref h0, .long v] [(h0, .inl (cJ, n, .inr (.inl f)))] (fun (w : va_W) => w = [(h0, .inl (cJ, n, .inr (.inl (fillF f n v))))]) := by
  intro sz
  refine vz_start (Qc := fun A => va_Qv (fun (w : va_W) => w = [(h0, .inl (cJ, n, .inr (.inl (fillF f n v))))]) (vz_B D A) A) (lv0 := [(0, .ref h0), (1, .long v)]) (by decide +kernel) (Nat.le_of_ble_eq_true rfl) rfl ?_
  intro p e s m below meth c A ls C0 hl
  obtain ⟨hx, hb, hr, hml, hown, ht, hlocks, hin, hN, hK, hP, hD, hA, hS, hZ⟩ := C0
  have hf : fillF f 0 v = f := by funext j; unfold fillF; exact if_neg (Nat.not_lt_zero j)
  refine lv_iconst (v := nI 0) hx hb d_Arr_fill2_0 (by decide) ?_
  refine lv_istore_n (lv' := [(3, .int (nI 0)), (0, .ref h0), (1, .long v)]) hx hb d_Arr_fill2_1 rfl hl (by decide) rfl (fun ls hl => ?_)
  refine lv_aload_n hx hb d_Arr_fill2_2 rfl (lv_at hl 1 rfl) ?_
  refine va_alen (v := nI n) hx hb hK hP 0 1 rfl rfl rfl d_Arr_fill2_3 ?_
  refine lv_istore (lv' := [(4, .int (nI n)), (3, .int (nI 0)), (0, .ref h0), (1, .long v)]) hx hb d_Arr_fill2_4 hl (by decide) rfl (fun ls hl => ?_)
  refine k_fillJ_loop (D := D) (A := A) (h0 := h0) (n := n) (v := v) (f := f) hn hx hb hK (fun H locs ls hP hD hS => vz_vret (post := fun (w : va_W) => w = [(h0, .inl (cJ, n, .inr (.inl (fillF f n v))))]) hx hb hr hlocks hP hD hS (Nat.le_of_ble_eq_true rfl) (Nat.le_of_ble_eq_true rfl) d_Arr_fill2_22 rfl) n 0 s.heap [] ls (Nat.zero_le _) (by omega) (hf.symm ▸ hP) (hf.symm ▸ hD) hS ?_
  exact lv_sub hl [1, 0, 2, 3] rfl
