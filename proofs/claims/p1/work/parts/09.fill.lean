set_option maxHeartbeats 4000000 in
/-- the loop of Arrays.fill: places below i are filled -/
theorem k_fill_loop {p : Program} {l : Launch} {e : Env} {R : Room} {s : State} {m : MethodId} {args : Array Value} {below : List Frame} {meth : Method} {c : Code} {D : va_G} {cI cJ cB : ClassId} {A : Nat → Prop} {Q : State → Prop} {h0 n : Nat} {v : Int32} (hn : n < 2 ^ 31) (hx : p.tables.exec = Jvm.exec) (hb : c.code = b_Arr_fill) (hK : va_K D classes [(cI, .int), (cJ, .long), (cB, .byte)] s)
    (hend : ∀ (g : Nat → Int32) (H : Heap) (locs : List Loc) (ls : Array Slot), (∀ j, j < n → g j = v) → va_P D classes [(h0, .inl (cI, n, .inl g))] H → va_D A [(h0, .inl (cI, n, .inl g))] → va_S A s.heap H locs → W p l e R s m args below meth c H locs 0 0 Q (F0 m 20 ls [])) :
    ∀ (k i : Nat) (g : Nat → Int32) (H : Heap) (locs : List Loc) (ls : Array Slot), i ≤ n → n ≤ i + k → (∀ j, j < i → g j = v) → va_P D classes [(h0, .inl (cI, n, .inl g))] H → va_D A [(h0, .inl (cI, n, .inl g))] → va_S A s.heap H locs → lv_has ls 4 [(2, .int (nI i)), (3, .int (nI n)), (0, .ref h0), (1, .int v)] → W p l e R s m args below meth c H locs 0 0 Q (F0 m 5 ls []) := by
  intro k
  induction k with
  | zero =>
    intro i g H locs ls h1 h2 hg hP hD hS hl
    have hi : i = n := by omega
    subst hi
    refine lv_iload_n hx hb d_Arr_fill_5 rfl (lv_at hl 0 rfl) ?_
    refine lv_iload_n hx hb d_Arr_fill_6 rfl (lv_at hl 1 rfl) ?_
    refine vz_icmp_ge_t (tgt := 20) hx hb d_Arr_fill_7 (by decide) (nI_le (Nat.le_refl _) hn) ?_
    exact hend g H locs ls hg hP hD hS
  | succ k ih =>
    intro i g H locs ls h1 h2 hg hP hD hS hl
    refine lv_iload_n hx hb d_Arr_fill_5 rfl (lv_at hl 0 rfl) ?_
    refine lv_iload_n hx hb d_Arr_fill_6 rfl (lv_at hl 1 rfl) ?_
    rcases Nat.lt_or_ge i n with q | q
    · refine vz_icmp_ge_f (tgt := 20) hx hb d_Arr_fill_7 (by decide) (nI_ge q hn) ?_
      refine lv_aload_n hx hb d_Arr_fill_10 rfl (lv_at hl 2 rfl) ?_
      refine lv_iload_n hx hb d_Arr_fill_11 rfl (lv_at hl 0 rfl) ?_
      refine lv_iload_n hx hb d_Arr_fill_12 rfl (lv_at hl 3 rfl) ?_
      refine vz_iast hx hb hK hP hD hS 0 0 rfl rfl (vp_in_nI q hn) d_Arr_fill_13 (fun g2 H locs eg hP hD hS => ?_)
      have hP : va_P D classes [(h0, .inl (cI, n, .inl g2))] H := hP
      have hD : va_D A [(h0, .inl (cI, n, .inl g2))] := hD
      refine lv_iinc (v := nI (i + 1)) (lv' := [(2, .int (nI (i + 1))), (3, .int (nI n)), (0, .ref h0), (1, .int v)]) hx hb d_Arr_fill_14 hl (k := 0) rfl (nI_1 i) (by decide) rfl (fun ls hl => ?_)
      refine lv_goto (tgt := 5) hx hb d_Arr_fill_17 (by decide) ?_
      refine ih (i + 1) g2 H locs ls q (by omega) (fun j hj => ?_) hP hD hS hl
      rw [eg, nI_clamp (by omega)]
      by_cases e : j = i
      · rw [e]; exact pk_us
      · rw [pk_un e]; exact hg j (by omega)
    · have hi : i = n := by omega
      subst hi
      refine vz_icmp_ge_t (tgt := 20) hx hb d_Arr_fill_7 (by decide) (nI_le (Nat.le_refl _) hn) ?_
      exact hend g H locs ls hg hP hD hS
set_option maxHeartbeats 4000000 in
/-- Arrays.fill(a, v) -/
theorem k_fill (l : Launch) (D : va_G) (cI cJ cB : ClassId) (h0 : Nat) (v : Int32) (n : Nat) (f : Nat → Int32) (hn : n < 2 ^ 31) : MtV l y_Arr_fill (.code y_Arr_fill b_Arr_fill 4 none :: CW) ({ frames := 0, cells := 0, slots := 0, locals := 0 }) D [(cI, .int), (cJ, .long), (cB, .byte)] [.ref h0, .int v] [(h0, .inl (cI, n, .inl f))] (fun (w : va_W) => ∃ g : Nat → Int32, w = [(h0, .inl (cI, n, .inl g))]) := by
  intro sz
  refine vz_start (Qc := fun A => va_Qv (fun (w : va_W) => ∃ g : Nat → Int32, w = [(h0, .inl (cI, n, .inl g))]) (vz_B D A) A) (lv0 := [(0, .ref h0), (1, .int v)]) (by decide +kernel) (Nat.le_of_ble_eq_true rfl) rfl ?_
  intro p e s m below meth c A ls C0 hl
  obtain ⟨hx, hb, hr, hml, hown, ht, hlocks, hin, hN, hK, hP, hD, hA, hS⟩ := C0
  refine lv_iconst (v := nI 0) hx hb d_Arr_fill_0 (by decide) ?_
  refine lv_istore_n (lv' := [(2, .int (nI 0)), (0, .ref h0), (1, .int v)]) hx hb d_Arr_fill_1 rfl hl (by decide) rfl (fun ls hl => ?_)
  refine lv_aload_n hx hb d_Arr_fill_2 rfl (lv_at hl 1 rfl) ?_
  refine va_alen (v := nI n) hx hb hK hP 0 0 rfl rfl rfl d_Arr_fill_3 ?_
  refine lv_istore_n (lv' := [(3, .int (nI n)), (2, .int (nI 0)), (0, .ref h0), (1, .int v)]) hx hb d_Arr_fill_4 rfl hl (by decide) rfl (fun ls hl => ?_)
  refine k_fill_loop (D := D) (A := A) (h0 := h0) (n := n) (v := v) hn hx hb hK (fun g H locs ls hg hP hD hS => vz_vret hx hb hr hlocks hP hD hS (Nat.le_of_ble_eq_true rfl) (Nat.le_of_ble_eq_true rfl) d_Arr_fill_20 ⟨g, rfl⟩) n 0 f s.heap [] ls (Nat.zero_le _) (by omega) (fun j hj => absurd hj (Nat.not_lt_zero j)) hP hD hS ?_
  exact lv_sub hl [1, 0, 2, 3] rfl
