def ws_Sh_findArcs (cI cJ cB : ClassId) (q_p0 : Nat) (q_p0_key : Nat) (q_p0_name : Nat) (q_p0_from : Nat) (q_p0_to : Nat) (q_p0_edgeAt : Nat) (q_p0_componentOf : Nat) (q_p0_arcOf : Nat) (q_p0_pieceOf : Nat) (q_p0_faceOf : Nat) (q_p0_faceStart : Nat) (q_p0_faceSize : Nat) (q_p0_scratch : Nat) (i_p0_edges : Int32) (i_p0_components : Int32) (i_p0_pieces : Int32) (i_p0_faces : Int32) (i_p0_brokenRule : Int32) (i_p0_culprit : Int32) (f_p0_arcOf : Nat → Int32) (f_p0_edgeAt : Nat → Int32) (f_p0_from : Nat → Int32) (f_p0_to : Nat → Int32) : va_W := [(q_p0, .inr (5, [.ref q_p0_key, .ref q_p0_name, .ref q_p0_from, .ref q_p0_to, .ref q_p0_edgeAt, .ref q_p0_componentOf, .ref q_p0_arcOf, .ref q_p0_pieceOf, .ref q_p0_faceOf, .ref q_p0_faceStart, .ref q_p0_faceSize, .ref q_p0_scratch, .int i_p0_edges, .int i_p0_components, .int i_p0_pieces, .int i_p0_faces, .int i_p0_brokenRule, .int i_p0_culprit])), (q_p0_arcOf, .inl (cI, 40, .inl f_p0_arcOf)), (q_p0_edgeAt, .inl (cI, 80, .inl f_p0_edgeAt)), (q_p0_from, .inl (cI, 40, .inl f_p0_from)), (q_p0_to, .inl (cI, 40, .inl f_p0_to))]
def rm_Sh_findArcs : Room := { frames := 2, cells := 0, slots := 0, locals := 45 }
def B_Sh_findArcs_75 (fl : Nat) (i_p0_edges : Int32) (f_p0_edgeAt : Nat → Int32) (f_p0_from : Nat → Int32) (f_p0_to : Nat → Int32) (kb_49 : Int32 → Int32 → (Nat → Int32) → Option (Int32 × (Nat → Int32))) (x1 : Int32) (x2 : Int32) (f_p0_arcOf : Nat → Int32) : Option (Int32 × (Nat → Int32)) := kb_49 x1 (x2 + 1) f_p0_arcOf
def B_Sh_findArcs_49 (fl : Nat) (i_p0_edges : Int32) (f_p0_edgeAt : Nat → Int32) (f_p0_from : Nat → Int32) (f_p0_to : Nat → Int32) : Nat → Int32 → Int32 → (Nat → Int32) → Option (Int32 × (Nat → Int32))
  | 0, _, _, _ => none
  | nn + 1, x1, x2, f_p0_arcOf => (if i_p0_edges ≤ x2 then (some (x1, f_p0_arcOf)) else (if ¬ (x2 < 0 ∨ 40 ≤ Int32.toNatClampNeg x2) then (if (0 : Int32) ≤ (f_p0_arcOf (Int32.toNatClampNeg x2)) then B_Sh_findArcs_75 fl i_p0_edges f_p0_edgeAt f_p0_from f_p0_to (B_Sh_findArcs_49 fl i_p0_edges f_p0_edgeAt f_p0_from f_p0_to nn) x1 x2 f_p0_arcOf else ((m_Sh_fillArc fl i_p0_edges f_p0_edgeAt f_p0_to x2 x1 f_p0_arcOf).bind fun o0 => B_Sh_findArcs_75 fl i_p0_edges f_p0_edgeAt f_p0_from f_p0_to (B_Sh_findArcs_49 fl i_p0_edges f_p0_edgeAt f_p0_from f_p0_to nn) (x1 + 1) x2 o0)) else none))
def B_Sh_findArcs_41 (fl : Nat) (i_p0_edges : Int32) (f_p0_edgeAt : Nat → Int32) (f_p0_from : Nat → Int32) (f_p0_to : Nat → Int32) (kb_12 : Int32 → Int32 → (Nat → Int32) → Option (Int32 × (Nat → Int32))) (x1 : Int32) (x2 : Int32) (f_p0_arcOf : Nat → Int32) : Option (Int32 × (Nat → Int32)) := kb_12 x1 (x2 + 1) f_p0_arcOf
def B_Sh_findArcs_12 (fl : Nat) (i_p0_edges : Int32) (f_p0_edgeAt : Nat → Int32) (f_p0_from : Nat → Int32) (f_p0_to : Nat → Int32) : Nat → Int32 → Int32 → (Nat → Int32) → Option (Int32 × (Nat → Int32))
  | 0, _, _, _ => none
  | nn + 1, x1, x2, f_p0_arcOf => (if i_p0_edges ≤ x2 then B_Sh_findArcs_49 fl i_p0_edges f_p0_edgeAt f_p0_from f_p0_to fl x1 0 f_p0_arcOf else (if ¬ (x2 < 0 ∨ 40 ≤ Int32.toNatClampNeg x2) then ((m_Sh_isUpper fl (f_p0_from (Int32.toNatClampNeg x2))).bind fun o0 => (if ¬ o0 = (0 : Int32) then B_Sh_findArcs_41 fl i_p0_edges f_p0_edgeAt f_p0_from f_p0_to (B_Sh_findArcs_12 fl i_p0_edges f_p0_edgeAt f_p0_from f_p0_to nn) x1 x2 f_p0_arcOf else ((m_Sh_fillArc fl i_p0_edges f_p0_edgeAt f_p0_to x2 x1 f_p0_arcOf).bind fun o1 => B_Sh_findArcs_41 fl i_p0_edges f_p0_edgeAt f_p0_from f_p0_to (B_Sh_findArcs_12 fl i_p0_edges f_p0_edgeAt f_p0_from f_p0_to nn) (x1 + 1) x2 o1))) else none))
def B_Sh_findArcs_0 (fl : Nat) (i_p0_edges : Int32) (f_p0_edgeAt : Nat → Int32) (f_p0_from : Nat → Int32) (f_p0_to : Nat → Int32) (f_p0_arcOf : Nat → Int32) : Option (Int32 × (Nat → Int32)) := B_Sh_findArcs_12 fl i_p0_edges f_p0_edgeAt f_p0_from f_p0_to fl 0 0 (fillF f_p0_arcOf 40 (-1))
def m_Sh_findArcs (fl : Nat) (i_p0_edges : Int32) (f_p0_edgeAt : Nat → Int32) (f_p0_from : Nat → Int32) (f_p0_to : Nat → Int32) (f_p0_arcOf : Nat → Int32) : Option (Int32 × (Nat → Int32)) := B_Sh_findArcs_0 fl i_p0_edges f_p0_edgeAt f_p0_from f_p0_to f_p0_arcOf
set_option maxHeartbeats 4000000 in
set_option maxRecDepth 100000 in
theorem w_Sh_findArcs_75 {p : Program} {l : Launch} {e : Env} {s : State} {m : MethodId} {args : Array Value} {below : List Frame} {meth : Method} {c : Code} {D : va_G} {cI cJ cB : ClassId} {sa : Nat → Nat × Nat} {A : Nat → Prop} (fl : Nat) (q_p0 : Nat) (q_p0_key : Nat) (q_p0_name : Nat) (q_p0_from : Nat) (q_p0_to : Nat) (q_p0_edgeAt : Nat) (q_p0_componentOf : Nat) (q_p0_arcOf : Nat) (q_p0_pieceOf : Nat) (q_p0_faceOf : Nat) (q_p0_faceStart : Nat) (q_p0_faceSize : Nat) (q_p0_scratch : Nat) (i_p0_edges : Int32) (f_p0_edgeAt : Nat → Int32) (f_p0_from : Nat → Int32) (f_p0_to : Nat → Int32) (i_p0_components : Int32) (i_p0_pieces : Int32) (i_p0_faces : Int32) (i_p0_brokenRule : Int32) (i_p0_culprit : Int32) (res : Int32 × (Nat → Int32)) (C0 : vz_Cx p s m meth c b_Sh_findArcs 3 (some .int) "LinkEngine$Shape" "findArcs" D [(cI, .int), (cJ, .long), (cB, .byte)] sa A args) (kb_49 : Int32 → Int32 → (Nat → Int32) → Option (Int32 × (Nat → Int32))) (hk_49 : ∀ (x1 : Int32) (x2 : Int32) (f_p0_arcOf : Nat → Int32) (H : Heap) (locs : List Loc) (ls : Array Slot), kb_49 x1 x2 f_p0_arcOf = some res → va_P D classes (ws_Sh_findArcs cI cJ cB q_p0 q_p0_key q_p0_name q_p0_from q_p0_to q_p0_edgeAt q_p0_componentOf q_p0_arcOf q_p0_pieceOf q_p0_faceOf q_p0_faceStart q_p0_faceSize q_p0_scratch i_p0_edges i_p0_components i_p0_pieces i_p0_faces i_p0_brokenRule i_p0_culprit f_p0_arcOf f_p0_edgeAt f_p0_from f_p0_to) H → va_D A (ws_Sh_findArcs cI cJ cB q_p0 q_p0_key q_p0_name q_p0_from q_p0_to q_p0_edgeAt q_p0_componentOf q_p0_arcOf q_p0_pieceOf q_p0_faceOf q_p0_faceStart q_p0_faceSize q_p0_scratch i_p0_edges i_p0_components i_p0_pieces i_p0_faces i_p0_brokenRule i_p0_culprit f_p0_arcOf f_p0_edgeAt f_p0_from f_p0_to) → va_S A s.heap H locs → lv_has ls 3 [(0, .ref q_p0), (1, .int x1), (2, .int x2)] → W p l e rm_Sh_findArcs s m args below meth c H locs 0 0 (MQ below (va_Qi (fun (r : Int32) (w : va_W) => r = res.1 ∧ w = (ws_Sh_findArcs cI cJ cB q_p0 q_p0_key q_p0_name q_p0_from q_p0_to q_p0_edgeAt q_p0_componentOf q_p0_arcOf q_p0_pieceOf q_p0_faceOf q_p0_faceStart q_p0_faceSize q_p0_scratch i_p0_edges i_p0_components i_p0_pieces i_p0_faces i_p0_brokenRule i_p0_culprit res.2 f_p0_edgeAt f_p0_from f_p0_to)) (vz_B D A) A) args s 0 0 A) (F0 m 49 ls [])) : ∀ (x1 : Int32) (x2 : Int32) (f_p0_arcOf : Nat → Int32) (H : Heap) (locs : List Loc) (ls : Array Slot), B_Sh_findArcs_75 fl i_p0_edges f_p0_edgeAt f_p0_from f_p0_to kb_49 x1 x2 f_p0_arcOf = some res → va_P D classes (ws_Sh_findArcs cI cJ cB q_p0 q_p0_key q_p0_name q_p0_from q_p0_to q_p0_edgeAt q_p0_componentOf q_p0_arcOf q_p0_pieceOf q_p0_faceOf q_p0_faceStart q_p0_faceSize q_p0_scratch i_p0_edges i_p0_components i_p0_pieces i_p0_faces i_p0_brokenRule i_p0_culprit f_p0_arcOf f_p0_edgeAt f_p0_from f_p0_to) H → va_D A (ws_Sh_findArcs cI cJ cB q_p0 q_p0_key q_p0_name q_p0_from q_p0_to q_p0_edgeAt q_p0_componentOf q_p0_arcOf q_p0_pieceOf q_p0_faceOf q_p0_faceStart q_p0_faceSize q_p0_scratch i_p0_edges i_p0_components i_p0_pieces i_p0_faces i_p0_brokenRule i_p0_culprit f_p0_arcOf f_p0_edgeAt f_p0_from f_p0_to) → va_S A s.heap H locs → lv_has ls 3 [(0, .ref q_p0), (1, .int x1), (2, .int x2)] → W p l e rm_Sh_findArcs s m args below meth c H locs 0 0 (MQ below (va_Qi (fun (r : Int32) (w : va_W) => r = res.1 ∧ w = (ws_Sh_findArcs cI cJ cB q_p0 q_p0_key q_p0_name q_p0_from q_p0_to q_p0_edgeAt q_p0_componentOf q_p0_arcOf q_p0_pieceOf q_p0_faceOf q_p0_faceStart q_p0_faceSize q_p0_scratch i_p0_edges i_p0_components i_p0_pieces i_p0_faces i_p0_brokenRule i_p0_culprit res.2 f_p0_edgeAt f_p0_from f_p0_to)) (vz_B D A) A) args s 0 0 A) (F0 m 75 ls []) := by
  obtain ⟨hx, hb, hr, hml, hown, ht, hlocks, hin, hN, hK, hA, hZ⟩ := id C0
  intro x1 x2 f_p0_arcOf H locs ls hm hP hD hS hl
  unfold B_Sh_findArcs_75 at hm
  refine lv_iinc (v := (x2 + 1)) (lv' := [(2, .int (x2 + 1)), (0, .ref q_p0), (1, .int x1)]) hx hb d_Sh_findArcs_75 hl (k := 2) rfl rfl (by decide) rfl (fun ls hl => ?_)
  refine lv_goto (tgt := 49) hx hb d_Sh_findArcs_78 (by decide) ?_
  exact hk_49 x1 (x2 + 1) f_p0_arcOf _ _ _ hm hP hD hS (lv_sub hl [1, 2, 0] rfl)
set_option maxHeartbeats 4000000 in
set_option maxRecDepth 100000 in
theorem w_Sh_findArcs_49 {p : Program} {l : Launch} {e : Env} {s : State} {m : MethodId} {args : Array Value} {below : List Frame} {meth : Method} {c : Code} {D : va_G} {cI cJ cB : ClassId} {sa : Nat → Nat × Nat} {A : Nat → Prop} (fl : Nat) (q_p0 : Nat) (q_p0_key : Nat) (q_p0_name : Nat) (q_p0_from : Nat) (q_p0_to : Nat) (q_p0_edgeAt : Nat) (q_p0_componentOf : Nat) (q_p0_arcOf : Nat) (q_p0_pieceOf : Nat) (q_p0_faceOf : Nat) (q_p0_faceStart : Nat) (q_p0_faceSize : Nat) (q_p0_scratch : Nat) (i_p0_edges : Int32) (f_p0_edgeAt : Nat → Int32) (f_p0_from : Nat → Int32) (f_p0_to : Nat → Int32) (i_p0_components : Int32) (i_p0_pieces : Int32) (i_p0_faces : Int32) (i_p0_brokenRule : Int32) (i_p0_culprit : Int32) (res : Int32 × (Nat → Int32)) (C0 : vz_Cx p s m meth c b_Sh_findArcs 3 (some .int) "LinkEngine$Shape" "findArcs" D [(cI, .int), (cJ, .long), (cB, .byte)] sa A args) : ∀ (nn : Nat), ∀ (x1 : Int32) (x2 : Int32) (f_p0_arcOf : Nat → Int32) (H : Heap) (locs : List Loc) (ls : Array Slot), B_Sh_findArcs_49 fl i_p0_edges f_p0_edgeAt f_p0_from f_p0_to nn x1 x2 f_p0_arcOf = some res → va_P D classes (ws_Sh_findArcs cI cJ cB q_p0 q_p0_key q_p0_name q_p0_from q_p0_to q_p0_edgeAt q_p0_componentOf q_p0_arcOf q_p0_pieceOf q_p0_faceOf q_p0_faceStart q_p0_faceSize q_p0_scratch i_p0_edges i_p0_components i_p0_pieces i_p0_faces i_p0_brokenRule i_p0_culprit f_p0_arcOf f_p0_edgeAt f_p0_from f_p0_to) H → va_D A (ws_Sh_findArcs cI cJ cB q_p0 q_p0_key q_p0_name q_p0_from q_p0_to q_p0_edgeAt q_p0_componentOf q_p0_arcOf q_p0_pieceOf q_p0_faceOf q_p0_faceStart q_p0_faceSize q_p0_scratch i_p0_edges i_p0_components i_p0_pieces i_p0_faces i_p0_brokenRule i_p0_culprit f_p0_arcOf f_p0_edgeAt f_p0_from f_p0_to) → va_S A s.heap H locs → lv_has ls 3 [(0, .ref q_p0), (1, .int x1), (2, .int x2)] → W p l e rm_Sh_findArcs s m args below meth c H locs 0 0 (MQ below (va_Qi (fun (r : Int32) (w : va_W) => r = res.1 ∧ w = (ws_Sh_findArcs cI cJ cB q_p0 q_p0_key q_p0_name q_p0_from q_p0_to q_p0_edgeAt q_p0_componentOf q_p0_arcOf q_p0_pieceOf q_p0_faceOf q_p0_faceStart q_p0_faceSize q_p0_scratch i_p0_edges i_p0_components i_p0_pieces i_p0_faces i_p0_brokenRule i_p0_culprit res.2 f_p0_edgeAt f_p0_from f_p0_to)) (vz_B D A) A) args s 0 0 A) (F0 m 49 ls []) := by
  obtain ⟨hx, hb, hr, hml, hown, ht, hlocks, hin, hN, hK, hA, hZ⟩ := id C0
  intro nn
  induction nn with
  | zero =>
    intro x1 x2 f_p0_arcOf H locs ls hm hP hD hS hl
    rw [B_Sh_findArcs_49] at hm
    cases hm
  | succ nn ih =>
    intro x1 x2 f_p0_arcOf H locs ls hm hP hD hS hl
    rw [B_Sh_findArcs_49] at hm
    refine lv_iload_n hx hb d_Sh_findArcs_49 rfl (lv_at hl 2 rfl) ?_
    refine lv_aload_n hx hb d_Sh_findArcs_50 rfl (lv_at hl 0 rfl) ?_
    refine va_get (D := D) (ci := 5) (v := .int i_p0_edges) (C := R_Sh) (T := F_Sh) (N := 18) hx hb ht i_Sh hown hK hP 0 rfl rfl 12 (Nat.le_of_ble_eq_true rfl) (ht _ m_219) (fun _ h9 => h9) rfl d_Sh_findArcs_51 ?_
    refine lv_icmp_ge (tgt := 81) hx hb d_Sh_findArcs_54 (by decide) (fun hc => ?_) (fun hc => ?_)
    · rw [if_pos hc] at hm
      refine lv_iload_n hx hb d_Sh_findArcs_81 rfl (lv_at hl 1 rfl) ?_
      obtain rfl := Option.some.inj hm
      exact vz_iret hx hb hr rfl hlocks hP hD hS (Nat.le_refl _) (Nat.le_refl _) d_Sh_findArcs_82 ⟨rfl, rfl⟩
    · rw [if_neg hc] at hm
      refine lv_aload_n hx hb d_Sh_findArcs_57 rfl (lv_at hl 0 rfl) ?_
      refine va_get (D := D) (ci := 5) (v := .ref q_p0_arcOf) (C := R_Sh) (T := F_Sh) (N := 18) hx hb ht i_Sh hown hK hP 0 rfl rfl 6 (Nat.le_of_ble_eq_true rfl) (ht _ m_38) (fun _ h9 => h9) rfl d_Sh_findArcs_58 ?_
      refine lv_iload_n hx hb d_Sh_findArcs_61 rfl (lv_at hl 2 rfl) ?_
      obtain ⟨hg, hm⟩ := vz_guard hm
      refine va_iald hx hb hK hP 1 0 rfl rfl hg d_Sh_findArcs_62 ?_
      refine lv_if_ge (tgt := 75) hx hb d_Sh_findArcs_63 (by decide) (fun hc => ?_) (fun hc => ?_)
      · rw [if_pos hc] at hm
        exact w_Sh_findArcs_75 fl q_p0 q_p0_key q_p0_name q_p0_from q_p0_to q_p0_edgeAt q_p0_componentOf q_p0_arcOf q_p0_pieceOf q_p0_faceOf q_p0_faceStart q_p0_faceSize q_p0_scratch i_p0_edges f_p0_edgeAt f_p0_from f_p0_to i_p0_components i_p0_pieces i_p0_faces i_p0_brokenRule i_p0_culprit res C0 (B_Sh_findArcs_49 fl i_p0_edges f_p0_edgeAt f_p0_from f_p0_to nn) ih x1 x2 f_p0_arcOf _ _ _ hm hP hD hS (lv_sub hl [0, 1, 2] rfl)
      · rw [if_neg hc] at hm
        refine lv_aload_n hx hb d_Sh_findArcs_66 rfl (lv_at hl 0 rfl) ?_
        refine lv_iload_n hx hb d_Sh_findArcs_67 rfl (lv_at hl 2 rfl) ?_
        refine lv_iload_n hx hb d_Sh_findArcs_68 rfl (lv_at hl 1 rfl) ?_
        obtain ⟨o0, ho0, hm⟩ := vz_bind hm
        try dsimp only at hm
        refine vz_callVv (n := 2) (As := [.int x2, .int x1]) (rest := []) (wc := (ws_Sh_fillArc cI cJ cB q_p0 q_p0_key q_p0_name q_p0_from q_p0_to q_p0_edgeAt q_p0_componentOf q_p0_arcOf q_p0_pieceOf q_p0_faceOf q_p0_faceStart q_p0_faceSize q_p0_scratch i_p0_edges i_p0_components i_p0_pieces i_p0_faces i_p0_brokenRule i_p0_culprit f_p0_arcOf f_p0_edgeAt f_p0_to)) (wr := [(q_p0_from, .inl (cI, 40, .inl f_p0_from))]) (k1 := 0) (n1 := 0) hx hb hml hown ht hN hZ hK hP hD hS hA (k_Sh_fillArc l D cI cJ cB sa fl q_p0 q_p0_key q_p0_name q_p0_from q_p0_to q_p0_edgeAt q_p0_componentOf q_p0_arcOf q_p0_pieceOf q_p0_faceOf q_p0_faceStart q_p0_faceSize q_p0_scratch i_p0_edges f_p0_edgeAt f_p0_to i_p0_components i_p0_pieces i_p0_faces i_p0_brokenRule i_p0_culprit f_p0_arcOf x2 x1 o0 ho0) m_620 m_54 m_617 m_618 m_619 (hc := (rfl : classes[5]? = some (R_Sh, F_Sh, 18))) 0 rfl (by decide +kernel) ⟨Nat.le_of_ble_eq_true rfl, Nat.le_of_ble_eq_true rfl⟩ [0, 1, 2, 4] [3] rfl rfl (by decide) (by decide) (by decide) rfl hl.1 rfl (Nat.le_of_ble_eq_true rfl) rfl rfl ⟨Nat.zero_le _, Nat.zero_le _⟩ d_Sh_findArcs_69 (fun w1 H locs hw hP hD hS => ?_)
        subst hw
        have hP : va_P D classes (ws_Sh_findArcs cI cJ cB q_p0 q_p0_key q_p0_name q_p0_from q_p0_to q_p0_edgeAt q_p0_componentOf q_p0_arcOf q_p0_pieceOf q_p0_faceOf q_p0_faceStart q_p0_faceSize q_p0_scratch i_p0_edges i_p0_components i_p0_pieces i_p0_faces i_p0_brokenRule i_p0_culprit o0 f_p0_edgeAt f_p0_from f_p0_to) H := hP.sub [1, 2, 3, 0, 4] rfl
        have hD : va_D A (ws_Sh_findArcs cI cJ cB q_p0 q_p0_key q_p0_name q_p0_from q_p0_to q_p0_edgeAt q_p0_componentOf q_p0_arcOf q_p0_pieceOf q_p0_faceOf q_p0_faceStart q_p0_faceSize q_p0_scratch i_p0_edges i_p0_components i_p0_pieces i_p0_faces i_p0_brokenRule i_p0_culprit o0 f_p0_edgeAt f_p0_from f_p0_to) := hD.sub [1, 2, 3, 0, 4] (by decide) rfl
        refine lv_iinc (v := (x1 + 1)) (lv' := [(1, .int (x1 + 1)), (0, .ref q_p0), (2, .int x2)]) hx hb d_Sh_findArcs_72 hl (k := 1) rfl rfl (by decide) rfl (fun ls hl => ?_)
        exact w_Sh_findArcs_75 fl q_p0 q_p0_key q_p0_name q_p0_from q_p0_to q_p0_edgeAt q_p0_componentOf q_p0_arcOf q_p0_pieceOf q_p0_faceOf q_p0_faceStart q_p0_faceSize q_p0_scratch i_p0_edges f_p0_edgeAt f_p0_from f_p0_to i_p0_components i_p0_pieces i_p0_faces i_p0_brokenRule i_p0_culprit res C0 (B_Sh_findArcs_49 fl i_p0_edges f_p0_edgeAt f_p0_from f_p0_to nn) ih (x1 + 1) x2 o0 _ _ _ hm hP hD hS (lv_sub hl [1, 0, 2] rfl)
set_option maxHeartbeats 4000000 in
set_option maxRecDepth 100000 in
theorem w_Sh_findArcs_41 {p : Program} {l : Launch} {e : Env} {s : State} {m : MethodId} {args : Array Value} {below : List Frame} {meth : Method} {c : Code} {D : va_G} {cI cJ cB : ClassId} {sa : Nat → Nat × Nat} {A : Nat → Prop} (fl : Nat) (q_p0 : Nat) (q_p0_key : Nat) (q_p0_name : Nat) (q_p0_from : Nat) (q_p0_to : Nat) (q_p0_edgeAt : Nat) (q_p0_componentOf : Nat) (q_p0_arcOf : Nat) (q_p0_pieceOf : Nat) (q_p0_faceOf : Nat) (q_p0_faceStart : Nat) (q_p0_faceSize : Nat) (q_p0_scratch : Nat) (i_p0_edges : Int32) (f_p0_edgeAt : Nat → Int32) (f_p0_from : Nat → Int32) (f_p0_to : Nat → Int32) (i_p0_components : Int32) (i_p0_pieces : Int32) (i_p0_faces : Int32) (i_p0_brokenRule : Int32) (i_p0_culprit : Int32) (res : Int32 × (Nat → Int32)) (C0 : vz_Cx p s m meth c b_Sh_findArcs 3 (some .int) "LinkEngine$Shape" "findArcs" D [(cI, .int), (cJ, .long), (cB, .byte)] sa A args) (kb_12 : Int32 → Int32 → (Nat → Int32) → Option (Int32 × (Nat → Int32))) (hk_12 : ∀ (x1 : Int32) (x2 : Int32) (f_p0_arcOf : Nat → Int32) (H : Heap) (locs : List Loc) (ls : Array Slot), kb_12 x1 x2 f_p0_arcOf = some res → va_P D classes (ws_Sh_findArcs cI cJ cB q_p0 q_p0_key q_p0_name q_p0_from q_p0_to q_p0_edgeAt q_p0_componentOf q_p0_arcOf q_p0_pieceOf q_p0_faceOf q_p0_faceStart q_p0_faceSize q_p0_scratch i_p0_edges i_p0_components i_p0_pieces i_p0_faces i_p0_brokenRule i_p0_culprit f_p0_arcOf f_p0_edgeAt f_p0_from f_p0_to) H → va_D A (ws_Sh_findArcs cI cJ cB q_p0 q_p0_key q_p0_name q_p0_from q_p0_to q_p0_edgeAt q_p0_componentOf q_p0_arcOf q_p0_pieceOf q_p0_faceOf q_p0_faceStart q_p0_faceSize q_p0_scratch i_p0_edges i_p0_components i_p0_pieces i_p0_faces i_p0_brokenRule i_p0_culprit f_p0_arcOf f_p0_edgeAt f_p0_from f_p0_to) → va_S A s.heap H locs → lv_has ls 3 [(0, .ref q_p0), (1, .int x1), (2, .int x2)] → W p l e rm_Sh_findArcs s m args below meth c H locs 0 0 (MQ below (va_Qi (fun (r : Int32) (w : va_W) => r = res.1 ∧ w = (ws_Sh_findArcs cI cJ cB q_p0 q_p0_key q_p0_name q_p0_from q_p0_to q_p0_edgeAt q_p0_componentOf q_p0_arcOf q_p0_pieceOf q_p0_faceOf q_p0_faceStart q_p0_faceSize q_p0_scratch i_p0_edges i_p0_components i_p0_pieces i_p0_faces i_p0_brokenRule i_p0_culprit res.2 f_p0_edgeAt f_p0_from f_p0_to)) (vz_B D A) A) args s 0 0 A) (F0 m 12 ls [])) : ∀ (x1 : Int32) (x2 : Int32) (f_p0_arcOf : Nat → Int32) (H : Heap) (locs : List Loc) (ls : Array Slot), B_Sh_findArcs_41 fl i_p0_edges f_p0_edgeAt f_p0_from f_p0_to kb_12 x1 x2 f_p0_arcOf = some res → va_P D classes (ws_Sh_findArcs cI cJ cB q_p0 q_p0_key q_p0_name q_p0_from q_p0_to q_p0_edgeAt q_p0_componentOf q_p0_arcOf q_p0_pieceOf q_p0_faceOf q_p0_faceStart q_p0_faceSize q_p0_scratch i_p0_edges i_p0_components i_p0_pieces i_p0_faces i_p0_brokenRule i_p0_culprit f_p0_arcOf f_p0_edgeAt f_p0_from f_p0_to) H → va_D A (ws_Sh_findArcs cI cJ cB q_p0 q_p0_key q_p0_name q_p0_from q_p0_to q_p0_edgeAt q_p0_componentOf q_p0_arcOf q_p0_pieceOf q_p0_faceOf q_p0_faceStart q_p0_faceSize q_p0_scratch i_p0_edges i_p0_components i_p0_pieces i_p0_faces i_p0_brokenRule i_p0_culprit f_p0_arcOf f_p0_edgeAt f_p0_from f_p0_to) → va_S A s.heap H locs → lv_has ls 3 [(0, .ref q_p0), (1, .int x1), (2, .int x2)] → W p l e rm_Sh_findArcs s m args below meth c H locs 0 0 (MQ below (va_Qi (fun (r : Int32) (w : va_W) => r = res.1 ∧ w = (ws_Sh_findArcs cI cJ cB q_p0 q_p0_key q_p0_name q_p0_from q_p0_to q_p0_edgeAt q_p0_componentOf q_p0_arcOf q_p0_pieceOf q_p0_faceOf q_p0_faceStart q_p0_faceSize q_p0_scratch i_p0_edges i_p0_components i_p0_pieces i_p0_faces i_p0_brokenRule i_p0_culprit res.2 f_p0_edgeAt f_p0_from f_p0_to)) (vz_B D A) A) args s 0 0 A) (F0 m 41 ls []) := by
  obtain ⟨hx, hb, hr, hml, hown, ht, hlocks, hin, hN, hK, hA, hZ⟩ := id C0
  intro x1 x2 f_p0_arcOf H locs ls hm hP hD hS hl
  unfold B_Sh_findArcs_41 at hm
  refine lv_iinc (v := (x2 + 1)) (lv' := [(2, .int (x2 + 1)), (0, .ref q_p0), (1, .int x1)]) hx hb d_Sh_findArcs_41 hl (k := 2) rfl rfl (by decide) rfl (fun ls hl => ?_)
  refine lv_goto (tgt := 12) hx hb d_Sh_findArcs_44 (by decide) ?_
  exact hk_12 x1 (x2 + 1) f_p0_arcOf _ _ _ hm hP hD hS (lv_sub hl [1, 2, 0] rfl)
set_option maxHeartbeats 4000000 in
set_option maxRecDepth 100000 in
theorem w_Sh_findArcs_12 {p : Program} {l : Launch} {e : Env} {s : State} {m : MethodId} {args : Array Value} {below : List Frame} {meth : Method} {c : Code} {D : va_G} {cI cJ cB : ClassId} {sa : Nat → Nat × Nat} {A : Nat → Prop} (fl : Nat) (q_p0 : Nat) (q_p0_key : Nat) (q_p0_name : Nat) (q_p0_from : Nat) (q_p0_to : Nat) (q_p0_edgeAt : Nat) (q_p0_componentOf : Nat) (q_p0_arcOf : Nat) (q_p0_pieceOf : Nat) (q_p0_faceOf : Nat) (q_p0_faceStart : Nat) (q_p0_faceSize : Nat) (q_p0_scratch : Nat) (i_p0_edges : Int32) (f_p0_edgeAt : Nat → Int32) (f_p0_from : Nat → Int32) (f_p0_to : Nat → Int32) (i_p0_components : Int32) (i_p0_pieces : Int32) (i_p0_faces : Int32) (i_p0_brokenRule : Int32) (i_p0_culprit : Int32) (res : Int32 × (Nat → Int32)) (C0 : vz_Cx p s m meth c b_Sh_findArcs 3 (some .int) "LinkEngine$Shape" "findArcs" D [(cI, .int), (cJ, .long), (cB, .byte)] sa A args) : ∀ (nn : Nat), ∀ (x1 : Int32) (x2 : Int32) (f_p0_arcOf : Nat → Int32) (H : Heap) (locs : List Loc) (ls : Array Slot), B_Sh_findArcs_12 fl i_p0_edges f_p0_edgeAt f_p0_from f_p0_to nn x1 x2 f_p0_arcOf = some res → va_P D classes (ws_Sh_findArcs cI cJ cB q_p0 q_p0_key q_p0_name q_p0_from q_p0_to q_p0_edgeAt q_p0_componentOf q_p0_arcOf q_p0_pieceOf q_p0_faceOf q_p0_faceStart q_p0_faceSize q_p0_scratch i_p0_edges i_p0_components i_p0_pieces i_p0_faces i_p0_brokenRule i_p0_culprit f_p0_arcOf f_p0_edgeAt f_p0_from f_p0_to) H → va_D A (ws_Sh_findArcs cI cJ cB q_p0 q_p0_key q_p0_name q_p0_from q_p0_to q_p0_edgeAt q_p0_componentOf q_p0_arcOf q_p0_pieceOf q_p0_faceOf q_p0_faceStart q_p0_faceSize q_p0_scratch i_p0_edges i_p0_components i_p0_pieces i_p0_faces i_p0_brokenRule i_p0_culprit f_p0_arcOf f_p0_edgeAt f_p0_from f_p0_to) → va_S A s.heap H locs → lv_has ls 3 [(0, .ref q_p0), (1, .int x1), (2, .int x2)] → W p l e rm_Sh_findArcs s m args below meth c H locs 0 0 (MQ below (va_Qi (fun (r : Int32) (w : va_W) => r = res.1 ∧ w = (ws_Sh_findArcs cI cJ cB q_p0 q_p0_key q_p0_name q_p0_from q_p0_to q_p0_edgeAt q_p0_componentOf q_p0_arcOf q_p0_pieceOf q_p0_faceOf q_p0_faceStart q_p0_faceSize q_p0_scratch i_p0_edges i_p0_components i_p0_pieces i_p0_faces i_p0_brokenRule i_p0_culprit res.2 f_p0_edgeAt f_p0_from f_p0_to)) (vz_B D A) A) args s 0 0 A) (F0 m 12 ls []) := by
  obtain ⟨hx, hb, hr, hml, hown, ht, hlocks, hin, hN, hK, hA, hZ⟩ := id C0
  intro nn
  induction nn with
  | zero =>
    intro x1 x2 f_p0_arcOf H locs ls hm hP hD hS hl
    rw [B_Sh_findArcs_12] at hm
    cases hm
  | succ nn ih =>
    intro x1 x2 f_p0_arcOf H locs ls hm hP hD hS hl
    rw [B_Sh_findArcs_12] at hm
    refine lv_iload_n hx hb d_Sh_findArcs_12 rfl (lv_at hl 2 rfl) ?_
    refine lv_aload_n hx hb d_Sh_findArcs_13 rfl (lv_at hl 0 rfl) ?_
    refine va_get (D := D) (ci := 5) (v := .int i_p0_edges) (C := R_Sh) (T := F_Sh) (N := 18) hx hb ht i_Sh hown hK hP 0 rfl rfl 12 (Nat.le_of_ble_eq_true rfl) (ht _ m_219) (fun _ h9 => h9) rfl d_Sh_findArcs_14 ?_
    refine lv_icmp_ge (tgt := 47) hx hb d_Sh_findArcs_17 (by decide) (fun hc => ?_) (fun hc => ?_)
    · rw [if_pos hc] at hm
      refine lv_iconst (v := 0) hx hb d_Sh_findArcs_47 (by decide) ?_
      refine lv_istore_n (lv' := [(2, .int 0), (0, .ref q_p0), (1, .int x1)]) hx hb d_Sh_findArcs_48 rfl hl (by decide) rfl (fun ls hl => ?_)
      exact w_Sh_findArcs_49 fl q_p0 q_p0_key q_p0_name q_p0_from q_p0_to q_p0_edgeAt q_p0_componentOf q_p0_arcOf q_p0_pieceOf q_p0_faceOf q_p0_faceStart q_p0_faceSize q_p0_scratch i_p0_edges f_p0_edgeAt f_p0_from f_p0_to i_p0_components i_p0_pieces i_p0_faces i_p0_brokenRule i_p0_culprit res C0 fl x1 0 f_p0_arcOf _ _ _ hm hP hD hS (lv_sub hl [1, 2, 0] rfl)
    · rw [if_neg hc] at hm
      refine lv_aload_n hx hb d_Sh_findArcs_20 rfl (lv_at hl 0 rfl) ?_
      refine va_get (D := D) (ci := 5) (v := .ref q_p0_from) (C := R_Sh) (T := F_Sh) (N := 18) hx hb ht i_Sh hown hK hP 0 rfl rfl 2 (Nat.le_of_ble_eq_true rfl) (ht _ m_34) (fun _ h9 => h9) rfl d_Sh_findArcs_21 ?_
      refine lv_iload_n hx hb d_Sh_findArcs_24 rfl (lv_at hl 2 rfl) ?_
      obtain ⟨hg, hm⟩ := vz_guard hm
      refine va_iald hx hb hK hP 3 0 rfl rfl hg d_Sh_findArcs_25 ?_
      obtain ⟨o0, ho0, hm⟩ := vz_bind hm
      try dsimp only at hm
      refine vz_callSi (n := 1) (As := [.int (f_p0_from (Int32.toNatClampNeg x2))]) (rest := []) (wc := (ws_Sh_isUpper cI cJ cB )) (wr := (ws_Sh_findArcs cI cJ cB q_p0 q_p0_key q_p0_name q_p0_from q_p0_to q_p0_edgeAt q_p0_componentOf q_p0_arcOf q_p0_pieceOf q_p0_faceOf q_p0_faceStart q_p0_faceSize q_p0_scratch i_p0_edges i_p0_components i_p0_pieces i_p0_faces i_p0_brokenRule i_p0_culprit f_p0_arcOf f_p0_edgeAt f_p0_from f_p0_to)) (k1 := 0) (n1 := 0) hx hb hml hown ht hN hZ hK hP hD hS hA (k_Sh_isUpper l D cI cJ cB sa fl   (f_p0_from (Int32.toNatClampNeg x2)) o0 ho0) m_390 m_54 m_388 m_389 (by decide +kernel) ⟨Nat.le_of_ble_eq_true rfl, Nat.le_of_ble_eq_true rfl⟩ [] [0, 1, 2, 3, 4] rfl rfl (by decide) (by decide) (by decide) rfl hl.1 rfl (Nat.le_of_ble_eq_true rfl) rfl rfl ⟨Nat.zero_le _, Nat.zero_le _⟩ d_Sh_findArcs_26 (fun r1 w1 H locs hw hP hD hS => ?_)
      obtain ⟨hr1, rfl⟩ := hw
      have hr1 := hr1.symm
      subst hr1
      have hP : va_P D classes (ws_Sh_findArcs cI cJ cB q_p0 q_p0_key q_p0_name q_p0_from q_p0_to q_p0_edgeAt q_p0_componentOf q_p0_arcOf q_p0_pieceOf q_p0_faceOf q_p0_faceStart q_p0_faceSize q_p0_scratch i_p0_edges i_p0_components i_p0_pieces i_p0_faces i_p0_brokenRule i_p0_culprit f_p0_arcOf f_p0_edgeAt f_p0_from f_p0_to) H := hP.sub [0, 1, 2, 3, 4] rfl
      have hD : va_D A (ws_Sh_findArcs cI cJ cB q_p0 q_p0_key q_p0_name q_p0_from q_p0_to q_p0_edgeAt q_p0_componentOf q_p0_arcOf q_p0_pieceOf q_p0_faceOf q_p0_faceStart q_p0_faceSize q_p0_scratch i_p0_edges i_p0_components i_p0_pieces i_p0_faces i_p0_brokenRule i_p0_culprit f_p0_arcOf f_p0_edgeAt f_p0_from f_p0_to) := hD.sub [0, 1, 2, 3, 4] (by decide) rfl
      refine lv_if_ne (tgt := 41) hx hb d_Sh_findArcs_29 (by decide) (fun hc => ?_) (fun hc => ?_)
      · rw [if_pos hc] at hm
        exact w_Sh_findArcs_41 fl q_p0 q_p0_key q_p0_name q_p0_from q_p0_to q_p0_edgeAt q_p0_componentOf q_p0_arcOf q_p0_pieceOf q_p0_faceOf q_p0_faceStart q_p0_faceSize q_p0_scratch i_p0_edges f_p0_edgeAt f_p0_from f_p0_to i_p0_components i_p0_pieces i_p0_faces i_p0_brokenRule i_p0_culprit res C0 (B_Sh_findArcs_12 fl i_p0_edges f_p0_edgeAt f_p0_from f_p0_to nn) ih x1 x2 f_p0_arcOf _ _ _ hm hP hD hS (lv_sub hl [0, 1, 2] rfl)
      · rw [if_neg (fun q => q hc)] at hm
        refine lv_aload_n hx hb d_Sh_findArcs_32 rfl (lv_at hl 0 rfl) ?_
        refine lv_iload_n hx hb d_Sh_findArcs_33 rfl (lv_at hl 2 rfl) ?_
        refine lv_iload_n hx hb d_Sh_findArcs_34 rfl (lv_at hl 1 rfl) ?_
        obtain ⟨o1, ho1, hm⟩ := vz_bind hm
        try dsimp only at hm
        refine vz_callVv (n := 2) (As := [.int x2, .int x1]) (rest := []) (wc := (ws_Sh_fillArc cI cJ cB q_p0 q_p0_key q_p0_name q_p0_from q_p0_to q_p0_edgeAt q_p0_componentOf q_p0_arcOf q_p0_pieceOf q_p0_faceOf q_p0_faceStart q_p0_faceSize q_p0_scratch i_p0_edges i_p0_components i_p0_pieces i_p0_faces i_p0_brokenRule i_p0_culprit f_p0_arcOf f_p0_edgeAt f_p0_to)) (wr := [(q_p0_from, .inl (cI, 40, .inl f_p0_from))]) (k1 := 0) (n1 := 0) hx hb hml hown ht hN hZ hK hP hD hS hA (k_Sh_fillArc l D cI cJ cB sa fl q_p0 q_p0_key q_p0_name q_p0_from q_p0_to q_p0_edgeAt q_p0_componentOf q_p0_arcOf q_p0_pieceOf q_p0_faceOf q_p0_faceStart q_p0_faceSize q_p0_scratch i_p0_edges f_p0_edgeAt f_p0_to i_p0_components i_p0_pieces i_p0_faces i_p0_brokenRule i_p0_culprit f_p0_arcOf x2 x1 o1 ho1) m_620 m_54 m_617 m_618 m_619 (hc := (rfl : classes[5]? = some (R_Sh, F_Sh, 18))) 0 rfl (by decide +kernel) ⟨Nat.le_of_ble_eq_true rfl, Nat.le_of_ble_eq_true rfl⟩ [0, 1, 2, 4] [3] rfl rfl (by decide) (by decide) (by decide) rfl hl.1 rfl (Nat.le_of_ble_eq_true rfl) rfl rfl ⟨Nat.zero_le _, Nat.zero_le _⟩ d_Sh_findArcs_35 (fun w1 H locs hw hP hD hS => ?_)
        subst hw
        have hP : va_P D classes (ws_Sh_findArcs cI cJ cB q_p0 q_p0_key q_p0_name q_p0_from q_p0_to q_p0_edgeAt q_p0_componentOf q_p0_arcOf q_p0_pieceOf q_p0_faceOf q_p0_faceStart q_p0_faceSize q_p0_scratch i_p0_edges i_p0_components i_p0_pieces i_p0_faces i_p0_brokenRule i_p0_culprit o1 f_p0_edgeAt f_p0_from f_p0_to) H := hP.sub [1, 2, 3, 0, 4] rfl
        have hD : va_D A (ws_Sh_findArcs cI cJ cB q_p0 q_p0_key q_p0_name q_p0_from q_p0_to q_p0_edgeAt q_p0_componentOf q_p0_arcOf q_p0_pieceOf q_p0_faceOf q_p0_faceStart q_p0_faceSize q_p0_scratch i_p0_edges i_p0_components i_p0_pieces i_p0_faces i_p0_brokenRule i_p0_culprit o1 f_p0_edgeAt f_p0_from f_p0_to) := hD.sub [1, 2, 3, 0, 4] (by decide) rfl
        refine lv_iinc (v := (x1 + 1)) (lv' := [(1, .int (x1 + 1)), (0, .ref q_p0), (2, .int x2)]) hx hb d_Sh_findArcs_38 hl (k := 1) rfl rfl (by decide) rfl (fun ls hl => ?_)
        exact w_Sh_findArcs_41 fl q_p0 q_p0_key q_p0_name q_p0_from q_p0_to q_p0_edgeAt q_p0_componentOf q_p0_arcOf q_p0_pieceOf q_p0_faceOf q_p0_faceStart q_p0_faceSize q_p0_scratch i_p0_edges f_p0_edgeAt f_p0_from f_p0_to i_p0_components i_p0_pieces i_p0_faces i_p0_brokenRule i_p0_culprit res C0 (B_Sh_findArcs_12 fl i_p0_edges f_p0_edgeAt f_p0_from f_p0_to nn) ih (x1 + 1) x2 o1 _ _ _ hm hP hD hS (lv_sub hl [1, 0, 2] rfl)
set_option maxHeartbeats 4000000 in
set_option maxRecDepth 100000 in
theorem w_Sh_findArcs_0 {p : Program} {l : Launch} {e : Env} {s : State} {m : MethodId} {args : Array Value} {below : List Frame} {meth : Method} {c : Code} {D : va_G} {cI cJ cB : ClassId} {sa : Nat → Nat × Nat} {A : Nat → Prop} (fl : Nat) (q_p0 : Nat) (q_p0_key : Nat) (q_p0_name : Nat) (q_p0_from : Nat) (q_p0_to : Nat) (q_p0_edgeAt : Nat) (q_p0_componentOf : Nat) (q_p0_arcOf : Nat) (q_p0_pieceOf : Nat) (q_p0_faceOf : Nat) (q_p0_faceStart : Nat) (q_p0_faceSize : Nat) (q_p0_scratch : Nat) (i_p0_edges : Int32) (f_p0_edgeAt : Nat → Int32) (f_p0_from : Nat → Int32) (f_p0_to : Nat → Int32) (i_p0_components : Int32) (i_p0_pieces : Int32) (i_p0_faces : Int32) (i_p0_brokenRule : Int32) (i_p0_culprit : Int32) (res : Int32 × (Nat → Int32)) (C0 : vz_Cx p s m meth c b_Sh_findArcs 3 (some .int) "LinkEngine$Shape" "findArcs" D [(cI, .int), (cJ, .long), (cB, .byte)] sa A args) : ∀ (f_p0_arcOf : Nat → Int32) (H : Heap) (locs : List Loc) (ls : Array Slot), B_Sh_findArcs_0 fl i_p0_edges f_p0_edgeAt f_p0_from f_p0_to f_p0_arcOf = some res → va_P D classes (ws_Sh_findArcs cI cJ cB q_p0 q_p0_key q_p0_name q_p0_from q_p0_to q_p0_edgeAt q_p0_componentOf q_p0_arcOf q_p0_pieceOf q_p0_faceOf q_p0_faceStart q_p0_faceSize q_p0_scratch i_p0_edges i_p0_components i_p0_pieces i_p0_faces i_p0_brokenRule i_p0_culprit f_p0_arcOf f_p0_edgeAt f_p0_from f_p0_to) H → va_D A (ws_Sh_findArcs cI cJ cB q_p0 q_p0_key q_p0_name q_p0_from q_p0_to q_p0_edgeAt q_p0_componentOf q_p0_arcOf q_p0_pieceOf q_p0_faceOf q_p0_faceStart q_p0_faceSize q_p0_scratch i_p0_edges i_p0_components i_p0_pieces i_p0_faces i_p0_brokenRule i_p0_culprit f_p0_arcOf f_p0_edgeAt f_p0_from f_p0_to) → va_S A s.heap H locs → lv_has ls 3 [(0, .ref q_p0)] → W p l e rm_Sh_findArcs s m args below meth c H locs 0 0 (MQ below (va_Qi (fun (r : Int32) (w : va_W) => r = res.1 ∧ w = (ws_Sh_findArcs cI cJ cB q_p0 q_p0_key q_p0_name q_p0_from q_p0_to q_p0_edgeAt q_p0_componentOf q_p0_arcOf q_p0_pieceOf q_p0_faceOf q_p0_faceStart q_p0_faceSize q_p0_scratch i_p0_edges i_p0_components i_p0_pieces i_p0_faces i_p0_brokenRule i_p0_culprit res.2 f_p0_edgeAt f_p0_from f_p0_to)) (vz_B D A) A) args s 0 0 A) (F0 m 0 ls []) := by
  obtain ⟨hx, hb, hr, hml, hown, ht, hlocks, hin, hN, hK, hA, hZ⟩ := id C0
  intro f_p0_arcOf H locs ls hm hP hD hS hl
  unfold B_Sh_findArcs_0 at hm
  refine lv_iconst (v := 0) hx hb d_Sh_findArcs_0 (by decide) ?_
  refine lv_istore_n (lv' := [(1, .int 0), (0, .ref q_p0)]) hx hb d_Sh_findArcs_1 rfl hl (by decide) rfl (fun ls hl => ?_)
  refine lv_aload_n hx hb d_Sh_findArcs_2 rfl (lv_at hl 1 rfl) ?_
  refine va_get (D := D) (ci := 5) (v := .ref q_p0_arcOf) (C := R_Sh) (T := F_Sh) (N := 18) hx hb ht i_Sh hown hK hP 0 rfl rfl 6 (Nat.le_of_ble_eq_true rfl) (ht _ m_38) (fun _ h9 => h9) rfl d_Sh_findArcs_3 ?_
  refine lv_iconst (v := (-1)) hx hb d_Sh_findArcs_6 (by decide) ?_
  refine vz_callSv (n := 2) (As := [.ref q_p0_arcOf, .int (-1)]) (rest := []) (wc := [(q_p0_arcOf, .inl (cI, 40, .inl f_p0_arcOf))]) (wr := [(q_p0, .inr (5, [.ref q_p0_key, .ref q_p0_name, .ref q_p0_from, .ref q_p0_to, .ref q_p0_edgeAt, .ref q_p0_componentOf, .ref q_p0_arcOf, .ref q_p0_pieceOf, .ref q_p0_faceOf, .ref q_p0_faceStart, .ref q_p0_faceSize, .ref q_p0_scratch, .int i_p0_edges, .int i_p0_components, .int i_p0_pieces, .int i_p0_faces, .int i_p0_brokenRule, .int i_p0_culprit])), (q_p0_edgeAt, .inl (cI, 80, .inl f_p0_edgeAt)), (q_p0_from, .inl (cI, 40, .inl f_p0_from)), (q_p0_to, .inl (cI, 40, .inl f_p0_to))]) (k1 := 0) (n1 := 0) hx hb hml hown ht hN hZ hK hP hD hS hA (k_fillI l D cI cJ cB sa q_p0_arcOf (-1) 40 f_p0_arcOf (by decide)) m_227 m_228 m_225 m_226 (by decide +kernel) ⟨Nat.le_of_ble_eq_true rfl, Nat.le_of_ble_eq_true rfl⟩ [1] [0, 2, 3, 4] rfl rfl (by decide) (by decide) (by decide) rfl hl.1 rfl (Nat.le_of_ble_eq_true rfl) rfl rfl ⟨Nat.zero_le _, Nat.zero_le _⟩ d_Sh_findArcs_7 (fun w1 H locs hw hP hD hS => ?_)
  subst hw
  have hP : va_P D classes (ws_Sh_findArcs cI cJ cB q_p0 q_p0_key q_p0_name q_p0_from q_p0_to q_p0_edgeAt q_p0_componentOf q_p0_arcOf q_p0_pieceOf q_p0_faceOf q_p0_faceStart q_p0_faceSize q_p0_scratch i_p0_edges i_p0_components i_p0_pieces i_p0_faces i_p0_brokenRule i_p0_culprit (fillF f_p0_arcOf 40 (-1)) f_p0_edgeAt f_p0_from f_p0_to) H := hP.sub [0, 4, 1, 2, 3] rfl
  have hD : va_D A (ws_Sh_findArcs cI cJ cB q_p0 q_p0_key q_p0_name q_p0_from q_p0_to q_p0_edgeAt q_p0_componentOf q_p0_arcOf q_p0_pieceOf q_p0_faceOf q_p0_faceStart q_p0_faceSize q_p0_scratch i_p0_edges i_p0_components i_p0_pieces i_p0_faces i_p0_brokenRule i_p0_culprit (fillF f_p0_arcOf 40 (-1)) f_p0_edgeAt f_p0_from f_p0_to) := hD.sub [0, 4, 1, 2, 3] (by decide) rfl
  refine lv_iconst (v := 0) hx hb d_Sh_findArcs_10 (by decide) ?_
  refine lv_istore_n (lv' := [(2, .int 0), (1, .int 0), (0, .ref q_p0)]) hx hb d_Sh_findArcs_11 rfl hl (by decide) rfl (fun ls hl => ?_)
  exact w_Sh_findArcs_12 fl q_p0 q_p0_key q_p0_name q_p0_from q_p0_to q_p0_edgeAt q_p0_componentOf q_p0_arcOf q_p0_pieceOf q_p0_faceOf q_p0_faceStart q_p0_faceSize q_p0_scratch i_p0_edges f_p0_edgeAt f_p0_from f_p0_to i_p0_components i_p0_pieces i_p0_faces i_p0_brokenRule i_p0_culprit res C0 fl 0 0 (fillF f_p0_arcOf 40 (-1)) _ _ _ hm hP hD hS (lv_sub hl [2, 1, 0] rfl)
set_option maxHeartbeats 4000000 in
set_option maxRecDepth 100000 in
theorem k_Sh_findArcs (l : Launch) (D : va_G) (cI cJ cB : ClassId) (sa : Nat → Nat × Nat) (fl : Nat) (q_p0 : Nat) (q_p0_key : Nat) (q_p0_name : Nat) (q_p0_from : Nat) (q_p0_to : Nat) (q_p0_edgeAt : Nat) (q_p0_componentOf : Nat) (q_p0_arcOf : Nat) (q_p0_pieceOf : Nat) (q_p0_faceOf : Nat) (q_p0_faceStart : Nat) (q_p0_faceSize : Nat) (q_p0_scratch : Nat) (i_p0_edges : Int32) (f_p0_edgeAt : Nat → Int32) (f_p0_from : Nat → Int32) (f_p0_to : Nat → Int32) (i_p0_components : Int32) (i_p0_pieces : Int32) (i_p0_faces : Int32) (i_p0_brokenRule : Int32) (i_p0_culprit : Int32) (f_p0_arcOf : Nat → Int32)  (res : Int32 × (Nat → Int32)) (hm : m_Sh_findArcs fl i_p0_edges f_p0_edgeAt f_p0_from f_p0_to f_p0_arcOf = some res) : MtI l y_Sh_findArcs (.code y_Sh_findArcs b_Sh_findArcs 3 (some .int) :: CW) rm_Sh_findArcs D [(cI, .int), (cJ, .long), (cB, .byte)] sa [.ref q_p0] (ws_Sh_findArcs cI cJ cB q_p0 q_p0_key q_p0_name q_p0_from q_p0_to q_p0_edgeAt q_p0_componentOf q_p0_arcOf q_p0_pieceOf q_p0_faceOf q_p0_faceStart q_p0_faceSize q_p0_scratch i_p0_edges i_p0_components i_p0_pieces i_p0_faces i_p0_brokenRule i_p0_culprit f_p0_arcOf f_p0_edgeAt f_p0_from f_p0_to) (fun (r : Int32) (w : va_W) => r = res.1 ∧ w = (ws_Sh_findArcs cI cJ cB q_p0 q_p0_key q_p0_name q_p0_from q_p0_to q_p0_edgeAt q_p0_componentOf q_p0_arcOf q_p0_pieceOf q_p0_faceOf q_p0_faceStart q_p0_faceSize q_p0_scratch i_p0_edges i_p0_components i_p0_pieces i_p0_faces i_p0_brokenRule i_p0_culprit res.2 f_p0_edgeAt f_p0_from f_p0_to)) := by
  intro sz
  refine vz_start (Qc := fun A => va_Qi (fun (r : Int32) (w : va_W) => r = res.1 ∧ w = (ws_Sh_findArcs cI cJ cB q_p0 q_p0_key q_p0_name q_p0_from q_p0_to q_p0_edgeAt q_p0_componentOf q_p0_arcOf q_p0_pieceOf q_p0_faceOf q_p0_faceStart q_p0_faceSize q_p0_scratch i_p0_edges i_p0_components i_p0_pieces i_p0_faces i_p0_brokenRule i_p0_culprit res.2 f_p0_edgeAt f_p0_from f_p0_to)) (vz_B D A) A) (lv0 := [(0, .ref q_p0)]) (by decide +kernel) (Nat.le_of_ble_eq_true rfl) rfl ?_
  intro p e s m below meth c A ls C0 hl
  obtain ⟨hx, hb, hr, hml, hown, ht, hlocks, hin, hN, hK, hP, hD, hA, hS, hZ⟩ := C0
  exact w_Sh_findArcs_0 fl q_p0 q_p0_key q_p0_name q_p0_from q_p0_to q_p0_edgeAt q_p0_componentOf q_p0_arcOf q_p0_pieceOf q_p0_faceOf q_p0_faceStart q_p0_faceSize q_p0_scratch i_p0_edges f_p0_edgeAt f_p0_from f_p0_to i_p0_components i_p0_pieces i_p0_faces i_p0_brokenRule i_p0_culprit res ⟨hx, hb, hr, hml, hown, ht, hlocks, hin, hN, hK, hA, hZ⟩ f_p0_arcOf s.heap [] ls hm hP hD hS (lv_sub hl [0] rfl)
def ws_Mi_addColumn (cI cJ cB : ClassId) (q_p0 : Nat) (q_p0_sum : Nat) (q_p0_reached : Nat) (i_p0_order : Int32) (f_p0_reached : Nat → Int32) (f_p0_sum : Nat → Int32) : va_W := [(q_p0, .inr (10, [.ref q_p0_sum, .ref q_p0_reached, .int i_p0_order])), (q_p0_reached, .inl (cI, 512, .inl f_p0_reached)), (q_p0_sum, .inl (cI, 5120, .inl f_p0_sum))]
def rm_Mi_addColumn : Room := { frames := 1, cells := 0, slots := 0, locals := 22 }
def B_Mi_addColumn_66 (fl : Nat) (i_p0_order : Int32) : Nat → Int32 → Int32 → Int32 → Int32 → Int32 → Int32 → Int32 → Int32 → Int32 → Int32 → (Nat → Int32) → (Nat → Int32) → Option ((Nat → Int32) × (Nat → Int32))
  | 0, _, _, _, _, _, _, _, _, _, _, _, _ => none
  | nn + 1, x1, x2, x3, x4, x5, x6, x7, x8, x9, x10, f_p0_reached, f_p0_sum => (if x2 < x10 then (some (f_p0_reached, f_p0_sum)) else (if ¬ ((x8 + x10) < 0 ∨ 5120 ≤ Int32.toNatClampNeg (x8 + x10)) then (if ¬ ((x9 + x10) < 0 ∨ 5120 ≤ Int32.toNatClampNeg (x9 + x10)) then (if ¬ ((x9 + x10) < 0 ∨ 5120 ≤ Int32.toNatClampNeg (x9 + x10)) then (if ¬ (((x9 + x10) + (1 : Int32)) < 0 ∨ 5120 ≤ Int32.toNatClampNeg ((x9 + x10) + (1 : Int32))) then (if ¬ (((x9 + x10) + (1 : Int32)) < 0 ∨ 5120 ≤ Int32.toNatClampNeg ((x9 + x10) + (1 : Int32))) then B_Mi_addColumn_66 fl i_p0_order nn x1 x2 x3 x4 x5 x6 x7 x8 x9 (x10 + 1) f_p0_reached (upd (upd f_p0_sum (Int32.toNatClampNeg (x9 + x10)) ((f_p0_sum (Int32.toNatClampNeg (x9 + x10))) + (x4 * (x7 * (f_p0_sum (Int32.toNatClampNeg (x8 + x10))))))) (Int32.toNatClampNeg ((x9 + x10) + (1 : Int32))) (((upd f_p0_sum (Int32.toNatClampNeg (x9 + x10)) ((f_p0_sum (Int32.toNatClampNeg (x9 + x10))) + (x4 * (x7 * (f_p0_sum (Int32.toNatClampNeg (x8 + x10))))))) (Int32.toNatClampNeg ((x9 + x10) + (1 : Int32)))) + (x5 * (x7 * (f_p0_sum (Int32.toNatClampNeg (x8 + x10))))))) else none) else none) else none) else none) else none))
def B_Mi_addColumn_48 (fl : Nat) (i_p0_order : Int32) (s0 : Int32) (x1 : Int32) (x2 : Int32) (x3 : Int32) (x4 : Int32) (x5 : Int32) (x6 : Int32) (f_p0_reached : Nat → Int32) (f_p0_sum : Nat → Int32) : Option ((Nat → Int32) × (Nat → Int32)) := B_Mi_addColumn_66 fl i_p0_order fl x1 x2 x3 x4 x5 x6 s0 (x1 * (10 : Int32)) (x6 * (10 : Int32)) 0 f_p0_reached f_p0_sum
def B_Mi_addColumn_0 (fl : Nat) (i_p0_order : Int32) (x1 : Int32) (x2 : Int32) (x3 : Int32) (x4 : Int32) (x5 : Int32) (f_p0_reached : Nat → Int32) (f_p0_sum : Nat → Int32) : Option ((Nat → Int32) × (Nat → Int32)) := (if i_p0_order ≤ x3 then (some (f_p0_reached, f_p0_sum)) else (if ¬ ((x1 >>> (x3 &&& 31)) &&& (1 : Int32)) = (1 : Int32) then ((m_Mi_reach fl (x1 ||| ((1 : Int32) <<< (x3 &&& 31))) f_p0_reached f_p0_sum).bind fun o0 => ((m_Int_bitCount fl (x1 >>> (x3 &&& 31))).bind fun o1 => (if ¬ (o1 &&& (1 : Int32)) = (1 : Int32) then B_Mi_addColumn_48 fl i_p0_order 1 x1 x2 x3 x4 x5 (x1 ||| ((1 : Int32) <<< (x3 &&& 31))) o0.1 o0.2 else B_Mi_addColumn_48 fl i_p0_order (-1) x1 x2 x3 x4 x5 (x1 ||| ((1 : Int32) <<< (x3 &&& 31))) o0.1 o0.2))) else (some (f_p0_reached, f_p0_sum))))
def m_Mi_addColumn (fl : Nat) (i_p0_order : Int32) (x1 : Int32) (x2 : Int32) (x3 : Int32) (x4 : Int32) (x5 : Int32) (f_p0_reached : Nat → Int32) (f_p0_sum : Nat → Int32) : Option ((Nat → Int32) × (Nat → Int32)) := B_Mi_addColumn_0 fl i_p0_order x1 x2 x3 x4 x5 f_p0_reached f_p0_sum
set_option maxHeartbeats 4000000 in
set_option maxRecDepth 100000 in
theorem w_Mi_addColumn_66 {p : Program} {l : Launch} {e : Env} {s : State} {m : MethodId} {args : Array Value} {below : List Frame} {meth : Method} {c : Code} {D : va_G} {cI cJ cB : ClassId} {sa : Nat → Nat × Nat} {A : Nat → Prop} (fl : Nat) (q_p0 : Nat) (q_p0_sum : Nat) (q_p0_reached : Nat) (i_p0_order : Int32) (res : (Nat → Int32) × (Nat → Int32)) (C0 : vz_Cx p s m meth c b_Mi_addColumn 12 none "LinkEngine$Minor" "addColumn" D [(cI, .int), (cJ, .long), (cB, .byte)] sa A args) : ∀ (nn : Nat), ∀ (x1 : Int32) (x2 : Int32) (x3 : Int32) (x4 : Int32) (x5 : Int32) (x6 : Int32) (x7 : Int32) (x8 : Int32) (x9 : Int32) (x10 : Int32) (f_p0_reached : Nat → Int32) (f_p0_sum : Nat → Int32) (H : Heap) (locs : List Loc) (ls : Array Slot), B_Mi_addColumn_66 fl i_p0_order nn x1 x2 x3 x4 x5 x6 x7 x8 x9 x10 f_p0_reached f_p0_sum = some res → va_P D classes (ws_Mi_addColumn cI cJ cB q_p0 q_p0_sum q_p0_reached i_p0_order f_p0_reached f_p0_sum) H → va_D A (ws_Mi_addColumn cI cJ cB q_p0 q_p0_sum q_p0_reached i_p0_order f_p0_reached f_p0_sum) → va_S A s.heap H locs → lv_has ls 12 [(0, .ref q_p0), (1, .int x1), (2, .int x2), (3, .int x3), (4, .int x4), (5, .int x5), (6, .int x6), (7, .int x7), (8, .int x8), (9, .int x9), (10, .int x10)] → W p l e rm_Mi_addColumn s m args below meth c H locs 0 0 (MQ below (va_Qv (fun (w : va_W) => w = (ws_Mi_addColumn cI cJ cB q_p0 q_p0_sum q_p0_reached i_p0_order res.1 res.2)) (vz_B D A) A) args s 0 0 A) (F0 m 66 ls []) := by
  obtain ⟨hx, hb, hr, hml, hown, ht, hlocks, hin, hN, hK, hA, hZ⟩ := id C0
  intro nn
  induction nn with
  | zero =>
    intro x1 x2 x3 x4 x5 x6 x7 x8 x9 x10 f_p0_reached f_p0_sum H locs ls hm hP hD hS hl
    rw [B_Mi_addColumn_66] at hm
    cases hm
  | succ nn ih =>
    intro x1 x2 x3 x4 x5 x6 x7 x8 x9 x10 f_p0_reached f_p0_sum H locs ls hm hP hD hS hl
    rw [B_Mi_addColumn_66] at hm
    refine lv_iload hx hb d_Mi_addColumn_66 (lv_at hl 10 rfl) ?_
    refine lv_iload_n hx hb d_Mi_addColumn_68 rfl (lv_at hl 2 rfl) ?_
    refine lv_icmp_gt (tgt := 131) hx hb d_Mi_addColumn_69 (by decide) (fun hc => ?_) (fun hc => ?_)
    · rw [if_pos hc] at hm
      obtain rfl := Option.some.inj hm
      exact vz_vret hx hb hr hlocks hP hD hS (Nat.le_refl _) (Nat.le_refl _) d_Mi_addColumn_131 rfl
    · rw [if_neg hc] at hm
      refine lv_iload hx hb d_Mi_addColumn_72 (lv_at hl 7 rfl) ?_
      refine lv_aload_n hx hb d_Mi_addColumn_74 rfl (lv_at hl 0 rfl) ?_
      refine va_get (D := D) (ci := 10) (v := .ref q_p0_sum) (C := R_Mi) (T := F_Mi) (N := 3) hx hb ht i_Mi hown hK hP 0 rfl rfl 0 (Nat.le_of_ble_eq_true rfl) (ht _ m_26) (fun _ h9 => h9) rfl d_Mi_addColumn_75 ?_
      refine lv_iload hx hb d_Mi_addColumn_78 (lv_at hl 8 rfl) ?_
      refine lv_iload hx hb d_Mi_addColumn_80 (lv_at hl 10 rfl) ?_
      refine lv_iadd hx hb d_Mi_addColumn_82 ?_
      obtain ⟨hg, hm⟩ := vz_guard hm
      refine va_iald hx hb hK hP 2 0 rfl rfl hg d_Mi_addColumn_83 ?_
      refine lv_imul hx hb d_Mi_addColumn_84 ?_
      refine lv_istore (lv' := [(11, .int (x7 * (f_p0_sum (Int32.toNatClampNeg (x8 + x10))))), (0, .ref q_p0), (1, .int x1), (2, .int x2), (3, .int x3), (4, .int x4), (5, .int x5), (6, .int x6), (7, .int x7), (8, .int x8), (9, .int x9), (10, .int x10)]) hx hb d_Mi_addColumn_85 hl (by decide) rfl (fun ls hl => ?_)
      refine lv_aload_n hx hb d_Mi_addColumn_87 rfl (lv_at hl 1 rfl) ?_
      refine va_get (D := D) (ci := 10) (v := .ref q_p0_sum) (C := R_Mi) (T := F_Mi) (N := 3) hx hb ht i_Mi hown hK hP 0 rfl rfl 0 (Nat.le_of_ble_eq_true rfl) (ht _ m_26) (fun _ h9 => h9) rfl d_Mi_addColumn_88 ?_
      refine lv_iload hx hb d_Mi_addColumn_91 (lv_at hl 10 rfl) ?_
      refine lv_iload hx hb d_Mi_addColumn_93 (lv_at hl 11 rfl) ?_
      refine lv_iadd hx hb d_Mi_addColumn_95 ?_
      refine lv_dup2_11 hx hb d_Mi_addColumn_96 rfl rfl ?_
      obtain ⟨hg, hm⟩ := vz_guard hm
      refine va_iald hx hb hK hP 2 0 rfl rfl hg d_Mi_addColumn_97 ?_
      refine lv_iload hx hb d_Mi_addColumn_98 (lv_at hl 5 rfl) ?_
      refine lv_iload hx hb d_Mi_addColumn_100 (lv_at hl 0 rfl) ?_
      refine lv_imul hx hb d_Mi_addColumn_102 ?_
      refine lv_iadd hx hb d_Mi_addColumn_103 ?_
      obtain ⟨hg, hm⟩ := vz_guard hm
      refine va_iast hx hb hK hP hD hS 2 0 rfl rfl hg d_Mi_addColumn_104 (fun H locs hP hD hS => ?_)
      have hP : va_P D classes (ws_Mi_addColumn cI cJ cB q_p0 q_p0_sum q_p0_reached i_p0_order f_p0_reached (upd f_p0_sum (Int32.toNatClampNeg (x9 + x10)) ((f_p0_sum (Int32.toNatClampNeg (x9 + x10))) + (x4 * (x7 * (f_p0_sum (Int32.toNatClampNeg (x8 + x10)))))))) H := hP
      have hD : va_D A (ws_Mi_addColumn cI cJ cB q_p0 q_p0_sum q_p0_reached i_p0_order f_p0_reached (upd f_p0_sum (Int32.toNatClampNeg (x9 + x10)) ((f_p0_sum (Int32.toNatClampNeg (x9 + x10))) + (x4 * (x7 * (f_p0_sum (Int32.toNatClampNeg (x8 + x10)))))))) := hD
      refine lv_aload_n hx hb d_Mi_addColumn_105 rfl (lv_at hl 1 rfl) ?_
      refine va_get (D := D) (ci := 10) (v := .ref q_p0_sum) (C := R_Mi) (T := F_Mi) (N := 3) hx hb ht i_Mi hown hK hP 0 rfl rfl 0 (Nat.le_of_ble_eq_true rfl) (ht _ m_26) (fun _ h9 => h9) rfl d_Mi_addColumn_106 ?_
      refine lv_iload hx hb d_Mi_addColumn_109 (lv_at hl 10 rfl) ?_
      refine lv_iload hx hb d_Mi_addColumn_111 (lv_at hl 11 rfl) ?_
      refine lv_iadd hx hb d_Mi_addColumn_113 ?_
      refine lv_iconst (v := 1) hx hb d_Mi_addColumn_114 (by decide) ?_
      refine lv_iadd hx hb d_Mi_addColumn_115 ?_
      refine lv_dup2_11 hx hb d_Mi_addColumn_116 rfl rfl ?_
      obtain ⟨hg, hm⟩ := vz_guard hm
      refine va_iald hx hb hK hP 2 0 rfl rfl hg d_Mi_addColumn_117 ?_
      refine lv_iload hx hb d_Mi_addColumn_118 (lv_at hl 6 rfl) ?_
      refine lv_iload hx hb d_Mi_addColumn_120 (lv_at hl 0 rfl) ?_
      refine lv_imul hx hb d_Mi_addColumn_122 ?_
      refine lv_iadd hx hb d_Mi_addColumn_123 ?_
      obtain ⟨hg, hm⟩ := vz_guard hm
      refine va_iast hx hb hK hP hD hS 2 0 rfl rfl hg d_Mi_addColumn_124 (fun H locs hP hD hS => ?_)
      have hP : va_P D classes (ws_Mi_addColumn cI cJ cB q_p0 q_p0_sum q_p0_reached i_p0_order f_p0_reached (upd (upd f_p0_sum (Int32.toNatClampNeg (x9 + x10)) ((f_p0_sum (Int32.toNatClampNeg (x9 + x10))) + (x4 * (x7 * (f_p0_sum (Int32.toNatClampNeg (x8 + x10))))))) (Int32.toNatClampNeg ((x9 + x10) + (1 : Int32))) (((upd f_p0_sum (Int32.toNatClampNeg (x9 + x10)) ((f_p0_sum (Int32.toNatClampNeg (x9 + x10))) + (x4 * (x7 * (f_p0_sum (Int32.toNatClampNeg (x8 + x10))))))) (Int32.toNatClampNeg ((x9 + x10) + (1 : Int32)))) + (x5 * (x7 * (f_p0_sum (Int32.toNatClampNeg (x8 + x10)))))))) H := hP
      have hD : va_D A (ws_Mi_addColumn cI cJ cB q_p0 q_p0_sum q_p0_reached i_p0_order f_p0_reached (upd (upd f_p0_sum (Int32.toNatClampNeg (x9 + x10)) ((f_p0_sum (Int32.toNatClampNeg (x9 + x10))) + (x4 * (x7 * (f_p0_sum (Int32.toNatClampNeg (x8 + x10))))))) (Int32.toNatClampNeg ((x9 + x10) + (1 : Int32))) (((upd f_p0_sum (Int32.toNatClampNeg (x9 + x10)) ((f_p0_sum (Int32.toNatClampNeg (x9 + x10))) + (x4 * (x7 * (f_p0_sum (Int32.toNatClampNeg (x8 + x10))))))) (Int32.toNatClampNeg ((x9 + x10) + (1 : Int32)))) + (x5 * (x7 * (f_p0_sum (Int32.toNatClampNeg (x8 + x10)))))))) := hD
      refine lv_iinc (v := (x10 + 1)) (lv' := [(10, .int (x10 + 1)), (11, .int (x7 * (f_p0_sum (Int32.toNatClampNeg (x8 + x10))))), (0, .ref q_p0), (1, .int x1), (2, .int x2), (3, .int x3), (4, .int x4), (5, .int x5), (6, .int x6), (7, .int x7), (8, .int x8), (9, .int x9)]) hx hb d_Mi_addColumn_125 hl (k := 11) rfl rfl (by decide) rfl (fun ls hl => ?_)
      refine lv_goto (tgt := 66) hx hb d_Mi_addColumn_128 (by decide) ?_
      exact ih x1 x2 x3 x4 x5 x6 x7 x8 x9 (x10 + 1) f_p0_reached (upd (upd f_p0_sum (Int32.toNatClampNeg (x9 + x10)) ((f_p0_sum (Int32.toNatClampNeg (x9 + x10))) + (x4 * (x7 * (f_p0_sum (Int32.toNatClampNeg (x8 + x10))))))) (Int32.toNatClampNeg ((x9 + x10) + (1 : Int32))) (((upd f_p0_sum (Int32.toNatClampNeg (x9 + x10)) ((f_p0_sum (Int32.toNatClampNeg (x9 + x10))) + (x4 * (x7 * (f_p0_sum (Int32.toNatClampNeg (x8 + x10))))))) (Int32.toNatClampNeg ((x9 + x10) + (1 : Int32)))) + (x5 * (x7 * (f_p0_sum (Int32.toNatClampNeg (x8 + x10))))))) _ _ _ hm hP hD hS (lv_sub hl [2, 3, 4, 5, 6, 7, 8, 9, 10, 11, 0] rfl)
set_option maxHeartbeats 4000000 in
set_option maxRecDepth 100000 in
theorem w_Mi_addColumn_48 {p : Program} {l : Launch} {e : Env} {s : State} {m : MethodId} {args : Array Value} {below : List Frame} {meth : Method} {c : Code} {D : va_G} {cI cJ cB : ClassId} {sa : Nat → Nat × Nat} {A : Nat → Prop} (fl : Nat) (q_p0 : Nat) (q_p0_sum : Nat) (q_p0_reached : Nat) (i_p0_order : Int32) (res : (Nat → Int32) × (Nat → Int32)) (C0 : vz_Cx p s m meth c b_Mi_addColumn 12 none "LinkEngine$Minor" "addColumn" D [(cI, .int), (cJ, .long), (cB, .byte)] sa A args) : ∀ (s0 : Int32) (x1 : Int32) (x2 : Int32) (x3 : Int32) (x4 : Int32) (x5 : Int32) (x6 : Int32) (f_p0_reached : Nat → Int32) (f_p0_sum : Nat → Int32) (H : Heap) (locs : List Loc) (ls : Array Slot), B_Mi_addColumn_48 fl i_p0_order s0 x1 x2 x3 x4 x5 x6 f_p0_reached f_p0_sum = some res → va_P D classes (ws_Mi_addColumn cI cJ cB q_p0 q_p0_sum q_p0_reached i_p0_order f_p0_reached f_p0_sum) H → va_D A (ws_Mi_addColumn cI cJ cB q_p0 q_p0_sum q_p0_reached i_p0_order f_p0_reached f_p0_sum) → va_S A s.heap H locs → lv_has ls 12 [(0, .ref q_p0), (1, .int x1), (2, .int x2), (3, .int x3), (4, .int x4), (5, .int x5), (6, .int x6)] → W p l e rm_Mi_addColumn s m args below meth c H locs 0 0 (MQ below (va_Qv (fun (w : va_W) => w = (ws_Mi_addColumn cI cJ cB q_p0 q_p0_sum q_p0_reached i_p0_order res.1 res.2)) (vz_B D A) A) args s 0 0 A) (F0 m 48 ls [.int s0]) := by
  obtain ⟨hx, hb, hr, hml, hown, ht, hlocks, hin, hN, hK, hA, hZ⟩ := id C0
  intro s0 x1 x2 x3 x4 x5 x6 f_p0_reached f_p0_sum H locs ls hm hP hD hS hl
  unfold B_Mi_addColumn_48 at hm
  refine lv_istore (lv' := [(7, .int s0), (0, .ref q_p0), (1, .int x1), (2, .int x2), (3, .int x3), (4, .int x4), (5, .int x5), (6, .int x6)]) hx hb d_Mi_addColumn_48 hl (by decide) rfl (fun ls hl => ?_)
  refine lv_iload_n hx hb d_Mi_addColumn_50 rfl (lv_at hl 2 rfl) ?_
  refine lv_bipush (v := 10) hx hb d_Mi_addColumn_51 (by decide +kernel) ?_
  refine lv_imul hx hb d_Mi_addColumn_53 ?_
  refine lv_istore (lv' := [(8, .int (x1 * (10 : Int32))), (7, .int s0), (0, .ref q_p0), (1, .int x1), (2, .int x2), (3, .int x3), (4, .int x4), (5, .int x5), (6, .int x6)]) hx hb d_Mi_addColumn_54 hl (by decide) rfl (fun ls hl => ?_)
  refine lv_iload hx hb d_Mi_addColumn_56 (lv_at hl 8 rfl) ?_
  refine lv_bipush (v := 10) hx hb d_Mi_addColumn_58 (by decide +kernel) ?_
  refine lv_imul hx hb d_Mi_addColumn_60 ?_
  refine lv_istore (lv' := [(9, .int (x6 * (10 : Int32))), (8, .int (x1 * (10 : Int32))), (7, .int s0), (0, .ref q_p0), (1, .int x1), (2, .int x2), (3, .int x3), (4, .int x4), (5, .int x5), (6, .int x6)]) hx hb d_Mi_addColumn_61 hl (by decide) rfl (fun ls hl => ?_)
  refine lv_iconst (v := 0) hx hb d_Mi_addColumn_63 (by decide) ?_
  refine lv_istore (lv' := [(10, .int 0), (9, .int (x6 * (10 : Int32))), (8, .int (x1 * (10 : Int32))), (7, .int s0), (0, .ref q_p0), (1, .int x1), (2, .int x2), (3, .int x3), (4, .int x4), (5, .int x5), (6, .int x6)]) hx hb d_Mi_addColumn_64 hl (by decide) rfl (fun ls hl => ?_)
  exact w_Mi_addColumn_66 fl q_p0 q_p0_sum q_p0_reached i_p0_order res C0 fl x1 x2 x3 x4 x5 x6 s0 (x1 * (10 : Int32)) (x6 * (10 : Int32)) 0 f_p0_reached f_p0_sum _ _ _ hm hP hD hS (lv_sub hl [4, 5, 6, 7, 8, 9, 10, 3, 2, 1, 0] rfl)
set_option maxHeartbeats 4000000 in
set_option maxRecDepth 100000 in
theorem w_Mi_addColumn_0 {p : Program} {l : Launch} {e : Env} {s : State} {m : MethodId} {args : Array Value} {below : List Frame} {meth : Method} {c : Code} {D : va_G} {cI cJ cB : ClassId} {sa : Nat → Nat × Nat} {A : Nat → Prop} (fl : Nat) (q_p0 : Nat) (q_p0_sum : Nat) (q_p0_reached : Nat) (i_p0_order : Int32) (res : (Nat → Int32) × (Nat → Int32)) (C0 : vz_Cx p s m meth c b_Mi_addColumn 12 none "LinkEngine$Minor" "addColumn" D [(cI, .int), (cJ, .long), (cB, .byte)] sa A args) : ∀ (x1 : Int32) (x2 : Int32) (x3 : Int32) (x4 : Int32) (x5 : Int32) (f_p0_reached : Nat → Int32) (f_p0_sum : Nat → Int32) (H : Heap) (locs : List Loc) (ls : Array Slot), B_Mi_addColumn_0 fl i_p0_order x1 x2 x3 x4 x5 f_p0_reached f_p0_sum = some res → va_P D classes (ws_Mi_addColumn cI cJ cB q_p0 q_p0_sum q_p0_reached i_p0_order f_p0_reached f_p0_sum) H → va_D A (ws_Mi_addColumn cI cJ cB q_p0 q_p0_sum q_p0_reached i_p0_order f_p0_reached f_p0_sum) → va_S A s.heap H locs → lv_has ls 12 [(0, .ref q_p0), (1, .int x1), (2, .int x2), (3, .int x3), (4, .int x4), (5, .int x5)] → W p l e rm_Mi_addColumn s m args below meth c H locs 0 0 (MQ below (va_Qv (fun (w : va_W) => w = (ws_Mi_addColumn cI cJ cB q_p0 q_p0_sum q_p0_reached i_p0_order res.1 res.2)) (vz_B D A) A) args s 0 0 A) (F0 m 0 ls []) := by
  obtain ⟨hx, hb, hr, hml, hown, ht, hlocks, hin, hN, hK, hA, hZ⟩ := id C0
  intro x1 x2 x3 x4 x5 f_p0_reached f_p0_sum H locs ls hm hP hD hS hl
  unfold B_Mi_addColumn_0 at hm
  refine lv_iload_n hx hb d_Mi_addColumn_0 rfl (lv_at hl 3 rfl) ?_
  refine lv_aload_n hx hb d_Mi_addColumn_1 rfl (lv_at hl 0 rfl) ?_
  refine va_get (D := D) (ci := 10) (v := .int i_p0_order) (C := R_Mi) (T := F_Mi) (N := 3) hx hb ht i_Mi hown hK hP 0 rfl rfl 2 (Nat.le_of_ble_eq_true rfl) (ht _ m_621) (fun _ h9 => h9) rfl d_Mi_addColumn_2 ?_
  refine lv_icmp_ge (tgt := 17) hx hb d_Mi_addColumn_5 (by decide) (fun hc => ?_) (fun hc => ?_)
  · rw [if_pos hc] at hm
    obtain rfl := Option.some.inj hm
    exact vz_vret hx hb hr hlocks hP hD hS (Nat.le_refl _) (Nat.le_refl _) d_Mi_addColumn_17 rfl
  · rw [if_neg hc] at hm
    refine lv_iload_n hx hb d_Mi_addColumn_8 rfl (lv_at hl 1 rfl) ?_
    refine lv_iload_n hx hb d_Mi_addColumn_9 rfl (lv_at hl 3 rfl) ?_
    refine lv_ishr hx hb d_Mi_addColumn_10 ?_
    refine lv_iconst (v := 1) hx hb d_Mi_addColumn_11 (by decide) ?_
    refine lv_iand hx hb d_Mi_addColumn_12 ?_
    refine lv_iconst (v := 1) hx hb d_Mi_addColumn_13 (by decide) ?_
    refine lv_icmp_ne (tgt := 18) hx hb d_Mi_addColumn_14 (by decide) (fun hc => ?_) (fun hc => ?_)
    · rw [if_pos hc] at hm
      refine lv_iload_n hx hb d_Mi_addColumn_18 rfl (lv_at hl 1 rfl) ?_
      refine lv_iconst (v := 1) hx hb d_Mi_addColumn_19 (by decide) ?_
      refine lv_iload_n hx hb d_Mi_addColumn_20 rfl (lv_at hl 3 rfl) ?_
      refine lv_ishl hx hb d_Mi_addColumn_21 ?_
      refine lv_ior hx hb d_Mi_addColumn_22 ?_
      refine lv_istore (lv' := [(6, .int (x1 ||| ((1 : Int32) <<< (x3 &&& 31)))), (0, .ref q_p0), (1, .int x1), (2, .int x2), (3, .int x3), (4, .int x4), (5, .int x5)]) hx hb d_Mi_addColumn_23 hl (by decide) rfl (fun ls hl => ?_)
      refine lv_aload_n hx hb d_Mi_addColumn_25 rfl (lv_at hl 1 rfl) ?_
      refine lv_iload hx hb d_Mi_addColumn_26 (lv_at hl 0 rfl) ?_
      obtain ⟨o0, ho0, hm⟩ := vz_bind hm
      try dsimp only at hm
      refine vz_callVv (n := 1) (As := [.int (x1 ||| ((1 : Int32) <<< (x3 &&& 31)))]) (rest := []) (wc := (ws_Mi_reach cI cJ cB q_p0 q_p0_sum q_p0_reached i_p0_order f_p0_reached f_p0_sum)) (wr := []) (k1 := 0) (n1 := 0) hx hb hml hown ht hN hZ hK hP hD hS hA (k_Mi_reach l D cI cJ cB sa fl q_p0 q_p0_sum q_p0_reached i_p0_order f_p0_reached f_p0_sum (x1 ||| ((1 : Int32) <<< (x3 &&& 31))) o0 ho0) m_625 m_87 m_622 m_623 m_624 (hc := (rfl : classes[10]? = some (R_Mi, F_Mi, 3))) 0 rfl (by decide +kernel) ⟨Nat.le_of_ble_eq_true rfl, Nat.le_of_ble_eq_true rfl⟩ [0, 1, 2] [] rfl rfl (by decide) (by decide) (by decide) rfl hl.1 rfl (Nat.le_of_ble_eq_true rfl) rfl rfl ⟨Nat.zero_le _, Nat.zero_le _⟩ d_Mi_addColumn_28 (fun w1 H locs hw hP hD hS => ?_)
      subst hw
      have hP : va_P D classes (ws_Mi_addColumn cI cJ cB q_p0 q_p0_sum q_p0_reached i_p0_order o0.1 o0.2) H := hP.sub [0, 1, 2] rfl
      have hD : va_D A (ws_Mi_addColumn cI cJ cB q_p0 q_p0_sum q_p0_reached i_p0_order o0.1 o0.2) := hD.sub [0, 1, 2] (by decide) rfl
      refine lv_iload_n hx hb d_Mi_addColumn_31 rfl (lv_at hl 2 rfl) ?_
      refine lv_iload_n hx hb d_Mi_addColumn_32 rfl (lv_at hl 4 rfl) ?_
      refine lv_ishr hx hb d_Mi_addColumn_33 ?_
      obtain ⟨o1, ho1, hm⟩ := vz_bind hm
      try dsimp only at hm
      refine vz_callSi (n := 1) (As := [.int (x1 >>> (x3 &&& 31))]) (rest := []) (wc := (ws_Int_bitCount cI cJ cB )) (wr := (ws_Mi_addColumn cI cJ cB q_p0 q_p0_sum q_p0_reached i_p0_order o0.1 o0.2)) (k1 := 0) (n1 := 0) hx hb hml hown ht hN hZ hK hP hD hS hA (k_Int_bitCount l D cI cJ cB sa fl   (x1 >>> (x3 &&& 31)) o1 ho1) m_600 m_601 m_626 m_599 (by decide +kernel) ⟨Nat.le_of_ble_eq_true rfl, Nat.le_of_ble_eq_true rfl⟩ [] [0, 1, 2] rfl rfl (by decide) (by decide) (by decide) rfl hl.1 rfl (Nat.le_of_ble_eq_true rfl) rfl rfl ⟨Nat.zero_le _, Nat.zero_le _⟩ d_Mi_addColumn_34 (fun r1 w1 H locs hw hP hD hS => ?_)
      obtain ⟨hr1, rfl⟩ := hw
      have hr1 := hr1.symm
      subst hr1
      have hP : va_P D classes (ws_Mi_addColumn cI cJ cB q_p0 q_p0_sum q_p0_reached i_p0_order o0.1 o0.2) H := hP.sub [0, 1, 2] rfl
      have hD : va_D A (ws_Mi_addColumn cI cJ cB q_p0 q_p0_sum q_p0_reached i_p0_order o0.1 o0.2) := hD.sub [0, 1, 2] (by decide) rfl
      refine lv_iconst (v := 1) hx hb d_Mi_addColumn_37 (by decide) ?_
      refine lv_iand hx hb d_Mi_addColumn_38 ?_
      refine lv_iconst (v := 1) hx hb d_Mi_addColumn_39 (by decide) ?_
      refine lv_icmp_ne (tgt := 47) hx hb d_Mi_addColumn_40 (by decide) (fun hc => ?_) (fun hc => ?_)
      · rw [if_pos hc] at hm
        refine lv_iconst (v := 1) hx hb d_Mi_addColumn_47 (by decide) ?_
        exact w_Mi_addColumn_48 fl q_p0 q_p0_sum q_p0_reached i_p0_order res C0 1 x1 x2 x3 x4 x5 (x1 ||| ((1 : Int32) <<< (x3 &&& 31))) o0.1 o0.2 _ _ _ hm hP hD hS (lv_sub hl [1, 2, 3, 4, 5, 6, 0] rfl)
      · rw [if_neg (fun q => q hc)] at hm
        refine lv_iconst (v := (-1)) hx hb d_Mi_addColumn_43 (by decide) ?_
        refine lv_goto (tgt := 48) hx hb d_Mi_addColumn_44 (by decide) ?_
        exact w_Mi_addColumn_48 fl q_p0 q_p0_sum q_p0_reached i_p0_order res C0 (-1) x1 x2 x3 x4 x5 (x1 ||| ((1 : Int32) <<< (x3 &&& 31))) o0.1 o0.2 _ _ _ hm hP hD hS (lv_sub hl [1, 2, 3, 4, 5, 6, 0] rfl)
    · rw [if_neg (fun q => q hc)] at hm
      obtain rfl := Option.some.inj hm
      exact vz_vret hx hb hr hlocks hP hD hS (Nat.le_refl _) (Nat.le_refl _) d_Mi_addColumn_17 rfl
set_option maxHeartbeats 4000000 in
set_option maxRecDepth 100000 in
theorem k_Mi_addColumn (l : Launch) (D : va_G) (cI cJ cB : ClassId) (sa : Nat → Nat × Nat) (fl : Nat) (q_p0 : Nat) (q_p0_sum : Nat) (q_p0_reached : Nat) (i_p0_order : Int32) (f_p0_reached : Nat → Int32) (f_p0_sum : Nat → Int32) (x1 : Int32) (x2 : Int32) (x3 : Int32) (x4 : Int32) (x5 : Int32) (res : (Nat → Int32) × (Nat → Int32)) (hm : m_Mi_addColumn fl i_p0_order x1 x2 x3 x4 x5 f_p0_reached f_p0_sum = some res) : MtV l y_Mi_addColumn (.code y_Mi_addColumn b_Mi_addColumn 12 none :: CW) rm_Mi_addColumn D [(cI, .int), (cJ, .long), (cB, .byte)] sa [.ref q_p0, .int x1, .int x2, .int x3, .int x4, .int x5] (ws_Mi_addColumn cI cJ cB q_p0 q_p0_sum q_p0_reached i_p0_order f_p0_reached f_p0_sum) (fun (w : va_W) => w = (ws_Mi_addColumn cI cJ cB q_p0 q_p0_sum q_p0_reached i_p0_order res.1 res.2)) := by
  intro sz
  refine vz_start (Qc := fun A => va_Qv (fun (w : va_W) => w = (ws_Mi_addColumn cI cJ cB q_p0 q_p0_sum q_p0_reached i_p0_order res.1 res.2)) (vz_B D A) A) (lv0 := [(0, .ref q_p0), (1, .int x1), (2, .int x2), (3, .int x3), (4, .int x4), (5, .int x5)]) (by decide +kernel) (Nat.le_of_ble_eq_true rfl) rfl ?_
  intro p e s m below meth c A ls C0 hl
  obtain ⟨hx, hb, hr, hml, hown, ht, hlocks, hin, hN, hK, hP, hD, hA, hS, hZ⟩ := C0
  exact w_Mi_addColumn_0 fl q_p0 q_p0_sum q_p0_reached i_p0_order res ⟨hx, hb, hr, hml, hown, ht, hlocks, hin, hN, hK, hA, hZ⟩ x1 x2 x3 x4 x5 f_p0_reached f_p0_sum s.heap [] ls hm hP hD hS (lv_sub hl [0, 1, 2, 3, 4, 5] rfl)
def B_Ss_split_0 (fl : Nat) (ks : Int32 → Int32 → Int32 → Int32 → (Nat → Int32) → (Nat → Int32) → Option ((Nat → Int32) × (Nat → Int32))) (i_p0_crossings : Int32) (x1 : Int32) (x2 : Int32) (x3 : Int32) (f_p0_mate : Nat → Int32) (f_p0_states : Nat → Int32) : Option ((Nat → Int32) × (Nat → Int32)) := (if x1 < i_p0_crossings then ((m_Ss_splitAs fl ks i_p0_crossings x1 0 (x2 + (1 : Int32)) x3 f_p0_mate f_p0_states).bind fun o0 => ((m_Ss_splitAs fl ks i_p0_crossings x1 1 (x2 - (1 : Int32)) x3 o0.1 o0.2).bind fun o1 => (some (o1.1, o1.2)))) else (if (29 : Int32) < x3 then (some (f_p0_mate, f_p0_states)) else (if ¬ ((((x3 * (21 : Int32)) + x2) + (10 : Int32)) < 0 ∨ 630 ≤ Int32.toNatClampNeg (((x3 * (21 : Int32)) + x2) + (10 : Int32))) then (if ¬ ((((x3 * (21 : Int32)) + x2) + (10 : Int32)) < 0 ∨ 630 ≤ Int32.toNatClampNeg (((x3 * (21 : Int32)) + x2) + (10 : Int32))) then (some (f_p0_mate, (upd f_p0_states (Int32.toNatClampNeg (((x3 * (21 : Int32)) + x2) + (10 : Int32))) ((f_p0_states (Int32.toNatClampNeg (((x3 * (21 : Int32)) + x2) + (10 : Int32)))) + (1 : Int32))))) else none) else none)))
def m_Ss_split (fl : Nat) (ks : Int32 → Int32 → Int32 → Int32 → (Nat → Int32) → (Nat → Int32) → Option ((Nat → Int32) × (Nat → Int32))) (i_p0_crossings : Int32) (x1 : Int32) (x2 : Int32) (x3 : Int32) (f_p0_mate : Nat → Int32) (f_p0_states : Nat → Int32) : Option ((Nat → Int32) × (Nat → Int32)) := B_Ss_split_0 fl ks i_p0_crossings x1 x2 x3 f_p0_mate f_p0_states
set_option maxHeartbeats 4000000 in
set_option maxRecDepth 100000 in
theorem w_Ss_split_0 {p : Program} {l : Launch} {e : Env} {s : State} {m : MethodId} {args : Array Value} {below : List Frame} {meth : Method} {c : Code} {D : va_G} {cI cJ cB : ClassId} {sa : Nat → Nat × Nat} {A : Nat → Prop} (fl : Nat) (dd : Nat) (ks : Int32 → Int32 → Int32 → Int32 → (Nat → Int32) → (Nat → Int32) → Option ((Nat → Int32) × (Nat → Int32))) (hks : ∀ (q_p0 : Nat) (q_p0_mate : Nat) (q_p0_states : Nat) (i_p0_crossings : Int32) (f_p0_mate : Nat → Int32) (f_p0_states : Nat → Int32) (y1 y2 y3 : Int32) (z : (Nat → Int32) × (Nat → Int32)), ks i_p0_crossings y1 y2 y3 f_p0_mate f_p0_states = some z → MtV l y_Ss_split (.code y_Ss_split b_Ss_split 4 none :: CW) (rm_Ss_split dd) D [(cI, .int), (cJ, .long), (cB, .byte)] sa [.ref q_p0, .int y1, .int y2, .int y3] (ws_Ss_split cI cJ cB q_p0 q_p0_mate q_p0_states i_p0_crossings f_p0_mate f_p0_states) (fun (w : va_W) => w = (ws_Ss_split cI cJ cB q_p0 q_p0_mate q_p0_states i_p0_crossings z.1 z.2))) (q_p0 : Nat) (q_p0_mate : Nat) (q_p0_states : Nat) (i_p0_crossings : Int32) (res : (Nat → Int32) × (Nat → Int32)) (C0 : vz_Cx p s m meth c b_Ss_split 4 none "LinkEngine$StateSum" "split" D [(cI, .int), (cJ, .long), (cB, .byte)] sa A args) : ∀ (x1 : Int32) (x2 : Int32) (x3 : Int32) (f_p0_mate : Nat → Int32) (f_p0_states : Nat → Int32) (H : Heap) (locs : List Loc) (ls : Array Slot), B_Ss_split_0 fl ks i_p0_crossings x1 x2 x3 f_p0_mate f_p0_states = some res → va_P D classes (ws_Ss_split cI cJ cB q_p0 q_p0_mate q_p0_states i_p0_crossings f_p0_mate f_p0_states) H → va_D A (ws_Ss_split cI cJ cB q_p0 q_p0_mate q_p0_states i_p0_crossings f_p0_mate f_p0_states) → va_S A s.heap H locs → lv_has ls 4 [(0, .ref q_p0), (1, .int x1), (2, .int x2), (3, .int x3)] → W p l e (rm_Ss_split (dd + 1)) s m args below meth c H locs 0 0 (MQ below (va_Qv (fun (w : va_W) => w = (ws_Ss_split cI cJ cB q_p0 q_p0_mate q_p0_states i_p0_crossings res.1 res.2)) (vz_B D A) A) args s 0 0 A) (F0 m 0 ls []) := by
  obtain ⟨hx, hb, hr, hml, hown, ht, hlocks, hin, hN, hK, hA, hZ⟩ := id C0
  intro x1 x2 x3 f_p0_mate f_p0_states H locs ls hm hP hD hS hl
  unfold B_Ss_split_0 at hm
  refine lv_iload_n hx hb d_Ss_split_0 rfl (lv_at hl 1 rfl) ?_
  refine lv_aload_n hx hb d_Ss_split_1 rfl (lv_at hl 0 rfl) ?_
  refine va_get (D := D) (ci := 9) (v := .int i_p0_crossings) (C := R_Ss) (T := F_Ss) (N := 3) hx hb ht i_Ss hown hK hP 0 rfl rfl 2 (Nat.le_of_ble_eq_true rfl) (ht _ m_627) (fun _ h9 => h9) rfl d_Ss_split_2 ?_
  refine lv_icmp_lt (tgt := 33) hx hb d_Ss_split_5 (by decide) (fun hc => ?_) (fun hc => ?_)
  · rw [if_pos hc] at hm
    refine lv_aload_n hx hb d_Ss_split_33 rfl (lv_at hl 0 rfl) ?_
    refine lv_iload_n hx hb d_Ss_split_34 rfl (lv_at hl 1 rfl) ?_
    refine lv_iconst (v := 0) hx hb d_Ss_split_35 (by decide) ?_
    refine lv_iload_n hx hb d_Ss_split_36 rfl (lv_at hl 2 rfl) ?_
    refine lv_iconst (v := 1) hx hb d_Ss_split_37 (by decide) ?_
    refine lv_iadd hx hb d_Ss_split_38 ?_
    refine lv_iload_n hx hb d_Ss_split_39 rfl (lv_at hl 3 rfl) ?_
    obtain ⟨o0, ho0, hm⟩ := vz_bind hm
    try dsimp only at hm
    refine vz_callVv (n := 4) (As := [.int x1, .int 0, .int (x2 + (1 : Int32)), .int x3]) (rest := []) (wc := (ws_Ss_splitAs cI cJ cB q_p0 q_p0_mate q_p0_states i_p0_crossings f_p0_mate f_p0_states)) (wr := []) (k1 := 0) (n1 := 0) hx hb hml hown ht hN hZ hK hP hD hS hA (k_Ss_splitAs l D cI cJ cB sa fl dd ks hks q_p0 q_p0_mate q_p0_states i_p0_crossings f_p0_mate f_p0_states x1 0 (x2 + (1 : Int32)) x3 o0 ho0) m_631 m_81 m_628 m_629 m_630 (hc := (rfl : classes[9]? = some (R_Ss, F_Ss, 3))) 0 rfl (by decide +kernel) ⟨Nat.le_refl _, (show 8 + (14 + 11) + (100 * dd + 40) ≤ 100 * (dd + 1) by omega)⟩ [0, 1, 2] [] rfl rfl (by decide) (by decide) (by decide) rfl hl.1 rfl (Nat.le_of_ble_eq_true rfl) rfl rfl ⟨Nat.zero_le _, Nat.zero_le _⟩ d_Ss_split_40 (fun w1 H locs hw hP hD hS => ?_)
    subst hw
    have hP : va_P D classes (ws_Ss_split cI cJ cB q_p0 q_p0_mate q_p0_states i_p0_crossings o0.1 o0.2) H := hP.sub [0, 1, 2] rfl
    have hD : va_D A (ws_Ss_split cI cJ cB q_p0 q_p0_mate q_p0_states i_p0_crossings o0.1 o0.2) := hD.sub [0, 1, 2] (by decide) rfl
    refine lv_aload_n hx hb d_Ss_split_43 rfl (lv_at hl 0 rfl) ?_
    refine lv_iload_n hx hb d_Ss_split_44 rfl (lv_at hl 1 rfl) ?_
    refine lv_iconst (v := 1) hx hb d_Ss_split_45 (by decide) ?_
    refine lv_iload_n hx hb d_Ss_split_46 rfl (lv_at hl 2 rfl) ?_
    refine lv_iconst (v := 1) hx hb d_Ss_split_47 (by decide) ?_
    refine lv_isub hx hb d_Ss_split_48 ?_
    refine lv_iload_n hx hb d_Ss_split_49 rfl (lv_at hl 3 rfl) ?_
    obtain ⟨o1, ho1, hm⟩ := vz_bind hm
    try dsimp only at hm
    refine vz_callVv (n := 4) (As := [.int x1, .int 1, .int (x2 - (1 : Int32)), .int x3]) (rest := []) (wc := (ws_Ss_splitAs cI cJ cB q_p0 q_p0_mate q_p0_states i_p0_crossings o0.1 o0.2)) (wr := []) (k1 := 0) (n1 := 0) hx hb hml hown ht hN hZ hK hP hD hS hA (k_Ss_splitAs l D cI cJ cB sa fl dd ks hks q_p0 q_p0_mate q_p0_states i_p0_crossings o0.1 o0.2 x1 1 (x2 - (1 : Int32)) x3 o1 ho1) m_631 m_81 m_628 m_629 m_630 (hc := (rfl : classes[9]? = some (R_Ss, F_Ss, 3))) 0 rfl (by decide +kernel) ⟨Nat.le_refl _, (show 8 + (14 + 11) + (100 * dd + 40) ≤ 100 * (dd + 1) by omega)⟩ [0, 1, 2] [] rfl rfl (by decide) (by decide) (by decide) rfl hl.1 rfl (Nat.le_of_ble_eq_true rfl) rfl rfl ⟨Nat.zero_le _, Nat.zero_le _⟩ d_Ss_split_50 (fun w1 H locs hw hP hD hS => ?_)
    subst hw
    have hP : va_P D classes (ws_Ss_split cI cJ cB q_p0 q_p0_mate q_p0_states i_p0_crossings o1.1 o1.2) H := hP.sub [0, 1, 2] rfl
    have hD : va_D A (ws_Ss_split cI cJ cB q_p0 q_p0_mate q_p0_states i_p0_crossings o1.1 o1.2) := hD.sub [0, 1, 2] (by decide) rfl
    obtain rfl := Option.some.inj hm
    exact vz_vret hx hb hr hlocks hP hD hS (Nat.le_refl _) (Nat.le_refl _) d_Ss_split_53 rfl
  · rw [if_neg hc] at hm
    refine lv_iload_n hx hb d_Ss_split_8 rfl (lv_at hl 3 rfl) ?_
    refine lv_bipush (v := 29) hx hb d_Ss_split_9 (by decide +kernel) ?_
    refine lv_icmp_gt (tgt := 32) hx hb d_Ss_split_11 (by decide) (fun hc => ?_) (fun hc => ?_)
    · rw [if_pos hc] at hm
      obtain rfl := Option.some.inj hm
      exact vz_vret hx hb hr hlocks hP hD hS (Nat.le_refl _) (Nat.le_refl _) d_Ss_split_32 rfl
    · rw [if_neg hc] at hm
      refine lv_aload_n hx hb d_Ss_split_14 rfl (lv_at hl 0 rfl) ?_
      refine va_get (D := D) (ci := 9) (v := .ref q_p0_states) (C := R_Ss) (T := F_Ss) (N := 3) hx hb ht i_Ss hown hK hP 0 rfl rfl 1 (Nat.le_of_ble_eq_true rfl) (ht _ m_24) (fun _ h9 => h9) rfl d_Ss_split_15 ?_
      refine lv_iload_n hx hb d_Ss_split_18 rfl (lv_at hl 3 rfl) ?_
      refine lv_bipush (v := 21) hx hb d_Ss_split_19 (by decide +kernel) ?_
      refine lv_imul hx hb d_Ss_split_21 ?_
      refine lv_iload_n hx hb d_Ss_split_22 rfl (lv_at hl 2 rfl) ?_
      refine lv_iadd hx hb d_Ss_split_23 ?_
      refine lv_bipush (v := 10) hx hb d_Ss_split_24 (by decide +kernel) ?_
      refine lv_iadd hx hb d_Ss_split_26 ?_
      refine lv_dup2_11 hx hb d_Ss_split_27 rfl rfl ?_
      obtain ⟨hg, hm⟩ := vz_guard hm
      refine va_iald hx hb hK hP 2 0 rfl rfl hg d_Ss_split_28 ?_
      refine lv_iconst (v := 1) hx hb d_Ss_split_29 (by decide) ?_
      refine lv_iadd hx hb d_Ss_split_30 ?_
      obtain ⟨hg, hm⟩ := vz_guard hm
      refine va_iast hx hb hK hP hD hS 2 0 rfl rfl hg d_Ss_split_31 (fun H locs hP hD hS => ?_)
      have hP : va_P D classes (ws_Ss_split cI cJ cB q_p0 q_p0_mate q_p0_states i_p0_crossings f_p0_mate (upd f_p0_states (Int32.toNatClampNeg (((x3 * (21 : Int32)) + x2) + (10 : Int32))) ((f_p0_states (Int32.toNatClampNeg (((x3 * (21 : Int32)) + x2) + (10 : Int32)))) + (1 : Int32)))) H := hP
      have hD : va_D A (ws_Ss_split cI cJ cB q_p0 q_p0_mate q_p0_states i_p0_crossings f_p0_mate (upd f_p0_states (Int32.toNatClampNeg (((x3 * (21 : Int32)) + x2) + (10 : Int32))) ((f_p0_states (Int32.toNatClampNeg (((x3 * (21 : Int32)) + x2) + (10 : Int32)))) + (1 : Int32)))) := hD
      obtain rfl := Option.some.inj hm
      exact vz_vret hx hb hr hlocks hP hD hS (Nat.le_refl _) (Nat.le_refl _) d_Ss_split_32 rfl
set_option maxHeartbeats 4000000 in
set_option maxRecDepth 100000 in
theorem k_Ss_split (l : Launch) (D : va_G) (cI cJ cB : ClassId) (sa : Nat → Nat × Nat) (fl : Nat) (dd : Nat) (ks : Int32 → Int32 → Int32 → Int32 → (Nat → Int32) → (Nat → Int32) → Option ((Nat → Int32) × (Nat → Int32))) (hks : ∀ (q_p0 : Nat) (q_p0_mate : Nat) (q_p0_states : Nat) (i_p0_crossings : Int32) (f_p0_mate : Nat → Int32) (f_p0_states : Nat → Int32) (y1 y2 y3 : Int32) (z : (Nat → Int32) × (Nat → Int32)), ks i_p0_crossings y1 y2 y3 f_p0_mate f_p0_states = some z → MtV l y_Ss_split (.code y_Ss_split b_Ss_split 4 none :: CW) (rm_Ss_split dd) D [(cI, .int), (cJ, .long), (cB, .byte)] sa [.ref q_p0, .int y1, .int y2, .int y3] (ws_Ss_split cI cJ cB q_p0 q_p0_mate q_p0_states i_p0_crossings f_p0_mate f_p0_states) (fun (w : va_W) => w = (ws_Ss_split cI cJ cB q_p0 q_p0_mate q_p0_states i_p0_crossings z.1 z.2))) (q_p0 : Nat) (q_p0_mate : Nat) (q_p0_states : Nat) (i_p0_crossings : Int32) (f_p0_mate : Nat → Int32) (f_p0_states : Nat → Int32) (x1 : Int32) (x2 : Int32) (x3 : Int32) (res : (Nat → Int32) × (Nat → Int32)) (hm : m_Ss_split fl ks i_p0_crossings x1 x2 x3 f_p0_mate f_p0_states = some res) : MtV l y_Ss_split (.code y_Ss_split b_Ss_split 4 none :: CW) (rm_Ss_split (dd + 1)) D [(cI, .int), (cJ, .long), (cB, .byte)] sa [.ref q_p0, .int x1, .int x2, .int x3] (ws_Ss_split cI cJ cB q_p0 q_p0_mate q_p0_states i_p0_crossings f_p0_mate f_p0_states) (fun (w : va_W) => w = (ws_Ss_split cI cJ cB q_p0 q_p0_mate q_p0_states i_p0_crossings res.1 res.2)) := by
  intro sz
  refine vz_start (Qc := fun A => va_Qv (fun (w : va_W) => w = (ws_Ss_split cI cJ cB q_p0 q_p0_mate q_p0_states i_p0_crossings res.1 res.2)) (vz_B D A) A) (lv0 := [(0, .ref q_p0), (1, .int x1), (2, .int x2), (3, .int x3)]) (by decide +kernel) (Nat.le_of_ble_eq_true rfl) rfl ?_
  intro p e s m below meth c A ls C0 hl
  obtain ⟨hx, hb, hr, hml, hown, ht, hlocks, hin, hN, hK, hP, hD, hA, hS, hZ⟩ := C0
  exact w_Ss_split_0 fl dd ks hks q_p0 q_p0_mate q_p0_states i_p0_crossings res ⟨hx, hb, hr, hml, hown, ht, hlocks, hin, hN, hK, hA, hZ⟩ x1 x2 x3 f_p0_mate f_p0_states s.heap [] ls hm hP hD hS (lv_sub hl [0, 1, 2, 3] rfl)
def r_Ss_split (fl : Nat) : Nat → Int32 → Int32 → Int32 → Int32 → (Nat → Int32) → (Nat → Int32) → Option ((Nat → Int32) × (Nat → Int32))
  | 0, _, _, _, _, _, _ => none
  | n + 1, i, y1, y2, y3, f, g => m_Ss_split fl (r_Ss_split fl n) i y1 y2 y3 f g
theorem kr_Ss_split (l : Launch) (D : va_G) (cI cJ cB : ClassId) (sa : Nat → Nat × Nat) (fl : Nat) : ∀ (dd : Nat), ∀ (q_p0 : Nat) (q_p0_mate : Nat) (q_p0_states : Nat) (i_p0_crossings : Int32) (f_p0_mate : Nat → Int32) (f_p0_states : Nat → Int32) (y1 y2 y3 : Int32) (z : (Nat → Int32) × (Nat → Int32)), r_Ss_split fl dd i_p0_crossings y1 y2 y3 f_p0_mate f_p0_states = some z → MtV l y_Ss_split (.code y_Ss_split b_Ss_split 4 none :: CW) (rm_Ss_split dd) D [(cI, .int), (cJ, .long), (cB, .byte)] sa [.ref q_p0, .int y1, .int y2, .int y3] (ws_Ss_split cI cJ cB q_p0 q_p0_mate q_p0_states i_p0_crossings f_p0_mate f_p0_states) (fun (w : va_W) => w = (ws_Ss_split cI cJ cB q_p0 q_p0_mate q_p0_states i_p0_crossings z.1 z.2)) := by
  intro dd
  induction dd with
  | zero =>
    intro q_p0 q_p0_mate q_p0_states i_p0_crossings f_p0_mate f_p0_states y1 y2 y3 z hm
    rw [r_Ss_split] at hm
    cases hm
  | succ dd ih =>
    intro q_p0 q_p0_mate q_p0_states i_p0_crossings f_p0_mate f_p0_states y1 y2 y3 z hm
    rw [r_Ss_split] at hm
    exact k_Ss_split l D cI cJ cB sa fl dd (r_Ss_split fl dd) ih q_p0 q_p0_mate q_p0_states i_p0_crossings f_p0_mate f_p0_states y1 y2 y3 z hm
def ws_Pa_putTermSign (cI cJ cB : ClassId) (q_p0 : Nat) (q_p0_bytes : Nat) (q_p0_digits : Nat) (i_p0_size : Int32) (i_p0_overflown : Int32) (f_p0_bytes : Nat → Int32) : va_W := [(q_p0, .inr (3, [.ref q_p0_bytes, .ref q_p0_digits, .int i_p0_size, .int i_p0_overflown])), (q_p0_bytes, .inl (cI, 4000, .inl f_p0_bytes))]
def rm_Pa_putTermSign : Room := { frames := 5, cells := 0, slots := 0, locals := 107 }
def B_Pa_putTermSign_34 (fl : Nat) (s0 : Nat) (x1 : Int32) (x2 : Int32) (i_p0_size : Int32) (i_p0_overflown : Int32) (f_p0_bytes : Nat → Int32) : Option (Int32 × Int32 × (Nat → Int32)) := ((m_Pa_putText fl s0 i_p0_size i_p0_overflown f_p0_bytes).bind fun o0 => (some (o0.1, o0.2.1, o0.2.2)))
def B_Pa_putTermSign_16 (fl : Nat) (s0 : Nat) (x1 : Int32) (x2 : Int32) (i_p0_size : Int32) (i_p0_overflown : Int32) (f_p0_bytes : Nat → Int32) : Option (Int32 × Int32 × (Nat → Int32)) := ((m_Pa_putText fl s0 i_p0_size i_p0_overflown f_p0_bytes).bind fun o0 => (some (o0.1, o0.2.1, o0.2.2)))
def B_Pa_putTermSign_0 (fl : Nat) (x1 : Int32) (x2 : Int32) (i_p0_size : Int32) (i_p0_overflown : Int32) (f_p0_bytes : Nat → Int32) : Option (Int32 × Int32 × (Nat → Int32)) := (if x2 = (0 : Int32) then (if x1 = (0 : Int32) then B_Pa_putTermSign_34 fl 40 x1 x2 i_p0_size i_p0_overflown f_p0_bytes else B_Pa_putTermSign_34 fl 39 x1 x2 i_p0_size i_p0_overflown f_p0_bytes) else (if x1 = (0 : Int32) then B_Pa_putTermSign_16 fl 38 x1 x2 i_p0_size i_p0_overflown f_p0_bytes else B_Pa_putTermSign_16 fl 37 x1 x2 i_p0_size i_p0_overflown f_p0_bytes))
def m_Pa_putTermSign (fl : Nat) (x1 : Int32) (x2 : Int32) (i_p0_size : Int32) (i_p0_overflown : Int32) (f_p0_bytes : Nat → Int32) : Option (Int32 × Int32 × (Nat → Int32)) := B_Pa_putTermSign_0 fl  x1 x2 i_p0_size i_p0_overflown f_p0_bytes
set_option maxHeartbeats 4000000 in
set_option maxRecDepth 100000 in
theorem w_Pa_putTermSign_34 {p : Program} {l : Launch} {e : Env} {s : State} {m : MethodId} {args : Array Value} {below : List Frame} {meth : Method} {c : Code} {D : va_G} {cI cJ cB : ClassId} {sa : Nat → Nat × Nat} {A : Nat → Prop} (fl : Nat) (q_p0 : Nat) (q_p0_bytes : Nat) (q_p0_digits : Nat)  (res : Int32 × Int32 × (Nat → Int32)) (C0 : vz_Cx p s m meth c b_Pa_putTermSign 3 none "LinkEngine$Paper" "putTermSign" D [(cI, .int), (cJ, .long), (cB, .byte)] sa A args) : ∀ (s0 : Nat) (x1 : Int32) (x2 : Int32) (i_p0_size : Int32) (i_p0_overflown : Int32) (f_p0_bytes : Nat → Int32) (H : Heap) (locs : List Loc) (ls : Array Slot), B_Pa_putTermSign_34 fl s0 x1 x2 i_p0_size i_p0_overflown f_p0_bytes = some res → va_P D classes (ws_Pa_putTermSign cI cJ cB q_p0 q_p0_bytes q_p0_digits i_p0_size i_p0_overflown f_p0_bytes) H → va_D A (ws_Pa_putTermSign cI cJ cB q_p0 q_p0_bytes q_p0_digits i_p0_size i_p0_overflown f_p0_bytes) → va_S A s.heap H locs → lv_has ls 3 [(0, .ref q_p0), (1, .int x1), (2, .int x2)] → W p l e rm_Pa_putTermSign s m args below meth c H locs 0 0 (MQ below (va_Qv (fun (w : va_W) => w = (ws_Pa_putTermSign cI cJ cB q_p0 q_p0_bytes q_p0_digits res.1 res.2.1 res.2.2)) (vz_B D A) A) args s 0 0 A) (F0 m 34 ls [.ref (sa s0).1, .ref q_p0]) := by
  obtain ⟨hx, hb, hr, hml, hown, ht, hlocks, hin, hN, hK, hA, hZ⟩ := id C0
  intro s0 x1 x2 i_p0_size i_p0_overflown f_p0_bytes H locs ls hm hP hD hS hl
  unfold B_Pa_putTermSign_34 at hm
  obtain ⟨o0, ho0, hm⟩ := vz_bind hm
  try dsimp only at hm
  refine vz_callVv (n := 1) (As := [.ref (sa s0).1]) (rest := []) (wc := (ws_Pa_putText cI cJ cB q_p0 q_p0_bytes q_p0_digits i_p0_size i_p0_overflown f_p0_bytes)) (wr := []) (k1 := 0) (n1 := 0) hx hb hml hown ht hN hZ hK hP hD hS hA (k_Pa_putText l D cI cJ cB sa fl q_p0 q_p0_bytes q_p0_digits i_p0_size i_p0_overflown f_p0_bytes s0 o0 ho0) m_605 m_69 m_615 m_603 m_604 (hc := (rfl : classes[3]? = some (R_Pa, F_Pa, 4))) 0 rfl (by decide +kernel) ⟨Nat.le_of_ble_eq_true rfl, Nat.le_of_ble_eq_true rfl⟩ [0, 1] [] rfl rfl (by decide) (by decide) (by decide) rfl hl.1 rfl (Nat.le_of_ble_eq_true rfl) rfl rfl ⟨Nat.zero_le _, Nat.zero_le _⟩ d_Pa_putTermSign_34 (fun w1 H locs hw hP hD hS => ?_)
  subst hw
  have hP : va_P D classes (ws_Pa_putTermSign cI cJ cB q_p0 q_p0_bytes q_p0_digits o0.1 o0.2.1 o0.2.2) H := hP.sub [0, 1] rfl
  have hD : va_D A (ws_Pa_putTermSign cI cJ cB q_p0 q_p0_bytes q_p0_digits o0.1 o0.2.1 o0.2.2) := hD.sub [0, 1] (by decide) rfl
  obtain rfl := Option.some.inj hm
  exact vz_vret hx hb hr hlocks hP hD hS (Nat.le_refl _) (Nat.le_refl _) d_Pa_putTermSign_37 rfl
set_option maxHeartbeats 4000000 in
set_option maxRecDepth 100000 in
theorem w_Pa_putTermSign_16 {p : Program} {l : Launch} {e : Env} {s : State} {m : MethodId} {args : Array Value} {below : List Frame} {meth : Method} {c : Code} {D : va_G} {cI cJ cB : ClassId} {sa : Nat → Nat × Nat} {A : Nat → Prop} (fl : Nat) (q_p0 : Nat) (q_p0_bytes : Nat) (q_p0_digits : Nat)  (res : Int32 × Int32 × (Nat → Int32)) (C0 : vz_Cx p s m meth c b_Pa_putTermSign 3 none "LinkEngine$Paper" "putTermSign" D [(cI, .int), (cJ, .long), (cB, .byte)] sa A args) : ∀ (s0 : Nat) (x1 : Int32) (x2 : Int32) (i_p0_size : Int32) (i_p0_overflown : Int32) (f_p0_bytes : Nat → Int32) (H : Heap) (locs : List Loc) (ls : Array Slot), B_Pa_putTermSign_16 fl s0 x1 x2 i_p0_size i_p0_overflown f_p0_bytes = some res → va_P D classes (ws_Pa_putTermSign cI cJ cB q_p0 q_p0_bytes q_p0_digits i_p0_size i_p0_overflown f_p0_bytes) H → va_D A (ws_Pa_putTermSign cI cJ cB q_p0 q_p0_bytes q_p0_digits i_p0_size i_p0_overflown f_p0_bytes) → va_S A s.heap H locs → lv_has ls 3 [(0, .ref q_p0), (1, .int x1), (2, .int x2)] → W p l e rm_Pa_putTermSign s m args below meth c H locs 0 0 (MQ below (va_Qv (fun (w : va_W) => w = (ws_Pa_putTermSign cI cJ cB q_p0 q_p0_bytes q_p0_digits res.1 res.2.1 res.2.2)) (vz_B D A) A) args s 0 0 A) (F0 m 16 ls [.ref (sa s0).1, .ref q_p0]) := by
  obtain ⟨hx, hb, hr, hml, hown, ht, hlocks, hin, hN, hK, hA, hZ⟩ := id C0
  intro s0 x1 x2 i_p0_size i_p0_overflown f_p0_bytes H locs ls hm hP hD hS hl
  unfold B_Pa_putTermSign_16 at hm
  obtain ⟨o0, ho0, hm⟩ := vz_bind hm
  try dsimp only at hm
  refine vz_callVv (n := 1) (As := [.ref (sa s0).1]) (rest := []) (wc := (ws_Pa_putText cI cJ cB q_p0 q_p0_bytes q_p0_digits i_p0_size i_p0_overflown f_p0_bytes)) (wr := []) (k1 := 0) (n1 := 0) hx hb hml hown ht hN hZ hK hP hD hS hA (k_Pa_putText l D cI cJ cB sa fl q_p0 q_p0_bytes q_p0_digits i_p0_size i_p0_overflown f_p0_bytes s0 o0 ho0) m_605 m_69 m_615 m_603 m_604 (hc := (rfl : classes[3]? = some (R_Pa, F_Pa, 4))) 0 rfl (by decide +kernel) ⟨Nat.le_of_ble_eq_true rfl, Nat.le_of_ble_eq_true rfl⟩ [0, 1] [] rfl rfl (by decide) (by decide) (by decide) rfl hl.1 rfl (Nat.le_of_ble_eq_true rfl) rfl rfl ⟨Nat.zero_le _, Nat.zero_le _⟩ d_Pa_putTermSign_16 (fun w1 H locs hw hP hD hS => ?_)
  subst hw
  have hP : va_P D classes (ws_Pa_putTermSign cI cJ cB q_p0 q_p0_bytes q_p0_digits o0.1 o0.2.1 o0.2.2) H := hP.sub [0, 1] rfl
  have hD : va_D A (ws_Pa_putTermSign cI cJ cB q_p0 q_p0_bytes q_p0_digits o0.1 o0.2.1 o0.2.2) := hD.sub [0, 1] (by decide) rfl
  refine lv_goto (tgt := 37) hx hb d_Pa_putTermSign_19 (by decide) ?_
  obtain rfl := Option.some.inj hm
  exact vz_vret hx hb hr hlocks hP hD hS (Nat.le_refl _) (Nat.le_refl _) d_Pa_putTermSign_37 rfl
set_option maxHeartbeats 4000000 in
set_option maxRecDepth 100000 in
theorem w_Pa_putTermSign_0 {p : Program} {l : Launch} {e : Env} {s : State} {m : MethodId} {args : Array Value} {below : List Frame} {meth : Method} {c : Code} {D : va_G} {cI cJ cB : ClassId} {sa : Nat → Nat × Nat} {A : Nat → Prop} (fl : Nat) (q_p0 : Nat) (q_p0_bytes : Nat) (q_p0_digits : Nat)  (res : Int32 × Int32 × (Nat → Int32)) (C0 : vz_Cx p s m meth c b_Pa_putTermSign 3 none "LinkEngine$Paper" "putTermSign" D [(cI, .int), (cJ, .long), (cB, .byte)] sa A args) : ∀ (x1 : Int32) (x2 : Int32) (i_p0_size : Int32) (i_p0_overflown : Int32) (f_p0_bytes : Nat → Int32) (H : Heap) (locs : List Loc) (ls : Array Slot), B_Pa_putTermSign_0 fl x1 x2 i_p0_size i_p0_overflown f_p0_bytes = some res → va_P D classes (ws_Pa_putTermSign cI cJ cB q_p0 q_p0_bytes q_p0_digits i_p0_size i_p0_overflown f_p0_bytes) H → va_D A (ws_Pa_putTermSign cI cJ cB q_p0 q_p0_bytes q_p0_digits i_p0_size i_p0_overflown f_p0_bytes) → va_S A s.heap H locs → lv_has ls 3 [(0, .ref q_p0), (1, .int x1), (2, .int x2)] → W p l e rm_Pa_putTermSign s m args below meth c H locs 0 0 (MQ below (va_Qv (fun (w : va_W) => w = (ws_Pa_putTermSign cI cJ cB q_p0 q_p0_bytes q_p0_digits res.1 res.2.1 res.2.2)) (vz_B D A) A) args s 0 0 A) (F0 m 0 ls []) := by
  obtain ⟨hx, hb, hr, hml, hown, ht, hlocks, hin, hN, hK, hA, hZ⟩ := id C0
  intro x1 x2 i_p0_size i_p0_overflown f_p0_bytes H locs ls hm hP hD hS hl
  unfold B_Pa_putTermSign_0 at hm
  refine lv_iload_n hx hb d_Pa_putTermSign_0 rfl (lv_at hl 2 rfl) ?_
  refine lv_if_eq (tgt := 22) hx hb d_Pa_putTermSign_1 (by decide) (fun hc => ?_) (fun hc => ?_)
  · rw [if_pos hc] at hm
    refine lv_aload_n hx hb d_Pa_putTermSign_22 rfl (lv_at hl 0 rfl) ?_
    refine lv_iload_n hx hb d_Pa_putTermSign_23 rfl (lv_at hl 1 rfl) ?_
    refine lv_if_eq (tgt := 32) hx hb d_Pa_putTermSign_24 (by decide) (fun hc => ?_) (fun hc => ?_)
    · rw [if_pos hc] at hm
      refine va_ldcS hx hb hown (hZ.2.1 40 ("LinkEngine$Paper", 121, " + ") rfl) d_Pa_putTermSign_32 ?_
      exact w_Pa_putTermSign_34 fl q_p0 q_p0_bytes q_p0_digits  res C0 40 x1 x2 i_p0_size i_p0_overflown f_p0_bytes _ _ _ hm hP hD hS (lv_sub hl [0, 1, 2] rfl)
    · rw [if_neg hc] at hm
      refine va_ldcS hx hb hown (hZ.2.1 39 ("LinkEngine$Paper", 119, " - ") rfl) d_Pa_putTermSign_27 ?_
      refine lv_goto (tgt := 34) hx hb d_Pa_putTermSign_29 (by decide) ?_
      exact w_Pa_putTermSign_34 fl q_p0 q_p0_bytes q_p0_digits  res C0 39 x1 x2 i_p0_size i_p0_overflown f_p0_bytes _ _ _ hm hP hD hS (lv_sub hl [0, 1, 2] rfl)
  · rw [if_neg hc] at hm
    refine lv_aload_n hx hb d_Pa_putTermSign_4 rfl (lv_at hl 0 rfl) ?_
    refine lv_iload_n hx hb d_Pa_putTermSign_5 rfl (lv_at hl 1 rfl) ?_
    refine lv_if_eq (tgt := 14) hx hb d_Pa_putTermSign_6 (by decide) (fun hc => ?_) (fun hc => ?_)
    · rw [if_pos hc] at hm
      refine va_ldcS hx hb hown (hZ.2.1 38 ("LinkEngine$Paper", 117, "") rfl) d_Pa_putTermSign_14 ?_
      exact w_Pa_putTermSign_16 fl q_p0 q_p0_bytes q_p0_digits  res C0 38 x1 x2 i_p0_size i_p0_overflown f_p0_bytes _ _ _ hm hP hD hS (lv_sub hl [0, 1, 2] rfl)
    · rw [if_neg hc] at hm
      refine va_ldcS hx hb hown (hZ.2.1 37 ("LinkEngine$Paper", 115, "-") rfl) d_Pa_putTermSign_9 ?_
      refine lv_goto (tgt := 16) hx hb d_Pa_putTermSign_11 (by decide) ?_
      exact w_Pa_putTermSign_16 fl q_p0 q_p0_bytes q_p0_digits  res C0 37 x1 x2 i_p0_size i_p0_overflown f_p0_bytes _ _ _ hm hP hD hS (lv_sub hl [0, 1, 2] rfl)
set_option maxHeartbeats 4000000 in
set_option maxRecDepth 100000 in
theorem k_Pa_putTermSign (l : Launch) (D : va_G) (cI cJ cB : ClassId) (sa : Nat → Nat × Nat) (fl : Nat) (q_p0 : Nat) (q_p0_bytes : Nat) (q_p0_digits : Nat) (i_p0_size : Int32) (i_p0_overflown : Int32) (f_p0_bytes : Nat → Int32) (x1 : Int32) (x2 : Int32) (res : Int32 × Int32 × (Nat → Int32)) (hm : m_Pa_putTermSign fl x1 x2 i_p0_size i_p0_overflown f_p0_bytes = some res) : MtV l y_Pa_putTermSign (.code y_Pa_putTermSign b_Pa_putTermSign 3 none :: CW) rm_Pa_putTermSign D [(cI, .int), (cJ, .long), (cB, .byte)] sa [.ref q_p0, .int x1, .int x2] (ws_Pa_putTermSign cI cJ cB q_p0 q_p0_bytes q_p0_digits i_p0_size i_p0_overflown f_p0_bytes) (fun (w : va_W) => w = (ws_Pa_putTermSign cI cJ cB q_p0 q_p0_bytes q_p0_digits res.1 res.2.1 res.2.2)) := by
  intro sz
  refine vz_start (Qc := fun A => va_Qv (fun (w : va_W) => w = (ws_Pa_putTermSign cI cJ cB q_p0 q_p0_bytes q_p0_digits res.1 res.2.1 res.2.2)) (vz_B D A) A) (lv0 := [(0, .ref q_p0), (1, .int x1), (2, .int x2)]) (by decide +kernel) (Nat.le_of_ble_eq_true rfl) rfl ?_
  intro p e s m below meth c A ls C0 hl
  obtain ⟨hx, hb, hr, hml, hown, ht, hlocks, hin, hN, hK, hP, hD, hA, hS, hZ⟩ := C0
  exact w_Pa_putTermSign_0 fl q_p0 q_p0_bytes q_p0_digits  res ⟨hx, hb, hr, hml, hown, ht, hlocks, hin, hN, hK, hA, hZ⟩ x1 x2 i_p0_size i_p0_overflown f_p0_bytes s.heap [] ls hm hP hD hS (lv_sub hl [0, 1, 2] rfl)
def ws_Pa_putTerm (cI cJ cB : ClassId) (q_p0 : Nat) (q_p0_bytes : Nat) (q_p0_digits : Nat) (i_p0_size : Int32) (i_p0_overflown : Int32) (f_p0_bytes : Nat → Int32) (f_p0_digits : Nat → Int32) : va_W := [(q_p0, .inr (3, [.ref q_p0_bytes, .ref q_p0_digits, .int i_p0_size, .int i_p0_overflown])), (q_p0_bytes, .inl (cI, 4000, .inl f_p0_bytes)), (q_p0_digits, .inl (cI, 20, .inl f_p0_digits))]
def rm_Pa_putTerm : Room := { frames := 5, cells := 0, slots := 0, locals := 107 }
def B_Pa_putTerm_25 (fl : Nat) (x1 : Int64) (x3 : Int32) (x4 : Nat) (i_p0_size : Int32) (i_p0_overflown : Int32) (f_p0_bytes : Nat → Int32) (f_p0_digits : Nat → Int32) : Option (Int32 × Int32 × (Nat → Int32) × (Nat → Int32)) := (if x3 = (0 : Int32) then (some (i_p0_size, i_p0_overflown, f_p0_bytes, f_p0_digits)) else (if x3 = (1 : Int32) then (some (i_p0_size, i_p0_overflown, f_p0_bytes, f_p0_digits)) else ((m_Pa_put fl 94 i_p0_size i_p0_overflown f_p0_bytes).bind fun o0 => ((m_Pa_putNumber fl (Int32.toInt64 x3) o0.1 o0.2.1 o0.2.2 f_p0_digits).bind fun o1 => (some (o1.1, o1.2.1, o1.2.2.1, o1.2.2.2))))))
def B_Pa_putTerm_15 (fl : Nat) (x1 : Int64) (x3 : Int32) (x4 : Nat) (i_p0_size : Int32) (i_p0_overflown : Int32) (f_p0_bytes : Nat → Int32) (f_p0_digits : Nat → Int32) : Option (Int32 × Int32 × (Nat → Int32) × (Nat → Int32)) := (if x3 = (0 : Int32) then B_Pa_putTerm_25 fl x1 x3 x4 i_p0_size i_p0_overflown f_p0_bytes f_p0_digits else ((m_Pa_putText fl x4 i_p0_size i_p0_overflown f_p0_bytes).bind fun o0 => B_Pa_putTerm_25 fl x1 x3 x4 o0.1 o0.2.1 o0.2.2 f_p0_digits))
def B_Pa_putTerm_10 (fl : Nat) (x1 : Int64) (x3 : Int32) (x4 : Nat) (i_p0_size : Int32) (i_p0_overflown : Int32) (f_p0_bytes : Nat → Int32) (f_p0_digits : Nat → Int32) : Option (Int32 × Int32 × (Nat → Int32) × (Nat → Int32)) := ((m_Pa_putNumber fl x1 i_p0_size i_p0_overflown f_p0_bytes f_p0_digits).bind fun o0 => B_Pa_putTerm_15 fl x1 x3 x4 o0.1 o0.2.1 o0.2.2.1 o0.2.2.2)
def B_Pa_putTerm_0 (fl : Nat) (x1 : Int64) (x3 : Int32) (x4 : Nat) (i_p0_size : Int32) (i_p0_overflown : Int32) (f_p0_bytes : Nat → Int32) (f_p0_digits : Nat → Int32) : Option (Int32 × Int32 × (Nat → Int32) × (Nat → Int32)) := (if ¬ (lg_cmp x1 1) = (0 : Int32) then B_Pa_putTerm_10 fl x1 x3 x4 i_p0_size i_p0_overflown f_p0_bytes f_p0_digits else (if ¬ x3 = (0 : Int32) then B_Pa_putTerm_15 fl x1 x3 x4 i_p0_size i_p0_overflown f_p0_bytes f_p0_digits else B_Pa_putTerm_10 fl x1 x3 x4 i_p0_size i_p0_overflown f_p0_bytes f_p0_digits))
def m_Pa_putTerm (fl : Nat) (x1 : Int64) (x3 : Int32) (x4 : Nat) (i_p0_size : Int32) (i_p0_overflown : Int32) (f_p0_bytes : Nat → Int32) (f_p0_digits : Nat → Int32) : Option (Int32 × Int32 × (Nat → Int32) × (Nat → Int32)) := B_Pa_putTerm_0 fl  x1 x3 x4 i_p0_size i_p0_overflown f_p0_bytes f_p0_digits
set_option maxHeartbeats 4000000 in
set_option maxRecDepth 100000 in
theorem w_Pa_putTerm_25 {p : Program} {l : Launch} {e : Env} {s : State} {m : MethodId} {args : Array Value} {below : List Frame} {meth : Method} {c : Code} {D : va_G} {cI cJ cB : ClassId} {sa : Nat → Nat × Nat} {A : Nat → Prop} (fl : Nat) (q_p0 : Nat) (q_p0_bytes : Nat) (q_p0_digits : Nat)  (res : Int32 × Int32 × (Nat → Int32) × (Nat → Int32)) (C0 : vz_Cx p s m meth c b_Pa_putTerm 5 none "LinkEngine$Paper" "putTerm" D [(cI, .int), (cJ, .long), (cB, .byte)] sa A args) : ∀ (x1 : Int64) (x3 : Int32) (x4 : Nat) (i_p0_size : Int32) (i_p0_overflown : Int32) (f_p0_bytes : Nat → Int32) (f_p0_digits : Nat → Int32) (H : Heap) (locs : List Loc) (ls : Array Slot), B_Pa_putTerm_25 fl x1 x3 x4 i_p0_size i_p0_overflown f_p0_bytes f_p0_digits = some res → va_P D classes (ws_Pa_putTerm cI cJ cB q_p0 q_p0_bytes q_p0_digits i_p0_size i_p0_overflown f_p0_bytes f_p0_digits) H → va_D A (ws_Pa_putTerm cI cJ cB q_p0 q_p0_bytes q_p0_digits i_p0_size i_p0_overflown f_p0_bytes f_p0_digits) → va_S A s.heap H locs → lv_has ls 5 [(0, .ref q_p0), (1, .long x1), (3, .int x3), (4, .ref (sa x4).1)] → W p l e rm_Pa_putTerm s m args below meth c H locs 0 0 (MQ below (va_Qv (fun (w : va_W) => w = (ws_Pa_putTerm cI cJ cB q_p0 q_p0_bytes q_p0_digits res.1 res.2.1 res.2.2.1 res.2.2.2)) (vz_B D A) A) args s 0 0 A) (F0 m 25 ls []) := by
  obtain ⟨hx, hb, hr, hml, hown, ht, hlocks, hin, hN, hK, hA, hZ⟩ := id C0
  intro x1 x3 x4 i_p0_size i_p0_overflown f_p0_bytes f_p0_digits H locs ls hm hP hD hS hl
  unfold B_Pa_putTerm_25 at hm
  refine lv_iload_n hx hb d_Pa_putTerm_25 rfl (lv_at hl 2 rfl) ?_
  refine lv_if_eq (tgt := 46) hx hb d_Pa_putTerm_26 (by decide) (fun hc => ?_) (fun hc => ?_)
  · rw [if_pos hc] at hm
    obtain rfl := Option.some.inj hm
    exact vz_vret hx hb hr hlocks hP hD hS (Nat.le_refl _) (Nat.le_refl _) d_Pa_putTerm_46 rfl
  · rw [if_neg hc] at hm
    refine lv_iload_n hx hb d_Pa_putTerm_29 rfl (lv_at hl 2 rfl) ?_
    refine lv_iconst (v := 1) hx hb d_Pa_putTerm_30 (by decide) ?_
    refine lv_icmp_eq (tgt := 46) hx hb d_Pa_putTerm_31 (by decide) (fun hc => ?_) (fun hc => ?_)
    · rw [if_pos hc] at hm
      obtain rfl := Option.some.inj hm
      exact vz_vret hx hb hr hlocks hP hD hS (Nat.le_refl _) (Nat.le_refl _) d_Pa_putTerm_46 rfl
    · rw [if_neg hc] at hm
      refine lv_aload_n hx hb d_Pa_putTerm_34 rfl (lv_at hl 0 rfl) ?_
      refine lv_bipush (v := 94) hx hb d_Pa_putTerm_35 (by decide +kernel) ?_
      obtain ⟨o0, ho0, hm⟩ := vz_bind hm
      try dsimp only at hm
      refine vz_callVv (n := 1) (As := [.int 94]) (rest := []) (wc := (ws_Pa_put cI cJ cB q_p0 q_p0_bytes q_p0_digits i_p0_size i_p0_overflown f_p0_bytes)) (wr := [(q_p0_digits, .inl (cI, 20, .inl f_p0_digits))]) (k1 := 0) (n1 := 0) hx hb hml hown ht hN hZ hK hP hD hS hA (k_Pa_put l D cI cJ cB sa fl q_p0 q_p0_bytes q_p0_digits i_p0_size i_p0_overflown f_p0_bytes 94 o0 ho0) m_370 m_69 m_367 m_368 m_369 (hc := (rfl : classes[3]? = some (R_Pa, F_Pa, 4))) 0 rfl (by decide +kernel) ⟨Nat.le_of_ble_eq_true rfl, Nat.le_of_ble_eq_true rfl⟩ [0, 1] [2] rfl rfl (by decide) (by decide) (by decide) rfl hl.1 rfl (Nat.le_of_ble_eq_true rfl) rfl rfl ⟨Nat.zero_le _, Nat.zero_le _⟩ d_Pa_putTerm_37 (fun w1 H locs hw hP hD hS => ?_)
      subst hw
      have hP : va_P D classes (ws_Pa_putTerm cI cJ cB q_p0 q_p0_bytes q_p0_digits o0.1 o0.2.1 o0.2.2 f_p0_digits) H := hP.sub [1, 2, 0] rfl
      have hD : va_D A (ws_Pa_putTerm cI cJ cB q_p0 q_p0_bytes q_p0_digits o0.1 o0.2.1 o0.2.2 f_p0_digits) := hD.sub [1, 2, 0] (by decide) rfl
      refine lv_aload_n hx hb d_Pa_putTerm_40 rfl (lv_at hl 0 rfl) ?_
      refine lv_iload_n hx hb d_Pa_putTerm_41 rfl (lv_at hl 2 rfl) ?_
      refine lv_i2l hx hb d_Pa_putTerm_42 rfl ?_
      obtain ⟨o1, ho1, hm⟩ := vz_bind hm
      try dsimp only at hm
      refine vz_callVv (n := 1) (As := [.long (Int32.toInt64 x3)]) (rest := []) (wc := (ws_Pa_putNumber cI cJ cB q_p0 q_p0_bytes q_p0_digits o0.1 o0.2.1 o0.2.2 f_p0_digits)) (wr := []) (k1 := 0) (n1 := 0) hx hb hml hown ht hN hZ hK hP hD hS hA (k_Pa_putNumber l D cI cJ cB sa fl q_p0 q_p0_bytes q_p0_digits o0.1 o0.2.1 o0.2.2 f_p0_digits (Int32.toInt64 x3) o1 ho1) m_584 m_69 m_581 m_582 m_583 (hc := (rfl : classes[3]? = some (R_Pa, F_Pa, 4))) 0 rfl (by decide +kernel) ⟨Nat.le_of_ble_eq_true rfl, Nat.le_of_ble_eq_true rfl⟩ [0, 1, 2] [] rfl rfl (by decide) (by decide) (by decide) rfl hl.1 rfl (Nat.le_of_ble_eq_true rfl) rfl rfl ⟨Nat.zero_le _, Nat.zero_le _⟩ d_Pa_putTerm_43 (fun w1 H locs hw hP hD hS => ?_)
      subst hw
      have hP : va_P D classes (ws_Pa_putTerm cI cJ cB q_p0 q_p0_bytes q_p0_digits o1.1 o1.2.1 o1.2.2.1 o1.2.2.2) H := hP.sub [0, 1, 2] rfl
      have hD : va_D A (ws_Pa_putTerm cI cJ cB q_p0 q_p0_bytes q_p0_digits o1.1 o1.2.1 o1.2.2.1 o1.2.2.2) := hD.sub [0, 1, 2] (by decide) rfl
      obtain rfl := Option.some.inj hm
      exact vz_vret hx hb hr hlocks hP hD hS (Nat.le_refl _) (Nat.le_refl _) d_Pa_putTerm_46 rfl
set_option maxHeartbeats 4000000 in
set_option maxRecDepth 100000 in
theorem w_Pa_putTerm_15 {p : Program} {l : Launch} {e : Env} {s : State} {m : MethodId} {args : Array Value} {below : List Frame} {meth : Method} {c : Code} {D : va_G} {cI cJ cB : ClassId} {sa : Nat → Nat × Nat} {A : Nat → Prop} (fl : Nat) (q_p0 : Nat) (q_p0_bytes : Nat) (q_p0_digits : Nat)  (res : Int32 × Int32 × (Nat → Int32) × (Nat → Int32)) (C0 : vz_Cx p s m meth c b_Pa_putTerm 5 none "LinkEngine$Paper" "putTerm" D [(cI, .int), (cJ, .long), (cB, .byte)] sa A args) : ∀ (x1 : Int64) (x3 : Int32) (x4 : Nat) (i_p0_size : Int32) (i_p0_overflown : Int32) (f_p0_bytes : Nat → Int32) (f_p0_digits : Nat → Int32) (H : Heap) (locs : List Loc) (ls : Array Slot), B_Pa_putTerm_15 fl x1 x3 x4 i_p0_size i_p0_overflown f_p0_bytes f_p0_digits = some res → va_P D classes (ws_Pa_putTerm cI cJ cB q_p0 q_p0_bytes q_p0_digits i_p0_size i_p0_overflown f_p0_bytes f_p0_digits) H → va_D A (ws_Pa_putTerm cI cJ cB q_p0 q_p0_bytes q_p0_digits i_p0_size i_p0_overflown f_p0_bytes f_p0_digits) → va_S A s.heap H locs → lv_has ls 5 [(0, .ref q_p0), (1, .long x1), (3, .int x3), (4, .ref (sa x4).1)] → W p l e rm_Pa_putTerm s m args below meth c H locs 0 0 (MQ below (va_Qv (fun (w : va_W) => w = (ws_Pa_putTerm cI cJ cB q_p0 q_p0_bytes q_p0_digits res.1 res.2.1 res.2.2.1 res.2.2.2)) (vz_B D A) A) args s 0 0 A) (F0 m 15 ls []) := by
  obtain ⟨hx, hb, hr, hml, hown, ht, hlocks, hin, hN, hK, hA, hZ⟩ := id C0
  intro x1 x3 x4 i_p0_size i_p0_overflown f_p0_bytes f_p0_digits H locs ls hm hP hD hS hl
  unfold B_Pa_putTerm_15 at hm
  refine lv_iload_n hx hb d_Pa_putTerm_15 rfl (lv_at hl 2 rfl) ?_
  refine lv_if_eq (tgt := 25) hx hb d_Pa_putTerm_16 (by decide) (fun hc => ?_) (fun hc => ?_)
  · rw [if_pos hc] at hm
    exact w_Pa_putTerm_25 fl q_p0 q_p0_bytes q_p0_digits  res C0 x1 x3 x4 i_p0_size i_p0_overflown f_p0_bytes f_p0_digits _ _ _ hm hP hD hS (lv_sub hl [0, 1, 2, 3] rfl)
  · rw [if_neg hc] at hm
    refine lv_aload_n hx hb d_Pa_putTerm_19 rfl (lv_at hl 0 rfl) ?_
    refine lv_aload hx hb d_Pa_putTerm_20 (lv_at hl 3 rfl) ?_
    obtain ⟨o0, ho0, hm⟩ := vz_bind hm
    try dsimp only at hm
    refine vz_callVv (n := 1) (As := [.ref (sa x4).1]) (rest := []) (wc := (ws_Pa_putText cI cJ cB q_p0 q_p0_bytes q_p0_digits i_p0_size i_p0_overflown f_p0_bytes)) (wr := [(q_p0_digits, .inl (cI, 20, .inl f_p0_digits))]) (k1 := 0) (n1 := 0) hx hb hml hown ht hN hZ hK hP hD hS hA (k_Pa_putText l D cI cJ cB sa fl q_p0 q_p0_bytes q_p0_digits i_p0_size i_p0_overflown f_p0_bytes x4 o0 ho0) m_605 m_69 m_615 m_603 m_604 (hc := (rfl : classes[3]? = some (R_Pa, F_Pa, 4))) 0 rfl (by decide +kernel) ⟨Nat.le_of_ble_eq_true rfl, Nat.le_of_ble_eq_true rfl⟩ [0, 1] [2] rfl rfl (by decide) (by decide) (by decide) rfl hl.1 rfl (Nat.le_of_ble_eq_true rfl) rfl rfl ⟨Nat.zero_le _, Nat.zero_le _⟩ d_Pa_putTerm_22 (fun w1 H locs hw hP hD hS => ?_)
    subst hw
    have hP : va_P D classes (ws_Pa_putTerm cI cJ cB q_p0 q_p0_bytes q_p0_digits o0.1 o0.2.1 o0.2.2 f_p0_digits) H := hP.sub [1, 2, 0] rfl
    have hD : va_D A (ws_Pa_putTerm cI cJ cB q_p0 q_p0_bytes q_p0_digits o0.1 o0.2.1 o0.2.2 f_p0_digits) := hD.sub [1, 2, 0] (by decide) rfl
    exact w_Pa_putTerm_25 fl q_p0 q_p0_bytes q_p0_digits  res C0 x1 x3 x4 o0.1 o0.2.1 o0.2.2 f_p0_digits _ _ _ hm hP hD hS (lv_sub hl [0, 1, 2, 3] rfl)
set_option maxHeartbeats 4000000 in
set_option maxRecDepth 100000 in
theorem w_Pa_putTerm_10 {p : Program} {l : Launch} {e : Env} {s : State} {m : MethodId} {args : Array Value} {below : List Frame} {meth : Method} {c : Code} {D : va_G} {cI cJ cB : ClassId} {sa : Nat → Nat × Nat} {A : Nat → Prop} (fl : Nat) (q_p0 : Nat) (q_p0_bytes : Nat) (q_p0_digits : Nat)  (res : Int32 × Int32 × (Nat → Int32) × (Nat → Int32)) (C0 : vz_Cx p s m meth c b_Pa_putTerm 5 none "LinkEngine$Paper" "putTerm" D [(cI, .int), (cJ, .long), (cB, .byte)] sa A args) : ∀ (x1 : Int64) (x3 : Int32) (x4 : Nat) (i_p0_size : Int32) (i_p0_overflown : Int32) (f_p0_bytes : Nat → Int32) (f_p0_digits : Nat → Int32) (H : Heap) (locs : List Loc) (ls : Array Slot), B_Pa_putTerm_10 fl x1 x3 x4 i_p0_size i_p0_overflown f_p0_bytes f_p0_digits = some res → va_P D classes (ws_Pa_putTerm cI cJ cB q_p0 q_p0_bytes q_p0_digits i_p0_size i_p0_overflown f_p0_bytes f_p0_digits) H → va_D A (ws_Pa_putTerm cI cJ cB q_p0 q_p0_bytes q_p0_digits i_p0_size i_p0_overflown f_p0_bytes f_p0_digits) → va_S A s.heap H locs → lv_has ls 5 [(0, .ref q_p0), (1, .long x1), (3, .int x3), (4, .ref (sa x4).1)] → W p l e rm_Pa_putTerm s m args below meth c H locs 0 0 (MQ below (va_Qv (fun (w : va_W) => w = (ws_Pa_putTerm cI cJ cB q_p0 q_p0_bytes q_p0_digits res.1 res.2.1 res.2.2.1 res.2.2.2)) (vz_B D A) A) args s 0 0 A) (F0 m 10 ls []) := by
  obtain ⟨hx, hb, hr, hml, hown, ht, hlocks, hin, hN, hK, hA, hZ⟩ := id C0
  intro x1 x3 x4 i_p0_size i_p0_overflown f_p0_bytes f_p0_digits H locs ls hm hP hD hS hl
  unfold B_Pa_putTerm_10 at hm
  refine lv_aload_n hx hb d_Pa_putTerm_10 rfl (lv_at hl 0 rfl) ?_
  refine lv_lload_n hx hb d_Pa_putTerm_11 rfl (lv_at hl 1 rfl) ?_
  obtain ⟨o0, ho0, hm⟩ := vz_bind hm
  try dsimp only at hm
  refine vz_callVv (n := 1) (As := [.long x1]) (rest := []) (wc := (ws_Pa_putNumber cI cJ cB q_p0 q_p0_bytes q_p0_digits i_p0_size i_p0_overflown f_p0_bytes f_p0_digits)) (wr := []) (k1 := 0) (n1 := 0) hx hb hml hown ht hN hZ hK hP hD hS hA (k_Pa_putNumber l D cI cJ cB sa fl q_p0 q_p0_bytes q_p0_digits i_p0_size i_p0_overflown f_p0_bytes f_p0_digits x1 o0 ho0) m_584 m_69 m_581 m_582 m_583 (hc := (rfl : classes[3]? = some (R_Pa, F_Pa, 4))) 0 rfl (by decide +kernel) ⟨Nat.le_of_ble_eq_true rfl, Nat.le_of_ble_eq_true rfl⟩ [0, 1, 2] [] rfl rfl (by decide) (by decide) (by decide) rfl hl.1 rfl (Nat.le_of_ble_eq_true rfl) rfl rfl ⟨Nat.zero_le _, Nat.zero_le _⟩ d_Pa_putTerm_12 (fun w1 H locs hw hP hD hS => ?_)
  subst hw
  have hP : va_P D classes (ws_Pa_putTerm cI cJ cB q_p0 q_p0_bytes q_p0_digits o0.1 o0.2.1 o0.2.2.1 o0.2.2.2) H := hP.sub [0, 1, 2] rfl
  have hD : va_D A (ws_Pa_putTerm cI cJ cB q_p0 q_p0_bytes q_p0_digits o0.1 o0.2.1 o0.2.2.1 o0.2.2.2) := hD.sub [0, 1, 2] (by decide) rfl
  exact w_Pa_putTerm_15 fl q_p0 q_p0_bytes q_p0_digits  res C0 x1 x3 x4 o0.1 o0.2.1 o0.2.2.1 o0.2.2.2 _ _ _ hm hP hD hS (lv_sub hl [0, 1, 2, 3] rfl)
set_option maxHeartbeats 4000000 in
set_option maxRecDepth 100000 in
theorem w_Pa_putTerm_0 {p : Program} {l : Launch} {e : Env} {s : State} {m : MethodId} {args : Array Value} {below : List Frame} {meth : Method} {c : Code} {D : va_G} {cI cJ cB : ClassId} {sa : Nat → Nat × Nat} {A : Nat → Prop} (fl : Nat) (q_p0 : Nat) (q_p0_bytes : Nat) (q_p0_digits : Nat)  (res : Int32 × Int32 × (Nat → Int32) × (Nat → Int32)) (C0 : vz_Cx p s m meth c b_Pa_putTerm 5 none "LinkEngine$Paper" "putTerm" D [(cI, .int), (cJ, .long), (cB, .byte)] sa A args) : ∀ (x1 : Int64) (x3 : Int32) (x4 : Nat) (i_p0_size : Int32) (i_p0_overflown : Int32) (f_p0_bytes : Nat → Int32) (f_p0_digits : Nat → Int32) (H : Heap) (locs : List Loc) (ls : Array Slot), B_Pa_putTerm_0 fl x1 x3 x4 i_p0_size i_p0_overflown f_p0_bytes f_p0_digits = some res → va_P D classes (ws_Pa_putTerm cI cJ cB q_p0 q_p0_bytes q_p0_digits i_p0_size i_p0_overflown f_p0_bytes f_p0_digits) H → va_D A (ws_Pa_putTerm cI cJ cB q_p0 q_p0_bytes q_p0_digits i_p0_size i_p0_overflown f_p0_bytes f_p0_digits) → va_S A s.heap H locs → lv_has ls 5 [(0, .ref q_p0), (1, .long x1), (3, .int x3), (4, .ref (sa x4).1)] → W p l e rm_Pa_putTerm s m args below meth c H locs 0 0 (MQ below (va_Qv (fun (w : va_W) => w = (ws_Pa_putTerm cI cJ cB q_p0 q_p0_bytes q_p0_digits res.1 res.2.1 res.2.2.1 res.2.2.2)) (vz_B D A) A) args s 0 0 A) (F0 m 0 ls []) := by
  obtain ⟨hx, hb, hr, hml, hown, ht, hlocks, hin, hN, hK, hA, hZ⟩ := id C0
  intro x1 x3 x4 i_p0_size i_p0_overflown f_p0_bytes f_p0_digits H locs ls hm hP hD hS hl
  unfold B_Pa_putTerm_0 at hm
  refine lv_lload_n hx hb d_Pa_putTerm_0 rfl (lv_at hl 1 rfl) ?_
  refine lv_lconst (v := 1) hx hb d_Pa_putTerm_1 (by decide) ?_
  refine W.lcmp hx hb d_Pa_putTerm_2 ?_
  refine lv_if_ne (tgt := 10) hx hb d_Pa_putTerm_3 (by decide) (fun hc => ?_) (fun hc => ?_)
  · rw [if_pos hc] at hm
    exact w_Pa_putTerm_10 fl q_p0 q_p0_bytes q_p0_digits  res C0 x1 x3 x4 i_p0_size i_p0_overflown f_p0_bytes f_p0_digits _ _ _ hm hP hD hS (lv_sub hl [0, 1, 2, 3] rfl)
  · rw [if_neg (fun q => q hc)] at hm
    refine lv_iload_n hx hb d_Pa_putTerm_6 rfl (lv_at hl 2 rfl) ?_
    refine lv_if_ne (tgt := 15) hx hb d_Pa_putTerm_7 (by decide) (fun hc => ?_) (fun hc => ?_)
    · rw [if_pos hc] at hm
      exact w_Pa_putTerm_15 fl q_p0 q_p0_bytes q_p0_digits  res C0 x1 x3 x4 i_p0_size i_p0_overflown f_p0_bytes f_p0_digits _ _ _ hm hP hD hS (lv_sub hl [0, 1, 2, 3] rfl)
    · rw [if_neg (fun q => q hc)] at hm
      exact w_Pa_putTerm_10 fl q_p0 q_p0_bytes q_p0_digits  res C0 x1 x3 x4 i_p0_size i_p0_overflown f_p0_bytes f_p0_digits _ _ _ hm hP hD hS (lv_sub hl [0, 1, 2, 3] rfl)
set_option maxHeartbeats 4000000 in
set_option maxRecDepth 100000 in
theorem k_Pa_putTerm (l : Launch) (D : va_G) (cI cJ cB : ClassId) (sa : Nat → Nat × Nat) (fl : Nat) (q_p0 : Nat) (q_p0_bytes : Nat) (q_p0_digits : Nat) (i_p0_size : Int32) (i_p0_overflown : Int32) (f_p0_bytes : Nat → Int32) (f_p0_digits : Nat → Int32) (x1 : Int64) (x3 : Int32) (x4 : Nat) (res : Int32 × Int32 × (Nat → Int32) × (Nat → Int32)) (hm : m_Pa_putTerm fl x1 x3 x4 i_p0_size i_p0_overflown f_p0_bytes f_p0_digits = some res) : MtV l y_Pa_putTerm (.code y_Pa_putTerm b_Pa_putTerm 5 none :: CW) rm_Pa_putTerm D [(cI, .int), (cJ, .long), (cB, .byte)] sa [.ref q_p0, .long x1, .int x3, .ref (sa x4).1] (ws_Pa_putTerm cI cJ cB q_p0 q_p0_bytes q_p0_digits i_p0_size i_p0_overflown f_p0_bytes f_p0_digits) (fun (w : va_W) => w = (ws_Pa_putTerm cI cJ cB q_p0 q_p0_bytes q_p0_digits res.1 res.2.1 res.2.2.1 res.2.2.2)) := by
  intro sz
  refine vz_start (Qc := fun A => va_Qv (fun (w : va_W) => w = (ws_Pa_putTerm cI cJ cB q_p0 q_p0_bytes q_p0_digits res.1 res.2.1 res.2.2.1 res.2.2.2)) (vz_B D A) A) (lv0 := [(0, .ref q_p0), (1, .long x1), (3, .int x3), (4, .ref (sa x4).1)]) (by decide +kernel) (Nat.le_of_ble_eq_true rfl) rfl ?_
  intro p e s m below meth c A ls C0 hl
  obtain ⟨hx, hb, hr, hml, hown, ht, hlocks, hin, hN, hK, hP, hD, hA, hS, hZ⟩ := C0
  exact w_Pa_putTerm_0 fl q_p0 q_p0_bytes q_p0_digits  res ⟨hx, hb, hr, hml, hown, ht, hlocks, hin, hN, hK, hA, hZ⟩ x1 x3 x4 i_p0_size i_p0_overflown f_p0_bytes f_p0_digits s.heap [] ls hm hP hD hS (lv_sub hl [0, 1, 2, 3] rfl)
def ws_Po_isFirstOf (cI cJ cB : ClassId) (q_p0 : Nat) (q_p0_kind : Nat) (q_p0_start : Nat) (q_p0_value : Nat) (i_p0_count : Int32) (i_p0_done : Int32) (f_p0_start : Nat → Int32) (f_p0_value : Nat → Int64) : va_W := [(q_p0, .inr (1, [.ref q_p0_kind, .ref q_p0_start, .ref q_p0_value, .int i_p0_count, .int i_p0_done])), (q_p0_start, .inl (cI, 65, .inl f_p0_start)), (q_p0_value, .inl (cJ, 4000, .inr (.inl f_p0_value)))]
def rm_Po_isFirstOf : Room := { frames := 2, cells := 0, slots := 0, locals := 42 }
def B_Po_isFirstOf_2 (fl : Nat) (i_p0_count : Int32) (i_p0_done : Int32) (f_p0_start : Nat → Int32) (f_p0_value : Nat → Int64) : Nat → Int32 → Int32 → Int32 → Option (Int32)
  | 0, _, _, _ => none
  | nn + 1, x1, x2, x3 => (if x1 ≤ x3 then (some 1) else ((m_Li_number fl i_p0_count i_p0_done f_p0_start f_p0_value (((2 : Int32) * x3) + (1 : Int32))).bind fun o0 => (if ¬ o0 = x2 then B_Po_isFirstOf_2 fl i_p0_count i_p0_done f_p0_start f_p0_value nn x1 x2 (x3 + 1) else (some 0))))
def B_Po_isFirstOf_0 (fl : Nat) (i_p0_count : Int32) (i_p0_done : Int32) (f_p0_start : Nat → Int32) (f_p0_value : Nat → Int64) (x1 : Int32) (x2 : Int32) : Option (Int32) := B_Po_isFirstOf_2 fl i_p0_count i_p0_done f_p0_start f_p0_value fl x1 x2 0
def m_Po_isFirstOf (fl : Nat) (i_p0_count : Int32) (i_p0_done : Int32) (f_p0_start : Nat → Int32) (f_p0_value : Nat → Int64) (x1 : Int32) (x2 : Int32) : Option (Int32) := B_Po_isFirstOf_0 fl i_p0_count i_p0_done f_p0_start f_p0_value x1 x2
set_option maxHeartbeats 4000000 in
set_option maxRecDepth 100000 in
theorem w_Po_isFirstOf_2 {p : Program} {l : Launch} {e : Env} {s : State} {m : MethodId} {args : Array Value} {below : List Frame} {meth : Method} {c : Code} {D : va_G} {cI cJ cB : ClassId} {sa : Nat → Nat × Nat} {A : Nat → Prop} (fl : Nat) (q_p0 : Nat) (q_p0_kind : Nat) (q_p0_start : Nat) (q_p0_value : Nat) (i_p0_count : Int32) (i_p0_done : Int32) (f_p0_start : Nat → Int32) (f_p0_value : Nat → Int64) (res : Int32) (C0 : vz_Cx p s m meth c b_Po_isFirstOf 4 (some .boolean) "LinkEngine$Polynomial" "isFirstOf" D [(cI, .int), (cJ, .long), (cB, .byte)] sa A args) : ∀ (nn : Nat), ∀ (x1 : Int32) (x2 : Int32) (x3 : Int32) (H : Heap) (locs : List Loc) (ls : Array Slot), B_Po_isFirstOf_2 fl i_p0_count i_p0_done f_p0_start f_p0_value nn x1 x2 x3 = some res → va_P D classes (ws_Po_isFirstOf cI cJ cB q_p0 q_p0_kind q_p0_start q_p0_value i_p0_count i_p0_done f_p0_start f_p0_value) H → va_D A (ws_Po_isFirstOf cI cJ cB q_p0 q_p0_kind q_p0_start q_p0_value i_p0_count i_p0_done f_p0_start f_p0_value) → va_S A s.heap H locs → lv_has ls 4 [(0, .ref q_p0), (1, .int x1), (2, .int x2), (3, .int x3)] → W p l e rm_Po_isFirstOf s m args below meth c H locs 0 0 (MQ below (va_Qi (fun (r : Int32) (w : va_W) => r = res ∧ w = (ws_Po_isFirstOf cI cJ cB q_p0 q_p0_kind q_p0_start q_p0_value i_p0_count i_p0_done f_p0_start f_p0_value)) (vz_B D A) A) args s 0 0 A) (F0 m 2 ls []) := by
  obtain ⟨hx, hb, hr, hml, hown, ht, hlocks, hin, hN, hK, hA, hZ⟩ := id C0
  intro nn
  induction nn with
  | zero =>
    intro x1 x2 x3 H locs ls hm hP hD hS hl
    rw [B_Po_isFirstOf_2] at hm
    cases hm
  | succ nn ih =>
    intro x1 x2 x3 H locs ls hm hP hD hS hl
    rw [B_Po_isFirstOf_2] at hm
    refine lv_iload_n hx hb d_Po_isFirstOf_2 rfl (lv_at hl 3 rfl) ?_
    refine lv_iload_n hx hb d_Po_isFirstOf_3 rfl (lv_at hl 1 rfl) ?_
    refine lv_icmp_ge (tgt := 28) hx hb d_Po_isFirstOf_4 (by decide) (fun hc => ?_) (fun hc => ?_)
    · rw [if_pos hc] at hm
      refine lv_iconst (v := 1) hx hb d_Po_isFirstOf_28 (by decide) ?_
      obtain rfl := Option.some.inj hm
      exact vz_iret hx hb hr rfl hlocks hP hD hS (Nat.le_refl _) (Nat.le_refl _) d_Po_isFirstOf_29 ⟨rfl, rfl⟩
    · rw [if_neg hc] at hm
      refine lv_aload_n hx hb d_Po_isFirstOf_7 rfl (lv_at hl 0 rfl) ?_
      refine lv_iconst (v := 2) hx hb d_Po_isFirstOf_8 (by decide) ?_
      refine lv_iload_n hx hb d_Po_isFirstOf_9 rfl (lv_at hl 3 rfl) ?_
      refine lv_imul hx hb d_Po_isFirstOf_10 ?_
      refine lv_iconst (v := 1) hx hb d_Po_isFirstOf_11 (by decide) ?_
      refine lv_iadd hx hb d_Po_isFirstOf_12 ?_
      obtain ⟨o0, ho0, hm⟩ := vz_bind hm
      try dsimp only at hm
      refine vz_callVi (n := 1) (As := [.int (((2 : Int32) * x3) + (1 : Int32))]) (rest := []) (wc := (ws_Li_number cI cJ cB q_p0 q_p0_kind q_p0_start q_p0_value i_p0_count i_p0_done f_p0_start f_p0_value)) (wr := []) (k1 := 0) (n1 := 0) hx hb hml hown ht hN hZ hK hP hD hS hA (k_Li_number l D cI cJ cB sa fl q_p0 q_p0_kind q_p0_start q_p0_value i_p0_count i_p0_done f_p0_start f_p0_value (((2 : Int32) * x3) + (1 : Int32)) o0 ho0) m_588 m_12 m_632 m_586 m_587 (hc := (rfl : classes[1]? = some (R_Li, F_Li, 5))) 0 rfl (by decide +kernel) ⟨Nat.le_of_ble_eq_true rfl, Nat.le_of_ble_eq_true rfl⟩ [0, 1, 2] [] rfl rfl (by decide) (by decide) (by decide) rfl hl.1 rfl (Nat.le_of_ble_eq_true rfl) rfl rfl ⟨Nat.zero_le _, Nat.zero_le _⟩ d_Po_isFirstOf_13 (fun r1 w1 H locs hw hP hD hS => ?_)
      obtain ⟨hr1, rfl⟩ := hw
      have hr1 := hr1.symm
      subst hr1
      have hP : va_P D classes (ws_Po_isFirstOf cI cJ cB q_p0 q_p0_kind q_p0_start q_p0_value i_p0_count i_p0_done f_p0_start f_p0_value) H := hP.sub [0, 1, 2] rfl
      have hD : va_D A (ws_Po_isFirstOf cI cJ cB q_p0 q_p0_kind q_p0_start q_p0_value i_p0_count i_p0_done f_p0_start f_p0_value) := hD.sub [0, 1, 2] (by decide) rfl
      refine lv_iload_n hx hb d_Po_isFirstOf_16 rfl (lv_at hl 2 rfl) ?_
      refine lv_icmp_ne (tgt := 22) hx hb d_Po_isFirstOf_17 (by decide) (fun hc => ?_) (fun hc => ?_)
      · rw [if_pos hc] at hm
        refine lv_iinc (v := (x3 + 1)) (lv' := [(3, .int (x3 + 1)), (0, .ref q_p0), (1, .int x1), (2, .int x2)]) hx hb d_Po_isFirstOf_22 hl (k := 3) rfl rfl (by decide) rfl (fun ls hl => ?_)
        refine lv_goto (tgt := 2) hx hb d_Po_isFirstOf_25 (by decide) ?_
        exact ih x1 x2 (x3 + 1) _ _ _ hm hP hD hS (lv_sub hl [1, 2, 3, 0] rfl)
      · rw [if_neg (fun q => q hc)] at hm
        refine lv_iconst (v := 0) hx hb d_Po_isFirstOf_20 (by decide) ?_
        obtain rfl := Option.some.inj hm
        exact vz_iret hx hb hr rfl hlocks hP hD hS (Nat.le_refl _) (Nat.le_refl _) d_Po_isFirstOf_21 ⟨rfl, rfl⟩
set_option maxHeartbeats 4000000 in
set_option maxRecDepth 100000 in
theorem w_Po_isFirstOf_0 {p : Program} {l : Launch} {e : Env} {s : State} {m : MethodId} {args : Array Value} {below : List Frame} {meth : Method} {c : Code} {D : va_G} {cI cJ cB : ClassId} {sa : Nat → Nat × Nat} {A : Nat → Prop} (fl : Nat) (q_p0 : Nat) (q_p0_kind : Nat) (q_p0_start : Nat) (q_p0_value : Nat) (i_p0_count : Int32) (i_p0_done : Int32) (f_p0_start : Nat → Int32) (f_p0_value : Nat → Int64) (res : Int32) (C0 : vz_Cx p s m meth c b_Po_isFirstOf 4 (some .boolean) "LinkEngine$Polynomial" "isFirstOf" D [(cI, .int), (cJ, .long), (cB, .byte)] sa A args) : ∀ (x1 : Int32) (x2 : Int32) (H : Heap) (locs : List Loc) (ls : Array Slot), B_Po_isFirstOf_0 fl i_p0_count i_p0_done f_p0_start f_p0_value x1 x2 = some res → va_P D classes (ws_Po_isFirstOf cI cJ cB q_p0 q_p0_kind q_p0_start q_p0_value i_p0_count i_p0_done f_p0_start f_p0_value) H → va_D A (ws_Po_isFirstOf cI cJ cB q_p0 q_p0_kind q_p0_start q_p0_value i_p0_count i_p0_done f_p0_start f_p0_value) → va_S A s.heap H locs → lv_has ls 4 [(0, .ref q_p0), (1, .int x1), (2, .int x2)] → W p l e rm_Po_isFirstOf s m args below meth c H locs 0 0 (MQ below (va_Qi (fun (r : Int32) (w : va_W) => r = res ∧ w = (ws_Po_isFirstOf cI cJ cB q_p0 q_p0_kind q_p0_start q_p0_value i_p0_count i_p0_done f_p0_start f_p0_value)) (vz_B D A) A) args s 0 0 A) (F0 m 0 ls []) := by
  obtain ⟨hx, hb, hr, hml, hown, ht, hlocks, hin, hN, hK, hA, hZ⟩ := id C0
  intro x1 x2 H locs ls hm hP hD hS hl
  unfold B_Po_isFirstOf_0 at hm
  refine lv_iconst (v := 0) hx hb d_Po_isFirstOf_0 (by decide) ?_
  refine lv_istore_n (lv' := [(3, .int 0), (0, .ref q_p0), (1, .int x1), (2, .int x2)]) hx hb d_Po_isFirstOf_1 rfl hl (by decide) rfl (fun ls hl => ?_)
  exact w_Po_isFirstOf_2 fl q_p0 q_p0_kind q_p0_start q_p0_value i_p0_count i_p0_done f_p0_start f_p0_value res C0 fl x1 x2 0 _ _ _ hm hP hD hS (lv_sub hl [1, 2, 3, 0] rfl)
set_option maxHeartbeats 4000000 in
set_option maxRecDepth 100000 in
theorem k_Po_isFirstOf (l : Launch) (D : va_G) (cI cJ cB : ClassId) (sa : Nat → Nat × Nat) (fl : Nat) (q_p0 : Nat) (q_p0_kind : Nat) (q_p0_start : Nat) (q_p0_value : Nat) (i_p0_count : Int32) (i_p0_done : Int32) (f_p0_start : Nat → Int32) (f_p0_value : Nat → Int64) (x1 : Int32) (x2 : Int32) (res : Int32) (hm : m_Po_isFirstOf fl i_p0_count i_p0_done f_p0_start f_p0_value x1 x2 = some res) : MtI l y_Po_isFirstOf (.code y_Po_isFirstOf b_Po_isFirstOf 4 (some .boolean) :: CW) rm_Po_isFirstOf D [(cI, .int), (cJ, .long), (cB, .byte)] sa [.ref q_p0, .int x1, .int x2] (ws_Po_isFirstOf cI cJ cB q_p0 q_p0_kind q_p0_start q_p0_value i_p0_count i_p0_done f_p0_start f_p0_value) (fun (r : Int32) (w : va_W) => r = res ∧ w = (ws_Po_isFirstOf cI cJ cB q_p0 q_p0_kind q_p0_start q_p0_value i_p0_count i_p0_done f_p0_start f_p0_value)) := by
  intro sz
  refine vz_start (Qc := fun A => va_Qi (fun (r : Int32) (w : va_W) => r = res ∧ w = (ws_Po_isFirstOf cI cJ cB q_p0 q_p0_kind q_p0_start q_p0_value i_p0_count i_p0_done f_p0_start f_p0_value)) (vz_B D A) A) (lv0 := [(0, .ref q_p0), (1, .int x1), (2, .int x2)]) (by decide +kernel) (Nat.le_of_ble_eq_true rfl) rfl ?_
  intro p e s m below meth c A ls C0 hl
  obtain ⟨hx, hb, hr, hml, hown, ht, hlocks, hin, hN, hK, hP, hD, hA, hS, hZ⟩ := C0
  exact w_Po_isFirstOf_0 fl q_p0 q_p0_kind q_p0_start q_p0_value i_p0_count i_p0_done f_p0_start f_p0_value res ⟨hx, hb, hr, hml, hown, ht, hlocks, hin, hN, hK, hA, hZ⟩ x1 x2 s.heap [] ls hm hP hD hS (lv_sub hl [0, 1, 2] rfl)
def ws_Po_isSumAt (cI cJ cB : ClassId) (q_p0 : Nat) (q_p0_term : Nat) (q_p1 : Nat) (q_p1_kind : Nat) (q_p1_start : Nat) (q_p1_value : Nat) (i_p0_raise : Int32) (i_p0_sign : Int32) (f_p0_term : Nat → Int64) (i_p1_count : Int32) (i_p1_done : Int32) (f_p1_start : Nat → Int32) (f_p1_value : Nat → Int64) : va_W := [(q_p0, .inr (8, [.ref q_p0_term, .int i_p0_raise, .int i_p0_sign])), (q_p0_term, .inl (cJ, 161, .inr (.inl f_p0_term))), (q_p1, .inr (1, [.ref q_p1_kind, .ref q_p1_start, .ref q_p1_value, .int i_p1_count, .int i_p1_done])), (q_p1_start, .inl (cI, 65, .inl f_p1_start)), (q_p1_value, .inl (cJ, 4000, .inr (.inl f_p1_value)))]
def rm_Po_isSumAt : Room := { frames := 2, cells := 0, slots := 0, locals := 42 }
def B_Po_isSumAt_62 (fl : Nat) (i_p0_raise : Int32) (i_p0_sign : Int32) (f_p0_term : Nat → Int64) (i_p1_count : Int32) (i_p1_done : Int32) (f_p1_start : Nat → Int32) (f_p1_value : Nat → Int64) (kb_9 : Int32 → Int32 → Int32 → Int64 → Int64 → Int32 → Option (Int32)) (x2 : Int32) (x3 : Int32) (x4 : Int32) (x5 : Int64) (x7 : Int64) (x9 : Int32) : Option (Int32) := kb_9 x2 x3 x4 x5 x7 (x9 + 1)
def B_Po_isSumAt_9 (fl : Nat) (i_p0_raise : Int32) (i_p0_sign : Int32) (f_p0_term : Nat → Int64) (i_p1_count : Int32) (i_p1_done : Int32) (f_p1_start : Nat → Int32) (f_p1_value : Nat → Int64) : Nat → Int32 → Int32 → Int32 → Int64 → Int64 → Int32 → Option (Int32)
  | 0, _, _, _, _, _, _ => none
  | nn + 1, x2, x3, x4, x5, x7, x9 => (if x3 ≤ x9 then ((m_Po_coefficient fl i_p0_raise i_p0_sign f_p0_term x4).bind fun o0 => (if ¬ (1000000000 : Int64) = 0 then (if ¬ (lg_cmp ((o0 - x7) - (o0 - x7) / (1000000000 : Int64) * (1000000000 : Int64)) 0) = (0 : Int32) then (some 0) else (if ¬ (1000000000 : Int64) = 0 then (if ¬ (lg_cmp ((o0 - x7) / (1000000000 : Int64)) x5) = (0 : Int32) then (some 0) else (some 1)) else none)) else none)) else ((m_Li_number fl i_p1_count i_p1_done f_p1_start f_p1_value (((2 : Int32) * x9) + (1 : Int32))).bind fun o1 => (if ¬ o1 = x4 then B_Po_isSumAt_62 fl i_p0_raise i_p0_sign f_p0_term i_p1_count i_p1_done f_p1_start f_p1_value (B_Po_isSumAt_9 fl i_p0_raise i_p0_sign f_p0_term i_p1_count i_p1_done f_p1_start f_p1_value nn) x2 x3 x4 x5 x7 x9 else ((m_Li_longNumber fl i_p1_count i_p1_done f_p1_start f_p1_value ((2 : Int32) * x9)).bind fun o2 => (if ¬ (1000000000 : Int64) = 0 then (if ¬ (1000000000 : Int64) = 0 then B_Po_isSumAt_62 fl i_p0_raise i_p0_sign f_p0_term i_p1_count i_p1_done f_p1_start f_p1_value (B_Po_isSumAt_9 fl i_p0_raise i_p0_sign f_p0_term i_p1_count i_p1_done f_p1_start f_p1_value nn) x2 x3 x4 (x5 + (o2 / (1000000000 : Int64))) (x7 + (o2 - o2 / (1000000000 : Int64) * (1000000000 : Int64))) x9 else none) else none)))))
def B_Po_isSumAt_0 (fl : Nat) (i_p0_raise : Int32) (i_p0_sign : Int32) (f_p0_term : Nat → Int64) (i_p1_count : Int32) (i_p1_done : Int32) (f_p1_start : Nat → Int32) (f_p1_value : Nat → Int64) (x2 : Int32) (x3 : Int32) (x4 : Int32) : Option (Int32) := B_Po_isSumAt_9 fl i_p0_raise i_p0_sign f_p0_term i_p1_count i_p1_done f_p1_start f_p1_value fl x2 x3 x4 0 0 x2
def m_Po_isSumAt (fl : Nat) (i_p0_raise : Int32) (i_p0_sign : Int32) (f_p0_term : Nat → Int64) (i_p1_count : Int32) (i_p1_done : Int32) (f_p1_start : Nat → Int32) (f_p1_value : Nat → Int64) (x2 : Int32) (x3 : Int32) (x4 : Int32) : Option (Int32) := B_Po_isSumAt_0 fl i_p0_raise i_p0_sign f_p0_term i_p1_count i_p1_done f_p1_start f_p1_value x2 x3 x4
set_option maxHeartbeats 4000000 in
set_option maxRecDepth 100000 in
theorem w_Po_isSumAt_62 {p : Program} {l : Launch} {e : Env} {s : State} {m : MethodId} {args : Array Value} {below : List Frame} {meth : Method} {c : Code} {D : va_G} {cI cJ cB : ClassId} {sa : Nat → Nat × Nat} {A : Nat → Prop} (fl : Nat) (q_p0 : Nat) (q_p0_term : Nat) (q_p1 : Nat) (q_p1_kind : Nat) (q_p1_start : Nat) (q_p1_value : Nat) (i_p0_raise : Int32) (i_p0_sign : Int32) (f_p0_term : Nat → Int64) (i_p1_count : Int32) (i_p1_done : Int32) (f_p1_start : Nat → Int32) (f_p1_value : Nat → Int64) (res : Int32) (C0 : vz_Cx p s m meth c b_Po_isSumAt 12 (some .boolean) "LinkEngine$Polynomial" "isSumAt" D [(cI, .int), (cJ, .long), (cB, .byte)] sa A args) (kb_9 : Int32 → Int32 → Int32 → Int64 → Int64 → Int32 → Option (Int32)) (hk_9 : ∀ (x2 : Int32) (x3 : Int32) (x4 : Int32) (x5 : Int64) (x7 : Int64) (x9 : Int32) (H : Heap) (locs : List Loc) (ls : Array Slot), kb_9 x2 x3 x4 x5 x7 x9 = some res → va_P D classes (ws_Po_isSumAt cI cJ cB q_p0 q_p0_term q_p1 q_p1_kind q_p1_start q_p1_value i_p0_raise i_p0_sign f_p0_term i_p1_count i_p1_done f_p1_start f_p1_value) H → va_D A (ws_Po_isSumAt cI cJ cB q_p0 q_p0_term q_p1 q_p1_kind q_p1_start q_p1_value i_p0_raise i_p0_sign f_p0_term i_p1_count i_p1_done f_p1_start f_p1_value) → va_S A s.heap H locs → lv_has ls 12 [(0, .ref q_p0), (1, .ref q_p1), (2, .int x2), (3, .int x3), (4, .int x4), (5, .long x5), (7, .long x7), (9, .int x9)] → W p l e rm_Po_isSumAt s m args below meth c H locs 0 0 (MQ below (va_Qi (fun (r : Int32) (w : va_W) => r = res ∧ w = (ws_Po_isSumAt cI cJ cB q_p0 q_p0_term q_p1 q_p1_kind q_p1_start q_p1_value i_p0_raise i_p0_sign f_p0_term i_p1_count i_p1_done f_p1_start f_p1_value)) (vz_B D A) A) args s 0 0 A) (F0 m 9 ls [])) : ∀ (x2 : Int32) (x3 : Int32) (x4 : Int32) (x5 : Int64) (x7 : Int64) (x9 : Int32) (H : Heap) (locs : List Loc) (ls : Array Slot), B_Po_isSumAt_62 fl i_p0_raise i_p0_sign f_p0_term i_p1_count i_p1_done f_p1_start f_p1_value kb_9 x2 x3 x4 x5 x7 x9 = some res → va_P D classes (ws_Po_isSumAt cI cJ cB q_p0 q_p0_term q_p1 q_p1_kind q_p1_start q_p1_value i_p0_raise i_p0_sign f_p0_term i_p1_count i_p1_done f_p1_start f_p1_value) H → va_D A (ws_Po_isSumAt cI cJ cB q_p0 q_p0_term q_p1 q_p1_kind q_p1_start q_p1_value i_p0_raise i_p0_sign f_p0_term i_p1_count i_p1_done f_p1_start f_p1_value) → va_S A s.heap H locs → lv_has ls 12 [(0, .ref q_p0), (1, .ref q_p1), (2, .int x2), (3, .int x3), (4, .int x4), (5, .long x5), (7, .long x7), (9, .int x9)] → W p l e rm_Po_isSumAt s m args below meth c H locs 0 0 (MQ below (va_Qi (fun (r : Int32) (w : va_W) => r = res ∧ w = (ws_Po_isSumAt cI cJ cB q_p0 q_p0_term q_p1 q_p1_kind q_p1_start q_p1_value i_p0_raise i_p0_sign f_p0_term i_p1_count i_p1_done f_p1_start f_p1_value)) (vz_B D A) A) args s 0 0 A) (F0 m 62 ls []) := by
  obtain ⟨hx, hb, hr, hml, hown, ht, hlocks, hin, hN, hK, hA, hZ⟩ := id C0
  intro x2 x3 x4 x5 x7 x9 H locs ls hm hP hD hS hl
  unfold B_Po_isSumAt_62 at hm
  refine lv_iinc (v := (x9 + 1)) (lv' := [(9, .int (x9 + 1)), (0, .ref q_p0), (1, .ref q_p1), (2, .int x2), (3, .int x3), (4, .int x4), (5, .long x5), (7, .long x7)]) hx hb d_Po_isSumAt_62 hl (k := 7) rfl rfl (by decide) rfl (fun ls hl => ?_)
  refine lv_goto (tgt := 9) hx hb d_Po_isSumAt_65 (by decide) ?_
  exact hk_9 x2 x3 x4 x5 x7 (x9 + 1) _ _ _ hm hP hD hS (lv_sub hl [1, 2, 3, 4, 5, 6, 7, 0] rfl)
set_option maxHeartbeats 4000000 in
set_option maxRecDepth 100000 in
theorem w_Po_isSumAt_9 {p : Program} {l : Launch} {e : Env} {s : State} {m : MethodId} {args : Array Value} {below : List Frame} {meth : Method} {c : Code} {D : va_G} {cI cJ cB : ClassId} {sa : Nat → Nat × Nat} {A : Nat → Prop} (fl : Nat) (q_p0 : Nat) (q_p0_term : Nat) (q_p1 : Nat) (q_p1_kind : Nat) (q_p1_start : Nat) (q_p1_value : Nat) (i_p0_raise : Int32) (i_p0_sign : Int32) (f_p0_term : Nat → Int64) (i_p1_count : Int32) (i_p1_done : Int32) (f_p1_start : Nat → Int32) (f_p1_value : Nat → Int64) (res : Int32) (C0 : vz_Cx p s m meth c b_Po_isSumAt 12 (some .boolean) "LinkEngine$Polynomial" "isSumAt" D [(cI, .int), (cJ, .long), (cB, .byte)] sa A args) : ∀ (nn : Nat), ∀ (x2 : Int32) (x3 : Int32) (x4 : Int32) (x5 : Int64) (x7 : Int64) (x9 : Int32) (H : Heap) (locs : List Loc) (ls : Array Slot), B_Po_isSumAt_9 fl i_p0_raise i_p0_sign f_p0_term i_p1_count i_p1_done f_p1_start f_p1_value nn x2 x3 x4 x5 x7 x9 = some res → va_P D classes (ws_Po_isSumAt cI cJ cB q_p0 q_p0_term q_p1 q_p1_kind q_p1_start q_p1_value i_p0_raise i_p0_sign f_p0_term i_p1_count i_p1_done f_p1_start f_p1_value) H → va_D A (ws_Po_isSumAt cI cJ cB q_p0 q_p0_term q_p1 q_p1_kind q_p1_start q_p1_value i_p0_raise i_p0_sign f_p0_term i_p1_count i_p1_done f_p1_start f_p1_value) → va_S A s.heap H locs → lv_has ls 12 [(0, .ref q_p0), (1, .ref q_p1), (2, .int x2), (3, .int x3), (4, .int x4), (5, .long x5), (7, .long x7), (9, .int x9)] → W p l e rm_Po_isSumAt s m args below meth c H locs 0 0 (MQ below (va_Qi (fun (r : Int32) (w : va_W) => r = res ∧ w = (ws_Po_isSumAt cI cJ cB q_p0 q_p0_term q_p1 q_p1_kind q_p1_start q_p1_value i_p0_raise i_p0_sign f_p0_term i_p1_count i_p1_done f_p1_start f_p1_value)) (vz_B D A) A) args s 0 0 A) (F0 m 9 ls []) := by
  obtain ⟨hx, hb, hr, hml, hown, ht, hlocks, hin, hN, hK, hA, hZ⟩ := id C0
  intro nn
  induction nn with
  | zero =>
    intro x2 x3 x4 x5 x7 x9 H locs ls hm hP hD hS hl
    rw [B_Po_isSumAt_9] at hm
    cases hm
  | succ nn ih =>
    intro x2 x3 x4 x5 x7 x9 H locs ls hm hP hD hS hl
    rw [B_Po_isSumAt_9] at hm
    refine lv_iload hx hb d_Po_isSumAt_9 (lv_at hl 7 rfl) ?_
    refine lv_iload_n hx hb d_Po_isSumAt_11 rfl (lv_at hl 3 rfl) ?_
    refine lv_icmp_ge (tgt := 68) hx hb d_Po_isSumAt_12 (by decide) (fun hc => ?_) (fun hc => ?_)
    · rw [if_pos hc] at hm
      refine lv_aload_n hx hb d_Po_isSumAt_68 rfl (lv_at hl 0 rfl) ?_
      refine lv_iload hx hb d_Po_isSumAt_69 (lv_at hl 4 rfl) ?_
      obtain ⟨o0, ho0, hm⟩ := vz_bind hm
      try dsimp only at hm
      refine vz_callVl (n := 1) (As := [.int x4]) (rest := []) (wc := (ws_Po_coefficient cI cJ cB q_p0 q_p0_term i_p0_raise i_p0_sign f_p0_term)) (wr := [(q_p1, .inr (1, [.ref q_p1_kind, .ref q_p1_start, .ref q_p1_value, .int i_p1_count, .int i_p1_done])), (q_p1_start, .inl (cI, 65, .inl f_p1_start)), (q_p1_value, .inl (cJ, 4000, .inr (.inl f_p1_value)))]) (k1 := 0) (n1 := 0) hx hb hml hown ht hN hZ hK hP hD hS hA (k_Po_coefficient l D cI cJ cB sa fl q_p0 q_p0_term i_p0_raise i_p0_sign f_p0_term x4 o0 ho0) m_636 m_93 m_633 m_634 m_635 (hc := (rfl : classes[8]? = some (R_Po, F_Po, 3))) 0 rfl (by decide +kernel) ⟨Nat.le_of_ble_eq_true rfl, Nat.le_of_ble_eq_true rfl⟩ [0, 1] [2, 3, 4] rfl rfl (by decide) (by decide) (by decide) rfl hl.1 rfl (Nat.le_of_ble_eq_true rfl) rfl rfl ⟨Nat.zero_le _, Nat.zero_le _⟩ d_Po_isSumAt_71 (fun r1 w1 H locs hw hP hD hS => ?_)
      obtain ⟨hr1, rfl⟩ := hw
      have hr1 := hr1.symm
      subst hr1
      have hP : va_P D classes (ws_Po_isSumAt cI cJ cB q_p0 q_p0_term q_p1 q_p1_kind q_p1_start q_p1_value i_p0_raise i_p0_sign f_p0_term i_p1_count i_p1_done f_p1_start f_p1_value) H := hP.sub [3, 4, 0, 1, 2] rfl
      have hD : va_D A (ws_Po_isSumAt cI cJ cB q_p0 q_p0_term q_p1 q_p1_kind q_p1_start q_p1_value i_p0_raise i_p0_sign f_p0_term i_p1_count i_p1_done f_p1_start f_p1_value) := hD.sub [3, 4, 0, 1, 2] (by decide) rfl
      refine lv_lload hx hb d_Po_isSumAt_74 (lv_at hl 6 rfl) ?_
      refine lv_lsub hx hb d_Po_isSumAt_76 ?_
      refine lv_lstore (lv' := [(9, .long (o0 - x7)), (0, .ref q_p0), (1, .ref q_p1), (2, .int x2), (3, .int x3), (4, .int x4), (5, .long x5), (7, .long x7)]) hx hb d_Po_isSumAt_77 hl (by decide) rfl (fun ls hl => ?_)
      refine lv_lload hx hb d_Po_isSumAt_79 (lv_at hl 0 rfl) ?_
      refine lv_ldc2 hx hb hown (ht _ m_637) d_Po_isSumAt_81 ?_
      obtain ⟨hg, hm⟩ := vz_guard hm
      refine lv_lrem hx hb d_Po_isSumAt_84 hg ?_
      refine lv_lconst (v := 0) hx hb d_Po_isSumAt_85 (by decide) ?_
      refine W.lcmp hx hb d_Po_isSumAt_86 ?_
      refine lv_if_ne (tgt := 106) hx hb d_Po_isSumAt_87 (by decide) (fun hc => ?_) (fun hc => ?_)
      · rw [if_pos hc] at hm
        refine lv_iconst (v := 0) hx hb d_Po_isSumAt_106 (by decide) ?_
        obtain rfl := Option.some.inj hm
        exact vz_iret hx hb hr rfl hlocks hP hD hS (Nat.le_refl _) (Nat.le_refl _) d_Po_isSumAt_107 ⟨rfl, rfl⟩
      · rw [if_neg (fun q => q hc)] at hm
        refine lv_lload hx hb d_Po_isSumAt_90 (lv_at hl 0 rfl) ?_
        refine lv_ldc2 hx hb hown (ht _ m_637) d_Po_isSumAt_92 ?_
        obtain ⟨hg, hm⟩ := vz_guard hm
        refine lv_ldiv hx hb d_Po_isSumAt_95 hg ?_
        refine lv_lload hx hb d_Po_isSumAt_96 (lv_at hl 6 rfl) ?_
        refine W.lcmp hx hb d_Po_isSumAt_98 ?_
        refine lv_if_ne (tgt := 106) hx hb d_Po_isSumAt_99 (by decide) (fun hc => ?_) (fun hc => ?_)
        · rw [if_pos hc] at hm
          refine lv_iconst (v := 0) hx hb d_Po_isSumAt_106 (by decide) ?_
          obtain rfl := Option.some.inj hm
          exact vz_iret hx hb hr rfl hlocks hP hD hS (Nat.le_refl _) (Nat.le_refl _) d_Po_isSumAt_107 ⟨rfl, rfl⟩
        · rw [if_neg (fun q => q hc)] at hm
          refine lv_iconst (v := 1) hx hb d_Po_isSumAt_102 (by decide) ?_
          refine lv_goto (tgt := 107) hx hb d_Po_isSumAt_103 (by decide) ?_
          obtain rfl := Option.some.inj hm
          exact vz_iret hx hb hr rfl hlocks hP hD hS (Nat.le_refl _) (Nat.le_refl _) d_Po_isSumAt_107 ⟨rfl, rfl⟩
    · rw [if_neg hc] at hm
      refine lv_aload_n hx hb d_Po_isSumAt_15 rfl (lv_at hl 1 rfl) ?_
      refine lv_iconst (v := 2) hx hb d_Po_isSumAt_16 (by decide) ?_
      refine lv_iload hx hb d_Po_isSumAt_17 (lv_at hl 7 rfl) ?_
      refine lv_imul hx hb d_Po_isSumAt_19 ?_
      refine lv_iconst (v := 1) hx hb d_Po_isSumAt_20 (by decide) ?_
      refine lv_iadd hx hb d_Po_isSumAt_21 ?_
      obtain ⟨o1, ho1, hm⟩ := vz_bind hm
      try dsimp only at hm
      refine vz_callVi (n := 1) (As := [.int (((2 : Int32) * x9) + (1 : Int32))]) (rest := []) (wc := (ws_Li_number cI cJ cB q_p1 q_p1_kind q_p1_start q_p1_value i_p1_count i_p1_done f_p1_start f_p1_value)) (wr := [(q_p0, .inr (8, [.ref q_p0_term, .int i_p0_raise, .int i_p0_sign])), (q_p0_term, .inl (cJ, 161, .inr (.inl f_p0_term)))]) (k1 := 0) (n1 := 0) hx hb hml hown ht hN hZ hK hP hD hS hA (k_Li_number l D cI cJ cB sa fl q_p1 q_p1_kind q_p1_start q_p1_value i_p1_count i_p1_done f_p1_start f_p1_value (((2 : Int32) * x9) + (1 : Int32)) o1 ho1) m_588 m_12 m_632 m_586 m_587 (hc := (rfl : classes[1]? = some (R_Li, F_Li, 5))) 2 rfl (by decide +kernel) ⟨Nat.le_of_ble_eq_true rfl, Nat.le_of_ble_eq_true rfl⟩ [2, 3, 4] [0, 1] rfl rfl (by decide) (by decide) (by decide) rfl hl.1 rfl (Nat.le_of_ble_eq_true rfl) rfl rfl ⟨Nat.zero_le _, Nat.zero_le _⟩ d_Po_isSumAt_22 (fun r1 w1 H locs hw hP hD hS => ?_)
      obtain ⟨hr1, rfl⟩ := hw
      have hr1 := hr1.symm
      subst hr1
      have hP : va_P D classes (ws_Po_isSumAt cI cJ cB q_p0 q_p0_term q_p1 q_p1_kind q_p1_start q_p1_value i_p0_raise i_p0_sign f_p0_term i_p1_count i_p1_done f_p1_start f_p1_value) H := hP.sub [0, 1, 2, 3, 4] rfl
      have hD : va_D A (ws_Po_isSumAt cI cJ cB q_p0 q_p0_term q_p1 q_p1_kind q_p1_start q_p1_value i_p0_raise i_p0_sign f_p0_term i_p1_count i_p1_done f_p1_start f_p1_value) := hD.sub [0, 1, 2, 3, 4] (by decide) rfl
      refine lv_iload hx hb d_Po_isSumAt_25 (lv_at hl 4 rfl) ?_
      refine lv_icmp_ne (tgt := 62) hx hb d_Po_isSumAt_27 (by decide) (fun hc => ?_) (fun hc => ?_)
      · rw [if_pos hc] at hm
        exact w_Po_isSumAt_62 fl q_p0 q_p0_term q_p1 q_p1_kind q_p1_start q_p1_value i_p0_raise i_p0_sign f_p0_term i_p1_count i_p1_done f_p1_start f_p1_value res C0 (B_Po_isSumAt_9 fl i_p0_raise i_p0_sign f_p0_term i_p1_count i_p1_done f_p1_start f_p1_value nn) ih x2 x3 x4 x5 x7 x9 _ _ _ hm hP hD hS (lv_sub hl [0, 1, 2, 3, 4, 5, 6, 7] rfl)
      · rw [if_neg (fun q => q hc)] at hm
        refine lv_aload_n hx hb d_Po_isSumAt_30 rfl (lv_at hl 1 rfl) ?_
        refine lv_iconst (v := 2) hx hb d_Po_isSumAt_31 (by decide) ?_
        refine lv_iload hx hb d_Po_isSumAt_32 (lv_at hl 7 rfl) ?_
        refine lv_imul hx hb d_Po_isSumAt_34 ?_
        obtain ⟨o2, ho2, hm⟩ := vz_bind hm
        try dsimp only at hm
        refine vz_callVl (n := 1) (As := [.int ((2 : Int32) * x9)]) (rest := []) (wc := (ws_Li_longNumber cI cJ cB q_p1 q_p1_kind q_p1_start q_p1_value i_p1_count i_p1_done f_p1_start f_p1_value)) (wr := [(q_p0, .inr (8, [.ref q_p0_term, .int i_p0_raise, .int i_p0_sign])), (q_p0_term, .inl (cJ, 161, .inr (.inl f_p0_term)))]) (k1 := 0) (n1 := 0) hx hb hml hown ht hN hZ hK hP hD hS hA (k_Li_longNumber l D cI cJ cB sa fl q_p1 q_p1_kind q_p1_start q_p1_value i_p1_count i_p1_done f_p1_start f_p1_value ((2 : Int32) * x9) o2 ho2) m_565 m_12 m_638 m_563 m_564 (hc := (rfl : classes[1]? = some (R_Li, F_Li, 5))) 2 rfl (by decide +kernel) ⟨Nat.le_of_ble_eq_true rfl, Nat.le_of_ble_eq_true rfl⟩ [2, 3, 4] [0, 1] rfl rfl (by decide) (by decide) (by decide) rfl hl.1 rfl (Nat.le_of_ble_eq_true rfl) rfl rfl ⟨Nat.zero_le _, Nat.zero_le _⟩ d_Po_isSumAt_35 (fun r1 w1 H locs hw hP hD hS => ?_)
        obtain ⟨hr1, rfl⟩ := hw
        have hr1 := hr1.symm
        subst hr1
        have hP : va_P D classes (ws_Po_isSumAt cI cJ cB q_p0 q_p0_term q_p1 q_p1_kind q_p1_start q_p1_value i_p0_raise i_p0_sign f_p0_term i_p1_count i_p1_done f_p1_start f_p1_value) H := hP.sub [0, 1, 2, 3, 4] rfl
        have hD : va_D A (ws_Po_isSumAt cI cJ cB q_p0 q_p0_term q_p1 q_p1_kind q_p1_start q_p1_value i_p0_raise i_p0_sign f_p0_term i_p1_count i_p1_done f_p1_start f_p1_value) := hD.sub [0, 1, 2, 3, 4] (by decide) rfl
        refine lv_lstore (lv' := [(10, .long o2), (0, .ref q_p0), (1, .ref q_p1), (2, .int x2), (3, .int x3), (4, .int x4), (5, .long x5), (7, .long x7), (9, .int x9)]) hx hb d_Po_isSumAt_38 hl (by decide) rfl (fun ls hl => ?_)
        refine lv_lload hx hb d_Po_isSumAt_40 (lv_at hl 6 rfl) ?_
        refine lv_lload hx hb d_Po_isSumAt_42 (lv_at hl 0 rfl) ?_
        refine lv_ldc2 hx hb hown (ht _ m_637) d_Po_isSumAt_44 ?_
        obtain ⟨hg, hm⟩ := vz_guard hm
        refine lv_ldiv hx hb d_Po_isSumAt_47 hg ?_
        refine lv_ladd hx hb d_Po_isSumAt_48 ?_
        refine lv_lstore (lv' := [(5, .long (x5 + (o2 / (1000000000 : Int64)))), (10, .long o2), (0, .ref q_p0), (1, .ref q_p1), (2, .int x2), (3, .int x3), (4, .int x4), (7, .long x7), (9, .int x9)]) hx hb d_Po_isSumAt_49 hl (by decide) rfl (fun ls hl => ?_)
        refine lv_lload hx hb d_Po_isSumAt_51 (lv_at hl 7 rfl) ?_
        refine lv_lload hx hb d_Po_isSumAt_53 (lv_at hl 1 rfl) ?_
        refine lv_ldc2 hx hb hown (ht _ m_637) d_Po_isSumAt_55 ?_
        obtain ⟨hg, hm⟩ := vz_guard hm
        refine lv_lrem hx hb d_Po_isSumAt_58 hg ?_
        refine lv_ladd hx hb d_Po_isSumAt_59 ?_
        refine lv_lstore (lv' := [(7, .long (x7 + (o2 - o2 / (1000000000 : Int64) * (1000000000 : Int64)))), (5, .long (x5 + (o2 / (1000000000 : Int64)))), (10, .long o2), (0, .ref q_p0), (1, .ref q_p1), (2, .int x2), (3, .int x3), (4, .int x4), (9, .int x9)]) hx hb d_Po_isSumAt_60 hl (by decide) rfl (fun ls hl => ?_)
        exact w_Po_isSumAt_62 fl q_p0 q_p0_term q_p1 q_p1_kind q_p1_start q_p1_value i_p0_raise i_p0_sign f_p0_term i_p1_count i_p1_done f_p1_start f_p1_value res C0 (B_Po_isSumAt_9 fl i_p0_raise i_p0_sign f_p0_term i_p1_count i_p1_done f_p1_start f_p1_value nn) ih x2 x3 x4 (x5 + (o2 / (1000000000 : Int64))) (x7 + (o2 - o2 / (1000000000 : Int64) * (1000000000 : Int64))) x9 _ _ _ hm hP hD hS (lv_sub hl [3, 4, 5, 6, 7, 1, 0, 8] rfl)
set_option maxHeartbeats 4000000 in
set_option maxRecDepth 100000 in
theorem w_Po_isSumAt_0 {p : Program} {l : Launch} {e : Env} {s : State} {m : MethodId} {args : Array Value} {below : List Frame} {meth : Method} {c : Code} {D : va_G} {cI cJ cB : ClassId} {sa : Nat → Nat × Nat} {A : Nat → Prop} (fl : Nat) (q_p0 : Nat) (q_p0_term : Nat) (q_p1 : Nat) (q_p1_kind : Nat) (q_p1_start : Nat) (q_p1_value : Nat) (i_p0_raise : Int32) (i_p0_sign : Int32) (f_p0_term : Nat → Int64) (i_p1_count : Int32) (i_p1_done : Int32) (f_p1_start : Nat → Int32) (f_p1_value : Nat → Int64) (res : Int32) (C0 : vz_Cx p s m meth c b_Po_isSumAt 12 (some .boolean) "LinkEngine$Polynomial" "isSumAt" D [(cI, .int), (cJ, .long), (cB, .byte)] sa A args) : ∀ (x2 : Int32) (x3 : Int32) (x4 : Int32) (H : Heap) (locs : List Loc) (ls : Array Slot), B_Po_isSumAt_0 fl i_p0_raise i_p0_sign f_p0_term i_p1_count i_p1_done f_p1_start f_p1_value x2 x3 x4 = some res → va_P D classes (ws_Po_isSumAt cI cJ cB q_p0 q_p0_term q_p1 q_p1_kind q_p1_start q_p1_value i_p0_raise i_p0_sign f_p0_term i_p1_count i_p1_done f_p1_start f_p1_value) H → va_D A (ws_Po_isSumAt cI cJ cB q_p0 q_p0_term q_p1 q_p1_kind q_p1_start q_p1_value i_p0_raise i_p0_sign f_p0_term i_p1_count i_p1_done f_p1_start f_p1_value) → va_S A s.heap H locs → lv_has ls 12 [(0, .ref q_p0), (1, .ref q_p1), (2, .int x2), (3, .int x3), (4, .int x4)] → W p l e rm_Po_isSumAt s m args below meth c H locs 0 0 (MQ below (va_Qi (fun (r : Int32) (w : va_W) => r = res ∧ w = (ws_Po_isSumAt cI cJ cB q_p0 q_p0_term q_p1 q_p1_kind q_p1_start q_p1_value i_p0_raise i_p0_sign f_p0_term i_p1_count i_p1_done f_p1_start f_p1_value)) (vz_B D A) A) args s 0 0 A) (F0 m 0 ls []) := by
  obtain ⟨hx, hb, hr, hml, hown, ht, hlocks, hin, hN, hK, hA, hZ⟩ := id C0
  intro x2 x3 x4 H locs ls hm hP hD hS hl
  unfold B_Po_isSumAt_0 at hm
  refine lv_lconst (v := 0) hx hb d_Po_isSumAt_0 (by decide) ?_
  refine lv_lstore (lv' := [(5, .long 0), (0, .ref q_p0), (1, .ref q_p1), (2, .int x2), (3, .int x3), (4, .int x4)]) hx hb d_Po_isSumAt_1 hl (by decide) rfl (fun ls hl => ?_)
  refine lv_lconst (v := 0) hx hb d_Po_isSumAt_3 (by decide) ?_
  refine lv_lstore (lv' := [(7, .long 0), (5, .long 0), (0, .ref q_p0), (1, .ref q_p1), (2, .int x2), (3, .int x3), (4, .int x4)]) hx hb d_Po_isSumAt_4 hl (by decide) rfl (fun ls hl => ?_)
  refine lv_iload_n hx hb d_Po_isSumAt_6 rfl (lv_at hl 4 rfl) ?_
  refine lv_istore (lv' := [(9, .int x2), (7, .long 0), (5, .long 0), (0, .ref q_p0), (1, .ref q_p1), (2, .int x2), (3, .int x3), (4, .int x4)]) hx hb d_Po_isSumAt_7 hl (by decide) rfl (fun ls hl => ?_)
  exact w_Po_isSumAt_9 fl q_p0 q_p0_term q_p1 q_p1_kind q_p1_start q_p1_value i_p0_raise i_p0_sign f_p0_term i_p1_count i_p1_done f_p1_start f_p1_value res C0 fl x2 x3 x4 0 0 x2 _ _ _ hm hP hD hS (lv_sub hl [3, 4, 5, 6, 7, 2, 1, 0] rfl)
set_option maxHeartbeats 4000000 in
set_option maxRecDepth 100000 in
theorem k_Po_isSumAt (l : Launch) (D : va_G) (cI cJ cB : ClassId) (sa : Nat → Nat × Nat) (fl : Nat) (q_p0 : Nat) (q_p0_term : Nat) (q_p1 : Nat) (q_p1_kind : Nat) (q_p1_start : Nat) (q_p1_value : Nat) (i_p0_raise : Int32) (i_p0_sign : Int32) (f_p0_term : Nat → Int64) (i_p1_count : Int32) (i_p1_done : Int32) (f_p1_start : Nat → Int32) (f_p1_value : Nat → Int64) (x2 : Int32) (x3 : Int32) (x4 : Int32) (res : Int32) (hm : m_Po_isSumAt fl i_p0_raise i_p0_sign f_p0_term i_p1_count i_p1_done f_p1_start f_p1_value x2 x3 x4 = some res) : MtI l y_Po_isSumAt (.code y_Po_isSumAt b_Po_isSumAt 12 (some .boolean) :: CW) rm_Po_isSumAt D [(cI, .int), (cJ, .long), (cB, .byte)] sa [.ref q_p0, .ref q_p1, .int x2, .int x3, .int x4] (ws_Po_isSumAt cI cJ cB q_p0 q_p0_term q_p1 q_p1_kind q_p1_start q_p1_value i_p0_raise i_p0_sign f_p0_term i_p1_count i_p1_done f_p1_start f_p1_value) (fun (r : Int32) (w : va_W) => r = res ∧ w = (ws_Po_isSumAt cI cJ cB q_p0 q_p0_term q_p1 q_p1_kind q_p1_start q_p1_value i_p0_raise i_p0_sign f_p0_term i_p1_count i_p1_done f_p1_start f_p1_value)) := by
  intro sz
  refine vz_start (Qc := fun A => va_Qi (fun (r : Int32) (w : va_W) => r = res ∧ w = (ws_Po_isSumAt cI cJ cB q_p0 q_p0_term q_p1 q_p1_kind q_p1_start q_p1_value i_p0_raise i_p0_sign f_p0_term i_p1_count i_p1_done f_p1_start f_p1_value)) (vz_B D A) A) (lv0 := [(0, .ref q_p0), (1, .ref q_p1), (2, .int x2), (3, .int x3), (4, .int x4)]) (by decide +kernel) (Nat.le_of_ble_eq_true rfl) rfl ?_
  intro p e s m below meth c A ls C0 hl
  obtain ⟨hx, hb, hr, hml, hown, ht, hlocks, hin, hN, hK, hP, hD, hA, hS, hZ⟩ := C0
  exact w_Po_isSumAt_0 fl q_p0 q_p0_term q_p1 q_p1_kind q_p1_start q_p1_value i_p0_raise i_p0_sign f_p0_term i_p1_count i_p1_done f_p1_start f_p1_value res ⟨hx, hb, hr, hml, hown, ht, hlocks, hin, hN, hK, hA, hZ⟩ x2 x3 x4 s.heap [] ls hm hP hD hS (lv_sub hl [0, 1, 2, 3, 4] rfl)
def ws_Mo_slide (cI cJ cB : ClassId) (q_p0 : Nat) (q_p0_free : Nat) (q_p1 : Nat) (q_p1_key : Nat) (q_p1_name : Nat) (q_p1_from : Nat) (q_p1_to : Nat) (q_p1_edgeAt : Nat) (q_p1_componentOf : Nat) (q_p1_arcOf : Nat) (q_p1_pieceOf : Nat) (q_p1_faceOf : Nat) (q_p1_faceStart : Nat) (q_p1_faceSize : Nat) (q_p1_scratch : Nat) (q_p2 : Nat) (q_p2_sign : Nat) (q_p2_label : Nat) (q_p2_shape : Nat) (i_p1_edges : Int32) (i_p1_components : Int32) (i_p1_pieces : Int32) (i_p1_faces : Int32) (i_p1_brokenRule : Int32) (i_p1_culprit : Int32) (f_p1_edgeAt : Nat → Int32) (f_p1_faceSize : Nat → Int32) (f_p1_faceStart : Nat → Int32) (f_p1_from : Nat → Int32) (f_p1_name : Nat → Int32) (f_p1_to : Nat → Int32) (i_p2_count : Int32) (i_p2_circles : Int32) (i_p2_shapeIsKnown : Int32) (f_p2_label : Nat → Int32) : va_W := [(q_p0, .inr (6, [.ref q_p0_free])), (q_p1, .inr (5, [.ref q_p1_key, .ref q_p1_name, .ref q_p1_from, .ref q_p1_to, .ref q_p1_edgeAt, .ref q_p1_componentOf, .ref q_p1_arcOf, .ref q_p1_pieceOf, .ref q_p1_faceOf, .ref q_p1_faceStart, .ref q_p1_faceSize, .ref q_p1_scratch, .int i_p1_edges, .int i_p1_components, .int i_p1_pieces, .int i_p1_faces, .int i_p1_brokenRule, .int i_p1_culprit])), (q_p1_edgeAt, .inl (cI, 80, .inl f_p1_edgeAt)), (q_p1_faceSize, .inl (cI, 80, .inl f_p1_faceSize)), (q_p1_faceStart, .inl (cI, 80, .inl f_p1_faceStart)), (q_p1_from, .inl (cI, 40, .inl f_p1_from)), (q_p1_name, .inl (cI, 40, .inl f_p1_name)), (q_p1_to, .inl (cI, 40, .inl f_p1_to)), (q_p2, .inr (4, [.ref q_p2_sign, .ref q_p2_label, .ref q_p2_shape, .int i_p2_count, .int i_p2_circles, .int i_p2_shapeIsKnown])), (q_p2_label, .inl (cI, 80, .inl f_p2_label))]
def rm_Mo_slide : Room := { frames := 3, cells := 0, slots := 0, locals := 73 }
def B_Mo_slide_34 (fl : Nat) (i_p1_faces : Int32) (f_p1_edgeAt : Nat → Int32) (f_p1_faceSize : Nat → Int32) (f_p1_faceStart : Nat → Int32) (f_p1_from : Nat → Int32) (f_p1_name : Nat → Int32) (f_p1_to : Nat → Int32) : Nat → Int32 → Int32 → Int32 → (Nat → Int32) → Option (Int32 × (Nat → Int32))
  | 0, _, _, _, _ => none
  | nn + 1, x3, x4, x5, f_p2_label => (if (3 : Int32) ≤ x5 then (some (1, f_p2_label)) else ((m_Mo_slideEdge fl f_p1_edgeAt f_p1_from f_p1_name f_p1_to (x4 >>> ((1 : Int32) &&& 31)) f_p2_label).bind fun o0 => ((m_Sh_nextDart fl f_p1_edgeAt f_p1_from f_p1_to x4).bind fun o1 => B_Mo_slide_34 fl i_p1_faces f_p1_edgeAt f_p1_faceSize f_p1_faceStart f_p1_from f_p1_name f_p1_to nn x3 o1 (x5 + 1) o0)))
def B_Mo_slide_0 (fl : Nat) (i_p1_faces : Int32) (f_p1_edgeAt : Nat → Int32) (f_p1_faceSize : Nat → Int32) (f_p1_faceStart : Nat → Int32) (f_p1_from : Nat → Int32) (f_p1_name : Nat → Int32) (f_p1_to : Nat → Int32) (x3 : Int32) (f_p2_label : Nat → Int32) : Option (Int32 × (Nat → Int32)) := (if x3 < (0 : Int32) then (some (0, f_p2_label)) else (if i_p1_faces ≤ x3 then (some (0, f_p2_label)) else ((m_Sh_deed fl f_p1_edgeAt f_p1_faceSize f_p1_faceStart f_p1_from f_p1_to x3).bind fun o0 => (if o0 = (3 : Int32) then (if ¬ (x3 < 0 ∨ 80 ≤ Int32.toNatClampNeg x3) then B_Mo_slide_34 fl i_p1_faces f_p1_edgeAt f_p1_faceSize f_p1_faceStart f_p1_from f_p1_name f_p1_to fl x3 (f_p1_faceStart (Int32.toNatClampNeg x3)) 0 f_p2_label else none) else (some (0, f_p2_label))))))
def m_Mo_slide (fl : Nat) (i_p1_faces : Int32) (f_p1_edgeAt : Nat → Int32) (f_p1_faceSize : Nat → Int32) (f_p1_faceStart : Nat → Int32) (f_p1_from : Nat → Int32) (f_p1_name : Nat → Int32) (f_p1_to : Nat → Int32) (x3 : Int32) (f_p2_label : Nat → Int32) : Option (Int32 × (Nat → Int32)) := B_Mo_slide_0 fl i_p1_faces f_p1_edgeAt f_p1_faceSize f_p1_faceStart f_p1_from f_p1_name f_p1_to x3 f_p2_label
set_option maxHeartbeats 4000000 in
set_option maxRecDepth 100000 in
theorem w_Mo_slide_34 {p : Program} {l : Launch} {e : Env} {s : State} {m : MethodId} {args : Array Value} {below : List Frame} {meth : Method} {c : Code} {D : va_G} {cI cJ cB : ClassId} {sa : Nat → Nat × Nat} {A : Nat → Prop} (fl : Nat) (q_p0 : Nat) (q_p0_free : Nat) (q_p1 : Nat) (q_p1_key : Nat) (q_p1_name : Nat) (q_p1_from : Nat) (q_p1_to : Nat) (q_p1_edgeAt : Nat) (q_p1_componentOf : Nat) (q_p1_arcOf : Nat) (q_p1_pieceOf : Nat) (q_p1_faceOf : Nat) (q_p1_faceStart : Nat) (q_p1_faceSize : Nat) (q_p1_scratch : Nat) (q_p2 : Nat) (q_p2_sign : Nat) (q_p2_label : Nat) (q_p2_shape : Nat) (i_p1_faces : Int32) (f_p1_edgeAt : Nat → Int32) (f_p1_faceSize : Nat → Int32) (f_p1_faceStart : Nat → Int32) (f_p1_from : Nat → Int32) (f_p1_name : Nat → Int32) (f_p1_to : Nat → Int32) (i_p1_edges : Int32) (i_p1_components : Int32) (i_p1_pieces : Int32) (i_p1_brokenRule : Int32) (i_p1_culprit : Int32) (i_p2_count : Int32) (i_p2_circles : Int32) (i_p2_shapeIsKnown : Int32) (res : Int32 × (Nat → Int32)) (C0 : vz_Cx p s m meth c b_Mo_slide 6 (some .boolean) "LinkEngine$Moves" "slide" D [(cI, .int), (cJ, .long), (cB, .byte)] sa A args) : ∀ (nn : Nat), ∀ (x3 : Int32) (x4 : Int32) (x5 : Int32) (f_p2_label : Nat → Int32) (H : Heap) (locs : List Loc) (ls : Array Slot), B_Mo_slide_34 fl i_p1_faces f_p1_edgeAt f_p1_faceSize f_p1_faceStart f_p1_from f_p1_name f_p1_to nn x3 x4 x5 f_p2_label = some res → va_P D classes (ws_Mo_slide cI cJ cB q_p0 q_p0_free q_p1 q_p1_key q_p1_name q_p1_from q_p1_to q_p1_edgeAt q_p1_componentOf q_p1_arcOf q_p1_pieceOf q_p1_faceOf q_p1_faceStart q_p1_faceSize q_p1_scratch q_p2 q_p2_sign q_p2_label q_p2_shape i_p1_edges i_p1_components i_p1_pieces i_p1_faces i_p1_brokenRule i_p1_culprit f_p1_edgeAt f_p1_faceSize f_p1_faceStart f_p1_from f_p1_name f_p1_to i_p2_count i_p2_circles i_p2_shapeIsKnown f_p2_label) H → va_D A (ws_Mo_slide cI cJ cB q_p0 q_p0_free q_p1 q_p1_key q_p1_name q_p1_from q_p1_to q_p1_edgeAt q_p1_componentOf q_p1_arcOf q_p1_pieceOf q_p1_faceOf q_p1_faceStart q_p1_faceSize q_p1_scratch q_p2 q_p2_sign q_p2_label q_p2_shape i_p1_edges i_p1_components i_p1_pieces i_p1_faces i_p1_brokenRule i_p1_culprit f_p1_edgeAt f_p1_faceSize f_p1_faceStart f_p1_from f_p1_name f_p1_to i_p2_count i_p2_circles i_p2_shapeIsKnown f_p2_label) → va_S A s.heap H locs → lv_has ls 6 [(0, .ref q_p0), (1, .ref q_p1), (2, .ref q_p2), (3, .int x3), (4, .int x4), (5, .int x5)] → W p l e rm_Mo_slide s m args below meth c H locs 0 0 (MQ below (va_Qi (fun (r : Int32) (w : va_W) => r = res.1 ∧ w = (ws_Mo_slide cI cJ cB q_p0 q_p0_free q_p1 q_p1_key q_p1_name q_p1_from q_p1_to q_p1_edgeAt q_p1_componentOf q_p1_arcOf q_p1_pieceOf q_p1_faceOf q_p1_faceStart q_p1_faceSize q_p1_scratch q_p2 q_p2_sign q_p2_label q_p2_shape i_p1_edges i_p1_components i_p1_pieces i_p1_faces i_p1_brokenRule i_p1_culprit f_p1_edgeAt f_p1_faceSize f_p1_faceStart f_p1_from f_p1_name f_p1_to i_p2_count i_p2_circles i_p2_shapeIsKnown res.2)) (vz_B D A) A) args s 0 0 A) (F0 m 34 ls []) := by
  obtain ⟨hx, hb, hr, hml, hown, ht, hlocks, hin, hN, hK, hA, hZ⟩ := id C0
  intro nn
  induction nn with
  | zero =>
    intro x3 x4 x5 f_p2_label H locs ls hm hP hD hS hl
    rw [B_Mo_slide_34] at hm
    cases hm
  | succ nn ih =>
    intro x3 x4 x5 f_p2_label H locs ls hm hP hD hS hl
    rw [B_Mo_slide_34] at hm
    refine lv_iload hx hb d_Mo_slide_34 (lv_at hl 5 rfl) ?_
    refine lv_iconst (v := 3) hx hb d_Mo_slide_36 (by decide) ?_
    refine lv_icmp_ge (tgt := 64) hx hb d_Mo_slide_37 (by decide) (fun hc => ?_) (fun hc => ?_)
    · rw [if_pos hc] at hm
      refine lv_iconst (v := 1) hx hb d_Mo_slide_64 (by decide) ?_
      obtain rfl := Option.some.inj hm
      exact vz_iret hx hb hr rfl hlocks hP hD hS (Nat.le_refl _) (Nat.le_refl _) d_Mo_slide_65 ⟨rfl, rfl⟩
    · rw [if_neg hc] at hm
      refine lv_aload_n hx hb d_Mo_slide_40 rfl (lv_at hl 0 rfl) ?_
      refine lv_aload_n hx hb d_Mo_slide_41 rfl (lv_at hl 1 rfl) ?_
      refine lv_aload_n hx hb d_Mo_slide_42 rfl (lv_at hl 2 rfl) ?_
      refine lv_iload hx hb d_Mo_slide_43 (lv_at hl 4 rfl) ?_
      refine lv_iconst (v := 1) hx hb d_Mo_slide_45 (by decide) ?_
      refine lv_ishr hx hb d_Mo_slide_46 ?_
      obtain ⟨o0, ho0, hm⟩ := vz_bind hm
      try dsimp only at hm
      refine vz_callVv (n := 3) (As := [.ref q_p1, .ref q_p2, .int (x4 >>> ((1 : Int32) &&& 31))]) (rest := []) (wc := (ws_Mo_slideEdge cI cJ cB q_p1 q_p1_key q_p1_name q_p1_from q_p1_to q_p1_edgeAt q_p1_componentOf q_p1_arcOf q_p1_pieceOf q_p1_faceOf q_p1_faceStart q_p1_faceSize q_p1_scratch q_p2 q_p2_sign q_p2_label q_p2_shape q_p0 i_p1_edges i_p1_components i_p1_pieces i_p1_faces i_p1_brokenRule i_p1_culprit f_p1_edgeAt f_p1_from f_p1_name f_p1_to i_p2_count i_p2_circles i_p2_shapeIsKnown f_p2_label)) (wr := [(q_p0, .inr (6, [.ref q_p0_free])), (q_p1_faceSize, .inl (cI, 80, .inl f_p1_faceSize)), (q_p1_faceStart, .inl (cI, 80, .inl f_p1_faceStart))]) (k1 := 0) (n1 := 0) hx hb hml hown ht hN hZ hK hP hD hS hA (k_Mo_slideEdge l D cI cJ cB sa fl q_p1 q_p1_key q_p1_name q_p1_from q_p1_to q_p1_edgeAt q_p1_componentOf q_p1_arcOf q_p1_pieceOf q_p1_faceOf q_p1_faceStart q_p1_faceSize q_p1_scratch q_p2 q_p2_sign q_p2_label q_p2_shape q_p0 f_p1_edgeAt f_p1_from f_p1_name f_p1_to i_p1_edges i_p1_components i_p1_pieces i_p1_faces i_p1_brokenRule i_p1_culprit i_p2_count i_p2_circles i_p2_shapeIsKnown f_p2_label (x4 >>> ((1 : Int32) &&& 31)) o0 ho0) m_642 m_75 m_639 m_640 m_641 (hc := (rfl : classes[6]? = some (R_Mo, F_Mo, 1))) 0 rfl (by decide +kernel) ⟨Nat.le_of_ble_eq_true rfl, Nat.le_of_ble_eq_true rfl⟩ [1, 2, 5, 6, 7, 8, 9] [0, 3, 4] rfl rfl (by decide) (by decide) (by decide) rfl hl.1 rfl (Nat.le_of_ble_eq_true rfl) rfl rfl ⟨Nat.zero_le _, Nat.zero_le _⟩ d_Mo_slide_47 (fun w1 H locs hw hP hD hS => ?_)
      subst hw
      have hP : va_P D classes (ws_Mo_slide cI cJ cB q_p0 q_p0_free q_p1 q_p1_key q_p1_name q_p1_from q_p1_to q_p1_edgeAt q_p1_componentOf q_p1_arcOf q_p1_pieceOf q_p1_faceOf q_p1_faceStart q_p1_faceSize q_p1_scratch q_p2 q_p2_sign q_p2_label q_p2_shape i_p1_edges i_p1_components i_p1_pieces i_p1_faces i_p1_brokenRule i_p1_culprit f_p1_edgeAt f_p1_faceSize f_p1_faceStart f_p1_from f_p1_name f_p1_to i_p2_count i_p2_circles i_p2_shapeIsKnown o0) H := hP.sub [0, 3, 4, 1, 2, 5, 6, 7, 8, 9] rfl
      have hD : va_D A (ws_Mo_slide cI cJ cB q_p0 q_p0_free q_p1 q_p1_key q_p1_name q_p1_from q_p1_to q_p1_edgeAt q_p1_componentOf q_p1_arcOf q_p1_pieceOf q_p1_faceOf q_p1_faceStart q_p1_faceSize q_p1_scratch q_p2 q_p2_sign q_p2_label q_p2_shape i_p1_edges i_p1_components i_p1_pieces i_p1_faces i_p1_brokenRule i_p1_culprit f_p1_edgeAt f_p1_faceSize f_p1_faceStart f_p1_from f_p1_name f_p1_to i_p2_count i_p2_circles i_p2_shapeIsKnown o0) := hD.sub [0, 3, 4, 1, 2, 5, 6, 7, 8, 9] (by decide) rfl
      refine lv_aload_n hx hb d_Mo_slide_50 rfl (lv_at hl 1 rfl) ?_
      refine lv_iload hx hb d_Mo_slide_51 (lv_at hl 4 rfl) ?_
      obtain ⟨o1, ho1, hm⟩ := vz_bind hm
      try dsimp only at hm
      refine vz_callVi (n := 1) (As := [.int x4]) (rest := []) (wc := (ws_Sh_nextDart cI cJ cB q_p1 q_p1_key q_p1_name q_p1_from q_p1_to q_p1_edgeAt q_p1_componentOf q_p1_arcOf q_p1_pieceOf q_p1_faceOf q_p1_faceStart q_p1_faceSize q_p1_scratch i_p1_edges i_p1_components i_p1_pieces i_p1_faces i_p1_brokenRule i_p1_culprit f_p1_edgeAt f_p1_from f_p1_to)) (wr := [(q_p0, .inr (6, [.ref q_p0_free])), (q_p1_faceSize, .inl (cI, 80, .inl f_p1_faceSize)), (q_p1_faceStart, .inl (cI, 80, .inl f_p1_faceStart)), (q_p1_name, .inl (cI, 40, .inl f_p1_name)), (q_p2, .inr (4, [.ref q_p2_sign, .ref q_p2_label, .ref q_p2_shape, .int i_p2_count, .int i_p2_circles, .int i_p2_shapeIsKnown])), (q_p2_label, .inl (cI, 80, .inl o0))]) (k1 := 0) (n1 := 0) hx hb hml hown ht hN hZ hK hP hD hS hA (k_Sh_nextDart l D cI cJ cB sa fl q_p1 q_p1_key q_p1_name q_p1_from q_p1_to q_p1_edgeAt q_p1_componentOf q_p1_arcOf q_p1_pieceOf q_p1_faceOf q_p1_faceStart q_p1_faceSize q_p1_scratch f_p1_edgeAt f_p1_from f_p1_to i_p1_edges i_p1_components i_p1_pieces i_p1_faces i_p1_brokenRule i_p1_culprit x4 o1 ho1) m_597 m_54 m_643 m_595 m_596 (hc := (rfl : classes[5]? = some (R_Sh, F_Sh, 18))) 1 rfl (by decide +kernel) ⟨Nat.le_of_ble_eq_true rfl, Nat.le_of_ble_eq_true rfl⟩ [1, 2, 5, 7] [0, 3, 4, 6, 8, 9] rfl rfl (by decide) (by decide) (by decide) rfl hl.1 rfl (Nat.le_of_ble_eq_true rfl) rfl rfl ⟨Nat.zero_le _, Nat.zero_le _⟩ d_Mo_slide_53 (fun r1 w1 H locs hw hP hD hS => ?_)
      obtain ⟨hr1, rfl⟩ := hw
      have hr1 := hr1.symm
      subst hr1
      have hP : va_P D classes (ws_Mo_slide cI cJ cB q_p0 q_p0_free q_p1 q_p1_key q_p1_name q_p1_from q_p1_to q_p1_edgeAt q_p1_componentOf q_p1_arcOf q_p1_pieceOf q_p1_faceOf q_p1_faceStart q_p1_faceSize q_p1_scratch q_p2 q_p2_sign q_p2_label q_p2_shape i_p1_edges i_p1_components i_p1_pieces i_p1_faces i_p1_brokenRule i_p1_culprit f_p1_edgeAt f_p1_faceSize f_p1_faceStart f_p1_from f_p1_name f_p1_to i_p2_count i_p2_circles i_p2_shapeIsKnown o0) H := hP.sub [0, 6, 7, 1, 2, 8, 3, 9, 4, 5] rfl
      have hD : va_D A (ws_Mo_slide cI cJ cB q_p0 q_p0_free q_p1 q_p1_key q_p1_name q_p1_from q_p1_to q_p1_edgeAt q_p1_componentOf q_p1_arcOf q_p1_pieceOf q_p1_faceOf q_p1_faceStart q_p1_faceSize q_p1_scratch q_p2 q_p2_sign q_p2_label q_p2_shape i_p1_edges i_p1_components i_p1_pieces i_p1_faces i_p1_brokenRule i_p1_culprit f_p1_edgeAt f_p1_faceSize f_p1_faceStart f_p1_from f_p1_name f_p1_to i_p2_count i_p2_circles i_p2_shapeIsKnown o0) := hD.sub [0, 6, 7, 1, 2, 8, 3, 9, 4, 5] (by decide) rfl
      refine lv_istore (lv' := [(4, .int o1), (0, .ref q_p0), (1, .ref q_p1), (2, .ref q_p2), (3, .int x3), (5, .int x5)]) hx hb d_Mo_slide_56 hl (by decide) rfl (fun ls hl => ?_)
      refine lv_iinc (v := (x5 + 1)) (lv' := [(5, .int (x5 + 1)), (4, .int o1), (0, .ref q_p0), (1, .ref q_p1), (2, .ref q_p2), (3, .int x3)]) hx hb d_Mo_slide_58 hl (k := 5) rfl rfl (by decide) rfl (fun ls hl => ?_)
      refine lv_goto (tgt := 34) hx hb d_Mo_slide_61 (by decide) ?_
      exact ih x3 o1 (x5 + 1) o0 _ _ _ hm hP hD hS (lv_sub hl [2, 3, 4, 5, 1, 0] rfl)
set_option maxHeartbeats 4000000 in
set_option maxRecDepth 100000 in
theorem w_Mo_slide_0 {p : Program} {l : Launch} {e : Env} {s : State} {m : MethodId} {args : Array Value} {below : List Frame} {meth : Method} {c : Code} {D : va_G} {cI cJ cB : ClassId} {sa : Nat → Nat × Nat} {A : Nat → Prop} (fl : Nat) (q_p0 : Nat) (q_p0_free : Nat) (q_p1 : Nat) (q_p1_key : Nat) (q_p1_name : Nat) (q_p1_from : Nat) (q_p1_to : Nat) (q_p1_edgeAt : Nat) (q_p1_componentOf : Nat) (q_p1_arcOf : Nat) (q_p1_pieceOf : Nat) (q_p1_faceOf : Nat) (q_p1_faceStart : Nat) (q_p1_faceSize : Nat) (q_p1_scratch : Nat) (q_p2 : Nat) (q_p2_sign : Nat) (q_p2_label : Nat) (q_p2_shape : Nat) (i_p1_faces : Int32) (f_p1_edgeAt : Nat → Int32) (f_p1_faceSize : Nat → Int32) (f_p1_faceStart : Nat → Int32) (f_p1_from : Nat → Int32) (f_p1_name : Nat → Int32) (f_p1_to : Nat → Int32) (i_p1_edges : Int32) (i_p1_components : Int32) (i_p1_pieces : Int32) (i_p1_brokenRule : Int32) (i_p1_culprit : Int32) (i_p2_count : Int32) (i_p2_circles : Int32) (i_p2_shapeIsKnown : Int32) (res : Int32 × (Nat → Int32)) (C0 : vz_Cx p s m meth c b_Mo_slide 6 (some .boolean) "LinkEngine$Moves" "slide" D [(cI, .int), (cJ, .long), (cB, .byte)] sa A args) : ∀ (x3 : Int32) (f_p2_label : Nat → Int32) (H : Heap) (locs : List Loc) (ls : Array Slot), B_Mo_slide_0 fl i_p1_faces f_p1_edgeAt f_p1_faceSize f_p1_faceStart f_p1_from f_p1_name f_p1_to x3 f_p2_label = some res → va_P D classes (ws_Mo_slide cI cJ cB q_p0 q_p0_free q_p1 q_p1_key q_p1_name q_p1_from q_p1_to q_p1_edgeAt q_p1_componentOf q_p1_arcOf q_p1_pieceOf q_p1_faceOf q_p1_faceStart q_p1_faceSize q_p1_scratch q_p2 q_p2_sign q_p2_label q_p2_shape i_p1_edges i_p1_components i_p1_pieces i_p1_faces i_p1_brokenRule i_p1_culprit f_p1_edgeAt f_p1_faceSize f_p1_faceStart f_p1_from f_p1_name f_p1_to i_p2_count i_p2_circles i_p2_shapeIsKnown f_p2_label) H → va_D A (ws_Mo_slide cI cJ cB q_p0 q_p0_free q_p1 q_p1_key q_p1_name q_p1_from q_p1_to q_p1_edgeAt q_p1_componentOf q_p1_arcOf q_p1_pieceOf q_p1_faceOf q_p1_faceStart q_p1_faceSize q_p1_scratch q_p2 q_p2_sign q_p2_label q_p2_shape i_p1_edges i_p1_components i_p1_pieces i_p1_faces i_p1_brokenRule i_p1_culprit f_p1_edgeAt f_p1_faceSize f_p1_faceStart f_p1_from f_p1_name f_p1_to i_p2_count i_p2_circles i_p2_shapeIsKnown f_p2_label) → va_S A s.heap H locs → lv_has ls 6 [(0, .ref q_p0), (1, .ref q_p1), (2, .ref q_p2), (3, .int x3)] → W p l e rm_Mo_slide s m args below meth c H locs 0 0 (MQ below (va_Qi (fun (r : Int32) (w : va_W) => r = res.1 ∧ w = (ws_Mo_slide cI cJ cB q_p0 q_p0_free q_p1 q_p1_key q_p1_name q_p1_from q_p1_to q_p1_edgeAt q_p1_componentOf q_p1_arcOf q_p1_pieceOf q_p1_faceOf q_p1_faceStart q_p1_faceSize q_p1_scratch q_p2 q_p2_sign q_p2_label q_p2_shape i_p1_edges i_p1_components i_p1_pieces i_p1_faces i_p1_brokenRule i_p1_culprit f_p1_edgeAt f_p1_faceSize f_p1_faceStart f_p1_from f_p1_name f_p1_to i_p2_count i_p2_circles i_p2_shapeIsKnown res.2)) (vz_B D A) A) args s 0 0 A) (F0 m 0 ls []) := by
  obtain ⟨hx, hb, hr, hml, hown, ht, hlocks, hin, hN, hK, hA, hZ⟩ := id C0
  intro x3 f_p2_label H locs ls hm hP hD hS hl
  unfold B_Mo_slide_0 at hm
  refine lv_iload_n hx hb d_Mo_slide_0 rfl (lv_at hl 3 rfl) ?_
  refine lv_if_lt (tgt := 21) hx hb d_Mo_slide_1 (by decide) (fun hc => ?_) (fun hc => ?_)
  · rw [if_pos hc] at hm
    refine lv_iconst (v := 0) hx hb d_Mo_slide_21 (by decide) ?_
    obtain rfl := Option.some.inj hm
    exact vz_iret hx hb hr rfl hlocks hP hD hS (Nat.le_refl _) (Nat.le_refl _) d_Mo_slide_22 ⟨rfl, rfl⟩
  · rw [if_neg hc] at hm
    refine lv_iload_n hx hb d_Mo_slide_4 rfl (lv_at hl 3 rfl) ?_
    refine lv_aload_n hx hb d_Mo_slide_5 rfl (lv_at hl 1 rfl) ?_
    refine va_getN (D := D) (ci := 5) (v := .int i_p1_faces) (C := R_Sh) (T := F_Sh) (N := 18) hx hb ht i_Sh hown hK hP 1 rfl rfl 15 (Nat.le_of_ble_eq_true rfl) (va_Nw.use rfl (hN _ n_52)) (fun _ h9 => h9) rfl d_Mo_slide_6 ?_
    refine lv_icmp_ge (tgt := 21) hx hb d_Mo_slide_9 (by decide) (fun hc => ?_) (fun hc => ?_)
    · rw [if_pos hc] at hm
      refine lv_iconst (v := 0) hx hb d_Mo_slide_21 (by decide) ?_
      obtain rfl := Option.some.inj hm
      exact vz_iret hx hb hr rfl hlocks hP hD hS (Nat.le_refl _) (Nat.le_refl _) d_Mo_slide_22 ⟨rfl, rfl⟩
    · rw [if_neg hc] at hm
      refine lv_aload_n hx hb d_Mo_slide_12 rfl (lv_at hl 1 rfl) ?_
      refine lv_iload_n hx hb d_Mo_slide_13 rfl (lv_at hl 3 rfl) ?_
      obtain ⟨o0, ho0, hm⟩ := vz_bind hm
      try dsimp only at hm
      refine vz_callVi (n := 1) (As := [.int x3]) (rest := []) (wc := (ws_Sh_deed cI cJ cB q_p1 q_p1_key q_p1_name q_p1_from q_p1_to q_p1_edgeAt q_p1_componentOf q_p1_arcOf q_p1_pieceOf q_p1_faceOf q_p1_faceStart q_p1_faceSize q_p1_scratch i_p1_edges i_p1_components i_p1_pieces i_p1_faces i_p1_brokenRule i_p1_culprit f_p1_edgeAt f_p1_faceSize f_p1_faceStart f_p1_from f_p1_to)) (wr := [(q_p0, .inr (6, [.ref q_p0_free])), (q_p1_name, .inl (cI, 40, .inl f_p1_name)), (q_p2, .inr (4, [.ref q_p2_sign, .ref q_p2_label, .ref q_p2_shape, .int i_p2_count, .int i_p2_circles, .int i_p2_shapeIsKnown])), (q_p2_label, .inl (cI, 80, .inl f_p2_label))]) (k1 := 0) (n1 := 0) hx hb hml hown ht hN hZ hK hP hD hS hA (k_Sh_deed l D cI cJ cB sa fl q_p1 q_p1_key q_p1_name q_p1_from q_p1_to q_p1_edgeAt q_p1_componentOf q_p1_arcOf q_p1_pieceOf q_p1_faceOf q_p1_faceStart q_p1_faceSize q_p1_scratch f_p1_edgeAt f_p1_faceSize f_p1_faceStart f_p1_from f_p1_to i_p1_edges i_p1_components i_p1_pieces i_p1_faces i_p1_brokenRule i_p1_culprit x3 o0 ho0) m_647 m_54 m_644 m_645 m_646 (hc := (rfl : classes[5]? = some (R_Sh, F_Sh, 18))) 1 rfl (by decide +kernel) ⟨Nat.le_of_ble_eq_true rfl, Nat.le_of_ble_eq_true rfl⟩ [1, 2, 3, 4, 5, 7] [0, 6, 8, 9] rfl rfl (by decide) (by decide) (by decide) rfl hl.1 rfl (Nat.le_of_ble_eq_true rfl) rfl rfl ⟨Nat.zero_le _, Nat.zero_le _⟩ d_Mo_slide_14 (fun r1 w1 H locs hw hP hD hS => ?_)
      obtain ⟨hr1, rfl⟩ := hw
      have hr1 := hr1.symm
      subst hr1
      have hP : va_P D classes (ws_Mo_slide cI cJ cB q_p0 q_p0_free q_p1 q_p1_key q_p1_name q_p1_from q_p1_to q_p1_edgeAt q_p1_componentOf q_p1_arcOf q_p1_pieceOf q_p1_faceOf q_p1_faceStart q_p1_faceSize q_p1_scratch q_p2 q_p2_sign q_p2_label q_p2_shape i_p1_edges i_p1_components i_p1_pieces i_p1_faces i_p1_brokenRule i_p1_culprit f_p1_edgeAt f_p1_faceSize f_p1_faceStart f_p1_from f_p1_name f_p1_to i_p2_count i_p2_circles i_p2_shapeIsKnown f_p2_label) H := hP.sub [0, 4, 5, 6, 7, 8, 1, 9, 2, 3] rfl
      have hD : va_D A (ws_Mo_slide cI cJ cB q_p0 q_p0_free q_p1 q_p1_key q_p1_name q_p1_from q_p1_to q_p1_edgeAt q_p1_componentOf q_p1_arcOf q_p1_pieceOf q_p1_faceOf q_p1_faceStart q_p1_faceSize q_p1_scratch q_p2 q_p2_sign q_p2_label q_p2_shape i_p1_edges i_p1_components i_p1_pieces i_p1_faces i_p1_brokenRule i_p1_culprit f_p1_edgeAt f_p1_faceSize f_p1_faceStart f_p1_from f_p1_name f_p1_to i_p2_count i_p2_circles i_p2_shapeIsKnown f_p2_label) := hD.sub [0, 4, 5, 6, 7, 8, 1, 9, 2, 3] (by decide) rfl
      refine lv_iconst (v := 3) hx hb d_Mo_slide_17 (by decide) ?_
      refine lv_icmp_eq (tgt := 23) hx hb d_Mo_slide_18 (by decide) (fun hc => ?_) (fun hc => ?_)
      · rw [if_pos hc] at hm
        refine lv_aload_n hx hb d_Mo_slide_23 rfl (lv_at hl 1 rfl) ?_
        refine va_getN (D := D) (ci := 5) (v := .ref q_p1_faceStart) (C := R_Sh) (T := F_Sh) (N := 18) hx hb ht i_Sh hown hK hP 1 rfl rfl 9 (Nat.le_of_ble_eq_true rfl) (va_Nw.use rfl (hN _ n_53)) (fun _ h9 => h9) rfl d_Mo_slide_24 ?_
        refine lv_iload_n hx hb d_Mo_slide_27 rfl (lv_at hl 3 rfl) ?_
        obtain ⟨hg, hm⟩ := vz_guard hm
        refine va_iald hx hb hK hP 4 0 rfl rfl hg d_Mo_slide_28 ?_
        refine lv_istore (lv' := [(4, .int (f_p1_faceStart (Int32.toNatClampNeg x3))), (0, .ref q_p0), (1, .ref q_p1), (2, .ref q_p2), (3, .int x3)]) hx hb d_Mo_slide_29 hl (by decide) rfl (fun ls hl => ?_)
        refine lv_iconst (v := 0) hx hb d_Mo_slide_31 (by decide) ?_
        refine lv_istore (lv' := [(5, .int 0), (4, .int (f_p1_faceStart (Int32.toNatClampNeg x3))), (0, .ref q_p0), (1, .ref q_p1), (2, .ref q_p2), (3, .int x3)]) hx hb d_Mo_slide_32 hl (by decide) rfl (fun ls hl => ?_)
        exact w_Mo_slide_34 fl q_p0 q_p0_free q_p1 q_p1_key q_p1_name q_p1_from q_p1_to q_p1_edgeAt q_p1_componentOf q_p1_arcOf q_p1_pieceOf q_p1_faceOf q_p1_faceStart q_p1_faceSize q_p1_scratch q_p2 q_p2_sign q_p2_label q_p2_shape i_p1_faces f_p1_edgeAt f_p1_faceSize f_p1_faceStart f_p1_from f_p1_name f_p1_to i_p1_edges i_p1_components i_p1_pieces i_p1_brokenRule i_p1_culprit i_p2_count i_p2_circles i_p2_shapeIsKnown res C0 fl x3 (f_p1_faceStart (Int32.toNatClampNeg x3)) 0 f_p2_label _ _ _ hm hP hD hS (lv_sub hl [2, 3, 4, 5, 1, 0] rfl)
      · rw [if_neg hc] at hm
        refine lv_iconst (v := 0) hx hb d_Mo_slide_21 (by decide) ?_
        obtain rfl := Option.some.inj hm
        exact vz_iret hx hb hr rfl hlocks hP hD hS (Nat.le_refl _) (Nat.le_refl _) d_Mo_slide_22 ⟨rfl, rfl⟩
set_option maxHeartbeats 4000000 in
set_option maxRecDepth 100000 in
theorem k_Mo_slide (l : Launch) (D : va_G) (cI cJ cB : ClassId) (sa : Nat → Nat × Nat) (fl : Nat) (q_p0 : Nat) (q_p0_free : Nat) (q_p1 : Nat) (q_p1_key : Nat) (q_p1_name : Nat) (q_p1_from : Nat) (q_p1_to : Nat) (q_p1_edgeAt : Nat) (q_p1_componentOf : Nat) (q_p1_arcOf : Nat) (q_p1_pieceOf : Nat) (q_p1_faceOf : Nat) (q_p1_faceStart : Nat) (q_p1_faceSize : Nat) (q_p1_scratch : Nat) (q_p2 : Nat) (q_p2_sign : Nat) (q_p2_label : Nat) (q_p2_shape : Nat) (i_p1_faces : Int32) (f_p1_edgeAt : Nat → Int32) (f_p1_faceSize : Nat → Int32) (f_p1_faceStart : Nat → Int32) (f_p1_from : Nat → Int32) (f_p1_name : Nat → Int32) (f_p1_to : Nat → Int32) (i_p1_edges : Int32) (i_p1_components : Int32) (i_p1_pieces : Int32) (i_p1_brokenRule : Int32) (i_p1_culprit : Int32) (i_p2_count : Int32) (i_p2_circles : Int32) (i_p2_shapeIsKnown : Int32) (f_p2_label : Nat → Int32) (x3 : Int32) (res : Int32 × (Nat → Int32)) (hm : m_Mo_slide fl i_p1_faces f_p1_edgeAt f_p1_faceSize f_p1_faceStart f_p1_from f_p1_name f_p1_to x3 f_p2_label = some res) : MtI l y_Mo_slide (.code y_Mo_slide b_Mo_slide 6 (some .boolean) :: CW) rm_Mo_slide D [(cI, .int), (cJ, .long), (cB, .byte)] sa [.ref q_p0, .ref q_p1, .ref q_p2, .int x3] (ws_Mo_slide cI cJ cB q_p0 q_p0_free q_p1 q_p1_key q_p1_name q_p1_from q_p1_to q_p1_edgeAt q_p1_componentOf q_p1_arcOf q_p1_pieceOf q_p1_faceOf q_p1_faceStart q_p1_faceSize q_p1_scratch q_p2 q_p2_sign q_p2_label q_p2_shape i_p1_edges i_p1_components i_p1_pieces i_p1_faces i_p1_brokenRule i_p1_culprit f_p1_edgeAt f_p1_faceSize f_p1_faceStart f_p1_from f_p1_name f_p1_to i_p2_count i_p2_circles i_p2_shapeIsKnown f_p2_label) (fun (r : Int32) (w : va_W) => r = res.1 ∧ w = (ws_Mo_slide cI cJ cB q_p0 q_p0_free q_p1 q_p1_key q_p1_name q_p1_from q_p1_to q_p1_edgeAt q_p1_componentOf q_p1_arcOf q_p1_pieceOf q_p1_faceOf q_p1_faceStart q_p1_faceSize q_p1_scratch q_p2 q_p2_sign q_p2_label q_p2_shape i_p1_edges i_p1_components i_p1_pieces i_p1_faces i_p1_brokenRule i_p1_culprit f_p1_edgeAt f_p1_faceSize f_p1_faceStart f_p1_from f_p1_name f_p1_to i_p2_count i_p2_circles i_p2_shapeIsKnown res.2)) := by
  intro sz
  refine vz_start (Qc := fun A => va_Qi (fun (r : Int32) (w : va_W) => r = res.1 ∧ w = (ws_Mo_slide cI cJ cB q_p0 q_p0_free q_p1 q_p1_key q_p1_name q_p1_from q_p1_to q_p1_edgeAt q_p1_componentOf q_p1_arcOf q_p1_pieceOf q_p1_faceOf q_p1_faceStart q_p1_faceSize q_p1_scratch q_p2 q_p2_sign q_p2_label q_p2_shape i_p1_edges i_p1_components i_p1_pieces i_p1_faces i_p1_brokenRule i_p1_culprit f_p1_edgeAt f_p1_faceSize f_p1_faceStart f_p1_from f_p1_name f_p1_to i_p2_count i_p2_circles i_p2_shapeIsKnown res.2)) (vz_B D A) A) (lv0 := [(0, .ref q_p0), (1, .ref q_p1), (2, .ref q_p2), (3, .int x3)]) (by decide +kernel) (Nat.le_of_ble_eq_true rfl) rfl ?_
  intro p e s m below meth c A ls C0 hl
  obtain ⟨hx, hb, hr, hml, hown, ht, hlocks, hin, hN, hK, hP, hD, hA, hS, hZ⟩ := C0
  exact w_Mo_slide_0 fl q_p0 q_p0_free q_p1 q_p1_key q_p1_name q_p1_from q_p1_to q_p1_edgeAt q_p1_componentOf q_p1_arcOf q_p1_pieceOf q_p1_faceOf q_p1_faceStart q_p1_faceSize q_p1_scratch q_p2 q_p2_sign q_p2_label q_p2_shape i_p1_faces f_p1_edgeAt f_p1_faceSize f_p1_faceStart f_p1_from f_p1_name f_p1_to i_p1_edges i_p1_components i_p1_pieces i_p1_brokenRule i_p1_culprit i_p2_count i_p2_circles i_p2_shapeIsKnown res ⟨hx, hb, hr, hml, hown, ht, hlocks, hin, hN, hK, hA, hZ⟩ x3 f_p2_label s.heap [] ls hm hP hD hS (lv_sub hl [0, 1, 2, 3] rfl)
