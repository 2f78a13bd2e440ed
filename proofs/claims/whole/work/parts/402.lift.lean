def LB_En_putOnTape_3 (fl : Nat) : Nat → Int → Int → Int → (Nat → Int) → Option (Int × (Nat → Int))
  | 0, _, _, _, _ => none
  | nn + 1, x1', x2', i_p0_onTape', f_p0_reader_text' => (if x2' < (0 : Int) then (some (i_p0_onTape', f_p0_reader_text')) else (if (4000 : Int) ≤ i_p0_onTape' then (some (i_p0_onTape', f_p0_reader_text')) else (if (0 ≤ i_p0_onTape' ∧ i_p0_onTape' < 4000) then (if (-2147483648 ≤ (x2' + (-8 : Int)) ∧ (x2' + (-8 : Int)) < 2147483648) ∧ (-2147483648 ≤ (i_p0_onTape' + (1 : Int)) ∧ (i_p0_onTape' + (1 : Int)) < 2147483648) then (LB_En_putOnTape_3 fl nn x1' (x2' + (-8 : Int)) (i_p0_onTape' + (1 : Int)) (up f_p0_reader_text' (Int.toNat i_p0_onTape') ((iush x1' (iand x2' 31)) % 256))) else none) else none)))
theorem hB_En_putOnTape_3  (fl : Nat) : ∀ (nn : Nat) {x1 : Int32} {x1' : Int} {x2 : Int32} {x2' : Int} {i_p0_onTape : Int32} {i_p0_onTape' : Int} {f_p0_reader_text : (Nat → Int32)} {f_p0_reader_text' : (Nat → Int)} (e_x1 : x1' = (x1).toInt) (e_x2 : x2' = (x2).toInt) (e_i_p0_onTape : i_p0_onTape' = (i_p0_onTape).toInt) (e_f_p0_reader_text : f_p0_reader_text' = (t32 f_p0_reader_text)), Ok (fun r => (r.1.toInt, t32 r.2)) (B_En_putOnTape_3 fl nn x1 x2 i_p0_onTape f_p0_reader_text) (LB_En_putOnTape_3 fl nn x1' x2' i_p0_onTape' f_p0_reader_text') := by
  intro nn
  induction nn with
  | zero => intro x1 x1' x2 x2' i_p0_onTape i_p0_onTape' f_p0_reader_text f_p0_reader_text' e_x1 e_x2 e_i_p0_onTape e_f_p0_reader_text; exact lf_none
  | succ nn ih =>
    intro x1 x1' x2 x2' i_p0_onTape i_p0_onTape' f_p0_reader_text f_p0_reader_text' e_x1 e_x2 e_i_p0_onTape e_f_p0_reader_text
    rw [B_En_putOnTape_3, LB_En_putOnTape_3]
    refine lf_if (c_lt e_x2 k32_0) ?_ ?_
    · exact lf_some (tup2 e_i_p0_onTape e_f_p0_reader_text)
    · refine lf_if (c_le k32_4000 e_i_p0_onTape) ?_ ?_
      · exact lf_some (tup2 e_i_p0_onTape e_f_p0_reader_text)
      · refine lf_gd (fun h1 => ⟨(c_idx (n := 4000) (n' := 4000) rfl e_i_p0_onTape).1 h1, ?_⟩)
        refine lf_guard (fun gg => ?_)
        obtain ⟨g2, g3⟩ := gg
        exact (ih e_x1 (q_add e_x2 k32_n8 g2) (q_add e_i_p0_onTape k32_1 g3) (q_upd e_f_p0_reader_text (q_clamp e_i_p0_onTape) (q_mask (k := 8) (by decide) (by decide) (q_ush e_x1 e_x2))))
def LB_En_putOnTape_0 (fl : Nat) (x1' : Int) (i_p0_onTape' : Int) (f_p0_reader_text' : (Nat → Int)) : Option (Int × (Nat → Int)) := (LB_En_putOnTape_3 fl fl x1' (24 : Int) i_p0_onTape' f_p0_reader_text')
theorem hB_En_putOnTape_0 {x1 : Int32} {x1' : Int} {i_p0_onTape : Int32} {i_p0_onTape' : Int} {f_p0_reader_text : (Nat → Int32)} {f_p0_reader_text' : (Nat → Int)} (fl : Nat) (e_x1 : x1' = (x1).toInt) (e_i_p0_onTape : i_p0_onTape' = (i_p0_onTape).toInt) (e_f_p0_reader_text : f_p0_reader_text' = (t32 f_p0_reader_text)) : Ok (fun r => (r.1.toInt, t32 r.2)) (B_En_putOnTape_0 fl x1 i_p0_onTape f_p0_reader_text) (LB_En_putOnTape_0 fl x1' i_p0_onTape' f_p0_reader_text') := by
  unfold B_En_putOnTape_0 LB_En_putOnTape_0
  exact (hB_En_putOnTape_3 fl fl e_x1 k32_24 e_i_p0_onTape e_f_p0_reader_text)
def LM_En_putOnTape (fl : Nat) (x1' : Int) (i_p0_onTape' : Int) (f_p0_reader_text' : (Nat → Int)) : Option (Int × (Nat → Int)) := (LB_En_putOnTape_0 fl x1' i_p0_onTape' f_p0_reader_text')
theorem hm_En_putOnTape {x1 : Int32} {x1' : Int} {i_p0_onTape : Int32} {i_p0_onTape' : Int} {f_p0_reader_text : (Nat → Int32)} {f_p0_reader_text' : (Nat → Int)} (fl : Nat) (e_x1 : x1' = (x1).toInt) (e_i_p0_onTape : i_p0_onTape' = (i_p0_onTape).toInt) (e_f_p0_reader_text : f_p0_reader_text' = (t32 f_p0_reader_text)) : Ok (fun r => (r.1.toInt, t32 r.2)) (m_En_putOnTape fl x1 i_p0_onTape f_p0_reader_text) (LM_En_putOnTape fl x1' i_p0_onTape' f_p0_reader_text') := by
  unfold m_En_putOnTape LM_En_putOnTape
  exact (hB_En_putOnTape_0 fl e_x1 e_i_p0_onTape e_f_p0_reader_text)
def LB_Li_clear_0 (fl : Nat) (i_p0_count' : Int) (i_p0_done' : Int) : Option (Int × Int) := (some ((0 : Int), (0 : Int)))
theorem hB_Li_clear_0 {i_p0_count : Int32} {i_p0_count' : Int} {i_p0_done : Int32} {i_p0_done' : Int} (fl : Nat) (e_i_p0_count : i_p0_count' = (i_p0_count).toInt) (e_i_p0_done : i_p0_done' = (i_p0_done).toInt) : Ok (fun r => (r.1.toInt, r.2.toInt)) (B_Li_clear_0 fl i_p0_count i_p0_done) (LB_Li_clear_0 fl i_p0_count' i_p0_done') := by
  unfold B_Li_clear_0 LB_Li_clear_0
  exact lf_some (tup2 k32_0 k32_0)
def LM_Li_clear (fl : Nat) (i_p0_count' : Int) (i_p0_done' : Int) : Option (Int × Int) := (LB_Li_clear_0 fl i_p0_count' i_p0_done')
theorem hm_Li_clear {i_p0_count : Int32} {i_p0_count' : Int} {i_p0_done : Int32} {i_p0_done' : Int} (fl : Nat) (e_i_p0_count : i_p0_count' = (i_p0_count).toInt) (e_i_p0_done : i_p0_done' = (i_p0_done).toInt) : Ok (fun r => (r.1.toInt, r.2.toInt)) (m_Li_clear fl i_p0_count i_p0_done) (LM_Li_clear fl i_p0_count' i_p0_done') := by
  unfold m_Li_clear LM_Li_clear
  exact (hB_Li_clear_0 fl e_i_p0_count e_i_p0_done)
def LB_Rd_hasMore_0 (fl : Nat) (i_p0_size' : Int) (i_p0_behind' : Int) (i_p0_faultFound' : Int) : Option (Int) := (if i_p0_size' ≤ i_p0_behind' then (some ((0 : Int))) else (if ¬ (i_p0_faultFound' = (0 : Int)) then (some ((0 : Int))) else (some ((1 : Int)))))
theorem hB_Rd_hasMore_0 {i_p0_size : Int32} {i_p0_size' : Int} {i_p0_behind : Int32} {i_p0_behind' : Int} {i_p0_faultFound : Int32} {i_p0_faultFound' : Int} (fl : Nat) (e_i_p0_size : i_p0_size' = (i_p0_size).toInt) (e_i_p0_behind : i_p0_behind' = (i_p0_behind).toInt) (e_i_p0_faultFound : i_p0_faultFound' = (i_p0_faultFound).toInt) : Ok Int32.toInt (B_Rd_hasMore_0 fl i_p0_size i_p0_behind i_p0_faultFound) (LB_Rd_hasMore_0 fl i_p0_size' i_p0_behind' i_p0_faultFound') := by
  unfold B_Rd_hasMore_0 LB_Rd_hasMore_0
  refine lf_if (c_le e_i_p0_size e_i_p0_behind) ?_ ?_
  · exact lf_some k32_0
  · refine lf_if (not_congr (c_eq e_i_p0_faultFound k32_0)) ?_ ?_
    · exact lf_some k32_0
    · exact lf_some k32_1
def LM_Rd_hasMore (fl : Nat) (i_p0_size' : Int) (i_p0_behind' : Int) (i_p0_faultFound' : Int) : Option (Int) := (LB_Rd_hasMore_0 fl i_p0_size' i_p0_behind' i_p0_faultFound')
theorem hm_Rd_hasMore {i_p0_size : Int32} {i_p0_size' : Int} {i_p0_behind : Int32} {i_p0_behind' : Int} {i_p0_faultFound : Int32} {i_p0_faultFound' : Int} (fl : Nat) (e_i_p0_size : i_p0_size' = (i_p0_size).toInt) (e_i_p0_behind : i_p0_behind' = (i_p0_behind).toInt) (e_i_p0_faultFound : i_p0_faultFound' = (i_p0_faultFound).toInt) : Ok Int32.toInt (m_Rd_hasMore fl i_p0_size i_p0_behind i_p0_faultFound) (LM_Rd_hasMore fl i_p0_size' i_p0_behind' i_p0_faultFound') := by
  unfold m_Rd_hasMore LM_Rd_hasMore
  exact (hB_Rd_hasMore_0 fl e_i_p0_size e_i_p0_behind e_i_p0_faultFound)
def LB_Rd_skipIdle_63 (fl : Nat) (i_p0_size' : Int) (f_p0_text' : (Nat → Int)) : Nat → Int → Option (Int)
  | 0, _ => none
  | nn + 1, i_p0_behind' => (if i_p0_size' ≤ i_p0_behind' then (some (i_p0_behind')) else (if (0 ≤ i_p0_behind' ∧ i_p0_behind' < 4000) then (if (f_p0_text' (Int.toNat i_p0_behind')) < (32 : Int) then (some (i_p0_behind')) else (if (126 : Int) < (f_p0_text' (Int.toNat i_p0_behind')) then (some (i_p0_behind')) else (if (-2147483648 ≤ (i_p0_behind' + (1 : Int)) ∧ (i_p0_behind' + (1 : Int)) < 2147483648) then (LB_Rd_skipIdle_63 fl i_p0_size' f_p0_text' nn (i_p0_behind' + (1 : Int))) else none))) else none))
theorem hB_Rd_skipIdle_63 {i_p0_size : Int32} {i_p0_size' : Int} {f_p0_text : (Nat → Int32)} {f_p0_text' : (Nat → Int)} (fl : Nat) (e_i_p0_size : i_p0_size' = (i_p0_size).toInt) (e_f_p0_text : f_p0_text' = (t32 f_p0_text)) : ∀ (nn : Nat) {i_p0_behind : Int32} {i_p0_behind' : Int} (e_i_p0_behind : i_p0_behind' = (i_p0_behind).toInt), Ok Int32.toInt (B_Rd_skipIdle_63 fl i_p0_size f_p0_text nn i_p0_behind) (LB_Rd_skipIdle_63 fl i_p0_size' f_p0_text' nn i_p0_behind') := by
  intro nn
  induction nn with
  | zero => intro i_p0_behind i_p0_behind' e_i_p0_behind; exact lf_none
  | succ nn ih =>
    intro i_p0_behind i_p0_behind' e_i_p0_behind
    rw [B_Rd_skipIdle_63, LB_Rd_skipIdle_63]
    refine lf_if (c_le e_i_p0_size e_i_p0_behind) ?_ ?_
    · exact lf_some e_i_p0_behind
    · refine lf_gd (fun h1 => ⟨(c_idx (n := 4000) (n' := 4000) rfl e_i_p0_behind).1 h1, ?_⟩)
      refine lf_if (c_lt (q_get e_f_p0_text (q_clamp e_i_p0_behind)) k32_32) ?_ ?_
      · exact lf_some e_i_p0_behind
      · refine lf_pos ((c_idx (n := 4000) (n' := 4000) rfl e_i_p0_behind).1 h1) ?_
        refine lf_if (c_lt k32_126 (q_get e_f_p0_text (q_clamp e_i_p0_behind))) ?_ ?_
        · exact lf_some e_i_p0_behind
        · refine lf_guard (fun gg => ?_)
          have g2 := gg
          exact (ih (q_add e_i_p0_behind k32_1 g2))
def LB_Rd_skipIdle_38 (fl : Nat) (i_p0_size' : Int) (f_p0_text' : (Nat → Int)) (i_p0_behind' : Int) : Option (Int) := (if i_p0_size' ≤ i_p0_behind' then (some (i_p0_behind')) else (if (0 ≤ i_p0_behind' ∧ i_p0_behind' < 4000) then (if ¬ ((f_p0_text' (Int.toNat i_p0_behind')) = (35 : Int)) then (some (i_p0_behind')) else (LB_Rd_skipIdle_63 fl i_p0_size' f_p0_text' fl i_p0_behind')) else none))
theorem hB_Rd_skipIdle_38 {i_p0_size : Int32} {i_p0_size' : Int} {f_p0_text : (Nat → Int32)} {f_p0_text' : (Nat → Int)} {i_p0_behind : Int32} {i_p0_behind' : Int} (fl : Nat) (e_i_p0_size : i_p0_size' = (i_p0_size).toInt) (e_f_p0_text : f_p0_text' = (t32 f_p0_text)) (e_i_p0_behind : i_p0_behind' = (i_p0_behind).toInt) : Ok Int32.toInt (B_Rd_skipIdle_38 fl i_p0_size f_p0_text i_p0_behind) (LB_Rd_skipIdle_38 fl i_p0_size' f_p0_text' i_p0_behind') := by
  unfold B_Rd_skipIdle_38 LB_Rd_skipIdle_38
  refine lf_if (c_le e_i_p0_size e_i_p0_behind) ?_ ?_
  · exact lf_some e_i_p0_behind
  · refine lf_gd (fun h1 => ⟨(c_idx (n := 4000) (n' := 4000) rfl e_i_p0_behind).1 h1, ?_⟩)
    refine lf_if (not_congr (c_eq (q_get e_f_p0_text (q_clamp e_i_p0_behind)) k32_35)) ?_ ?_
    · exact lf_some e_i_p0_behind
    · exact (hB_Rd_skipIdle_63 fl e_i_p0_size e_f_p0_text fl e_i_p0_behind)
def LB_Rd_skipIdle_0 (fl : Nat) (i_p0_size' : Int) (f_p0_text' : (Nat → Int)) : Nat → Int → Option (Int)
  | 0, _ => none
  | nn + 1, i_p0_behind' => (if i_p0_size' ≤ i_p0_behind' then (LB_Rd_skipIdle_38 fl i_p0_size' f_p0_text' i_p0_behind') else (if (0 ≤ i_p0_behind' ∧ i_p0_behind' < 4000) then (if ¬ ((f_p0_text' (Int.toNat i_p0_behind')) = (32 : Int)) then (LB_Rd_skipIdle_38 fl i_p0_size' f_p0_text' i_p0_behind') else (if (-2147483648 ≤ (i_p0_behind' + (1 : Int)) ∧ (i_p0_behind' + (1 : Int)) < 2147483648) then (LB_Rd_skipIdle_0 fl i_p0_size' f_p0_text' nn (i_p0_behind' + (1 : Int))) else none)) else none))
theorem hB_Rd_skipIdle_0 {i_p0_size : Int32} {i_p0_size' : Int} {f_p0_text : (Nat → Int32)} {f_p0_text' : (Nat → Int)} (fl : Nat) (e_i_p0_size : i_p0_size' = (i_p0_size).toInt) (e_f_p0_text : f_p0_text' = (t32 f_p0_text)) : ∀ (nn : Nat) {i_p0_behind : Int32} {i_p0_behind' : Int} (e_i_p0_behind : i_p0_behind' = (i_p0_behind).toInt), Ok Int32.toInt (B_Rd_skipIdle_0 fl i_p0_size f_p0_text nn i_p0_behind) (LB_Rd_skipIdle_0 fl i_p0_size' f_p0_text' nn i_p0_behind') := by
  intro nn
  induction nn with
  | zero => intro i_p0_behind i_p0_behind' e_i_p0_behind; exact lf_none
  | succ nn ih =>
    intro i_p0_behind i_p0_behind' e_i_p0_behind
    rw [B_Rd_skipIdle_0, LB_Rd_skipIdle_0]
    refine lf_if (c_le e_i_p0_size e_i_p0_behind) ?_ ?_
    · exact (hB_Rd_skipIdle_38 fl e_i_p0_size e_f_p0_text e_i_p0_behind)
    · refine lf_gd (fun h1 => ⟨(c_idx (n := 4000) (n' := 4000) rfl e_i_p0_behind).1 h1, ?_⟩)
      refine lf_if (not_congr (c_eq (q_get e_f_p0_text (q_clamp e_i_p0_behind)) k32_32)) ?_ ?_
      · exact (hB_Rd_skipIdle_38 fl e_i_p0_size e_f_p0_text e_i_p0_behind)
      · refine lf_guard (fun gg => ?_)
        have g2 := gg
        exact (ih (q_add e_i_p0_behind k32_1 g2))
def LM_Rd_skipIdle (fl : Nat) (i_p0_size' : Int) (f_p0_text' : (Nat → Int)) (i_p0_behind' : Int) : Option (Int) := (LB_Rd_skipIdle_0 fl i_p0_size' f_p0_text' fl i_p0_behind')
theorem hm_Rd_skipIdle {i_p0_size : Int32} {i_p0_size' : Int} {f_p0_text : (Nat → Int32)} {f_p0_text' : (Nat → Int)} {i_p0_behind : Int32} {i_p0_behind' : Int} (fl : Nat) (e_i_p0_size : i_p0_size' = (i_p0_size).toInt) (e_f_p0_text : f_p0_text' = (t32 f_p0_text)) (e_i_p0_behind : i_p0_behind' = (i_p0_behind).toInt) : Ok Int32.toInt (m_Rd_skipIdle fl i_p0_size f_p0_text i_p0_behind) (LM_Rd_skipIdle fl i_p0_size' f_p0_text' i_p0_behind') := by
  unfold m_Rd_skipIdle LM_Rd_skipIdle
  exact (hB_Rd_skipIdle_0 fl e_i_p0_size e_f_p0_text fl e_i_p0_behind)
def LB_Rd_byteAt_0 (fl : Nat) (i_p0_size' : Int) (f_p0_text' : (Nat → Int)) (x1' : Int) : Option (Int) := (if x1' < (0 : Int) then (some ((10 : Int))) else (if i_p0_size' ≤ x1' then (some ((10 : Int))) else (if (0 ≤ x1' ∧ x1' < 4000) then (some ((f_p0_text' (Int.toNat x1')))) else none)))
theorem hB_Rd_byteAt_0 {i_p0_size : Int32} {i_p0_size' : Int} {f_p0_text : (Nat → Int32)} {f_p0_text' : (Nat → Int)} {x1 : Int32} {x1' : Int} (fl : Nat) (e_i_p0_size : i_p0_size' = (i_p0_size).toInt) (e_f_p0_text : f_p0_text' = (t32 f_p0_text)) (e_x1 : x1' = (x1).toInt) : Ok Int32.toInt (B_Rd_byteAt_0 fl i_p0_size f_p0_text x1) (LB_Rd_byteAt_0 fl i_p0_size' f_p0_text' x1') := by
  unfold B_Rd_byteAt_0 LB_Rd_byteAt_0
  refine lf_if (c_lt e_x1 k32_0) ?_ ?_
  · exact lf_some k32_10
  · refine lf_if (c_le e_i_p0_size e_x1) ?_ ?_
    · exact lf_some k32_10
    · refine lf_gd (fun h1 => ⟨(c_idx (n := 4000) (n' := 4000) rfl e_x1).1 h1, ?_⟩)
      exact lf_some (q_get e_f_p0_text (q_clamp e_x1))
def LM_Rd_byteAt (fl : Nat) (i_p0_size' : Int) (f_p0_text' : (Nat → Int)) (x1' : Int) : Option (Int) := (LB_Rd_byteAt_0 fl i_p0_size' f_p0_text' x1')
theorem hm_Rd_byteAt {i_p0_size : Int32} {i_p0_size' : Int} {f_p0_text : (Nat → Int32)} {f_p0_text' : (Nat → Int)} {x1 : Int32} {x1' : Int} (fl : Nat) (e_i_p0_size : i_p0_size' = (i_p0_size).toInt) (e_f_p0_text : f_p0_text' = (t32 f_p0_text)) (e_x1 : x1' = (x1).toInt) : Ok Int32.toInt (m_Rd_byteAt fl i_p0_size f_p0_text x1) (LM_Rd_byteAt fl i_p0_size' f_p0_text' x1') := by
  unfold m_Rd_byteAt LM_Rd_byteAt
  exact (hB_Rd_byteAt_0 fl e_i_p0_size e_f_p0_text e_x1)
def LB_Rd_isStray_12 (fl : Nat) (x0' : Int) : Option (Int) := (some ((1 : Int)))
theorem hB_Rd_isStray_12 {x0 : Int32} {x0' : Int} (fl : Nat) (e_x0 : x0' = (x0).toInt) : Ok Int32.toInt (B_Rd_isStray_12 fl x0) (LB_Rd_isStray_12 fl x0') := by
  unfold B_Rd_isStray_12 LB_Rd_isStray_12
  exact lf_some k32_1
def LB_Rd_isStray_0 (fl : Nat) (x0' : Int) : Option (Int) := (if x0' < (32 : Int) then (LB_Rd_isStray_12 fl x0') else (if x0' ≤ (126 : Int) then (some ((0 : Int))) else (LB_Rd_isStray_12 fl x0')))
theorem hB_Rd_isStray_0 {x0 : Int32} {x0' : Int} (fl : Nat) (e_x0 : x0' = (x0).toInt) : Ok Int32.toInt (B_Rd_isStray_0 fl x0) (LB_Rd_isStray_0 fl x0') := by
  unfold B_Rd_isStray_0 LB_Rd_isStray_0
  refine lf_if (c_lt e_x0 k32_32) ?_ ?_
  · exact (hB_Rd_isStray_12 fl e_x0)
  · refine lf_if (c_le e_x0 k32_126) ?_ ?_
    · exact lf_some k32_0
    · exact (hB_Rd_isStray_12 fl e_x0)
def LM_Rd_isStray (fl : Nat) (x0' : Int) : Option (Int) := (LB_Rd_isStray_0 fl x0')
theorem hm_Rd_isStray {x0 : Int32} {x0' : Int} (fl : Nat) (e_x0 : x0' = (x0).toInt) : Ok Int32.toInt (m_Rd_isStray fl x0) (LM_Rd_isStray fl x0') := by
  unfold m_Rd_isStray LM_Rd_isStray
  exact (hB_Rd_isStray_0 fl e_x0)
def LB_Rd_isLetter_24 (fl : Nat) (x0' : Int) : Option (Int) := (some ((1 : Int)))
theorem hB_Rd_isLetter_24 {x0 : Int32} {x0' : Int} (fl : Nat) (e_x0 : x0' = (x0).toInt) : Ok Int32.toInt (B_Rd_isLetter_24 fl x0) (LB_Rd_isLetter_24 fl x0') := by
  unfold B_Rd_isLetter_24 LB_Rd_isLetter_24
  exact lf_some k32_1
def LB_Rd_isLetter_12 (fl : Nat) (x0' : Int) : Option (Int) := (if x0' < (65 : Int) then (some ((0 : Int))) else (if (90 : Int) < x0' then (some ((0 : Int))) else (LB_Rd_isLetter_24 fl x0')))
theorem hB_Rd_isLetter_12 {x0 : Int32} {x0' : Int} (fl : Nat) (e_x0 : x0' = (x0).toInt) : Ok Int32.toInt (B_Rd_isLetter_12 fl x0) (LB_Rd_isLetter_12 fl x0') := by
  unfold B_Rd_isLetter_12 LB_Rd_isLetter_12
  refine lf_if (c_lt e_x0 k32_65) ?_ ?_
  · exact lf_some k32_0
  · refine lf_if (c_lt k32_90 e_x0) ?_ ?_
    · exact lf_some k32_0
    · exact (hB_Rd_isLetter_24 fl e_x0)
def LB_Rd_isLetter_0 (fl : Nat) (x0' : Int) : Option (Int) := (if x0' < (97 : Int) then (LB_Rd_isLetter_12 fl x0') else (if x0' ≤ (122 : Int) then (LB_Rd_isLetter_24 fl x0') else (LB_Rd_isLetter_12 fl x0')))
theorem hB_Rd_isLetter_0 {x0 : Int32} {x0' : Int} (fl : Nat) (e_x0 : x0' = (x0).toInt) : Ok Int32.toInt (B_Rd_isLetter_0 fl x0) (LB_Rd_isLetter_0 fl x0') := by
  unfold B_Rd_isLetter_0 LB_Rd_isLetter_0
  refine lf_if (c_lt e_x0 k32_97) ?_ ?_
  · exact (hB_Rd_isLetter_12 fl e_x0)
  · refine lf_if (c_le e_x0 k32_122) ?_ ?_
    · exact (hB_Rd_isLetter_24 fl e_x0)
    · exact (hB_Rd_isLetter_12 fl e_x0)
def LM_Rd_isLetter (fl : Nat) (x0' : Int) : Option (Int) := (LB_Rd_isLetter_0 fl x0')
theorem hm_Rd_isLetter {x0 : Int32} {x0' : Int} (fl : Nat) (e_x0 : x0' = (x0).toInt) : Ok Int32.toInt (m_Rd_isLetter fl x0) (LM_Rd_isLetter fl x0') := by
  unfold m_Rd_isLetter LM_Rd_isLetter
  exact (hB_Rd_isLetter_0 fl e_x0)
def LB_Rd_takeDigits_129 (fl : Nat) (i_p0_size' : Int) (i_p0_place' : Int) (f_p0_text' : (Nat → Int)) (s0' : Int) (x1' : Int) (x2' : Int) (i_p0_behind' : Int) (i_p0_value' : Int) (i_p0_misshapen' : Int) : Option (Int × Int × Int) := (if (s0' = (0 : Int)) ∨ (s0' = (1 : Int)) then (some (i_p0_behind', i_p0_value', s0')) else none)
theorem hB_Rd_takeDigits_129 {i_p0_size : Int32} {i_p0_size' : Int} {i_p0_place : Int32} {i_p0_place' : Int} {f_p0_text : (Nat → Int32)} {f_p0_text' : (Nat → Int)} {s0 : Int32} {s0' : Int} {x1 : Int32} {x1' : Int} {x2 : Int32} {x2' : Int} {i_p0_behind : Int32} {i_p0_behind' : Int} {i_p0_value : Int64} {i_p0_value' : Int} {i_p0_misshapen : Int32} {i_p0_misshapen' : Int} (fl : Nat) (e_i_p0_size : i_p0_size' = (i_p0_size).toInt) (e_i_p0_place : i_p0_place' = (i_p0_place).toInt) (e_f_p0_text : f_p0_text' = (t32 f_p0_text)) (e_s0 : s0' = (s0).toInt) (e_x1 : x1' = (x1).toInt) (e_x2 : x2' = (x2).toInt) (e_i_p0_behind : i_p0_behind' = (i_p0_behind).toInt) (e_i_p0_value : i_p0_value' = (i_p0_value).toInt) (e_i_p0_misshapen : i_p0_misshapen' = (i_p0_misshapen).toInt) : Ok (fun r => (r.1.toInt, r.2.1.toInt, r.2.2.toInt)) (B_Rd_takeDigits_129 fl i_p0_size i_p0_place f_p0_text s0 x1 x2 i_p0_behind i_p0_value i_p0_misshapen) (LB_Rd_takeDigits_129 fl i_p0_size' i_p0_place' f_p0_text' s0' x1' x2' i_p0_behind' i_p0_value' i_p0_misshapen') := by
  unfold B_Rd_takeDigits_129 LB_Rd_takeDigits_129
  refine lf_gd (fun h1 => ⟨(or_congr (c_eq e_s0 k32_0) (c_eq e_s0 k32_1)).1 h1, ?_⟩)
  exact lf_some (tup3 e_i_p0_behind e_i_p0_value e_s0)
def LB_Rd_takeDigits_124 (fl : Nat) (i_p0_size' : Int) (i_p0_place' : Int) (f_p0_text' : (Nat → Int)) (x1' : Int) (x2' : Int) (i_p0_behind' : Int) (i_p0_value' : Int) (i_p0_misshapen' : Int) : Option (Int × Int × Int) := (LB_Rd_takeDigits_129 fl i_p0_size' i_p0_place' f_p0_text' (1 : Int) x1' x2' i_p0_behind' i_p0_value' i_p0_misshapen')
theorem hB_Rd_takeDigits_124 {i_p0_size : Int32} {i_p0_size' : Int} {i_p0_place : Int32} {i_p0_place' : Int} {f_p0_text : (Nat → Int32)} {f_p0_text' : (Nat → Int)} {x1 : Int32} {x1' : Int} {x2 : Int32} {x2' : Int} {i_p0_behind : Int32} {i_p0_behind' : Int} {i_p0_value : Int64} {i_p0_value' : Int} {i_p0_misshapen : Int32} {i_p0_misshapen' : Int} (fl : Nat) (e_i_p0_size : i_p0_size' = (i_p0_size).toInt) (e_i_p0_place : i_p0_place' = (i_p0_place).toInt) (e_f_p0_text : f_p0_text' = (t32 f_p0_text)) (e_x1 : x1' = (x1).toInt) (e_x2 : x2' = (x2).toInt) (e_i_p0_behind : i_p0_behind' = (i_p0_behind).toInt) (e_i_p0_value : i_p0_value' = (i_p0_value).toInt) (e_i_p0_misshapen : i_p0_misshapen' = (i_p0_misshapen).toInt) : Ok (fun r => (r.1.toInt, r.2.1.toInt, r.2.2.toInt)) (B_Rd_takeDigits_124 fl i_p0_size i_p0_place f_p0_text x1 x2 i_p0_behind i_p0_value i_p0_misshapen) (LB_Rd_takeDigits_124 fl i_p0_size' i_p0_place' f_p0_text' x1' x2' i_p0_behind' i_p0_value' i_p0_misshapen') := by
  unfold B_Rd_takeDigits_124 LB_Rd_takeDigits_124
  exact (hB_Rd_takeDigits_129 fl e_i_p0_size e_i_p0_place e_f_p0_text k32_1 e_x1 e_x2 e_i_p0_behind e_i_p0_value e_i_p0_misshapen)
def LB_Rd_takeDigits_128 (fl : Nat) (i_p0_size' : Int) (i_p0_place' : Int) (f_p0_text' : (Nat → Int)) (x1' : Int) (x2' : Int) (i_p0_behind' : Int) (i_p0_value' : Int) (i_p0_misshapen' : Int) : Option (Int × Int × Int) := (LB_Rd_takeDigits_129 fl i_p0_size' i_p0_place' f_p0_text' (0 : Int) x1' x2' i_p0_behind' i_p0_value' i_p0_misshapen')
theorem hB_Rd_takeDigits_128 {i_p0_size : Int32} {i_p0_size' : Int} {i_p0_place : Int32} {i_p0_place' : Int} {f_p0_text : (Nat → Int32)} {f_p0_text' : (Nat → Int)} {x1 : Int32} {x1' : Int} {x2 : Int32} {x2' : Int} {i_p0_behind : Int32} {i_p0_behind' : Int} {i_p0_value : Int64} {i_p0_value' : Int} {i_p0_misshapen : Int32} {i_p0_misshapen' : Int} (fl : Nat) (e_i_p0_size : i_p0_size' = (i_p0_size).toInt) (e_i_p0_place : i_p0_place' = (i_p0_place).toInt) (e_f_p0_text : f_p0_text' = (t32 f_p0_text)) (e_x1 : x1' = (x1).toInt) (e_x2 : x2' = (x2).toInt) (e_i_p0_behind : i_p0_behind' = (i_p0_behind).toInt) (e_i_p0_value : i_p0_value' = (i_p0_value).toInt) (e_i_p0_misshapen : i_p0_misshapen' = (i_p0_misshapen).toInt) : Ok (fun r => (r.1.toInt, r.2.1.toInt, r.2.2.toInt)) (B_Rd_takeDigits_128 fl i_p0_size i_p0_place f_p0_text x1 x2 i_p0_behind i_p0_value i_p0_misshapen) (LB_Rd_takeDigits_128 fl i_p0_size' i_p0_place' f_p0_text' x1' x2' i_p0_behind' i_p0_value' i_p0_misshapen') := by
  unfold B_Rd_takeDigits_128 LB_Rd_takeDigits_128
  exact (hB_Rd_takeDigits_129 fl e_i_p0_size e_i_p0_place e_f_p0_text k32_0 e_x1 e_x2 e_i_p0_behind e_i_p0_value e_i_p0_misshapen)
def LB_Rd_takeDigits_98 (fl : Nat) (i_p0_size' : Int) (i_p0_place' : Int) (f_p0_text' : (Nat → Int)) (x1' : Int) (i_p0_behind' : Int) (i_p0_value' : Int) (i_p0_misshapen' : Int) : Option (Int × Int × Int) := (if (-2147483648 ≤ (i_p0_behind' - i_p0_place') ∧ (i_p0_behind' - i_p0_place') < 2147483648) then (if (18 : Int) < (i_p0_behind' - i_p0_place') then (LB_Rd_takeDigits_124 fl i_p0_size' i_p0_place' f_p0_text' x1' (i_p0_behind' - i_p0_place') i_p0_behind' i_p0_value' i_p0_misshapen') else (if (i_p0_behind' - i_p0_place') ≤ (1 : Int) then (LB_Rd_takeDigits_128 fl i_p0_size' i_p0_place' f_p0_text' x1' (i_p0_behind' - i_p0_place') i_p0_behind' i_p0_value' i_p0_misshapen') else (if ¬ (x1' = (0 : Int)) then (LB_Rd_takeDigits_128 fl i_p0_size' i_p0_place' f_p0_text' x1' (i_p0_behind' - i_p0_place') i_p0_behind' i_p0_value' i_p0_misshapen') else (LB_Rd_takeDigits_124 fl i_p0_size' i_p0_place' f_p0_text' x1' (i_p0_behind' - i_p0_place') i_p0_behind' i_p0_value' i_p0_misshapen')))) else none)
theorem hB_Rd_takeDigits_98 {i_p0_size : Int32} {i_p0_size' : Int} {i_p0_place : Int32} {i_p0_place' : Int} {f_p0_text : (Nat → Int32)} {f_p0_text' : (Nat → Int)} {x1 : Int32} {x1' : Int} {i_p0_behind : Int32} {i_p0_behind' : Int} {i_p0_value : Int64} {i_p0_value' : Int} {i_p0_misshapen : Int32} {i_p0_misshapen' : Int} (fl : Nat) (e_i_p0_size : i_p0_size' = (i_p0_size).toInt) (e_i_p0_place : i_p0_place' = (i_p0_place).toInt) (e_f_p0_text : f_p0_text' = (t32 f_p0_text)) (e_x1 : x1' = (x1).toInt) (e_i_p0_behind : i_p0_behind' = (i_p0_behind).toInt) (e_i_p0_value : i_p0_value' = (i_p0_value).toInt) (e_i_p0_misshapen : i_p0_misshapen' = (i_p0_misshapen).toInt) : Ok (fun r => (r.1.toInt, r.2.1.toInt, r.2.2.toInt)) (B_Rd_takeDigits_98 fl i_p0_size i_p0_place f_p0_text x1 i_p0_behind i_p0_value i_p0_misshapen) (LB_Rd_takeDigits_98 fl i_p0_size' i_p0_place' f_p0_text' x1' i_p0_behind' i_p0_value' i_p0_misshapen') := by
  unfold B_Rd_takeDigits_98 LB_Rd_takeDigits_98
  refine lf_guard (fun gg => ?_)
  have g1 := gg
  refine lf_if (c_lt k32_18 (q_sub e_i_p0_behind e_i_p0_place g1)) ?_ ?_
  · exact (hB_Rd_takeDigits_124 fl e_i_p0_size e_i_p0_place e_f_p0_text e_x1 (q_sub e_i_p0_behind e_i_p0_place g1) e_i_p0_behind e_i_p0_value e_i_p0_misshapen)
  · refine lf_if (c_le (q_sub e_i_p0_behind e_i_p0_place g1) k32_1) ?_ ?_
    · exact (hB_Rd_takeDigits_128 fl e_i_p0_size e_i_p0_place e_f_p0_text e_x1 (q_sub e_i_p0_behind e_i_p0_place g1) e_i_p0_behind e_i_p0_value e_i_p0_misshapen)
    · refine lf_if (not_congr (c_eq e_x1 k32_0)) ?_ ?_
      · exact (hB_Rd_takeDigits_128 fl e_i_p0_size e_i_p0_place e_f_p0_text e_x1 (q_sub e_i_p0_behind e_i_p0_place g1) e_i_p0_behind e_i_p0_value e_i_p0_misshapen)
      · exact (hB_Rd_takeDigits_124 fl e_i_p0_size e_i_p0_place e_f_p0_text e_x1 (q_sub e_i_p0_behind e_i_p0_place g1) e_i_p0_behind e_i_p0_value e_i_p0_misshapen)
def LB_Rd_takeDigits_85 (fl : Nat) (i_p0_size' : Int) (i_p0_place' : Int) (f_p0_text' : (Nat → Int)) (kb_6' : (Int → Int → Int → Int → Option (Int × Int × Int))) (x1' : Int) (i_p0_behind' : Int) (i_p0_value' : Int) (i_p0_misshapen' : Int) : Option (Int × Int × Int) := (if (-2147483648 ≤ (i_p0_behind' + (1 : Int)) ∧ (i_p0_behind' + (1 : Int)) < 2147483648) then (kb_6' x1' (i_p0_behind' + (1 : Int)) i_p0_value' i_p0_misshapen') else none)
theorem hB_Rd_takeDigits_85 {i_p0_size : Int32} {i_p0_size' : Int} {i_p0_place : Int32} {i_p0_place' : Int} {f_p0_text : (Nat → Int32)} {f_p0_text' : (Nat → Int)} {kb_6 : (Int32 → Int32 → Int64 → Int32 → Option (Int32 × Int64 × Int32))} {kb_6' : (Int → Int → Int → Int → Option (Int × Int × Int))} {x1 : Int32} {x1' : Int} {i_p0_behind : Int32} {i_p0_behind' : Int} {i_p0_value : Int64} {i_p0_value' : Int} {i_p0_misshapen : Int32} {i_p0_misshapen' : Int} (fl : Nat) (e_i_p0_size : i_p0_size' = (i_p0_size).toInt) (e_i_p0_place : i_p0_place' = (i_p0_place).toInt) (e_f_p0_text : f_p0_text' = (t32 f_p0_text)) (k_kb_6 : ∀ {z0 : Int32} {z0' : Int} {z1 : Int32} {z1' : Int} {z2 : Int64} {z2' : Int} {z3 : Int32} {z3' : Int} (e0 : z0' = (z0).toInt) (e1 : z1' = (z1).toInt) (e2 : z2' = (z2).toInt) (e3 : z3' = (z3).toInt), Ok (fun r => (r.1.toInt, r.2.1.toInt, r.2.2.toInt)) (kb_6 z0 z1 z2 z3) (kb_6' z0' z1' z2' z3')) (e_x1 : x1' = (x1).toInt) (e_i_p0_behind : i_p0_behind' = (i_p0_behind).toInt) (e_i_p0_value : i_p0_value' = (i_p0_value).toInt) (e_i_p0_misshapen : i_p0_misshapen' = (i_p0_misshapen).toInt) : Ok (fun r => (r.1.toInt, r.2.1.toInt, r.2.2.toInt)) (B_Rd_takeDigits_85 fl i_p0_size i_p0_place f_p0_text kb_6 x1 i_p0_behind i_p0_value i_p0_misshapen) (LB_Rd_takeDigits_85 fl i_p0_size' i_p0_place' f_p0_text' kb_6' x1' i_p0_behind' i_p0_value' i_p0_misshapen') := by
  unfold B_Rd_takeDigits_85 LB_Rd_takeDigits_85
  refine lf_guard (fun gg => ?_)
  have g1 := gg
  exact (k_kb_6 e_x1 (q_add e_i_p0_behind k32_1 g1) e_i_p0_value e_i_p0_misshapen)
def LB_Rd_takeDigits_6 (fl : Nat) (i_p0_size' : Int) (i_p0_place' : Int) (f_p0_text' : (Nat → Int)) : Nat → Int → Int → Int → Int → Option (Int × Int × Int)
  | 0, _, _, _, _ => none
  | nn + 1, x1', i_p0_behind', i_p0_value', i_p0_misshapen' => (if i_p0_size' ≤ i_p0_behind' then (LB_Rd_takeDigits_98 fl i_p0_size' i_p0_place' f_p0_text' x1' i_p0_behind' i_p0_value' i_p0_misshapen') else (if (0 ≤ i_p0_behind' ∧ i_p0_behind' < 4000) then (if (f_p0_text' (Int.toNat i_p0_behind')) < (48 : Int) then (LB_Rd_takeDigits_98 fl i_p0_size' i_p0_place' f_p0_text' x1' i_p0_behind' i_p0_value' i_p0_misshapen') else (if (57 : Int) < (f_p0_text' (Int.toNat i_p0_behind')) then (LB_Rd_takeDigits_98 fl i_p0_size' i_p0_place' f_p0_text' x1' i_p0_behind' i_p0_value' i_p0_misshapen') else (if (-2147483648 ≤ (i_p0_behind' - i_p0_place') ∧ (i_p0_behind' - i_p0_place') < 2147483648) then (if (18 : Int) ≤ (i_p0_behind' - i_p0_place') then (LB_Rd_takeDigits_85 fl i_p0_size' i_p0_place' f_p0_text' (LB_Rd_takeDigits_6 fl i_p0_size' i_p0_place' f_p0_text' nn) x1' i_p0_behind' i_p0_value' i_p0_misshapen') else (if (-9223372036854775808 ≤ ((10 : Int) * i_p0_value') ∧ ((10 : Int) * i_p0_value') < 9223372036854775808) ∧ (-2147483648 ≤ ((f_p0_text' (Int.toNat i_p0_behind')) - (48 : Int)) ∧ ((f_p0_text' (Int.toNat i_p0_behind')) - (48 : Int)) < 2147483648) ∧ (-9223372036854775808 ≤ (((10 : Int) * i_p0_value') + ((f_p0_text' (Int.toNat i_p0_behind')) - (48 : Int))) ∧ (((10 : Int) * i_p0_value') + ((f_p0_text' (Int.toNat i_p0_behind')) - (48 : Int))) < 9223372036854775808) then (LB_Rd_takeDigits_85 fl i_p0_size' i_p0_place' f_p0_text' (LB_Rd_takeDigits_6 fl i_p0_size' i_p0_place' f_p0_text' nn) x1' i_p0_behind' (((10 : Int) * i_p0_value') + ((f_p0_text' (Int.toNat i_p0_behind')) - (48 : Int))) i_p0_misshapen') else none)) else none))) else none))
theorem hB_Rd_takeDigits_6 {i_p0_size : Int32} {i_p0_size' : Int} {i_p0_place : Int32} {i_p0_place' : Int} {f_p0_text : (Nat → Int32)} {f_p0_text' : (Nat → Int)} (fl : Nat) (e_i_p0_size : i_p0_size' = (i_p0_size).toInt) (e_i_p0_place : i_p0_place' = (i_p0_place).toInt) (e_f_p0_text : f_p0_text' = (t32 f_p0_text)) : ∀ (nn : Nat) {x1 : Int32} {x1' : Int} {i_p0_behind : Int32} {i_p0_behind' : Int} {i_p0_value : Int64} {i_p0_value' : Int} {i_p0_misshapen : Int32} {i_p0_misshapen' : Int} (e_x1 : x1' = (x1).toInt) (e_i_p0_behind : i_p0_behind' = (i_p0_behind).toInt) (e_i_p0_value : i_p0_value' = (i_p0_value).toInt) (e_i_p0_misshapen : i_p0_misshapen' = (i_p0_misshapen).toInt), Ok (fun r => (r.1.toInt, r.2.1.toInt, r.2.2.toInt)) (B_Rd_takeDigits_6 fl i_p0_size i_p0_place f_p0_text nn x1 i_p0_behind i_p0_value i_p0_misshapen) (LB_Rd_takeDigits_6 fl i_p0_size' i_p0_place' f_p0_text' nn x1' i_p0_behind' i_p0_value' i_p0_misshapen') := by
  intro nn
  induction nn with
  | zero => intro x1 x1' i_p0_behind i_p0_behind' i_p0_value i_p0_value' i_p0_misshapen i_p0_misshapen' e_x1 e_i_p0_behind e_i_p0_value e_i_p0_misshapen; exact lf_none
  | succ nn ih =>
    intro x1 x1' i_p0_behind i_p0_behind' i_p0_value i_p0_value' i_p0_misshapen i_p0_misshapen' e_x1 e_i_p0_behind e_i_p0_value e_i_p0_misshapen
    rw [B_Rd_takeDigits_6, LB_Rd_takeDigits_6]
    refine lf_if (c_le e_i_p0_size e_i_p0_behind) ?_ ?_
    · exact (hB_Rd_takeDigits_98 fl e_i_p0_size e_i_p0_place e_f_p0_text e_x1 e_i_p0_behind e_i_p0_value e_i_p0_misshapen)
    · refine lf_gd (fun h1 => ⟨(c_idx (n := 4000) (n' := 4000) rfl e_i_p0_behind).1 h1, ?_⟩)
      refine lf_if (c_lt (q_get e_f_p0_text (q_clamp e_i_p0_behind)) k32_48) ?_ ?_
      · exact (hB_Rd_takeDigits_98 fl e_i_p0_size e_i_p0_place e_f_p0_text e_x1 e_i_p0_behind e_i_p0_value e_i_p0_misshapen)
      · refine lf_pos ((c_idx (n := 4000) (n' := 4000) rfl e_i_p0_behind).1 h1) ?_
        refine lf_if (c_lt k32_57 (q_get e_f_p0_text (q_clamp e_i_p0_behind))) ?_ ?_
        · exact (hB_Rd_takeDigits_98 fl e_i_p0_size e_i_p0_place e_f_p0_text e_x1 e_i_p0_behind e_i_p0_value e_i_p0_misshapen)
        · refine lf_guard (fun gg => ?_)
          have g2 := gg
          refine lf_if (c_le k32_18 (q_sub e_i_p0_behind e_i_p0_place g2)) ?_ ?_
          · exact (hB_Rd_takeDigits_85 fl e_i_p0_size e_i_p0_place e_f_p0_text ih e_x1 e_i_p0_behind e_i_p0_value e_i_p0_misshapen)
          · refine lf_pos ((c_idx (n := 4000) (n' := 4000) rfl e_i_p0_behind).1 h1) ?_
            refine lf_guard (fun gg => ?_)
            obtain ⟨g3, g4, g5⟩ := gg
            exact (hB_Rd_takeDigits_85 fl e_i_p0_size e_i_p0_place e_f_p0_text ih e_x1 e_i_p0_behind (p_add (p_mul k64_10 e_i_p0_value g3) (p_ext (q_sub (q_get e_f_p0_text (q_clamp e_i_p0_behind)) k32_48 g4)) g5) e_i_p0_misshapen)
def LB_Rd_takeDigits_0 (fl : Nat) (i_p0_size' : Int) (i_p0_place' : Int) (f_p0_text' : (Nat → Int)) (x1' : Int) (i_p0_behind' : Int) (i_p0_value' : Int) (i_p0_misshapen' : Int) : Option (Int × Int × Int) := (LB_Rd_takeDigits_6 fl i_p0_size' i_p0_place' f_p0_text' fl x1' i_p0_behind' x1' i_p0_misshapen')
theorem hB_Rd_takeDigits_0 {i_p0_size : Int32} {i_p0_size' : Int} {i_p0_place : Int32} {i_p0_place' : Int} {f_p0_text : (Nat → Int32)} {f_p0_text' : (Nat → Int)} {x1 : Int32} {x1' : Int} {i_p0_behind : Int32} {i_p0_behind' : Int} {i_p0_value : Int64} {i_p0_value' : Int} {i_p0_misshapen : Int32} {i_p0_misshapen' : Int} (fl : Nat) (e_i_p0_size : i_p0_size' = (i_p0_size).toInt) (e_i_p0_place : i_p0_place' = (i_p0_place).toInt) (e_f_p0_text : f_p0_text' = (t32 f_p0_text)) (e_x1 : x1' = (x1).toInt) (e_i_p0_behind : i_p0_behind' = (i_p0_behind).toInt) (e_i_p0_value : i_p0_value' = (i_p0_value).toInt) (e_i_p0_misshapen : i_p0_misshapen' = (i_p0_misshapen).toInt) : Ok (fun r => (r.1.toInt, r.2.1.toInt, r.2.2.toInt)) (B_Rd_takeDigits_0 fl i_p0_size i_p0_place f_p0_text x1 i_p0_behind i_p0_value i_p0_misshapen) (LB_Rd_takeDigits_0 fl i_p0_size' i_p0_place' f_p0_text' x1' i_p0_behind' i_p0_value' i_p0_misshapen') := by
  unfold B_Rd_takeDigits_0 LB_Rd_takeDigits_0
  exact (hB_Rd_takeDigits_6 fl e_i_p0_size e_i_p0_place e_f_p0_text fl e_x1 e_i_p0_behind (p_ext e_x1) e_i_p0_misshapen)
def LM_Rd_takeDigits (fl : Nat) (i_p0_size' : Int) (i_p0_place' : Int) (f_p0_text' : (Nat → Int)) (x1' : Int) (i_p0_behind' : Int) (i_p0_value' : Int) (i_p0_misshapen' : Int) : Option (Int × Int × Int) := (LB_Rd_takeDigits_0 fl i_p0_size' i_p0_place' f_p0_text' x1' i_p0_behind' i_p0_value' i_p0_misshapen')
theorem hm_Rd_takeDigits {i_p0_size : Int32} {i_p0_size' : Int} {i_p0_place : Int32} {i_p0_place' : Int} {f_p0_text : (Nat → Int32)} {f_p0_text' : (Nat → Int)} {x1 : Int32} {x1' : Int} {i_p0_behind : Int32} {i_p0_behind' : Int} {i_p0_value : Int64} {i_p0_value' : Int} {i_p0_misshapen : Int32} {i_p0_misshapen' : Int} (fl : Nat) (e_i_p0_size : i_p0_size' = (i_p0_size).toInt) (e_i_p0_place : i_p0_place' = (i_p0_place).toInt) (e_f_p0_text : f_p0_text' = (t32 f_p0_text)) (e_x1 : x1' = (x1).toInt) (e_i_p0_behind : i_p0_behind' = (i_p0_behind).toInt) (e_i_p0_value : i_p0_value' = (i_p0_value).toInt) (e_i_p0_misshapen : i_p0_misshapen' = (i_p0_misshapen).toInt) : Ok (fun r => (r.1.toInt, r.2.1.toInt, r.2.2.toInt)) (m_Rd_takeDigits fl i_p0_size i_p0_place f_p0_text x1 i_p0_behind i_p0_value i_p0_misshapen) (LM_Rd_takeDigits fl i_p0_size' i_p0_place' f_p0_text' x1' i_p0_behind' i_p0_value' i_p0_misshapen') := by
  unfold m_Rd_takeDigits LM_Rd_takeDigits
  exact (hB_Rd_takeDigits_0 fl e_i_p0_size e_i_p0_place e_f_p0_text e_x1 e_i_p0_behind e_i_p0_value e_i_p0_misshapen)
def LB_En_wordOf_0 (fl : Nat) (x0' : Int) : Option (Nat) := (if x0' = (1 : Int) then (some (0)) else (if x0' = (2 : Int) then (some (1)) else (if x0' = (3 : Int) then (some (2)) else (if x0' = (4 : Int) then (some (3)) else (if x0' = (5 : Int) then (some (4)) else (if x0' = (6 : Int) then (some (5)) else (if x0' = (7 : Int) then (some (6)) else (if x0' = (8 : Int) then (some (7)) else (if x0' = (9 : Int) then (some (8)) else (if x0' = (10 : Int) then (some (9)) else (if x0' = (11 : Int) then (some (10)) else (if x0' = (12 : Int) then (some (11)) else (if x0' = (13 : Int) then (some (12)) else (if x0' = (14 : Int) then (some (13)) else (if x0' = (15 : Int) then (some (14)) else (if x0' = (16 : Int) then (some (15)) else (if x0' = (17 : Int) then (some (16)) else (if x0' = (18 : Int) then (some (17)) else (some (18))))))))))))))))))))
theorem hB_En_wordOf_0 {x0 : Int32} {x0' : Int} (fl : Nat) (e_x0 : x0' = (x0).toInt) : Ok (id : Nat → Nat) (B_En_wordOf_0 fl x0) (LB_En_wordOf_0 fl x0') := by
  unfold B_En_wordOf_0 LB_En_wordOf_0
  refine lf_if (c_eq e_x0 k32_1) ?_ ?_
  · exact lf_some (rfl : (0 : Nat) = 0)
  · refine lf_if (c_eq e_x0 k32_2) ?_ ?_
    · exact lf_some (rfl : (1 : Nat) = 1)
    · refine lf_if (c_eq e_x0 k32_3) ?_ ?_
      · exact lf_some (rfl : (2 : Nat) = 2)
      · refine lf_if (c_eq e_x0 k32_4) ?_ ?_
        · exact lf_some (rfl : (3 : Nat) = 3)
        · refine lf_if (c_eq e_x0 k32_5) ?_ ?_
          · exact lf_some (rfl : (4 : Nat) = 4)
          · refine lf_if (c_eq e_x0 k32_6) ?_ ?_
            · exact lf_some (rfl : (5 : Nat) = 5)
            · refine lf_if (c_eq e_x0 k32_7) ?_ ?_
              · exact lf_some (rfl : (6 : Nat) = 6)
              · refine lf_if (c_eq e_x0 k32_8) ?_ ?_
                · exact lf_some (rfl : (7 : Nat) = 7)
                · refine lf_if (c_eq e_x0 k32_9) ?_ ?_
                  · exact lf_some (rfl : (8 : Nat) = 8)
                  · refine lf_if (c_eq e_x0 k32_10) ?_ ?_
                    · exact lf_some (rfl : (9 : Nat) = 9)
                    · refine lf_if (c_eq e_x0 k32_11) ?_ ?_
                      · exact lf_some (rfl : (10 : Nat) = 10)
                      · refine lf_if (c_eq e_x0 k32_12) ?_ ?_
                        · exact lf_some (rfl : (11 : Nat) = 11)
                        · refine lf_if (c_eq e_x0 k32_13) ?_ ?_
                          · exact lf_some (rfl : (12 : Nat) = 12)
                          · refine lf_if (c_eq e_x0 k32_14) ?_ ?_
                            · exact lf_some (rfl : (13 : Nat) = 13)
                            · refine lf_if (c_eq e_x0 k32_15) ?_ ?_
                              · exact lf_some (rfl : (14 : Nat) = 14)
                              · refine lf_if (c_eq e_x0 k32_16) ?_ ?_
                                · exact lf_some (rfl : (15 : Nat) = 15)
                                · refine lf_if (c_eq e_x0 k32_17) ?_ ?_
                                  · exact lf_some (rfl : (16 : Nat) = 16)
                                  · refine lf_if (c_eq e_x0 k32_18) ?_ ?_
                                    · exact lf_some (rfl : (17 : Nat) = 17)
                                    · exact lf_some (rfl : (18 : Nat) = 18)
def LM_En_wordOf (fl : Nat) (x0' : Int) : Option (Nat) := (LB_En_wordOf_0 fl x0')
theorem hm_En_wordOf {x0 : Int32} {x0' : Int} (fl : Nat) (e_x0 : x0' = (x0).toInt) : Ok (id : Nat → Nat) (m_En_wordOf fl x0) (LM_En_wordOf fl x0') := by
  unfold m_En_wordOf LM_En_wordOf
  exact (hB_En_wordOf_0 fl e_x0)
def LB_Rd_isWord_28 (fl : Nat) (i_p0_behind' : Int) (i_p0_token' : Int) (i_p0_place' : Int) (f_p0_text' : (Nat → Int)) : Nat → Nat → Int → Option (Int)
  | 0, _, _ => none
  | nn + 1, x1, x2' => (if x1 < 79 then (if ((strL.getD x1 0 : Nat) : Int) ≤ x2' then (some ((1 : Int))) else (if (0 ≤ (i_p0_place' + x2') ∧ (i_p0_place' + x2') < 4000) then (if (x1 < 79) ∧ ((¬ (x2' < (0 : Int))) ∧ (x2' < ((strL.getD x1 0 : Nat) : Int))) then (if (f_p0_text' (Int.toNat (i_p0_place' + x2'))) = ((strI.getD x1 []).getD (Int.toNat x2') 0) then (if (-2147483648 ≤ (x2' + (1 : Int)) ∧ (x2' + (1 : Int)) < 2147483648) then (LB_Rd_isWord_28 fl i_p0_behind' i_p0_token' i_p0_place' f_p0_text' nn x1 (x2' + (1 : Int))) else none) else (some ((0 : Int)))) else none) else none)) else none)
theorem hB_Rd_isWord_28 {i_p0_behind : Int32} {i_p0_behind' : Int} {i_p0_token : Int32} {i_p0_token' : Int} {i_p0_place : Int32} {i_p0_place' : Int} {f_p0_text : (Nat → Int32)} {f_p0_text' : (Nat → Int)} (fl : Nat) (e_i_p0_behind : i_p0_behind' = (i_p0_behind).toInt) (e_i_p0_token : i_p0_token' = (i_p0_token).toInt) (e_i_p0_place : i_p0_place' = (i_p0_place).toInt) (e_f_p0_text : f_p0_text' = (t32 f_p0_text)) : ∀ (nn : Nat) {x2 : Int32} {x2' : Int} (x1 : Nat) (e_x2 : x2' = (x2).toInt), Ok Int32.toInt (B_Rd_isWord_28 fl i_p0_behind i_p0_token i_p0_place f_p0_text nn x1 x2) (LB_Rd_isWord_28 fl i_p0_behind' i_p0_token' i_p0_place' f_p0_text' nn x1 x2') := by
  intro nn
  induction nn with
  | zero => intro x2 x2' x1 e_x2; exact lf_none
  | succ nn ih =>
    intro x2 x2' x1 e_x2
    rw [B_Rd_isWord_28, LB_Rd_isWord_28]
    refine lf_gd (fun h1 => ⟨(c_nlt rfl rfl).1 h1, ?_⟩)
    refine lf_if (c_le (q_len x1) e_x2) ?_ ?_
    · exact lf_some k32_1
    · refine lf_gd (fun h3 => ⟨(c_idx (n := 4000) (n' := 4000) rfl (q_add e_i_p0_place e_x2 (ri h3 (by decide)))).1 h3, ?_⟩)
      refine lf_gd (fun h4 => ⟨(and_congr (c_nlt rfl rfl) (and_congr (not_congr (c_lt e_x2 k32_0)) (c_lt e_x2 (q_len x1)))).1 h4, ?_⟩)
      refine lf_if (c_eq (q_get e_f_p0_text (q_clamp (q_add e_i_p0_place e_x2 (ri h3 (by decide))))) (q_chr (q_clamp e_x2))) ?_ ?_
      · refine lf_guard (fun gg => ?_)
        have g5 := gg
        exact (ih x1 (q_add e_x2 k32_1 g5))
      · exact lf_some k32_0
def LB_Rd_isWord_0 (fl : Nat) (i_p0_behind' : Int) (i_p0_token' : Int) (i_p0_place' : Int) (f_p0_text' : (Nat → Int)) (x1 : Nat) : Option (Int) := (if ¬ (i_p0_token' = (2 : Int)) then (some ((0 : Int))) else (if x1 < 79 then (if (-2147483648 ≤ (i_p0_behind' - i_p0_place') ∧ (i_p0_behind' - i_p0_place') < 2147483648) then (if (i_p0_behind' - i_p0_place') = ((strL.getD x1 0 : Nat) : Int) then (LB_Rd_isWord_28 fl i_p0_behind' i_p0_token' i_p0_place' f_p0_text' fl x1 (0 : Int)) else (some ((0 : Int)))) else none) else none))
theorem hB_Rd_isWord_0 {i_p0_behind : Int32} {i_p0_behind' : Int} {i_p0_token : Int32} {i_p0_token' : Int} {i_p0_place : Int32} {i_p0_place' : Int} {f_p0_text : (Nat → Int32)} {f_p0_text' : (Nat → Int)} (fl : Nat) (e_i_p0_behind : i_p0_behind' = (i_p0_behind).toInt) (e_i_p0_token : i_p0_token' = (i_p0_token).toInt) (e_i_p0_place : i_p0_place' = (i_p0_place).toInt) (e_f_p0_text : f_p0_text' = (t32 f_p0_text)) (x1 : Nat) : Ok Int32.toInt (B_Rd_isWord_0 fl i_p0_behind i_p0_token i_p0_place f_p0_text x1) (LB_Rd_isWord_0 fl i_p0_behind' i_p0_token' i_p0_place' f_p0_text' x1) := by
  unfold B_Rd_isWord_0 LB_Rd_isWord_0
  refine lf_if (not_congr (c_eq e_i_p0_token k32_2)) ?_ ?_
  · exact lf_some k32_0
  · refine lf_gd (fun h1 => ⟨(c_nlt rfl rfl).1 h1, ?_⟩)
    refine lf_guard (fun gg => ?_)
    have g2 := gg
    refine lf_if (c_eq (q_sub e_i_p0_behind e_i_p0_place g2) (q_len x1)) ?_ ?_
    · exact (hB_Rd_isWord_28 fl e_i_p0_behind e_i_p0_token e_i_p0_place e_f_p0_text fl x1 k32_0)
    · exact lf_some k32_0
def LM_Rd_isWord (fl : Nat) (i_p0_behind' : Int) (i_p0_token' : Int) (i_p0_place' : Int) (f_p0_text' : (Nat → Int)) (x1 : Nat) : Option (Int) := (LB_Rd_isWord_0 fl i_p0_behind' i_p0_token' i_p0_place' f_p0_text' x1)
theorem hm_Rd_isWord {i_p0_behind : Int32} {i_p0_behind' : Int} {i_p0_token : Int32} {i_p0_token' : Int} {i_p0_place : Int32} {i_p0_place' : Int} {f_p0_text : (Nat → Int32)} {f_p0_text' : (Nat → Int)} (fl : Nat) (e_i_p0_behind : i_p0_behind' = (i_p0_behind).toInt) (e_i_p0_token : i_p0_token' = (i_p0_token).toInt) (e_i_p0_place : i_p0_place' = (i_p0_place).toInt) (e_f_p0_text : f_p0_text' = (t32 f_p0_text)) (x1 : Nat) : Ok Int32.toInt (m_Rd_isWord fl i_p0_behind i_p0_token i_p0_place f_p0_text x1) (LM_Rd_isWord fl i_p0_behind' i_p0_token' i_p0_place' f_p0_text' x1) := by
  unfold m_Rd_isWord LM_Rd_isWord
  exact (hB_Rd_isWord_0 fl e_i_p0_behind e_i_p0_token e_i_p0_place e_f_p0_text x1)
def LB_Rd_refuse_58 (fl : Nat) (i_p0_token' : Int) (i_p0_place' : Int) (i_p0_value' : Int) (i_p0_misshapen' : Int) (x1' : Int) (i_p0_faultFound' : Int) (i_p0_faultPlace' : Int) : Option (Int × Int × Int) := (some ((0 : Int), x1', i_p0_faultPlace'))
theorem hB_Rd_refuse_58 {i_p0_token : Int32} {i_p0_token' : Int} {i_p0_place : Int32} {i_p0_place' : Int} {i_p0_value : Int64} {i_p0_value' : Int} {i_p0_misshapen : Int32} {i_p0_misshapen' : Int} {x1 : Int32} {x1' : Int} {i_p0_faultFound : Int32} {i_p0_faultFound' : Int} {i_p0_faultPlace : Int32} {i_p0_faultPlace' : Int} (fl : Nat) (e_i_p0_token : i_p0_token' = (i_p0_token).toInt) (e_i_p0_place : i_p0_place' = (i_p0_place).toInt) (e_i_p0_value : i_p0_value' = (i_p0_value).toInt) (e_i_p0_misshapen : i_p0_misshapen' = (i_p0_misshapen).toInt) (e_x1 : x1' = (x1).toInt) (e_i_p0_faultFound : i_p0_faultFound' = (i_p0_faultFound).toInt) (e_i_p0_faultPlace : i_p0_faultPlace' = (i_p0_faultPlace).toInt) : Ok (fun r => (r.1.toInt, r.2.1.toInt, r.2.2.toInt)) (B_Rd_refuse_58 fl i_p0_token i_p0_place i_p0_value i_p0_misshapen x1 i_p0_faultFound i_p0_faultPlace) (LB_Rd_refuse_58 fl i_p0_token' i_p0_place' i_p0_value' i_p0_misshapen' x1' i_p0_faultFound' i_p0_faultPlace') := by
  unfold B_Rd_refuse_58 LB_Rd_refuse_58
  exact lf_some (tup3 k32_0 e_x1 e_i_p0_faultPlace)
def LB_Rd_refuse_50 (fl : Nat) (i_p0_token' : Int) (i_p0_place' : Int) (i_p0_value' : Int) (i_p0_misshapen' : Int) (x1' : Int) (i_p0_faultFound' : Int) (i_p0_faultPlace' : Int) : Option (Int × Int × Int) := (some ((0 : Int), (2 : Int), i_p0_faultPlace'))
theorem hB_Rd_refuse_50 {i_p0_token : Int32} {i_p0_token' : Int} {i_p0_place : Int32} {i_p0_place' : Int} {i_p0_value : Int64} {i_p0_value' : Int} {i_p0_misshapen : Int32} {i_p0_misshapen' : Int} {x1 : Int32} {x1' : Int} {i_p0_faultFound : Int32} {i_p0_faultFound' : Int} {i_p0_faultPlace : Int32} {i_p0_faultPlace' : Int} (fl : Nat) (e_i_p0_token : i_p0_token' = (i_p0_token).toInt) (e_i_p0_place : i_p0_place' = (i_p0_place).toInt) (e_i_p0_value : i_p0_value' = (i_p0_value).toInt) (e_i_p0_misshapen : i_p0_misshapen' = (i_p0_misshapen).toInt) (e_x1 : x1' = (x1).toInt) (e_i_p0_faultFound : i_p0_faultFound' = (i_p0_faultFound).toInt) (e_i_p0_faultPlace : i_p0_faultPlace' = (i_p0_faultPlace).toInt) : Ok (fun r => (r.1.toInt, r.2.1.toInt, r.2.2.toInt)) (B_Rd_refuse_50 fl i_p0_token i_p0_place i_p0_value i_p0_misshapen x1 i_p0_faultFound i_p0_faultPlace) (LB_Rd_refuse_50 fl i_p0_token' i_p0_place' i_p0_value' i_p0_misshapen' x1' i_p0_faultFound' i_p0_faultPlace') := by
  unfold B_Rd_refuse_50 LB_Rd_refuse_50
  exact lf_some (tup3 k32_0 k32_2 e_i_p0_faultPlace)
def LB_Rd_refuse_0 (fl : Nat) (i_p0_token' : Int) (i_p0_place' : Int) (i_p0_value' : Int) (i_p0_misshapen' : Int) (x1' : Int) (i_p0_faultFound' : Int) (i_p0_faultPlace' : Int) : Option (Int × Int × Int) := (if ¬ (i_p0_token' = (1 : Int)) then (if ¬ (i_p0_token' = (3 : Int)) then (LB_Rd_refuse_58 fl i_p0_token' i_p0_place' i_p0_value' i_p0_misshapen' x1' i_p0_faultFound' i_p0_place') else (if ¬ (i_p0_misshapen' = (0 : Int)) then (LB_Rd_refuse_50 fl i_p0_token' i_p0_place' i_p0_value' i_p0_misshapen' x1' i_p0_faultFound' i_p0_place') else (if i_p0_value' ≤ (9999 : Int) then (LB_Rd_refuse_58 fl i_p0_token' i_p0_place' i_p0_value' i_p0_misshapen' x1' i_p0_faultFound' i_p0_place') else (LB_Rd_refuse_50 fl i_p0_token' i_p0_place' i_p0_value' i_p0_misshapen' x1' i_p0_faultFound' i_p0_place')))) else (some ((0 : Int), (1 : Int), i_p0_place')))
theorem hB_Rd_refuse_0 {i_p0_token : Int32} {i_p0_token' : Int} {i_p0_place : Int32} {i_p0_place' : Int} {i_p0_value : Int64} {i_p0_value' : Int} {i_p0_misshapen : Int32} {i_p0_misshapen' : Int} {x1 : Int32} {x1' : Int} {i_p0_faultFound : Int32} {i_p0_faultFound' : Int} {i_p0_faultPlace : Int32} {i_p0_faultPlace' : Int} (fl : Nat) (e_i_p0_token : i_p0_token' = (i_p0_token).toInt) (e_i_p0_place : i_p0_place' = (i_p0_place).toInt) (e_i_p0_value : i_p0_value' = (i_p0_value).toInt) (e_i_p0_misshapen : i_p0_misshapen' = (i_p0_misshapen).toInt) (e_x1 : x1' = (x1).toInt) (e_i_p0_faultFound : i_p0_faultFound' = (i_p0_faultFound).toInt) (e_i_p0_faultPlace : i_p0_faultPlace' = (i_p0_faultPlace).toInt) : Ok (fun r => (r.1.toInt, r.2.1.toInt, r.2.2.toInt)) (B_Rd_refuse_0 fl i_p0_token i_p0_place i_p0_value i_p0_misshapen x1 i_p0_faultFound i_p0_faultPlace) (LB_Rd_refuse_0 fl i_p0_token' i_p0_place' i_p0_value' i_p0_misshapen' x1' i_p0_faultFound' i_p0_faultPlace') := by
  unfold B_Rd_refuse_0 LB_Rd_refuse_0
  refine lf_if (not_congr (c_eq e_i_p0_token k32_1)) ?_ ?_
  · refine lf_if (not_congr (c_eq e_i_p0_token k32_3)) ?_ ?_
    · exact (hB_Rd_refuse_58 fl e_i_p0_token e_i_p0_place e_i_p0_value e_i_p0_misshapen e_x1 e_i_p0_faultFound e_i_p0_place)
    · refine lf_if (not_congr (c_eq e_i_p0_misshapen k32_0)) ?_ ?_
      · exact (hB_Rd_refuse_50 fl e_i_p0_token e_i_p0_place e_i_p0_value e_i_p0_misshapen e_x1 e_i_p0_faultFound e_i_p0_place)
      · refine lf_if (g_le0 e_i_p0_value k64_9999) ?_ ?_
        · exact (hB_Rd_refuse_58 fl e_i_p0_token e_i_p0_place e_i_p0_value e_i_p0_misshapen e_x1 e_i_p0_faultFound e_i_p0_place)
        · exact (hB_Rd_refuse_50 fl e_i_p0_token e_i_p0_place e_i_p0_value e_i_p0_misshapen e_x1 e_i_p0_faultFound e_i_p0_place)
  · exact lf_some (tup3 k32_0 k32_1 e_i_p0_place)
def LM_Rd_refuse (fl : Nat) (i_p0_token' : Int) (i_p0_place' : Int) (i_p0_value' : Int) (i_p0_misshapen' : Int) (x1' : Int) (i_p0_faultFound' : Int) (i_p0_faultPlace' : Int) : Option (Int × Int × Int) := (LB_Rd_refuse_0 fl i_p0_token' i_p0_place' i_p0_value' i_p0_misshapen' x1' i_p0_faultFound' i_p0_faultPlace')
theorem hm_Rd_refuse {i_p0_token : Int32} {i_p0_token' : Int} {i_p0_place : Int32} {i_p0_place' : Int} {i_p0_value : Int64} {i_p0_value' : Int} {i_p0_misshapen : Int32} {i_p0_misshapen' : Int} {x1 : Int32} {x1' : Int} {i_p0_faultFound : Int32} {i_p0_faultFound' : Int} {i_p0_faultPlace : Int32} {i_p0_faultPlace' : Int} (fl : Nat) (e_i_p0_token : i_p0_token' = (i_p0_token).toInt) (e_i_p0_place : i_p0_place' = (i_p0_place).toInt) (e_i_p0_value : i_p0_value' = (i_p0_value).toInt) (e_i_p0_misshapen : i_p0_misshapen' = (i_p0_misshapen).toInt) (e_x1 : x1' = (x1).toInt) (e_i_p0_faultFound : i_p0_faultFound' = (i_p0_faultFound).toInt) (e_i_p0_faultPlace : i_p0_faultPlace' = (i_p0_faultPlace).toInt) : Ok (fun r => (r.1.toInt, r.2.1.toInt, r.2.2.toInt)) (m_Rd_refuse fl i_p0_token i_p0_place i_p0_value i_p0_misshapen x1 i_p0_faultFound i_p0_faultPlace) (LM_Rd_refuse fl i_p0_token' i_p0_place' i_p0_value' i_p0_misshapen' x1' i_p0_faultFound' i_p0_faultPlace') := by
  unfold m_Rd_refuse LM_Rd_refuse
  exact (hB_Rd_refuse_0 fl e_i_p0_token e_i_p0_place e_i_p0_value e_i_p0_misshapen e_x1 e_i_p0_faultFound e_i_p0_faultPlace)
def LB_Li_isFull_0 (fl : Nat) (i_p0_count' : Int) : Option (Int) := (if i_p0_count' < (64 : Int) then (some ((0 : Int))) else (some ((1 : Int))))
theorem hB_Li_isFull_0 {i_p0_count : Int32} {i_p0_count' : Int} (fl : Nat) (e_i_p0_count : i_p0_count' = (i_p0_count).toInt) : Ok Int32.toInt (B_Li_isFull_0 fl i_p0_count) (LB_Li_isFull_0 fl i_p0_count') := by
  unfold B_Li_isFull_0 LB_Li_isFull_0
  refine lf_if (c_lt e_i_p0_count k32_64) ?_ ?_
  · exact lf_some k32_0
  · exact lf_some k32_1
def LM_Li_isFull (fl : Nat) (i_p0_count' : Int) : Option (Int) := (LB_Li_isFull_0 fl i_p0_count')
theorem hm_Li_isFull {i_p0_count : Int32} {i_p0_count' : Int} (fl : Nat) (e_i_p0_count : i_p0_count' = (i_p0_count).toInt) : Ok Int32.toInt (m_Li_isFull fl i_p0_count) (LM_Li_isFull fl i_p0_count') := by
  unfold m_Li_isFull LM_Li_isFull
  exact (hB_Li_isFull_0 fl e_i_p0_count)
def LB_Li_open_0 (fl : Nat) (x1' : Int) (i_p0_count' : Int) (f_p0_kind' : (Nat → Int)) (f_p0_start' : (Nat → Int)) : Option (Int × (Nat → Int) × (Nat → Int)) := (if (64 : Int) ≤ i_p0_count' then (some (i_p0_count', f_p0_kind', f_p0_start')) else (if (0 ≤ i_p0_count' ∧ i_p0_count' < 64) then (if (0 ≤ i_p0_count' ∧ i_p0_count' < 65) then (if (0 ≤ (i_p0_count' + (1 : Int)) ∧ (i_p0_count' + (1 : Int)) < 65) then (some ((i_p0_count' + (1 : Int)), (up f_p0_kind' (Int.toNat i_p0_count') x1'), (up f_p0_start' (Int.toNat (i_p0_count' + (1 : Int))) (f_p0_start' (Int.toNat i_p0_count'))))) else none) else none) else none))
theorem hB_Li_open_0 {x1 : Int32} {x1' : Int} {i_p0_count : Int32} {i_p0_count' : Int} {f_p0_kind : (Nat → Int32)} {f_p0_kind' : (Nat → Int)} {f_p0_start : (Nat → Int32)} {f_p0_start' : (Nat → Int)} (fl : Nat) (e_x1 : x1' = (x1).toInt) (e_i_p0_count : i_p0_count' = (i_p0_count).toInt) (e_f_p0_kind : f_p0_kind' = (t32 f_p0_kind)) (e_f_p0_start : f_p0_start' = (t32 f_p0_start)) : Ok (fun r => (r.1.toInt, t32 r.2.1, t32 r.2.2)) (B_Li_open_0 fl x1 i_p0_count f_p0_kind f_p0_start) (LB_Li_open_0 fl x1' i_p0_count' f_p0_kind' f_p0_start') := by
  unfold B_Li_open_0 LB_Li_open_0
  refine lf_if (c_le k32_64 e_i_p0_count) ?_ ?_
  · exact lf_some (tup3 e_i_p0_count e_f_p0_kind e_f_p0_start)
  · refine lf_gd (fun h1 => ⟨(c_idx (n := 64) (n' := 64) rfl e_i_p0_count).1 h1, ?_⟩)
    refine lf_gd (fun h2 => ⟨(c_idx (n := 65) (n' := 65) rfl e_i_p0_count).1 h2, ?_⟩)
    refine lf_gd (fun h4 => ⟨(c_idx (n := 65) (n' := 65) rfl (q_add e_i_p0_count k32_1 (ri h4 (by decide)))).1 h4, ?_⟩)
    exact lf_some (tup3 (q_add e_i_p0_count k32_1 (ri h4 (by decide))) (q_upd e_f_p0_kind (q_clamp e_i_p0_count) e_x1) (q_upd e_f_p0_start (q_clamp (q_add e_i_p0_count k32_1 (ri h4 (by decide)))) (q_get e_f_p0_start (q_clamp e_i_p0_count))))
def LM_Li_open (fl : Nat) (x1' : Int) (i_p0_count' : Int) (f_p0_kind' : (Nat → Int)) (f_p0_start' : (Nat → Int)) : Option (Int × (Nat → Int) × (Nat → Int)) := (LB_Li_open_0 fl x1' i_p0_count' f_p0_kind' f_p0_start')
theorem hm_Li_open {x1 : Int32} {x1' : Int} {i_p0_count : Int32} {i_p0_count' : Int} {f_p0_kind : (Nat → Int32)} {f_p0_kind' : (Nat → Int)} {f_p0_start : (Nat → Int32)} {f_p0_start' : (Nat → Int)} (fl : Nat) (e_x1 : x1' = (x1).toInt) (e_i_p0_count : i_p0_count' = (i_p0_count).toInt) (e_f_p0_kind : f_p0_kind' = (t32 f_p0_kind)) (e_f_p0_start : f_p0_start' = (t32 f_p0_start)) : Ok (fun r => (r.1.toInt, t32 r.2.1, t32 r.2.2)) (m_Li_open fl x1 i_p0_count f_p0_kind f_p0_start) (LM_Li_open fl x1' i_p0_count' f_p0_kind' f_p0_start') := by
  unfold m_Li_open LM_Li_open
  exact (hB_Li_open_0 fl e_x1 e_i_p0_count e_f_p0_kind e_f_p0_start)
def LB_Li_kindOfLast_0 (fl : Nat) (i_p0_count' : Int) (f_p0_kind' : (Nat → Int)) : Option (Int) := (if i_p0_count' ≤ (0 : Int) then (some ((0 : Int))) else (if (0 ≤ (i_p0_count' - (1 : Int)) ∧ (i_p0_count' - (1 : Int)) < 64) then (some ((f_p0_kind' (Int.toNat (i_p0_count' - (1 : Int)))))) else none))
theorem hB_Li_kindOfLast_0 {i_p0_count : Int32} {i_p0_count' : Int} {f_p0_kind : (Nat → Int32)} {f_p0_kind' : (Nat → Int)} (fl : Nat) (e_i_p0_count : i_p0_count' = (i_p0_count).toInt) (e_f_p0_kind : f_p0_kind' = (t32 f_p0_kind)) : Ok Int32.toInt (B_Li_kindOfLast_0 fl i_p0_count f_p0_kind) (LB_Li_kindOfLast_0 fl i_p0_count' f_p0_kind') := by
  unfold B_Li_kindOfLast_0 LB_Li_kindOfLast_0
  refine lf_if (c_le e_i_p0_count k32_0) ?_ ?_
  · exact lf_some k32_0
  · refine lf_gd (fun h2 => ⟨(c_idx (n := 64) (n' := 64) rfl (q_sub e_i_p0_count k32_1 (ri h2 (by decide)))).1 h2, ?_⟩)
    exact lf_some (q_get e_f_p0_kind (q_clamp (q_sub e_i_p0_count k32_1 (ri h2 (by decide)))))
def LM_Li_kindOfLast (fl : Nat) (i_p0_count' : Int) (f_p0_kind' : (Nat → Int)) : Option (Int) := (LB_Li_kindOfLast_0 fl i_p0_count' f_p0_kind')
theorem hm_Li_kindOfLast {i_p0_count : Int32} {i_p0_count' : Int} {f_p0_kind : (Nat → Int32)} {f_p0_kind' : (Nat → Int)} (fl : Nat) (e_i_p0_count : i_p0_count' = (i_p0_count).toInt) (e_f_p0_kind : f_p0_kind' = (t32 f_p0_kind)) : Ok Int32.toInt (m_Li_kindOfLast fl i_p0_count f_p0_kind) (LM_Li_kindOfLast fl i_p0_count' f_p0_kind') := by
  unfold m_Li_kindOfLast LM_Li_kindOfLast
  exact (hB_Li_kindOfLast_0 fl e_i_p0_count e_f_p0_kind)
def LB_Rd_isMark_0 (fl : Nat) (i_p0_token' : Int) (i_p0_value' : Int) (x1' : Int) : Option (Int) := (if ¬ (i_p0_token' = (4 : Int)) then (some ((0 : Int))) else (if ¬ (i_p0_value' = x1') then (some ((0 : Int))) else (some ((1 : Int)))))
theorem hB_Rd_isMark_0 {i_p0_token : Int32} {i_p0_token' : Int} {i_p0_value : Int64} {i_p0_value' : Int} {x1 : Int32} {x1' : Int} (fl : Nat) (e_i_p0_token : i_p0_token' = (i_p0_token).toInt) (e_i_p0_value : i_p0_value' = (i_p0_value).toInt) (e_x1 : x1' = (x1).toInt) : Ok Int32.toInt (B_Rd_isMark_0 fl i_p0_token i_p0_value x1) (LB_Rd_isMark_0 fl i_p0_token' i_p0_value' x1') := by
  unfold B_Rd_isMark_0 LB_Rd_isMark_0
  refine lf_if (not_congr (c_eq e_i_p0_token k32_4)) ?_ ?_
  · exact lf_some k32_0
  · refine lf_if (not_congr (g_eq0 e_i_p0_value (p_ext e_x1))) ?_ ?_
    · exact lf_some k32_0
    · exact lf_some k32_1
def LM_Rd_isMark (fl : Nat) (i_p0_token' : Int) (i_p0_value' : Int) (x1' : Int) : Option (Int) := (LB_Rd_isMark_0 fl i_p0_token' i_p0_value' x1')
theorem hm_Rd_isMark {i_p0_token : Int32} {i_p0_token' : Int} {i_p0_value : Int64} {i_p0_value' : Int} {x1 : Int32} {x1' : Int} (fl : Nat) (e_i_p0_token : i_p0_token' = (i_p0_token).toInt) (e_i_p0_value : i_p0_value' = (i_p0_value).toInt) (e_x1 : x1' = (x1).toInt) : Ok Int32.toInt (m_Rd_isMark fl i_p0_token i_p0_value x1) (LM_Rd_isMark fl i_p0_token' i_p0_value' x1') := by
  unfold m_Rd_isMark LM_Rd_isMark
  exact (hB_Rd_isMark_0 fl e_i_p0_token e_i_p0_value e_x1)
def LB_Li_add_0 (fl : Nat) (i_p0_count' : Int) (x1' : Int) (f_p0_start' : (Nat → Int)) (f_p0_value' : (Nat → Int)) : Option ((Nat → Int) × (Nat → Int)) := (if (0 ≤ i_p0_count' ∧ i_p0_count' < 65) then (if i_p0_count' ≤ (0 : Int) then (some (f_p0_start', f_p0_value')) else (if (4000 : Int) ≤ (f_p0_start' (Int.toNat i_p0_count')) then (some (f_p0_start', f_p0_value')) else (if (0 ≤ (f_p0_start' (Int.toNat i_p0_count')) ∧ (f_p0_start' (Int.toNat i_p0_count')) < 4000) then (if (-2147483648 ≤ ((f_p0_start' (Int.toNat i_p0_count')) + (1 : Int)) ∧ ((f_p0_start' (Int.toNat i_p0_count')) + (1 : Int)) < 2147483648) then (some ((up f_p0_start' (Int.toNat i_p0_count') ((f_p0_start' (Int.toNat i_p0_count')) + (1 : Int))), (up f_p0_value' (Int.toNat (f_p0_start' (Int.toNat i_p0_count'))) x1'))) else none) else none))) else none)
theorem hB_Li_add_0 {i_p0_count : Int32} {i_p0_count' : Int} {x1 : Int64} {x1' : Int} {f_p0_start : (Nat → Int32)} {f_p0_start' : (Nat → Int)} {f_p0_value : (Nat → Int64)} {f_p0_value' : (Nat → Int)} (fl : Nat) (e_i_p0_count : i_p0_count' = (i_p0_count).toInt) (e_x1 : x1' = (x1).toInt) (e_f_p0_start : f_p0_start' = (t32 f_p0_start)) (e_f_p0_value : f_p0_value' = (t64 f_p0_value)) : Ok (fun r => (t32 r.1, t64 r.2)) (B_Li_add_0 fl i_p0_count x1 f_p0_start f_p0_value) (LB_Li_add_0 fl i_p0_count' x1' f_p0_start' f_p0_value') := by
  unfold B_Li_add_0 LB_Li_add_0
  refine lf_gd (fun h1 => ⟨(c_idx (n := 65) (n' := 65) rfl e_i_p0_count).1 h1, ?_⟩)
  refine lf_if (c_le e_i_p0_count k32_0) ?_ ?_
  · exact lf_some (tup2 e_f_p0_start e_f_p0_value)
  · refine lf_if (c_le k32_4000 (q_get e_f_p0_start (q_clamp e_i_p0_count))) ?_ ?_
    · exact lf_some (tup2 e_f_p0_start e_f_p0_value)
    · refine lf_gd (fun h2 => ⟨(c_idx (n := 4000) (n' := 4000) rfl (q_get e_f_p0_start (q_clamp e_i_p0_count))).1 h2, ?_⟩)
      refine lf_pos ((c_idx (n := 65) (n' := 65) rfl e_i_p0_count).1 h1) ?_
      refine lf_guard (fun gg => ?_)
      have g3 := gg
      exact lf_some (tup2 (q_upd e_f_p0_start (q_clamp e_i_p0_count) (q_add (q_get e_f_p0_start (q_clamp e_i_p0_count)) k32_1 g3)) (p_upd e_f_p0_value (q_clamp (q_get e_f_p0_start (q_clamp e_i_p0_count))) e_x1))
def LM_Li_add (fl : Nat) (i_p0_count' : Int) (x1' : Int) (f_p0_start' : (Nat → Int)) (f_p0_value' : (Nat → Int)) : Option ((Nat → Int) × (Nat → Int)) := (LB_Li_add_0 fl i_p0_count' x1' f_p0_start' f_p0_value')
theorem hm_Li_add {i_p0_count : Int32} {i_p0_count' : Int} {x1 : Int64} {x1' : Int} {f_p0_start : (Nat → Int32)} {f_p0_start' : (Nat → Int)} {f_p0_value : (Nat → Int64)} {f_p0_value' : (Nat → Int)} (fl : Nat) (e_i_p0_count : i_p0_count' = (i_p0_count).toInt) (e_x1 : x1' = (x1).toInt) (e_f_p0_start : f_p0_start' = (t32 f_p0_start)) (e_f_p0_value : f_p0_value' = (t64 f_p0_value)) : Ok (fun r => (t32 r.1, t64 r.2)) (m_Li_add fl i_p0_count x1 f_p0_start f_p0_value) (LM_Li_add fl i_p0_count' x1' f_p0_start' f_p0_value') := by
  unfold m_Li_add LM_Li_add
  exact (hB_Li_add_0 fl e_i_p0_count e_x1 e_f_p0_start e_f_p0_value)
def LB_En_variableOf_0 (fl : Nat) (x0' : Int) : Option (Nat) := (if ¬ (x0' = (18 : Int)) then (some (23)) else (some (22)))
theorem hB_En_variableOf_0 {x0 : Int32} {x0' : Int} (fl : Nat) (e_x0 : x0' = (x0).toInt) : Ok (id : Nat → Nat) (B_En_variableOf_0 fl x0) (LB_En_variableOf_0 fl x0') := by
  unfold B_En_variableOf_0 LB_En_variableOf_0
  refine lf_if (not_congr (c_eq e_x0 k32_18)) ?_ ?_
  · exact lf_some (rfl : (23 : Nat) = 23)
  · exact lf_some (rfl : (22 : Nat) = 22)
def LM_En_variableOf (fl : Nat) (x0' : Int) : Option (Nat) := (LB_En_variableOf_0 fl x0')
theorem hm_En_variableOf {x0 : Int32} {x0' : Int} (fl : Nat) (e_x0 : x0' = (x0).toInt) : Ok (id : Nat → Nat) (m_En_variableOf fl x0) (LM_En_variableOf fl x0') := by
  unfold m_En_variableOf LM_En_variableOf
  exact (hB_En_variableOf_0 fl e_x0)
def LB_Li_waiting_0 (fl : Nat) (i_p0_count' : Int) (i_p0_done' : Int) : Option (Int) := (if (-2147483648 ≤ (i_p0_count' - i_p0_done') ∧ (i_p0_count' - i_p0_done') < 2147483648) then (some ((i_p0_count' - i_p0_done'))) else none)
theorem hB_Li_waiting_0 {i_p0_count : Int32} {i_p0_count' : Int} {i_p0_done : Int32} {i_p0_done' : Int} (fl : Nat) (e_i_p0_count : i_p0_count' = (i_p0_count).toInt) (e_i_p0_done : i_p0_done' = (i_p0_done).toInt) : Ok Int32.toInt (B_Li_waiting_0 fl i_p0_count i_p0_done) (LB_Li_waiting_0 fl i_p0_count' i_p0_done') := by
  unfold B_Li_waiting_0 LB_Li_waiting_0
  refine lf_guard (fun gg => ?_)
  have g1 := gg
  exact lf_some (q_sub e_i_p0_count e_i_p0_done g1)
def LM_Li_waiting (fl : Nat) (i_p0_count' : Int) (i_p0_done' : Int) : Option (Int) := (LB_Li_waiting_0 fl i_p0_count' i_p0_done')
theorem hm_Li_waiting {i_p0_count : Int32} {i_p0_count' : Int} {i_p0_done : Int32} {i_p0_done' : Int} (fl : Nat) (e_i_p0_count : i_p0_count' = (i_p0_count).toInt) (e_i_p0_done : i_p0_done' = (i_p0_done).toInt) : Ok Int32.toInt (m_Li_waiting fl i_p0_count i_p0_done) (LM_Li_waiting fl i_p0_count' i_p0_done') := by
  unfold m_Li_waiting LM_Li_waiting
  exact (hB_Li_waiting_0 fl e_i_p0_count e_i_p0_done)
def LB_En_fault_0 (fl : Nat) (i_p0_hasRead' : Int) (i_p0_reader_faultFound' : Int) (i_p0_reader_faultPlace' : Int) (x1' : Int) : Option (Int) := (if ¬ (i_p0_hasRead' = (0 : Int)) then (if x1' = (0 : Int) then (some (i_p0_reader_faultFound')) else (if x1' = (1 : Int) then (some (i_p0_reader_faultPlace')) else (some ((-1 : Int))))) else (some ((-1 : Int))))
theorem hB_En_fault_0 {i_p0_hasRead : Int32} {i_p0_hasRead' : Int} {i_p0_reader_faultFound : Int32} {i_p0_reader_faultFound' : Int} {i_p0_reader_faultPlace : Int32} {i_p0_reader_faultPlace' : Int} {x1 : Int32} {x1' : Int} (fl : Nat) (e_i_p0_hasRead : i_p0_hasRead' = (i_p0_hasRead).toInt) (e_i_p0_reader_faultFound : i_p0_reader_faultFound' = (i_p0_reader_faultFound).toInt) (e_i_p0_reader_faultPlace : i_p0_reader_faultPlace' = (i_p0_reader_faultPlace).toInt) (e_x1 : x1' = (x1).toInt) : Ok Int32.toInt (B_En_fault_0 fl i_p0_hasRead i_p0_reader_faultFound i_p0_reader_faultPlace x1) (LB_En_fault_0 fl i_p0_hasRead' i_p0_reader_faultFound' i_p0_reader_faultPlace' x1') := by
  unfold B_En_fault_0 LB_En_fault_0
  refine lf_if (not_congr (c_eq e_i_p0_hasRead k32_0)) ?_ ?_
  · refine lf_if (c_eq e_x1 k32_0) ?_ ?_
    · exact lf_some e_i_p0_reader_faultFound
    · refine lf_if (c_eq e_x1 k32_1) ?_ ?_
      · exact lf_some e_i_p0_reader_faultPlace
      · exact lf_some k32_n1
  · exact lf_some k32_n1
def LM_En_fault (fl : Nat) (i_p0_hasRead' : Int) (i_p0_reader_faultFound' : Int) (i_p0_reader_faultPlace' : Int) (x1' : Int) : Option (Int) := (LB_En_fault_0 fl i_p0_hasRead' i_p0_reader_faultFound' i_p0_reader_faultPlace' x1')
theorem hm_En_fault {i_p0_hasRead : Int32} {i_p0_hasRead' : Int} {i_p0_reader_faultFound : Int32} {i_p0_reader_faultFound' : Int} {i_p0_reader_faultPlace : Int32} {i_p0_reader_faultPlace' : Int} {x1 : Int32} {x1' : Int} (fl : Nat) (e_i_p0_hasRead : i_p0_hasRead' = (i_p0_hasRead).toInt) (e_i_p0_reader_faultFound : i_p0_reader_faultFound' = (i_p0_reader_faultFound).toInt) (e_i_p0_reader_faultPlace : i_p0_reader_faultPlace' = (i_p0_reader_faultPlace).toInt) (e_x1 : x1' = (x1).toInt) : Ok Int32.toInt (m_En_fault fl i_p0_hasRead i_p0_reader_faultFound i_p0_reader_faultPlace x1) (LM_En_fault fl i_p0_hasRead' i_p0_reader_faultFound' i_p0_reader_faultPlace' x1') := by
  unfold m_En_fault LM_En_fault
  exact (hB_En_fault_0 fl e_i_p0_hasRead e_i_p0_reader_faultFound e_i_p0_reader_faultPlace e_x1)
def LB_Li_kindOfNext_0 (fl : Nat) (i_p0_count' : Int) (i_p0_done' : Int) (f_p0_kind' : (Nat → Int)) : Option (Int) := (if i_p0_count' ≤ i_p0_done' then (some ((0 : Int))) else (if (0 ≤ i_p0_done' ∧ i_p0_done' < 64) then (some ((f_p0_kind' (Int.toNat i_p0_done')))) else none))
theorem hB_Li_kindOfNext_0 {i_p0_count : Int32} {i_p0_count' : Int} {i_p0_done : Int32} {i_p0_done' : Int} {f_p0_kind : (Nat → Int32)} {f_p0_kind' : (Nat → Int)} (fl : Nat) (e_i_p0_count : i_p0_count' = (i_p0_count).toInt) (e_i_p0_done : i_p0_done' = (i_p0_done).toInt) (e_f_p0_kind : f_p0_kind' = (t32 f_p0_kind)) : Ok Int32.toInt (B_Li_kindOfNext_0 fl i_p0_count i_p0_done f_p0_kind) (LB_Li_kindOfNext_0 fl i_p0_count' i_p0_done' f_p0_kind') := by
  unfold B_Li_kindOfNext_0 LB_Li_kindOfNext_0
  refine lf_if (c_le e_i_p0_count e_i_p0_done) ?_ ?_
  · exact lf_some k32_0
  · refine lf_gd (fun h1 => ⟨(c_idx (n := 64) (n' := 64) rfl e_i_p0_done).1 h1, ?_⟩)
    exact lf_some (q_get e_f_p0_kind (q_clamp e_i_p0_done))
def LM_Li_kindOfNext (fl : Nat) (i_p0_count' : Int) (i_p0_done' : Int) (f_p0_kind' : (Nat → Int)) : Option (Int) := (LB_Li_kindOfNext_0 fl i_p0_count' i_p0_done' f_p0_kind')
theorem hm_Li_kindOfNext {i_p0_count : Int32} {i_p0_count' : Int} {i_p0_done : Int32} {i_p0_done' : Int} {f_p0_kind : (Nat → Int32)} {f_p0_kind' : (Nat → Int)} (fl : Nat) (e_i_p0_count : i_p0_count' = (i_p0_count).toInt) (e_i_p0_done : i_p0_done' = (i_p0_done).toInt) (e_f_p0_kind : f_p0_kind' = (t32 f_p0_kind)) : Ok Int32.toInt (m_Li_kindOfNext fl i_p0_count i_p0_done f_p0_kind) (LM_Li_kindOfNext fl i_p0_count' i_p0_done' f_p0_kind') := by
  unfold m_Li_kindOfNext LM_Li_kindOfNext
  exact (hB_Li_kindOfNext_0 fl e_i_p0_count e_i_p0_done e_f_p0_kind)
def LB_Di_clear_0 (fl : Nat) (i_p0_count' : Int) (i_p0_circles' : Int) (i_p0_shapeIsKnown' : Int) : Option (Int × Int × Int) := (some ((0 : Int), (0 : Int), (0 : Int)))
theorem hB_Di_clear_0 {i_p0_count : Int32} {i_p0_count' : Int} {i_p0_circles : Int32} {i_p0_circles' : Int} {i_p0_shapeIsKnown : Int32} {i_p0_shapeIsKnown' : Int} (fl : Nat) (e_i_p0_count : i_p0_count' = (i_p0_count).toInt) (e_i_p0_circles : i_p0_circles' = (i_p0_circles).toInt) (e_i_p0_shapeIsKnown : i_p0_shapeIsKnown' = (i_p0_shapeIsKnown).toInt) : Ok (fun r => (r.1.toInt, r.2.1.toInt, r.2.2.toInt)) (B_Di_clear_0 fl i_p0_count i_p0_circles i_p0_shapeIsKnown) (LB_Di_clear_0 fl i_p0_count' i_p0_circles' i_p0_shapeIsKnown') := by
  unfold B_Di_clear_0 LB_Di_clear_0
  exact lf_some (tup3 k32_0 k32_0 k32_0)
def LM_Di_clear (fl : Nat) (i_p0_count' : Int) (i_p0_circles' : Int) (i_p0_shapeIsKnown' : Int) : Option (Int × Int × Int) := (LB_Di_clear_0 fl i_p0_count' i_p0_circles' i_p0_shapeIsKnown')
theorem hm_Di_clear {i_p0_count : Int32} {i_p0_count' : Int} {i_p0_circles : Int32} {i_p0_circles' : Int} {i_p0_shapeIsKnown : Int32} {i_p0_shapeIsKnown' : Int} (fl : Nat) (e_i_p0_count : i_p0_count' = (i_p0_count).toInt) (e_i_p0_circles : i_p0_circles' = (i_p0_circles).toInt) (e_i_p0_shapeIsKnown : i_p0_shapeIsKnown' = (i_p0_shapeIsKnown).toInt) : Ok (fun r => (r.1.toInt, r.2.1.toInt, r.2.2.toInt)) (m_Di_clear fl i_p0_count i_p0_circles i_p0_shapeIsKnown) (LM_Di_clear fl i_p0_count' i_p0_circles' i_p0_shapeIsKnown') := by
  unfold m_Di_clear LM_Di_clear
  exact (hB_Di_clear_0 fl e_i_p0_count e_i_p0_circles e_i_p0_shapeIsKnown)
def LB_Li_numbers_0 (fl : Nat) (i_p0_count' : Int) (i_p0_done' : Int) (f_p0_start' : (Nat → Int)) : Option (Int) := (if i_p0_count' ≤ i_p0_done' then (some ((0 : Int))) else (if (0 ≤ (i_p0_done' + (1 : Int)) ∧ (i_p0_done' + (1 : Int)) < 65) then (if (0 ≤ i_p0_done' ∧ i_p0_done' < 65) then (if (-2147483648 ≤ ((f_p0_start' (Int.toNat (i_p0_done' + (1 : Int)))) - (f_p0_start' (Int.toNat i_p0_done'))) ∧ ((f_p0_start' (Int.toNat (i_p0_done' + (1 : Int)))) - (f_p0_start' (Int.toNat i_p0_done'))) < 2147483648) then (some (((f_p0_start' (Int.toNat (i_p0_done' + (1 : Int)))) - (f_p0_start' (Int.toNat i_p0_done'))))) else none) else none) else none))
theorem hB_Li_numbers_0 {i_p0_count : Int32} {i_p0_count' : Int} {i_p0_done : Int32} {i_p0_done' : Int} {f_p0_start : (Nat → Int32)} {f_p0_start' : (Nat → Int)} (fl : Nat) (e_i_p0_count : i_p0_count' = (i_p0_count).toInt) (e_i_p0_done : i_p0_done' = (i_p0_done).toInt) (e_f_p0_start : f_p0_start' = (t32 f_p0_start)) : Ok Int32.toInt (B_Li_numbers_0 fl i_p0_count i_p0_done f_p0_start) (LB_Li_numbers_0 fl i_p0_count' i_p0_done' f_p0_start') := by
  unfold B_Li_numbers_0 LB_Li_numbers_0
  refine lf_if (c_le e_i_p0_count e_i_p0_done) ?_ ?_
  · exact lf_some k32_0
  · refine lf_gd (fun h2 => ⟨(c_idx (n := 65) (n' := 65) rfl (q_add e_i_p0_done k32_1 (ri h2 (by decide)))).1 h2, ?_⟩)
    refine lf_gd (fun h3 => ⟨(c_idx (n := 65) (n' := 65) rfl e_i_p0_done).1 h3, ?_⟩)
    refine lf_guard (fun gg => ?_)
    have g4 := gg
    exact lf_some (q_sub (q_get e_f_p0_start (q_clamp (q_add e_i_p0_done k32_1 (ri h2 (by decide))))) (q_get e_f_p0_start (q_clamp e_i_p0_done)) g4)
def LM_Li_numbers (fl : Nat) (i_p0_count' : Int) (i_p0_done' : Int) (f_p0_start' : (Nat → Int)) : Option (Int) := (LB_Li_numbers_0 fl i_p0_count' i_p0_done' f_p0_start')
theorem hm_Li_numbers {i_p0_count : Int32} {i_p0_count' : Int} {i_p0_done : Int32} {i_p0_done' : Int} {f_p0_start : (Nat → Int32)} {f_p0_start' : (Nat → Int)} (fl : Nat) (e_i_p0_count : i_p0_count' = (i_p0_count).toInt) (e_i_p0_done : i_p0_done' = (i_p0_done).toInt) (e_f_p0_start : f_p0_start' = (t32 f_p0_start)) : Ok Int32.toInt (m_Li_numbers fl i_p0_count i_p0_done f_p0_start) (LM_Li_numbers fl i_p0_count' i_p0_done' f_p0_start') := by
  unfold m_Li_numbers LM_Li_numbers
  exact (hB_Li_numbers_0 fl e_i_p0_count e_i_p0_done e_f_p0_start)
def LB_Li_longNumber_0 (fl : Nat) (i_p0_count' : Int) (i_p0_done' : Int) (f_p0_start' : (Nat → Int)) (f_p0_value' : (Nat → Int)) (x1' : Int) : Option (Int) := (if i_p0_count' ≤ i_p0_done' then (some ((0 : Int))) else (if x1' < (0 : Int) then (some ((0 : Int))) else (if (0 ≤ (i_p0_done' + (1 : Int)) ∧ (i_p0_done' + (1 : Int)) < 65) then (if (0 ≤ i_p0_done' ∧ i_p0_done' < 65) then (if (-2147483648 ≤ ((f_p0_start' (Int.toNat (i_p0_done' + (1 : Int)))) - (f_p0_start' (Int.toNat i_p0_done'))) ∧ ((f_p0_start' (Int.toNat (i_p0_done' + (1 : Int)))) - (f_p0_start' (Int.toNat i_p0_done'))) < 2147483648) then (if x1' < ((f_p0_start' (Int.toNat (i_p0_done' + (1 : Int)))) - (f_p0_start' (Int.toNat i_p0_done'))) then (if (0 ≤ ((f_p0_start' (Int.toNat i_p0_done')) + x1') ∧ ((f_p0_start' (Int.toNat i_p0_done')) + x1') < 4000) then (some ((f_p0_value' (Int.toNat ((f_p0_start' (Int.toNat i_p0_done')) + x1'))))) else none) else (some ((0 : Int)))) else none) else none) else none)))
theorem hB_Li_longNumber_0 {i_p0_count : Int32} {i_p0_count' : Int} {i_p0_done : Int32} {i_p0_done' : Int} {f_p0_start : (Nat → Int32)} {f_p0_start' : (Nat → Int)} {f_p0_value : (Nat → Int64)} {f_p0_value' : (Nat → Int)} {x1 : Int32} {x1' : Int} (fl : Nat) (e_i_p0_count : i_p0_count' = (i_p0_count).toInt) (e_i_p0_done : i_p0_done' = (i_p0_done).toInt) (e_f_p0_start : f_p0_start' = (t32 f_p0_start)) (e_f_p0_value : f_p0_value' = (t64 f_p0_value)) (e_x1 : x1' = (x1).toInt) : Ok Int64.toInt (B_Li_longNumber_0 fl i_p0_count i_p0_done f_p0_start f_p0_value x1) (LB_Li_longNumber_0 fl i_p0_count' i_p0_done' f_p0_start' f_p0_value' x1') := by
  unfold B_Li_longNumber_0 LB_Li_longNumber_0
  refine lf_if (c_le e_i_p0_count e_i_p0_done) ?_ ?_
  · exact lf_some k64_0
  · refine lf_if (c_lt e_x1 k32_0) ?_ ?_
    · exact lf_some k64_0
    · refine lf_gd (fun h2 => ⟨(c_idx (n := 65) (n' := 65) rfl (q_add e_i_p0_done k32_1 (ri h2 (by decide)))).1 h2, ?_⟩)
      refine lf_gd (fun h3 => ⟨(c_idx (n := 65) (n' := 65) rfl e_i_p0_done).1 h3, ?_⟩)
      refine lf_guard (fun gg => ?_)
      have g4 := gg
      refine lf_if (c_lt e_x1 (q_sub (q_get e_f_p0_start (q_clamp (q_add e_i_p0_done k32_1 (ri h2 (by decide))))) (q_get e_f_p0_start (q_clamp e_i_p0_done)) g4)) ?_ ?_
      · refine lf_pos ((c_idx (n := 65) (n' := 65) rfl e_i_p0_done).1 h3) ?_
        refine lf_gd (fun h6 => ⟨(c_idx (n := 4000) (n' := 4000) rfl (q_add (q_get e_f_p0_start (q_clamp e_i_p0_done)) e_x1 (ri h6 (by decide)))).1 h6, ?_⟩)
        exact lf_some (p_get e_f_p0_value (q_clamp (q_add (q_get e_f_p0_start (q_clamp e_i_p0_done)) e_x1 (ri h6 (by decide)))))
      · exact lf_some k64_0
def LM_Li_longNumber (fl : Nat) (i_p0_count' : Int) (i_p0_done' : Int) (f_p0_start' : (Nat → Int)) (f_p0_value' : (Nat → Int)) (x1' : Int) : Option (Int) := (LB_Li_longNumber_0 fl i_p0_count' i_p0_done' f_p0_start' f_p0_value' x1')
theorem hm_Li_longNumber {i_p0_count : Int32} {i_p0_count' : Int} {i_p0_done : Int32} {i_p0_done' : Int} {f_p0_start : (Nat → Int32)} {f_p0_start' : (Nat → Int)} {f_p0_value : (Nat → Int64)} {f_p0_value' : (Nat → Int)} {x1 : Int32} {x1' : Int} (fl : Nat) (e_i_p0_count : i_p0_count' = (i_p0_count).toInt) (e_i_p0_done : i_p0_done' = (i_p0_done).toInt) (e_f_p0_start : f_p0_start' = (t32 f_p0_start)) (e_f_p0_value : f_p0_value' = (t64 f_p0_value)) (e_x1 : x1' = (x1).toInt) : Ok Int64.toInt (m_Li_longNumber fl i_p0_count i_p0_done f_p0_start f_p0_value x1) (LM_Li_longNumber fl i_p0_count' i_p0_done' f_p0_start' f_p0_value' x1') := by
  unfold m_Li_longNumber LM_Li_longNumber
  exact (hB_Li_longNumber_0 fl e_i_p0_count e_i_p0_done e_f_p0_start e_f_p0_value e_x1)
def LB_Pa_put_0 (fl : Nat) (x1' : Int) (i_p0_size' : Int) (i_p0_overflown' : Int) (f_p0_bytes' : (Nat → Int)) : Option (Int × Int × (Nat → Int)) := (if (4000 : Int) ≤ i_p0_size' then (some (i_p0_size', (1 : Int), f_p0_bytes')) else (if (0 ≤ i_p0_size' ∧ i_p0_size' < 4000) then (if (-2147483648 ≤ (i_p0_size' + (1 : Int)) ∧ (i_p0_size' + (1 : Int)) < 2147483648) then (some ((i_p0_size' + (1 : Int)), i_p0_overflown', (up f_p0_bytes' (Int.toNat i_p0_size') x1'))) else none) else none))
theorem hB_Pa_put_0 {x1 : Int32} {x1' : Int} {i_p0_size : Int32} {i_p0_size' : Int} {i_p0_overflown : Int32} {i_p0_overflown' : Int} {f_p0_bytes : (Nat → Int32)} {f_p0_bytes' : (Nat → Int)} (fl : Nat) (e_x1 : x1' = (x1).toInt) (e_i_p0_size : i_p0_size' = (i_p0_size).toInt) (e_i_p0_overflown : i_p0_overflown' = (i_p0_overflown).toInt) (e_f_p0_bytes : f_p0_bytes' = (t32 f_p0_bytes)) : Ok (fun r => (r.1.toInt, r.2.1.toInt, t32 r.2.2)) (B_Pa_put_0 fl x1 i_p0_size i_p0_overflown f_p0_bytes) (LB_Pa_put_0 fl x1' i_p0_size' i_p0_overflown' f_p0_bytes') := by
  unfold B_Pa_put_0 LB_Pa_put_0
  refine lf_if (c_le k32_4000 e_i_p0_size) ?_ ?_
  · exact lf_some (tup3 e_i_p0_size k32_1 e_f_p0_bytes)
  · refine lf_gd (fun h1 => ⟨(c_idx (n := 4000) (n' := 4000) rfl e_i_p0_size).1 h1, ?_⟩)
    refine lf_guard (fun gg => ?_)
    have g2 := gg
    exact lf_some (tup3 (q_add e_i_p0_size k32_1 g2) e_i_p0_overflown (q_upd e_f_p0_bytes (q_clamp e_i_p0_size) e_x1))
def LM_Pa_put (fl : Nat) (x1' : Int) (i_p0_size' : Int) (i_p0_overflown' : Int) (f_p0_bytes' : (Nat → Int)) : Option (Int × Int × (Nat → Int)) := (LB_Pa_put_0 fl x1' i_p0_size' i_p0_overflown' f_p0_bytes')
theorem hm_Pa_put {x1 : Int32} {x1' : Int} {i_p0_size : Int32} {i_p0_size' : Int} {i_p0_overflown : Int32} {i_p0_overflown' : Int} {f_p0_bytes : (Nat → Int32)} {f_p0_bytes' : (Nat → Int)} (fl : Nat) (e_x1 : x1' = (x1).toInt) (e_i_p0_size : i_p0_size' = (i_p0_size).toInt) (e_i_p0_overflown : i_p0_overflown' = (i_p0_overflown).toInt) (e_f_p0_bytes : f_p0_bytes' = (t32 f_p0_bytes)) : Ok (fun r => (r.1.toInt, r.2.1.toInt, t32 r.2.2)) (m_Pa_put fl x1 i_p0_size i_p0_overflown f_p0_bytes) (LM_Pa_put fl x1' i_p0_size' i_p0_overflown' f_p0_bytes') := by
  unfold m_Pa_put LM_Pa_put
  exact (hB_Pa_put_0 fl e_x1 e_i_p0_size e_i_p0_overflown e_f_p0_bytes)
def LB_Pa_putEnd_0 (fl : Nat) (i_p0_size' : Int) (i_p0_overflown' : Int) (f_p0_bytes' : (Nat → Int)) : Option (Int × Int × (Nat → Int)) := ((LM_Pa_put fl (10 : Int) i_p0_size' i_p0_overflown' f_p0_bytes').bind fun o0 => (some (o0.1, o0.2.1, o0.2.2)))
theorem hB_Pa_putEnd_0 {i_p0_size : Int32} {i_p0_size' : Int} {i_p0_overflown : Int32} {i_p0_overflown' : Int} {f_p0_bytes : (Nat → Int32)} {f_p0_bytes' : (Nat → Int)} (fl : Nat) (e_i_p0_size : i_p0_size' = (i_p0_size).toInt) (e_i_p0_overflown : i_p0_overflown' = (i_p0_overflown).toInt) (e_f_p0_bytes : f_p0_bytes' = (t32 f_p0_bytes)) : Ok (fun r => (r.1.toInt, r.2.1.toInt, t32 r.2.2)) (B_Pa_putEnd_0 fl i_p0_size i_p0_overflown f_p0_bytes) (LB_Pa_putEnd_0 fl i_p0_size' i_p0_overflown' f_p0_bytes') := by
  unfold B_Pa_putEnd_0 LB_Pa_putEnd_0
  refine lf_bind (hm_Pa_put fl k32_10 e_i_p0_size e_i_p0_overflown e_f_p0_bytes) (fun o0 => ?_)
  exact lf_some (tup3 (rfl : (o0.1).toInt = (o0.1).toInt) (rfl : (o0.2.1).toInt = (o0.2.1).toInt) (rfl : (t32 o0.2.2) = (t32 o0.2.2)))
def LM_Pa_putEnd (fl : Nat) (i_p0_size' : Int) (i_p0_overflown' : Int) (f_p0_bytes' : (Nat → Int)) : Option (Int × Int × (Nat → Int)) := (LB_Pa_putEnd_0 fl i_p0_size' i_p0_overflown' f_p0_bytes')
theorem hm_Pa_putEnd {i_p0_size : Int32} {i_p0_size' : Int} {i_p0_overflown : Int32} {i_p0_overflown' : Int} {f_p0_bytes : (Nat → Int32)} {f_p0_bytes' : (Nat → Int)} (fl : Nat) (e_i_p0_size : i_p0_size' = (i_p0_size).toInt) (e_i_p0_overflown : i_p0_overflown' = (i_p0_overflown).toInt) (e_f_p0_bytes : f_p0_bytes' = (t32 f_p0_bytes)) : Ok (fun r => (r.1.toInt, r.2.1.toInt, t32 r.2.2)) (m_Pa_putEnd fl i_p0_size i_p0_overflown f_p0_bytes) (LM_Pa_putEnd fl i_p0_size' i_p0_overflown' f_p0_bytes') := by
  unfold m_Pa_putEnd LM_Pa_putEnd
  exact (hB_Pa_putEnd_0 fl e_i_p0_size e_i_p0_overflown e_f_p0_bytes)
def LB_Sh_clear_0 (fl : Nat) (i_p0_edges' : Int) (i_p0_components' : Int) (i_p0_pieces' : Int) (i_p0_faces' : Int) (i_p0_brokenRule' : Int) (i_p0_culprit' : Int) : Option (Int × Int × Int × Int × Int × Int) := (some ((0 : Int), (0 : Int), (0 : Int), (0 : Int), (0 : Int), (0 : Int)))
theorem hB_Sh_clear_0 {i_p0_edges : Int32} {i_p0_edges' : Int} {i_p0_components : Int32} {i_p0_components' : Int} {i_p0_pieces : Int32} {i_p0_pieces' : Int} {i_p0_faces : Int32} {i_p0_faces' : Int} {i_p0_brokenRule : Int32} {i_p0_brokenRule' : Int} {i_p0_culprit : Int32} {i_p0_culprit' : Int} (fl : Nat) (e_i_p0_edges : i_p0_edges' = (i_p0_edges).toInt) (e_i_p0_components : i_p0_components' = (i_p0_components).toInt) (e_i_p0_pieces : i_p0_pieces' = (i_p0_pieces).toInt) (e_i_p0_faces : i_p0_faces' = (i_p0_faces).toInt) (e_i_p0_brokenRule : i_p0_brokenRule' = (i_p0_brokenRule).toInt) (e_i_p0_culprit : i_p0_culprit' = (i_p0_culprit).toInt) : Ok (fun r => (r.1.toInt, r.2.1.toInt, r.2.2.1.toInt, r.2.2.2.1.toInt, r.2.2.2.2.1.toInt, r.2.2.2.2.2.toInt)) (B_Sh_clear_0 fl i_p0_edges i_p0_components i_p0_pieces i_p0_faces i_p0_brokenRule i_p0_culprit) (LB_Sh_clear_0 fl i_p0_edges' i_p0_components' i_p0_pieces' i_p0_faces' i_p0_brokenRule' i_p0_culprit') := by
  unfold B_Sh_clear_0 LB_Sh_clear_0
  exact lf_some (tup6 k32_0 k32_0 k32_0 k32_0 k32_0 k32_0)
def LM_Sh_clear (fl : Nat) (i_p0_edges' : Int) (i_p0_components' : Int) (i_p0_pieces' : Int) (i_p0_faces' : Int) (i_p0_brokenRule' : Int) (i_p0_culprit' : Int) : Option (Int × Int × Int × Int × Int × Int) := (LB_Sh_clear_0 fl i_p0_edges' i_p0_components' i_p0_pieces' i_p0_faces' i_p0_brokenRule' i_p0_culprit')
theorem hm_Sh_clear {i_p0_edges : Int32} {i_p0_edges' : Int} {i_p0_components : Int32} {i_p0_components' : Int} {i_p0_pieces : Int32} {i_p0_pieces' : Int} {i_p0_faces : Int32} {i_p0_faces' : Int} {i_p0_brokenRule : Int32} {i_p0_brokenRule' : Int} {i_p0_culprit : Int32} {i_p0_culprit' : Int} (fl : Nat) (e_i_p0_edges : i_p0_edges' = (i_p0_edges).toInt) (e_i_p0_components : i_p0_components' = (i_p0_components).toInt) (e_i_p0_pieces : i_p0_pieces' = (i_p0_pieces).toInt) (e_i_p0_faces : i_p0_faces' = (i_p0_faces).toInt) (e_i_p0_brokenRule : i_p0_brokenRule' = (i_p0_brokenRule).toInt) (e_i_p0_culprit : i_p0_culprit' = (i_p0_culprit).toInt) : Ok (fun r => (r.1.toInt, r.2.1.toInt, r.2.2.1.toInt, r.2.2.2.1.toInt, r.2.2.2.2.1.toInt, r.2.2.2.2.2.toInt)) (m_Sh_clear fl i_p0_edges i_p0_components i_p0_pieces i_p0_faces i_p0_brokenRule i_p0_culprit) (LM_Sh_clear fl i_p0_edges' i_p0_components' i_p0_pieces' i_p0_faces' i_p0_brokenRule' i_p0_culprit') := by
  unfold m_Sh_clear LM_Sh_clear
  exact (hB_Sh_clear_0 fl e_i_p0_edges e_i_p0_components e_i_p0_pieces e_i_p0_faces e_i_p0_brokenRule e_i_p0_culprit)
def LB_Sh_sortPlaces_67 (fl : Nat) (i_p1_count' : Int) (f_p1_label' : (Nat → Int)) (kb_2' : (Int → (Nat → Int) → Option ((Nat → Int)))) (x2' : Int) (x3' : Int) (x4' : Int) (f_p0_key' : (Nat → Int)) : Option ((Nat → Int)) := (if (0 ≤ x4' ∧ x4' < 80) then (if (-2147483648 ≤ (x2' + (1 : Int)) ∧ (x2' + (1 : Int)) < 2147483648) then (kb_2' (x2' + (1 : Int)) (up f_p0_key' (Int.toNat x4') x3')) else none) else none)
theorem hB_Sh_sortPlaces_67 {i_p1_count : Int32} {i_p1_count' : Int} {f_p1_label : (Nat → Int32)} {f_p1_label' : (Nat → Int)} {kb_2 : (Int32 → (Nat → Int32) → Option ((Nat → Int32)))} {kb_2' : (Int → (Nat → Int) → Option ((Nat → Int)))} {x2 : Int32} {x2' : Int} {x3 : Int32} {x3' : Int} {x4 : Int32} {x4' : Int} {f_p0_key : (Nat → Int32)} {f_p0_key' : (Nat → Int)} (fl : Nat) (e_i_p1_count : i_p1_count' = (i_p1_count).toInt) (e_f_p1_label : f_p1_label' = (t32 f_p1_label)) (k_kb_2 : ∀ {z0 : Int32} {z0' : Int} {z1 : (Nat → Int32)} {z1' : (Nat → Int)} (e0 : z0' = (z0).toInt) (e1 : z1' = (t32 z1)), Ok t32 (kb_2 z0 z1) (kb_2' z0' z1')) (e_x2 : x2' = (x2).toInt) (e_x3 : x3' = (x3).toInt) (e_x4 : x4' = (x4).toInt) (e_f_p0_key : f_p0_key' = (t32 f_p0_key)) : Ok t32 (B_Sh_sortPlaces_67 fl i_p1_count f_p1_label kb_2 x2 x3 x4 f_p0_key) (LB_Sh_sortPlaces_67 fl i_p1_count' f_p1_label' kb_2' x2' x3' x4' f_p0_key') := by
  unfold B_Sh_sortPlaces_67 LB_Sh_sortPlaces_67
  refine lf_gd (fun h1 => ⟨(c_idx (n := 80) (n' := 80) rfl e_x4).1 h1, ?_⟩)
  refine lf_guard (fun gg => ?_)
  have g2 := gg
  exact (k_kb_2 (q_add e_x2 k32_1 g2) (q_upd e_f_p0_key (q_clamp e_x4) e_x3))
def LB_Sh_sortPlaces_27 (fl : Nat) (i_p1_count' : Int) (f_p1_label' : (Nat → Int)) (kb_2' : (Int → (Nat → Int) → Option ((Nat → Int)))) : Nat → Int → Int → Int → (Nat → Int) → Option ((Nat → Int))
  | 0, _, _, _, _ => none
  | nn + 1, x2', x3', x4', f_p0_key' => (if x4' ≤ (0 : Int) then (LB_Sh_sortPlaces_67 fl i_p1_count' f_p1_label' kb_2' x2' x3' x4' f_p0_key') else (if (0 ≤ (x4' - (1 : Int)) ∧ (x4' - (1 : Int)) < 80) then (if (f_p0_key' (Int.toNat (x4' - (1 : Int)))) ≤ x3' then (LB_Sh_sortPlaces_67 fl i_p1_count' f_p1_label' kb_2' x2' x3' x4' f_p0_key') else (if (0 ≤ x4' ∧ x4' < 80) then (if (-2147483648 ≤ (x4' + (-1 : Int)) ∧ (x4' + (-1 : Int)) < 2147483648) then (LB_Sh_sortPlaces_27 fl i_p1_count' f_p1_label' kb_2' nn x2' x3' (x4' + (-1 : Int)) (up f_p0_key' (Int.toNat x4') (f_p0_key' (Int.toNat (x4' - (1 : Int)))))) else none) else none)) else none))
theorem hB_Sh_sortPlaces_27 {i_p1_count : Int32} {i_p1_count' : Int} {f_p1_label : (Nat → Int32)} {f_p1_label' : (Nat → Int)} {kb_2 : (Int32 → (Nat → Int32) → Option ((Nat → Int32)))} {kb_2' : (Int → (Nat → Int) → Option ((Nat → Int)))} (fl : Nat) (e_i_p1_count : i_p1_count' = (i_p1_count).toInt) (e_f_p1_label : f_p1_label' = (t32 f_p1_label)) (k_kb_2 : ∀ {z0 : Int32} {z0' : Int} {z1 : (Nat → Int32)} {z1' : (Nat → Int)} (e0 : z0' = (z0).toInt) (e1 : z1' = (t32 z1)), Ok t32 (kb_2 z0 z1) (kb_2' z0' z1')) : ∀ (nn : Nat) {x2 : Int32} {x2' : Int} {x3 : Int32} {x3' : Int} {x4 : Int32} {x4' : Int} {f_p0_key : (Nat → Int32)} {f_p0_key' : (Nat → Int)} (e_x2 : x2' = (x2).toInt) (e_x3 : x3' = (x3).toInt) (e_x4 : x4' = (x4).toInt) (e_f_p0_key : f_p0_key' = (t32 f_p0_key)), Ok t32 (B_Sh_sortPlaces_27 fl i_p1_count f_p1_label kb_2 nn x2 x3 x4 f_p0_key) (LB_Sh_sortPlaces_27 fl i_p1_count' f_p1_label' kb_2' nn x2' x3' x4' f_p0_key') := by
  intro nn
  induction nn with
  | zero => intro x2 x2' x3 x3' x4 x4' f_p0_key f_p0_key' e_x2 e_x3 e_x4 e_f_p0_key; exact lf_none
  | succ nn ih =>
    intro x2 x2' x3 x3' x4 x4' f_p0_key f_p0_key' e_x2 e_x3 e_x4 e_f_p0_key
    rw [B_Sh_sortPlaces_27, LB_Sh_sortPlaces_27]
    refine lf_if (c_le e_x4 k32_0) ?_ ?_
    · exact (hB_Sh_sortPlaces_67 fl e_i_p1_count e_f_p1_label k_kb_2 e_x2 e_x3 e_x4 e_f_p0_key)
    · refine lf_gd (fun h2 => ⟨(c_idx (n := 80) (n' := 80) rfl (q_sub e_x4 k32_1 (ri h2 (by decide)))).1 h2, ?_⟩)
      refine lf_if (c_le (q_get e_f_p0_key (q_clamp (q_sub e_x4 k32_1 (ri h2 (by decide))))) e_x3) ?_ ?_
      · exact (hB_Sh_sortPlaces_67 fl e_i_p1_count e_f_p1_label k_kb_2 e_x2 e_x3 e_x4 e_f_p0_key)
      · refine lf_pos ((c_idx (n := 80) (n' := 80) rfl (q_sub e_x4 k32_1 (ri h2 (by decide)))).1 h2) ?_
        refine lf_gd (fun h3 => ⟨(c_idx (n := 80) (n' := 80) rfl e_x4).1 h3, ?_⟩)
        refine lf_guard (fun gg => ?_)
        have g4 := gg
        exact (ih e_x2 e_x3 (q_add e_x4 k32_n1 g4) (q_upd e_f_p0_key (q_clamp e_x4) (q_get e_f_p0_key (q_clamp (q_sub e_x4 k32_1 (ri h2 (by decide)))))))
def LB_Sh_sortPlaces_2 (fl : Nat) (i_p1_count' : Int) (f_p1_label' : (Nat → Int)) : Nat → Int → (Nat → Int) → Option ((Nat → Int))
  | 0, _, _ => none
  | nn + 1, x2', f_p0_key' => (if (-2147483648 ≤ ((4 : Int) * i_p1_count') ∧ ((4 : Int) * i_p1_count') < 2147483648) then (if ((4 : Int) * i_p1_count') ≤ x2' then (some (f_p0_key')) else (if (0 ≤ x2' ∧ x2' < 80) then (LB_Sh_sortPlaces_27 fl i_p1_count' f_p1_label' (LB_Sh_sortPlaces_2 fl i_p1_count' f_p1_label' nn) fl x2' (ior (ishl (f_p1_label' (Int.toNat x2')) ((7 : Int) % 32)) x2') x2' f_p0_key') else none)) else none)
theorem hB_Sh_sortPlaces_2 {i_p1_count : Int32} {i_p1_count' : Int} {f_p1_label : (Nat → Int32)} {f_p1_label' : (Nat → Int)} (fl : Nat) (e_i_p1_count : i_p1_count' = (i_p1_count).toInt) (e_f_p1_label : f_p1_label' = (t32 f_p1_label)) : ∀ (nn : Nat) {x2 : Int32} {x2' : Int} {f_p0_key : (Nat → Int32)} {f_p0_key' : (Nat → Int)} (e_x2 : x2' = (x2).toInt) (e_f_p0_key : f_p0_key' = (t32 f_p0_key)), Ok t32 (B_Sh_sortPlaces_2 fl i_p1_count f_p1_label nn x2 f_p0_key) (LB_Sh_sortPlaces_2 fl i_p1_count' f_p1_label' nn x2' f_p0_key') := by
  intro nn
  induction nn with
  | zero => intro x2 x2' f_p0_key f_p0_key' e_x2 e_f_p0_key; exact lf_none
  | succ nn ih =>
    intro x2 x2' f_p0_key f_p0_key' e_x2 e_f_p0_key
    rw [B_Sh_sortPlaces_2, LB_Sh_sortPlaces_2]
    refine lf_guard (fun gg => ?_)
    have g1 := gg
    refine lf_if (c_le (q_mul k32_4 e_i_p1_count g1) e_x2) ?_ ?_
    · exact lf_some e_f_p0_key
    · refine lf_gd (fun h2 => ⟨(c_idx (n := 80) (n' := 80) rfl e_x2).1 h2, ?_⟩)
      exact (hB_Sh_sortPlaces_27 fl e_i_p1_count e_f_p1_label ih fl e_x2 (q_or (q_shl (q_get e_f_p1_label (q_clamp e_x2)) (q_mask (k := 5) (by decide) (by decide) k32_7)) e_x2) e_x2 e_f_p0_key)
def LB_Sh_sortPlaces_0 (fl : Nat) (i_p1_count' : Int) (f_p1_label' : (Nat → Int)) (f_p0_key' : (Nat → Int)) : Option ((Nat → Int)) := (LB_Sh_sortPlaces_2 fl i_p1_count' f_p1_label' fl (0 : Int) f_p0_key')
theorem hB_Sh_sortPlaces_0 {i_p1_count : Int32} {i_p1_count' : Int} {f_p1_label : (Nat → Int32)} {f_p1_label' : (Nat → Int)} {f_p0_key : (Nat → Int32)} {f_p0_key' : (Nat → Int)} (fl : Nat) (e_i_p1_count : i_p1_count' = (i_p1_count).toInt) (e_f_p1_label : f_p1_label' = (t32 f_p1_label)) (e_f_p0_key : f_p0_key' = (t32 f_p0_key)) : Ok t32 (B_Sh_sortPlaces_0 fl i_p1_count f_p1_label f_p0_key) (LB_Sh_sortPlaces_0 fl i_p1_count' f_p1_label' f_p0_key') := by
  unfold B_Sh_sortPlaces_0 LB_Sh_sortPlaces_0
  exact (hB_Sh_sortPlaces_2 fl e_i_p1_count e_f_p1_label fl k32_0 e_f_p0_key)
def LM_Sh_sortPlaces (fl : Nat) (i_p1_count' : Int) (f_p1_label' : (Nat → Int)) (f_p0_key' : (Nat → Int)) : Option ((Nat → Int)) := (LB_Sh_sortPlaces_0 fl i_p1_count' f_p1_label' f_p0_key')
theorem hm_Sh_sortPlaces {i_p1_count : Int32} {i_p1_count' : Int} {f_p1_label : (Nat → Int32)} {f_p1_label' : (Nat → Int)} {f_p0_key : (Nat → Int32)} {f_p0_key' : (Nat → Int)} (fl : Nat) (e_i_p1_count : i_p1_count' = (i_p1_count).toInt) (e_f_p1_label : f_p1_label' = (t32 f_p1_label)) (e_f_p0_key : f_p0_key' = (t32 f_p0_key)) : Ok t32 (m_Sh_sortPlaces fl i_p1_count f_p1_label f_p0_key) (LM_Sh_sortPlaces fl i_p1_count' f_p1_label' f_p0_key') := by
  unfold m_Sh_sortPlaces LM_Sh_sortPlaces
  exact (hB_Sh_sortPlaces_0 fl e_i_p1_count e_f_p1_label e_f_p0_key)
def LB_Sh_labelOfKey_0 (fl : Nat) (f_p0_key' : (Nat → Int)) (x1' : Int) : Option (Int) := (if (0 ≤ x1' ∧ x1' < 80) then (some ((ishr (f_p0_key' (Int.toNat x1')) ((7 : Int) % 32)))) else none)
theorem hB_Sh_labelOfKey_0 {f_p0_key : (Nat → Int32)} {f_p0_key' : (Nat → Int)} {x1 : Int32} {x1' : Int} (fl : Nat) (e_f_p0_key : f_p0_key' = (t32 f_p0_key)) (e_x1 : x1' = (x1).toInt) : Ok Int32.toInt (B_Sh_labelOfKey_0 fl f_p0_key x1) (LB_Sh_labelOfKey_0 fl f_p0_key' x1') := by
  unfold B_Sh_labelOfKey_0 LB_Sh_labelOfKey_0
  refine lf_gd (fun h1 => ⟨(c_idx (n := 80) (n' := 80) rfl e_x1).1 h1, ?_⟩)
  exact lf_some (q_shr (q_get e_f_p0_key (q_clamp e_x1)) (q_mask (k := 5) (by decide) (by decide) k32_7))
def LM_Sh_labelOfKey (fl : Nat) (f_p0_key' : (Nat → Int)) (x1' : Int) : Option (Int) := (LB_Sh_labelOfKey_0 fl f_p0_key' x1')
theorem hm_Sh_labelOfKey {f_p0_key : (Nat → Int32)} {f_p0_key' : (Nat → Int)} {x1 : Int32} {x1' : Int} (fl : Nat) (e_f_p0_key : f_p0_key' = (t32 f_p0_key)) (e_x1 : x1' = (x1).toInt) : Ok Int32.toInt (m_Sh_labelOfKey fl f_p0_key x1) (LM_Sh_labelOfKey fl f_p0_key' x1') := by
  unfold m_Sh_labelOfKey LM_Sh_labelOfKey
  exact (hB_Sh_labelOfKey_0 fl e_f_p0_key e_x1)
def LB_Sh_breaks_0 (fl : Nat) (x1' : Int) (x2' : Int) (i_p0_brokenRule' : Int) (i_p0_culprit' : Int) : Option (Int × Int × Int) := (some ((0 : Int), x1', x2'))
theorem hB_Sh_breaks_0 {x1 : Int32} {x1' : Int} {x2 : Int32} {x2' : Int} {i_p0_brokenRule : Int32} {i_p0_brokenRule' : Int} {i_p0_culprit : Int32} {i_p0_culprit' : Int} (fl : Nat) (e_x1 : x1' = (x1).toInt) (e_x2 : x2' = (x2).toInt) (e_i_p0_brokenRule : i_p0_brokenRule' = (i_p0_brokenRule).toInt) (e_i_p0_culprit : i_p0_culprit' = (i_p0_culprit).toInt) : Ok (fun r => (r.1.toInt, r.2.1.toInt, r.2.2.toInt)) (B_Sh_breaks_0 fl x1 x2 i_p0_brokenRule i_p0_culprit) (LB_Sh_breaks_0 fl x1' x2' i_p0_brokenRule' i_p0_culprit') := by
  unfold B_Sh_breaks_0 LB_Sh_breaks_0
  exact lf_some (tup3 k32_0 e_x1 e_x2)
def LM_Sh_breaks (fl : Nat) (x1' : Int) (x2' : Int) (i_p0_brokenRule' : Int) (i_p0_culprit' : Int) : Option (Int × Int × Int) := (LB_Sh_breaks_0 fl x1' x2' i_p0_brokenRule' i_p0_culprit')
theorem hm_Sh_breaks {x1 : Int32} {x1' : Int} {x2 : Int32} {x2' : Int} {i_p0_brokenRule : Int32} {i_p0_brokenRule' : Int} {i_p0_culprit : Int32} {i_p0_culprit' : Int} (fl : Nat) (e_x1 : x1' = (x1).toInt) (e_x2 : x2' = (x2).toInt) (e_i_p0_brokenRule : i_p0_brokenRule' = (i_p0_brokenRule).toInt) (e_i_p0_culprit : i_p0_culprit' = (i_p0_culprit).toInt) : Ok (fun r => (r.1.toInt, r.2.1.toInt, r.2.2.toInt)) (m_Sh_breaks fl x1 x2 i_p0_brokenRule i_p0_culprit) (LM_Sh_breaks fl x1' x2' i_p0_brokenRule' i_p0_culprit') := by
  unfold m_Sh_breaks LM_Sh_breaks
  exact (hB_Sh_breaks_0 fl e_x1 e_x2 e_i_p0_brokenRule e_i_p0_culprit)
def LB_Sh_placeOfKey_0 (fl : Nat) (f_p0_key' : (Nat → Int)) (x1' : Int) : Option (Int) := (if (0 ≤ x1' ∧ x1' < 80) then (some (((f_p0_key' (Int.toNat x1')) % 128))) else none)
theorem hB_Sh_placeOfKey_0 {f_p0_key : (Nat → Int32)} {f_p0_key' : (Nat → Int)} {x1 : Int32} {x1' : Int} (fl : Nat) (e_f_p0_key : f_p0_key' = (t32 f_p0_key)) (e_x1 : x1' = (x1).toInt) : Ok Int32.toInt (B_Sh_placeOfKey_0 fl f_p0_key x1) (LB_Sh_placeOfKey_0 fl f_p0_key' x1') := by
  unfold B_Sh_placeOfKey_0 LB_Sh_placeOfKey_0
  refine lf_gd (fun h1 => ⟨(c_idx (n := 80) (n' := 80) rfl e_x1).1 h1, ?_⟩)
  exact lf_some (q_mask (k := 7) (by decide) (by decide) (q_get e_f_p0_key (q_clamp e_x1)))
def LM_Sh_placeOfKey (fl : Nat) (f_p0_key' : (Nat → Int)) (x1' : Int) : Option (Int) := (LB_Sh_placeOfKey_0 fl f_p0_key' x1')
theorem hm_Sh_placeOfKey {f_p0_key : (Nat → Int32)} {f_p0_key' : (Nat → Int)} {x1 : Int32} {x1' : Int} (fl : Nat) (e_f_p0_key : f_p0_key' = (t32 f_p0_key)) (e_x1 : x1' = (x1).toInt) : Ok Int32.toInt (m_Sh_placeOfKey fl f_p0_key x1) (LM_Sh_placeOfKey fl f_p0_key' x1') := by
  unfold m_Sh_placeOfKey LM_Sh_placeOfKey
  exact (hB_Sh_placeOfKey_0 fl e_f_p0_key e_x1)
def LB_Di_upperOut_0 (fl : Nat) (f_p0_sign' : (Nat → Int)) (x1' : Int) : Option (Int) := (if (0 ≤ x1' ∧ x1' < 20) then (if (f_p0_sign' (Int.toNat x1')) ≤ (0 : Int) then (if (-2147483648 ≤ ((4 : Int) * x1') ∧ ((4 : Int) * x1') < 2147483648) ∧ (-2147483648 ≤ (((4 : Int) * x1') + (3 : Int)) ∧ (((4 : Int) * x1') + (3 : Int)) < 2147483648) then (some ((((4 : Int) * x1') + (3 : Int)))) else none) else (if (-2147483648 ≤ ((4 : Int) * x1') ∧ ((4 : Int) * x1') < 2147483648) ∧ (-2147483648 ≤ (((4 : Int) * x1') + (1 : Int)) ∧ (((4 : Int) * x1') + (1 : Int)) < 2147483648) then (some ((((4 : Int) * x1') + (1 : Int)))) else none)) else none)
theorem hB_Di_upperOut_0 {f_p0_sign : (Nat → Int32)} {f_p0_sign' : (Nat → Int)} {x1 : Int32} {x1' : Int} (fl : Nat) (e_f_p0_sign : f_p0_sign' = (t32 f_p0_sign)) (e_x1 : x1' = (x1).toInt) : Ok Int32.toInt (B_Di_upperOut_0 fl f_p0_sign x1) (LB_Di_upperOut_0 fl f_p0_sign' x1') := by
  unfold B_Di_upperOut_0 LB_Di_upperOut_0
  refine lf_gd (fun h1 => ⟨(c_idx (n := 20) (n' := 20) rfl e_x1).1 h1, ?_⟩)
  refine lf_if (c_le (q_get e_f_p0_sign (q_clamp e_x1)) k32_0) ?_ ?_
  · refine lf_guard (fun gg => ?_)
    obtain ⟨g2, g3⟩ := gg
    exact lf_some (q_add (q_mul k32_4 e_x1 g2) k32_3 g3)
  · refine lf_guard (fun gg => ?_)
    obtain ⟨g4, g5⟩ := gg
    exact lf_some (q_add (q_mul k32_4 e_x1 g4) k32_1 g5)
def LM_Di_upperOut (fl : Nat) (f_p0_sign' : (Nat → Int)) (x1' : Int) : Option (Int) := (LB_Di_upperOut_0 fl f_p0_sign' x1')
theorem hm_Di_upperOut {f_p0_sign : (Nat → Int32)} {f_p0_sign' : (Nat → Int)} {x1 : Int32} {x1' : Int} (fl : Nat) (e_f_p0_sign : f_p0_sign' = (t32 f_p0_sign)) (e_x1 : x1' = (x1).toInt) : Ok Int32.toInt (m_Di_upperOut fl f_p0_sign x1) (LM_Di_upperOut fl f_p0_sign' x1') := by
  unfold m_Di_upperOut LM_Di_upperOut
  exact (hB_Di_upperOut_0 fl e_f_p0_sign e_x1)
def LB_Sh_findPieces_145 (fl : Nat) (i_p0_edges' : Int) (f_p0_from' : (Nat → Int)) (f_p0_to' : (Nat → Int)) (kb_27' : (Int → Int → Int → (Nat → Int) → Option (Int × (Nat → Int)))) (x1' : Int) (x2' : Int) (x3' : Int) (x4' : Int) (i_p0_pieces' : Int) (f_p0_pieceOf' : (Nat → Int)) : Option (Int × (Nat → Int)) := (if (-2147483648 ≤ (x2' + (1 : Int)) ∧ (x2' + (1 : Int)) < 2147483648) then (kb_27' x1' (x2' + (1 : Int)) i_p0_pieces' f_p0_pieceOf') else none)
theorem hB_Sh_findPieces_145 {i_p0_edges : Int32} {i_p0_edges' : Int} {f_p0_from : (Nat → Int32)} {f_p0_from' : (Nat → Int)} {f_p0_to : (Nat → Int32)} {f_p0_to' : (Nat → Int)} {kb_27 : (Int32 → Int32 → Int32 → (Nat → Int32) → Option (Int32 × (Nat → Int32)))} {kb_27' : (Int → Int → Int → (Nat → Int) → Option (Int × (Nat → Int)))} {x1 : Int32} {x1' : Int} {x2 : Int32} {x2' : Int} {x3 : Int32} {x3' : Int} {x4 : Int32} {x4' : Int} {i_p0_pieces : Int32} {i_p0_pieces' : Int} {f_p0_pieceOf : (Nat → Int32)} {f_p0_pieceOf' : (Nat → Int)} (fl : Nat) (e_i_p0_edges : i_p0_edges' = (i_p0_edges).toInt) (e_f_p0_from : f_p0_from' = (t32 f_p0_from)) (e_f_p0_to : f_p0_to' = (t32 f_p0_to)) (k_kb_27 : ∀ {z0 : Int32} {z0' : Int} {z1 : Int32} {z1' : Int} {z2 : Int32} {z2' : Int} {z3 : (Nat → Int32)} {z3' : (Nat → Int)} (e0 : z0' = (z0).toInt) (e1 : z1' = (z1).toInt) (e2 : z2' = (z2).toInt) (e3 : z3' = (t32 z3)), Ok (fun r => (r.1.toInt, t32 r.2)) (kb_27 z0 z1 z2 z3) (kb_27' z0' z1' z2' z3')) (e_x1 : x1' = (x1).toInt) (e_x2 : x2' = (x2).toInt) (e_x3 : x3' = (x3).toInt) (e_x4 : x4' = (x4).toInt) (e_i_p0_pieces : i_p0_pieces' = (i_p0_pieces).toInt) (e_f_p0_pieceOf : f_p0_pieceOf' = (t32 f_p0_pieceOf)) : Ok (fun r => (r.1.toInt, t32 r.2)) (B_Sh_findPieces_145 fl i_p0_edges f_p0_from f_p0_to kb_27 x1 x2 x3 x4 i_p0_pieces f_p0_pieceOf) (LB_Sh_findPieces_145 fl i_p0_edges' f_p0_from' f_p0_to' kb_27' x1' x2' x3' x4' i_p0_pieces' f_p0_pieceOf') := by
  unfold B_Sh_findPieces_145 LB_Sh_findPieces_145
  refine lf_guard (fun gg => ?_)
  have g1 := gg
  exact (k_kb_27 e_x1 (q_add e_x2 k32_1 g1) e_i_p0_pieces e_f_p0_pieceOf)
def LB_Sh_findPieces_128 (fl : Nat) (i_p0_edges' : Int) (f_p0_from' : (Nat → Int)) (f_p0_to' : (Nat → Int)) (kb_27' : (Int → Int → Int → (Nat → Int) → Option (Int × (Nat → Int)))) (kb_81' : (Int → Int → Int → Int → Int → Int → Int → (Nat → Int) → Option (Int × (Nat → Int)))) (s0' : Int) (s1' : Int) (x1' : Int) (x2' : Int) (x3' : Int) (x4' : Int) (x5' : Int) (x6' : Int) (i_p0_pieces' : Int) (f_p0_pieceOf' : (Nat → Int)) : Option (Int × (Nat → Int)) := (if (0 ≤ s1' ∧ s1' < 20) then (if (-2147483648 ≤ (x6' + (1 : Int)) ∧ (x6' + (1 : Int)) < 2147483648) then (kb_81' x1' x2' x3' x4' x5' (x6' + (1 : Int)) i_p0_pieces' (up f_p0_pieceOf' (Int.toNat s1') s0')) else none) else none)
theorem hB_Sh_findPieces_128 {i_p0_edges : Int32} {i_p0_edges' : Int} {f_p0_from : (Nat → Int32)} {f_p0_from' : (Nat → Int)} {f_p0_to : (Nat → Int32)} {f_p0_to' : (Nat → Int)} {kb_27 : (Int32 → Int32 → Int32 → (Nat → Int32) → Option (Int32 × (Nat → Int32)))} {kb_27' : (Int → Int → Int → (Nat → Int) → Option (Int × (Nat → Int)))} {kb_81 : (Int32 → Int32 → Int32 → Int32 → Int32 → Int32 → Int32 → (Nat → Int32) → Option (Int32 × (Nat → Int32)))} {kb_81' : (Int → Int → Int → Int → Int → Int → Int → (Nat → Int) → Option (Int × (Nat → Int)))} {s0 : Int32} {s0' : Int} {s1 : Int32} {s1' : Int} {x1 : Int32} {x1' : Int} {x2 : Int32} {x2' : Int} {x3 : Int32} {x3' : Int} {x4 : Int32} {x4' : Int} {x5 : Int32} {x5' : Int} {x6 : Int32} {x6' : Int} {i_p0_pieces : Int32} {i_p0_pieces' : Int} {f_p0_pieceOf : (Nat → Int32)} {f_p0_pieceOf' : (Nat → Int)} (fl : Nat) (e_i_p0_edges : i_p0_edges' = (i_p0_edges).toInt) (e_f_p0_from : f_p0_from' = (t32 f_p0_from)) (e_f_p0_to : f_p0_to' = (t32 f_p0_to)) (k_kb_27 : ∀ {z0 : Int32} {z0' : Int} {z1 : Int32} {z1' : Int} {z2 : Int32} {z2' : Int} {z3 : (Nat → Int32)} {z3' : (Nat → Int)} (e0 : z0' = (z0).toInt) (e1 : z1' = (z1).toInt) (e2 : z2' = (z2).toInt) (e3 : z3' = (t32 z3)), Ok (fun r => (r.1.toInt, t32 r.2)) (kb_27 z0 z1 z2 z3) (kb_27' z0' z1' z2' z3')) (k_kb_81 : ∀ {z0 : Int32} {z0' : Int} {z1 : Int32} {z1' : Int} {z2 : Int32} {z2' : Int} {z3 : Int32} {z3' : Int} {z4 : Int32} {z4' : Int} {z5 : Int32} {z5' : Int} {z6 : Int32} {z6' : Int} {z7 : (Nat → Int32)} {z7' : (Nat → Int)} (e0 : z0' = (z0).toInt) (e1 : z1' = (z1).toInt) (e2 : z2' = (z2).toInt) (e3 : z3' = (z3).toInt) (e4 : z4' = (z4).toInt) (e5 : z5' = (z5).toInt) (e6 : z6' = (z6).toInt) (e7 : z7' = (t32 z7)), Ok (fun r => (r.1.toInt, t32 r.2)) (kb_81 z0 z1 z2 z3 z4 z5 z6 z7) (kb_81' z0' z1' z2' z3' z4' z5' z6' z7')) (e_s0 : s0' = (s0).toInt) (e_s1 : s1' = (s1).toInt) (e_x1 : x1' = (x1).toInt) (e_x2 : x2' = (x2).toInt) (e_x3 : x3' = (x3).toInt) (e_x4 : x4' = (x4).toInt) (e_x5 : x5' = (x5).toInt) (e_x6 : x6' = (x6).toInt) (e_i_p0_pieces : i_p0_pieces' = (i_p0_pieces).toInt) (e_f_p0_pieceOf : f_p0_pieceOf' = (t32 f_p0_pieceOf)) : Ok (fun r => (r.1.toInt, t32 r.2)) (B_Sh_findPieces_128 fl i_p0_edges f_p0_from f_p0_to kb_27 kb_81 s0 s1 x1 x2 x3 x4 x5 x6 i_p0_pieces f_p0_pieceOf) (LB_Sh_findPieces_128 fl i_p0_edges' f_p0_from' f_p0_to' kb_27' kb_81' s0' s1' x1' x2' x3' x4' x5' x6' i_p0_pieces' f_p0_pieceOf') := by
  unfold B_Sh_findPieces_128 LB_Sh_findPieces_128
  refine lf_gd (fun h1 => ⟨(c_idx (n := 20) (n' := 20) rfl e_s1).1 h1, ?_⟩)
  refine lf_guard (fun gg => ?_)
  have g2 := gg
  exact (k_kb_81 e_x1 e_x2 e_x3 e_x4 e_x5 (q_add e_x6 k32_1 g2) e_i_p0_pieces (q_upd e_f_p0_pieceOf (q_clamp e_s1) e_s0))
def LB_Sh_findPieces_116 (fl : Nat) (i_p0_edges' : Int) (f_p0_from' : (Nat → Int)) (f_p0_to' : (Nat → Int)) (kb_27' : (Int → Int → Int → (Nat → Int) → Option (Int × (Nat → Int)))) (kb_81' : (Int → Int → Int → Int → Int → Int → Int → (Nat → Int) → Option (Int × (Nat → Int)))) (s0' : Int) (x1' : Int) (x2' : Int) (x3' : Int) (x4' : Int) (x5' : Int) (x6' : Int) (i_p0_pieces' : Int) (f_p0_pieceOf' : (Nat → Int)) : Option (Int × (Nat → Int)) := (LB_Sh_findPieces_128 fl i_p0_edges' f_p0_from' f_p0_to' kb_27' kb_81' x5' s0' x1' x2' x3' x4' x5' x6' i_p0_pieces' f_p0_pieceOf')
theorem hB_Sh_findPieces_116 {i_p0_edges : Int32} {i_p0_edges' : Int} {f_p0_from : (Nat → Int32)} {f_p0_from' : (Nat → Int)} {f_p0_to : (Nat → Int32)} {f_p0_to' : (Nat → Int)} {kb_27 : (Int32 → Int32 → Int32 → (Nat → Int32) → Option (Int32 × (Nat → Int32)))} {kb_27' : (Int → Int → Int → (Nat → Int) → Option (Int × (Nat → Int)))} {kb_81 : (Int32 → Int32 → Int32 → Int32 → Int32 → Int32 → Int32 → (Nat → Int32) → Option (Int32 × (Nat → Int32)))} {kb_81' : (Int → Int → Int → Int → Int → Int → Int → (Nat → Int) → Option (Int × (Nat → Int)))} {s0 : Int32} {s0' : Int} {x1 : Int32} {x1' : Int} {x2 : Int32} {x2' : Int} {x3 : Int32} {x3' : Int} {x4 : Int32} {x4' : Int} {x5 : Int32} {x5' : Int} {x6 : Int32} {x6' : Int} {i_p0_pieces : Int32} {i_p0_pieces' : Int} {f_p0_pieceOf : (Nat → Int32)} {f_p0_pieceOf' : (Nat → Int)} (fl : Nat) (e_i_p0_edges : i_p0_edges' = (i_p0_edges).toInt) (e_f_p0_from : f_p0_from' = (t32 f_p0_from)) (e_f_p0_to : f_p0_to' = (t32 f_p0_to)) (k_kb_27 : ∀ {z0 : Int32} {z0' : Int} {z1 : Int32} {z1' : Int} {z2 : Int32} {z2' : Int} {z3 : (Nat → Int32)} {z3' : (Nat → Int)} (e0 : z0' = (z0).toInt) (e1 : z1' = (z1).toInt) (e2 : z2' = (z2).toInt) (e3 : z3' = (t32 z3)), Ok (fun r => (r.1.toInt, t32 r.2)) (kb_27 z0 z1 z2 z3) (kb_27' z0' z1' z2' z3')) (k_kb_81 : ∀ {z0 : Int32} {z0' : Int} {z1 : Int32} {z1' : Int} {z2 : Int32} {z2' : Int} {z3 : Int32} {z3' : Int} {z4 : Int32} {z4' : Int} {z5 : Int32} {z5' : Int} {z6 : Int32} {z6' : Int} {z7 : (Nat → Int32)} {z7' : (Nat → Int)} (e0 : z0' = (z0).toInt) (e1 : z1' = (z1).toInt) (e2 : z2' = (z2).toInt) (e3 : z3' = (z3).toInt) (e4 : z4' = (z4).toInt) (e5 : z5' = (z5).toInt) (e6 : z6' = (z6).toInt) (e7 : z7' = (t32 z7)), Ok (fun r => (r.1.toInt, t32 r.2)) (kb_81 z0 z1 z2 z3 z4 z5 z6 z7) (kb_81' z0' z1' z2' z3' z4' z5' z6' z7')) (e_s0 : s0' = (s0).toInt) (e_x1 : x1' = (x1).toInt) (e_x2 : x2' = (x2).toInt) (e_x3 : x3' = (x3).toInt) (e_x4 : x4' = (x4).toInt) (e_x5 : x5' = (x5).toInt) (e_x6 : x6' = (x6).toInt) (e_i_p0_pieces : i_p0_pieces' = (i_p0_pieces).toInt) (e_f_p0_pieceOf : f_p0_pieceOf' = (t32 f_p0_pieceOf)) : Ok (fun r => (r.1.toInt, t32 r.2)) (B_Sh_findPieces_116 fl i_p0_edges f_p0_from f_p0_to kb_27 kb_81 s0 x1 x2 x3 x4 x5 x6 i_p0_pieces f_p0_pieceOf) (LB_Sh_findPieces_116 fl i_p0_edges' f_p0_from' f_p0_to' kb_27' kb_81' s0' x1' x2' x3' x4' x5' x6' i_p0_pieces' f_p0_pieceOf') := by
  unfold B_Sh_findPieces_116 LB_Sh_findPieces_116
  exact (hB_Sh_findPieces_128 fl e_i_p0_edges e_f_p0_from e_f_p0_to k_kb_27 k_kb_81 e_x5 e_s0 e_x1 e_x2 e_x3 e_x4 e_x5 e_x6 e_i_p0_pieces e_f_p0_pieceOf)
def LB_Sh_findPieces_81 (fl : Nat) (i_p0_edges' : Int) (f_p0_from' : (Nat → Int)) (f_p0_to' : (Nat → Int)) (kb_27' : (Int → Int → Int → (Nat → Int) → Option (Int × (Nat → Int)))) : Nat → Int → Int → Int → Int → Int → Int → Int → (Nat → Int) → Option (Int × (Nat → Int))
  | 0, _, _, _, _, _, _, _, _ => none
  | nn + 1, x1', x2', x3', x4', x5', x6', i_p0_pieces', f_p0_pieceOf' => (if x1' ≤ x6' then (if (-2147483648 ≤ (i_p0_pieces' - (1 : Int)) ∧ (i_p0_pieces' - (1 : Int)) < 2147483648) then (LB_Sh_findPieces_145 fl i_p0_edges' f_p0_from' f_p0_to' kb_27' x1' x2' x3' x4' (i_p0_pieces' - (1 : Int)) f_p0_pieceOf') else none) else (if (0 ≤ x6' ∧ x6' < 20) then (if (f_p0_pieceOf' (Int.toNat x6')) = x3' then (LB_Sh_findPieces_116 fl i_p0_edges' f_p0_from' f_p0_to' kb_27' (LB_Sh_findPieces_81 fl i_p0_edges' f_p0_from' f_p0_to' kb_27' nn) x6' x1' x2' x3' x4' x5' x6' i_p0_pieces' f_p0_pieceOf') else (if ¬ ((f_p0_pieceOf' (Int.toNat x6')) = x4') then (LB_Sh_findPieces_128 fl i_p0_edges' f_p0_from' f_p0_to' kb_27' (LB_Sh_findPieces_81 fl i_p0_edges' f_p0_from' f_p0_to' kb_27' nn) (f_p0_pieceOf' (Int.toNat x6')) x6' x1' x2' x3' x4' x5' x6' i_p0_pieces' f_p0_pieceOf') else (LB_Sh_findPieces_116 fl i_p0_edges' f_p0_from' f_p0_to' kb_27' (LB_Sh_findPieces_81 fl i_p0_edges' f_p0_from' f_p0_to' kb_27' nn) x6' x1' x2' x3' x4' x5' x6' i_p0_pieces' f_p0_pieceOf'))) else none))
theorem hB_Sh_findPieces_81 {i_p0_edges : Int32} {i_p0_edges' : Int} {f_p0_from : (Nat → Int32)} {f_p0_from' : (Nat → Int)} {f_p0_to : (Nat → Int32)} {f_p0_to' : (Nat → Int)} {kb_27 : (Int32 → Int32 → Int32 → (Nat → Int32) → Option (Int32 × (Nat → Int32)))} {kb_27' : (Int → Int → Int → (Nat → Int) → Option (Int × (Nat → Int)))} (fl : Nat) (e_i_p0_edges : i_p0_edges' = (i_p0_edges).toInt) (e_f_p0_from : f_p0_from' = (t32 f_p0_from)) (e_f_p0_to : f_p0_to' = (t32 f_p0_to)) (k_kb_27 : ∀ {z0 : Int32} {z0' : Int} {z1 : Int32} {z1' : Int} {z2 : Int32} {z2' : Int} {z3 : (Nat → Int32)} {z3' : (Nat → Int)} (e0 : z0' = (z0).toInt) (e1 : z1' = (z1).toInt) (e2 : z2' = (z2).toInt) (e3 : z3' = (t32 z3)), Ok (fun r => (r.1.toInt, t32 r.2)) (kb_27 z0 z1 z2 z3) (kb_27' z0' z1' z2' z3')) : ∀ (nn : Nat) {x1 : Int32} {x1' : Int} {x2 : Int32} {x2' : Int} {x3 : Int32} {x3' : Int} {x4 : Int32} {x4' : Int} {x5 : Int32} {x5' : Int} {x6 : Int32} {x6' : Int} {i_p0_pieces : Int32} {i_p0_pieces' : Int} {f_p0_pieceOf : (Nat → Int32)} {f_p0_pieceOf' : (Nat → Int)} (e_x1 : x1' = (x1).toInt) (e_x2 : x2' = (x2).toInt) (e_x3 : x3' = (x3).toInt) (e_x4 : x4' = (x4).toInt) (e_x5 : x5' = (x5).toInt) (e_x6 : x6' = (x6).toInt) (e_i_p0_pieces : i_p0_pieces' = (i_p0_pieces).toInt) (e_f_p0_pieceOf : f_p0_pieceOf' = (t32 f_p0_pieceOf)), Ok (fun r => (r.1.toInt, t32 r.2)) (B_Sh_findPieces_81 fl i_p0_edges f_p0_from f_p0_to kb_27 nn x1 x2 x3 x4 x5 x6 i_p0_pieces f_p0_pieceOf) (LB_Sh_findPieces_81 fl i_p0_edges' f_p0_from' f_p0_to' kb_27' nn x1' x2' x3' x4' x5' x6' i_p0_pieces' f_p0_pieceOf') := by
  intro nn
  induction nn with
  | zero => intro x1 x1' x2 x2' x3 x3' x4 x4' x5 x5' x6 x6' i_p0_pieces i_p0_pieces' f_p0_pieceOf f_p0_pieceOf' e_x1 e_x2 e_x3 e_x4 e_x5 e_x6 e_i_p0_pieces e_f_p0_pieceOf; exact lf_none
  | succ nn ih =>
    intro x1 x1' x2 x2' x3 x3' x4 x4' x5 x5' x6 x6' i_p0_pieces i_p0_pieces' f_p0_pieceOf f_p0_pieceOf' e_x1 e_x2 e_x3 e_x4 e_x5 e_x6 e_i_p0_pieces e_f_p0_pieceOf
    rw [B_Sh_findPieces_81, LB_Sh_findPieces_81]
    refine lf_if (c_le e_x1 e_x6) ?_ ?_
    · refine lf_guard (fun gg => ?_)
      have g1 := gg
      exact (hB_Sh_findPieces_145 fl e_i_p0_edges e_f_p0_from e_f_p0_to k_kb_27 e_x1 e_x2 e_x3 e_x4 (q_sub e_i_p0_pieces k32_1 g1) e_f_p0_pieceOf)
    · refine lf_gd (fun h2 => ⟨(c_idx (n := 20) (n' := 20) rfl e_x6).1 h2, ?_⟩)
      refine lf_if (c_eq (q_get e_f_p0_pieceOf (q_clamp e_x6)) e_x3) ?_ ?_
      · exact (hB_Sh_findPieces_116 fl e_i_p0_edges e_f_p0_from e_f_p0_to k_kb_27 ih e_x6 e_x1 e_x2 e_x3 e_x4 e_x5 e_x6 e_i_p0_pieces e_f_p0_pieceOf)
      · refine lf_pos ((c_idx (n := 20) (n' := 20) rfl e_x6).1 h2) ?_
        refine lf_if (not_congr (c_eq (q_get e_f_p0_pieceOf (q_clamp e_x6)) e_x4)) ?_ ?_
        · refine lf_pos ((c_idx (n := 20) (n' := 20) rfl e_x6).1 h2) ?_
          exact (hB_Sh_findPieces_128 fl e_i_p0_edges e_f_p0_from e_f_p0_to k_kb_27 ih (q_get e_f_p0_pieceOf (q_clamp e_x6)) e_x6 e_x1 e_x2 e_x3 e_x4 e_x5 e_x6 e_i_p0_pieces e_f_p0_pieceOf)
        · exact (hB_Sh_findPieces_116 fl e_i_p0_edges e_f_p0_from e_f_p0_to k_kb_27 ih e_x6 e_x1 e_x2 e_x3 e_x4 e_x5 e_x6 e_i_p0_pieces e_f_p0_pieceOf)
def LB_Sh_findPieces_27 (fl : Nat) (i_p0_edges' : Int) (f_p0_from' : (Nat → Int)) (f_p0_to' : (Nat → Int)) : Nat → Int → Int → Int → (Nat → Int) → Option (Int × (Nat → Int))
  | 0, _, _, _, _ => none
  | nn + 1, x1', x2', i_p0_pieces', f_p0_pieceOf' => (if i_p0_edges' ≤ x2' then (some (i_p0_pieces', f_p0_pieceOf')) else (if (0 ≤ x2' ∧ x2' < 40) then (if (0 ≤ ((f_p0_from' (Int.toNat x2')) / 4) ∧ ((f_p0_from' (Int.toNat x2')) / 4) < 20) then (if (0 ≤ ((f_p0_to' (Int.toNat x2')) / 4) ∧ ((f_p0_to' (Int.toNat x2')) / 4) < 20) then (if (f_p0_pieceOf' (Int.toNat ((f_p0_from' (Int.toNat x2')) / 4))) = (f_p0_pieceOf' (Int.toNat ((f_p0_to' (Int.toNat x2')) / 4))) then (LB_Sh_findPieces_145 fl i_p0_edges' f_p0_from' f_p0_to' (LB_Sh_findPieces_27 fl i_p0_edges' f_p0_from' f_p0_to' nn) x1' x2' (f_p0_pieceOf' (Int.toNat ((f_p0_from' (Int.toNat x2')) / 4))) (f_p0_pieceOf' (Int.toNat ((f_p0_to' (Int.toNat x2')) / 4))) i_p0_pieces' f_p0_pieceOf') else (LB_Sh_findPieces_81 fl i_p0_edges' f_p0_from' f_p0_to' (LB_Sh_findPieces_27 fl i_p0_edges' f_p0_from' f_p0_to' nn) fl x1' x2' (f_p0_pieceOf' (Int.toNat ((f_p0_from' (Int.toNat x2')) / 4))) (f_p0_pieceOf' (Int.toNat ((f_p0_to' (Int.toNat x2')) / 4))) (if (f_p0_pieceOf' (Int.toNat ((f_p0_to' (Int.toNat x2')) / 4))) < (f_p0_pieceOf' (Int.toNat ((f_p0_from' (Int.toNat x2')) / 4))) then (f_p0_pieceOf' (Int.toNat ((f_p0_to' (Int.toNat x2')) / 4))) else (f_p0_pieceOf' (Int.toNat ((f_p0_from' (Int.toNat x2')) / 4)))) (0 : Int) i_p0_pieces' f_p0_pieceOf')) else none) else none) else none))
theorem hB_Sh_findPieces_27 {i_p0_edges : Int32} {i_p0_edges' : Int} {f_p0_from : (Nat → Int32)} {f_p0_from' : (Nat → Int)} {f_p0_to : (Nat → Int32)} {f_p0_to' : (Nat → Int)} (fl : Nat) (e_i_p0_edges : i_p0_edges' = (i_p0_edges).toInt) (e_f_p0_from : f_p0_from' = (t32 f_p0_from)) (e_f_p0_to : f_p0_to' = (t32 f_p0_to)) : ∀ (nn : Nat) {x1 : Int32} {x1' : Int} {x2 : Int32} {x2' : Int} {i_p0_pieces : Int32} {i_p0_pieces' : Int} {f_p0_pieceOf : (Nat → Int32)} {f_p0_pieceOf' : (Nat → Int)} (e_x1 : x1' = (x1).toInt) (e_x2 : x2' = (x2).toInt) (e_i_p0_pieces : i_p0_pieces' = (i_p0_pieces).toInt) (e_f_p0_pieceOf : f_p0_pieceOf' = (t32 f_p0_pieceOf)), Ok (fun r => (r.1.toInt, t32 r.2)) (B_Sh_findPieces_27 fl i_p0_edges f_p0_from f_p0_to nn x1 x2 i_p0_pieces f_p0_pieceOf) (LB_Sh_findPieces_27 fl i_p0_edges' f_p0_from' f_p0_to' nn x1' x2' i_p0_pieces' f_p0_pieceOf') := by
  intro nn
  induction nn with
  | zero => intro x1 x1' x2 x2' i_p0_pieces i_p0_pieces' f_p0_pieceOf f_p0_pieceOf' e_x1 e_x2 e_i_p0_pieces e_f_p0_pieceOf; exact lf_none
  | succ nn ih =>
    intro x1 x1' x2 x2' i_p0_pieces i_p0_pieces' f_p0_pieceOf f_p0_pieceOf' e_x1 e_x2 e_i_p0_pieces e_f_p0_pieceOf
    rw [B_Sh_findPieces_27, LB_Sh_findPieces_27]
    refine lf_if (c_le e_i_p0_edges e_x2) ?_ ?_
    · exact lf_some (tup2 e_i_p0_pieces e_f_p0_pieceOf)
    · refine lf_gd (fun h1 => ⟨(c_idx (n := 40) (n' := 40) rfl e_x2).1 h1, ?_⟩)
      refine lf_gd (fun h2 => ⟨(c_idx (n := 20) (n' := 20) rfl (q_sh2 (q_get e_f_p0_from (q_clamp e_x2)))).1 h2, ?_⟩)
      refine lf_pos ((c_idx (n := 40) (n' := 40) rfl e_x2).1 h1) ?_
      refine lf_gd (fun h3 => ⟨(c_idx (n := 20) (n' := 20) rfl (q_sh2 (q_get e_f_p0_to (q_clamp e_x2)))).1 h3, ?_⟩)
      refine lf_if (c_eq (q_get e_f_p0_pieceOf (q_clamp (q_sh2 (q_get e_f_p0_from (q_clamp e_x2))))) (q_get e_f_p0_pieceOf (q_clamp (q_sh2 (q_get e_f_p0_to (q_clamp e_x2)))))) ?_ ?_
      · exact (hB_Sh_findPieces_145 fl e_i_p0_edges e_f_p0_from e_f_p0_to ih e_x1 e_x2 (q_get e_f_p0_pieceOf (q_clamp (q_sh2 (q_get e_f_p0_from (q_clamp e_x2))))) (q_get e_f_p0_pieceOf (q_clamp (q_sh2 (q_get e_f_p0_to (q_clamp e_x2))))) e_i_p0_pieces e_f_p0_pieceOf)
      · exact (hB_Sh_findPieces_81 fl e_i_p0_edges e_f_p0_from e_f_p0_to ih fl e_x1 e_x2 (q_get e_f_p0_pieceOf (q_clamp (q_sh2 (q_get e_f_p0_from (q_clamp e_x2))))) (q_get e_f_p0_pieceOf (q_clamp (q_sh2 (q_get e_f_p0_to (q_clamp e_x2))))) (q_ite (c_lt (q_get e_f_p0_pieceOf (q_clamp (q_sh2 (q_get e_f_p0_to (q_clamp e_x2))))) (q_get e_f_p0_pieceOf (q_clamp (q_sh2 (q_get e_f_p0_from (q_clamp e_x2)))))) (q_get e_f_p0_pieceOf (q_clamp (q_sh2 (q_get e_f_p0_to (q_clamp e_x2))))) (q_get e_f_p0_pieceOf (q_clamp (q_sh2 (q_get e_f_p0_from (q_clamp e_x2)))))) k32_0 e_i_p0_pieces e_f_p0_pieceOf)
def LB_Sh_findPieces_2 (fl : Nat) (i_p0_edges' : Int) (f_p0_from' : (Nat → Int)) (f_p0_to' : (Nat → Int)) : Nat → Int → Int → Int → (Nat → Int) → Option (Int × (Nat → Int))
  | 0, _, _, _, _ => none
  | nn + 1, x1', x2', i_p0_pieces', f_p0_pieceOf' => (if x1' ≤ x2' then (LB_Sh_findPieces_27 fl i_p0_edges' f_p0_from' f_p0_to' fl x1' (0 : Int) x1' f_p0_pieceOf') else (if (0 ≤ x2' ∧ x2' < 20) then (if (-2147483648 ≤ (x2' + (1 : Int)) ∧ (x2' + (1 : Int)) < 2147483648) then (LB_Sh_findPieces_2 fl i_p0_edges' f_p0_from' f_p0_to' nn x1' (x2' + (1 : Int)) i_p0_pieces' (up f_p0_pieceOf' (Int.toNat x2') x2')) else none) else none))
theorem hB_Sh_findPieces_2 {i_p0_edges : Int32} {i_p0_edges' : Int} {f_p0_from : (Nat → Int32)} {f_p0_from' : (Nat → Int)} {f_p0_to : (Nat → Int32)} {f_p0_to' : (Nat → Int)} (fl : Nat) (e_i_p0_edges : i_p0_edges' = (i_p0_edges).toInt) (e_f_p0_from : f_p0_from' = (t32 f_p0_from)) (e_f_p0_to : f_p0_to' = (t32 f_p0_to)) : ∀ (nn : Nat) {x1 : Int32} {x1' : Int} {x2 : Int32} {x2' : Int} {i_p0_pieces : Int32} {i_p0_pieces' : Int} {f_p0_pieceOf : (Nat → Int32)} {f_p0_pieceOf' : (Nat → Int)} (e_x1 : x1' = (x1).toInt) (e_x2 : x2' = (x2).toInt) (e_i_p0_pieces : i_p0_pieces' = (i_p0_pieces).toInt) (e_f_p0_pieceOf : f_p0_pieceOf' = (t32 f_p0_pieceOf)), Ok (fun r => (r.1.toInt, t32 r.2)) (B_Sh_findPieces_2 fl i_p0_edges f_p0_from f_p0_to nn x1 x2 i_p0_pieces f_p0_pieceOf) (LB_Sh_findPieces_2 fl i_p0_edges' f_p0_from' f_p0_to' nn x1' x2' i_p0_pieces' f_p0_pieceOf') := by
  intro nn
  induction nn with
  | zero => intro x1 x1' x2 x2' i_p0_pieces i_p0_pieces' f_p0_pieceOf f_p0_pieceOf' e_x1 e_x2 e_i_p0_pieces e_f_p0_pieceOf; exact lf_none
  | succ nn ih =>
    intro x1 x1' x2 x2' i_p0_pieces i_p0_pieces' f_p0_pieceOf f_p0_pieceOf' e_x1 e_x2 e_i_p0_pieces e_f_p0_pieceOf
    rw [B_Sh_findPieces_2, LB_Sh_findPieces_2]
    refine lf_if (c_le e_x1 e_x2) ?_ ?_
    · exact (hB_Sh_findPieces_27 fl e_i_p0_edges e_f_p0_from e_f_p0_to fl e_x1 k32_0 e_x1 e_f_p0_pieceOf)
    · refine lf_gd (fun h1 => ⟨(c_idx (n := 20) (n' := 20) rfl e_x2).1 h1, ?_⟩)
      refine lf_guard (fun gg => ?_)
      have g2 := gg
      exact (ih e_x1 (q_add e_x2 k32_1 g2) e_i_p0_pieces (q_upd e_f_p0_pieceOf (q_clamp e_x2) e_x2))
def LB_Sh_findPieces_0 (fl : Nat) (i_p0_edges' : Int) (f_p0_from' : (Nat → Int)) (f_p0_to' : (Nat → Int)) (x1' : Int) (i_p0_pieces' : Int) (f_p0_pieceOf' : (Nat → Int)) : Option (Int × (Nat → Int)) := (LB_Sh_findPieces_2 fl i_p0_edges' f_p0_from' f_p0_to' fl x1' (0 : Int) i_p0_pieces' f_p0_pieceOf')
theorem hB_Sh_findPieces_0 {i_p0_edges : Int32} {i_p0_edges' : Int} {f_p0_from : (Nat → Int32)} {f_p0_from' : (Nat → Int)} {f_p0_to : (Nat → Int32)} {f_p0_to' : (Nat → Int)} {x1 : Int32} {x1' : Int} {i_p0_pieces : Int32} {i_p0_pieces' : Int} {f_p0_pieceOf : (Nat → Int32)} {f_p0_pieceOf' : (Nat → Int)} (fl : Nat) (e_i_p0_edges : i_p0_edges' = (i_p0_edges).toInt) (e_f_p0_from : f_p0_from' = (t32 f_p0_from)) (e_f_p0_to : f_p0_to' = (t32 f_p0_to)) (e_x1 : x1' = (x1).toInt) (e_i_p0_pieces : i_p0_pieces' = (i_p0_pieces).toInt) (e_f_p0_pieceOf : f_p0_pieceOf' = (t32 f_p0_pieceOf)) : Ok (fun r => (r.1.toInt, t32 r.2)) (B_Sh_findPieces_0 fl i_p0_edges f_p0_from f_p0_to x1 i_p0_pieces f_p0_pieceOf) (LB_Sh_findPieces_0 fl i_p0_edges' f_p0_from' f_p0_to' x1' i_p0_pieces' f_p0_pieceOf') := by
  unfold B_Sh_findPieces_0 LB_Sh_findPieces_0
  exact (hB_Sh_findPieces_2 fl e_i_p0_edges e_f_p0_from e_f_p0_to fl e_x1 k32_0 e_i_p0_pieces e_f_p0_pieceOf)
def LM_Sh_findPieces (fl : Nat) (i_p0_edges' : Int) (f_p0_from' : (Nat → Int)) (f_p0_to' : (Nat → Int)) (x1' : Int) (i_p0_pieces' : Int) (f_p0_pieceOf' : (Nat → Int)) : Option (Int × (Nat → Int)) := (LB_Sh_findPieces_0 fl i_p0_edges' f_p0_from' f_p0_to' x1' i_p0_pieces' f_p0_pieceOf')
theorem hm_Sh_findPieces {i_p0_edges : Int32} {i_p0_edges' : Int} {f_p0_from : (Nat → Int32)} {f_p0_from' : (Nat → Int)} {f_p0_to : (Nat → Int32)} {f_p0_to' : (Nat → Int)} {x1 : Int32} {x1' : Int} {i_p0_pieces : Int32} {i_p0_pieces' : Int} {f_p0_pieceOf : (Nat → Int32)} {f_p0_pieceOf' : (Nat → Int)} (fl : Nat) (e_i_p0_edges : i_p0_edges' = (i_p0_edges).toInt) (e_f_p0_from : f_p0_from' = (t32 f_p0_from)) (e_f_p0_to : f_p0_to' = (t32 f_p0_to)) (e_x1 : x1' = (x1).toInt) (e_i_p0_pieces : i_p0_pieces' = (i_p0_pieces).toInt) (e_f_p0_pieceOf : f_p0_pieceOf' = (t32 f_p0_pieceOf)) : Ok (fun r => (r.1.toInt, t32 r.2)) (m_Sh_findPieces fl i_p0_edges f_p0_from f_p0_to x1 i_p0_pieces f_p0_pieceOf) (LM_Sh_findPieces fl i_p0_edges' f_p0_from' f_p0_to' x1' i_p0_pieces' f_p0_pieceOf') := by
  unfold m_Sh_findPieces LM_Sh_findPieces
  exact (hB_Sh_findPieces_0 fl e_i_p0_edges e_f_p0_from e_f_p0_to e_x1 e_i_p0_pieces e_f_p0_pieceOf)
def LB_Sh_arrival_0 (fl : Nat) (f_p0_from' : (Nat → Int)) (f_p0_to' : (Nat → Int)) (x1' : Int) : Option (Int) := (if ¬ ((x1' % 2) = (0 : Int)) then (if (0 ≤ (x1' / 2) ∧ (x1' / 2) < 40) then (some ((f_p0_from' (Int.toNat (x1' / 2))))) else none) else (if (0 ≤ (x1' / 2) ∧ (x1' / 2) < 40) then (some ((f_p0_to' (Int.toNat (x1' / 2))))) else none))
theorem hB_Sh_arrival_0 {f_p0_from : (Nat → Int32)} {f_p0_from' : (Nat → Int)} {f_p0_to : (Nat → Int32)} {f_p0_to' : (Nat → Int)} {x1 : Int32} {x1' : Int} (fl : Nat) (e_f_p0_from : f_p0_from' = (t32 f_p0_from)) (e_f_p0_to : f_p0_to' = (t32 f_p0_to)) (e_x1 : x1' = (x1).toInt) : Ok Int32.toInt (B_Sh_arrival_0 fl f_p0_from f_p0_to x1) (LB_Sh_arrival_0 fl f_p0_from' f_p0_to' x1') := by
  unfold B_Sh_arrival_0 LB_Sh_arrival_0
  refine lf_if (not_congr (c_eq (q_mask (k := 1) (by decide) (by decide) e_x1) k32_0)) ?_ ?_
  · refine lf_gd (fun h1 => ⟨(c_idx (n := 40) (n' := 40) rfl (q_sh1 e_x1)).1 h1, ?_⟩)
    exact lf_some (q_get e_f_p0_from (q_clamp (q_sh1 e_x1)))
  · refine lf_gd (fun h2 => ⟨(c_idx (n := 40) (n' := 40) rfl (q_sh1 e_x1)).1 h2, ?_⟩)
    exact lf_some (q_get e_f_p0_to (q_clamp (q_sh1 e_x1)))
def LM_Sh_arrival (fl : Nat) (f_p0_from' : (Nat → Int)) (f_p0_to' : (Nat → Int)) (x1' : Int) : Option (Int) := (LB_Sh_arrival_0 fl f_p0_from' f_p0_to' x1')
theorem hm_Sh_arrival {f_p0_from : (Nat → Int32)} {f_p0_from' : (Nat → Int)} {f_p0_to : (Nat → Int32)} {f_p0_to' : (Nat → Int)} {x1 : Int32} {x1' : Int} (fl : Nat) (e_f_p0_from : f_p0_from' = (t32 f_p0_from)) (e_f_p0_to : f_p0_to' = (t32 f_p0_to)) (e_x1 : x1' = (x1).toInt) : Ok Int32.toInt (m_Sh_arrival fl f_p0_from f_p0_to x1) (LM_Sh_arrival fl f_p0_from' f_p0_to' x1') := by
  unfold m_Sh_arrival LM_Sh_arrival
  exact (hB_Sh_arrival_0 fl e_f_p0_from e_f_p0_to e_x1)
def LB_Sh_nextEdge_0 (fl : Nat) (f_p0_edgeAt' : (Nat → Int)) (f_p0_to' : (Nat → Int)) (x1' : Int) : Option (Int) := (if (0 ≤ x1' ∧ x1' < 40) then (if (0 ≤ (ixor (f_p0_to' (Int.toNat x1')) (2 : Int)) ∧ (ixor (f_p0_to' (Int.toNat x1')) (2 : Int)) < 80) then (some ((f_p0_edgeAt' (Int.toNat (ixor (f_p0_to' (Int.toNat x1')) (2 : Int)))))) else none) else none)
theorem hB_Sh_nextEdge_0 {f_p0_edgeAt : (Nat → Int32)} {f_p0_edgeAt' : (Nat → Int)} {f_p0_to : (Nat → Int32)} {f_p0_to' : (Nat → Int)} {x1 : Int32} {x1' : Int} (fl : Nat) (e_f_p0_edgeAt : f_p0_edgeAt' = (t32 f_p0_edgeAt)) (e_f_p0_to : f_p0_to' = (t32 f_p0_to)) (e_x1 : x1' = (x1).toInt) : Ok Int32.toInt (B_Sh_nextEdge_0 fl f_p0_edgeAt f_p0_to x1) (LB_Sh_nextEdge_0 fl f_p0_edgeAt' f_p0_to' x1') := by
  unfold B_Sh_nextEdge_0 LB_Sh_nextEdge_0
  refine lf_gd (fun h1 => ⟨(c_idx (n := 40) (n' := 40) rfl e_x1).1 h1, ?_⟩)
  refine lf_gd (fun h2 => ⟨(c_idx (n := 80) (n' := 80) rfl (q_xor (q_get e_f_p0_to (q_clamp e_x1)) k32_2)).1 h2, ?_⟩)
  exact lf_some (q_get e_f_p0_edgeAt (q_clamp (q_xor (q_get e_f_p0_to (q_clamp e_x1)) k32_2)))
def LM_Sh_nextEdge (fl : Nat) (f_p0_edgeAt' : (Nat → Int)) (f_p0_to' : (Nat → Int)) (x1' : Int) : Option (Int) := (LB_Sh_nextEdge_0 fl f_p0_edgeAt' f_p0_to' x1')
theorem hm_Sh_nextEdge {f_p0_edgeAt : (Nat → Int32)} {f_p0_edgeAt' : (Nat → Int)} {f_p0_to : (Nat → Int32)} {f_p0_to' : (Nat → Int)} {x1 : Int32} {x1' : Int} (fl : Nat) (e_f_p0_edgeAt : f_p0_edgeAt' = (t32 f_p0_edgeAt)) (e_f_p0_to : f_p0_to' = (t32 f_p0_to)) (e_x1 : x1' = (x1).toInt) : Ok Int32.toInt (m_Sh_nextEdge fl f_p0_edgeAt f_p0_to x1) (LM_Sh_nextEdge fl f_p0_edgeAt' f_p0_to' x1') := by
  unfold m_Sh_nextEdge LM_Sh_nextEdge
  exact (hB_Sh_nextEdge_0 fl e_f_p0_edgeAt e_f_p0_to e_x1)
def LB_Sh_pieceOfEdge_0 (fl : Nat) (f_p0_from' : (Nat → Int)) (f_p0_pieceOf' : (Nat → Int)) (x1' : Int) : Option (Int) := (if (0 ≤ x1' ∧ x1' < 40) then (if (0 ≤ ((f_p0_from' (Int.toNat x1')) / 4) ∧ ((f_p0_from' (Int.toNat x1')) / 4) < 20) then (some ((f_p0_pieceOf' (Int.toNat ((f_p0_from' (Int.toNat x1')) / 4))))) else none) else none)
theorem hB_Sh_pieceOfEdge_0 {f_p0_from : (Nat → Int32)} {f_p0_from' : (Nat → Int)} {f_p0_pieceOf : (Nat → Int32)} {f_p0_pieceOf' : (Nat → Int)} {x1 : Int32} {x1' : Int} (fl : Nat) (e_f_p0_from : f_p0_from' = (t32 f_p0_from)) (e_f_p0_pieceOf : f_p0_pieceOf' = (t32 f_p0_pieceOf)) (e_x1 : x1' = (x1).toInt) : Ok Int32.toInt (B_Sh_pieceOfEdge_0 fl f_p0_from f_p0_pieceOf x1) (LB_Sh_pieceOfEdge_0 fl f_p0_from' f_p0_pieceOf' x1') := by
  unfold B_Sh_pieceOfEdge_0 LB_Sh_pieceOfEdge_0
  refine lf_gd (fun h1 => ⟨(c_idx (n := 40) (n' := 40) rfl e_x1).1 h1, ?_⟩)
  refine lf_gd (fun h2 => ⟨(c_idx (n := 20) (n' := 20) rfl (q_sh2 (q_get e_f_p0_from (q_clamp e_x1)))).1 h2, ?_⟩)
  exact lf_some (q_get e_f_p0_pieceOf (q_clamp (q_sh2 (q_get e_f_p0_from (q_clamp e_x1)))))
def LM_Sh_pieceOfEdge (fl : Nat) (f_p0_from' : (Nat → Int)) (f_p0_pieceOf' : (Nat → Int)) (x1' : Int) : Option (Int) := (LB_Sh_pieceOfEdge_0 fl f_p0_from' f_p0_pieceOf' x1')
theorem hm_Sh_pieceOfEdge {f_p0_from : (Nat → Int32)} {f_p0_from' : (Nat → Int)} {f_p0_pieceOf : (Nat → Int32)} {f_p0_pieceOf' : (Nat → Int)} {x1 : Int32} {x1' : Int} (fl : Nat) (e_f_p0_from : f_p0_from' = (t32 f_p0_from)) (e_f_p0_pieceOf : f_p0_pieceOf' = (t32 f_p0_pieceOf)) (e_x1 : x1' = (x1).toInt) : Ok Int32.toInt (m_Sh_pieceOfEdge fl f_p0_from f_p0_pieceOf x1) (LM_Sh_pieceOfEdge fl f_p0_from' f_p0_pieceOf' x1') := by
  unfold m_Sh_pieceOfEdge LM_Sh_pieceOfEdge
  exact (hB_Sh_pieceOfEdge_0 fl e_f_p0_from e_f_p0_pieceOf e_x1)
def LB_Pa_putNumber_61 (fl : Nat) : Nat → Int → Int → Int → Int → Int → Int → (Nat → Int) → (Nat → Int) → Option (Int × Int × (Nat → Int) × (Nat → Int))
  | 0, _, _, _, _, _, _, _, _ => none
  | nn + 1, x1', x3', x5', x6', i_p0_size', i_p0_overflown', f_p0_bytes', f_p0_digits' => (if x6' < (0 : Int) then (some (i_p0_size', i_p0_overflown', f_p0_bytes', f_p0_digits')) else (if (0 ≤ x6' ∧ x6' < 20) then (if (-2147483648 ≤ ((48 : Int) + (f_p0_digits' (Int.toNat x6'))) ∧ ((48 : Int) + (f_p0_digits' (Int.toNat x6'))) < 2147483648) then ((LM_Pa_put fl ((48 : Int) + (f_p0_digits' (Int.toNat x6'))) i_p0_size' i_p0_overflown' f_p0_bytes').bind fun o0 => (if (-2147483648 ≤ (x6' + (-1 : Int)) ∧ (x6' + (-1 : Int)) < 2147483648) then (LB_Pa_putNumber_61 fl nn x1' x3' x5' (x6' + (-1 : Int)) o0.1 o0.2.1 o0.2.2 f_p0_digits') else none)) else none) else none))
theorem hB_Pa_putNumber_61  (fl : Nat) : ∀ (nn : Nat) {x1 : Int64} {x1' : Int} {x3 : Int64} {x3' : Int} {x5 : Int32} {x5' : Int} {x6 : Int32} {x6' : Int} {i_p0_size : Int32} {i_p0_size' : Int} {i_p0_overflown : Int32} {i_p0_overflown' : Int} {f_p0_bytes : (Nat → Int32)} {f_p0_bytes' : (Nat → Int)} {f_p0_digits : (Nat → Int32)} {f_p0_digits' : (Nat → Int)} (e_x1 : x1' = (x1).toInt) (e_x3 : x3' = (x3).toInt) (e_x5 : x5' = (x5).toInt) (e_x6 : x6' = (x6).toInt) (e_i_p0_size : i_p0_size' = (i_p0_size).toInt) (e_i_p0_overflown : i_p0_overflown' = (i_p0_overflown).toInt) (e_f_p0_bytes : f_p0_bytes' = (t32 f_p0_bytes)) (e_f_p0_digits : f_p0_digits' = (t32 f_p0_digits)), Ok (fun r => (r.1.toInt, r.2.1.toInt, t32 r.2.2.1, t32 r.2.2.2)) (B_Pa_putNumber_61 fl nn x1 x3 x5 x6 i_p0_size i_p0_overflown f_p0_bytes f_p0_digits) (LB_Pa_putNumber_61 fl nn x1' x3' x5' x6' i_p0_size' i_p0_overflown' f_p0_bytes' f_p0_digits') := by
  intro nn
  induction nn with
  | zero => intro x1 x1' x3 x3' x5 x5' x6 x6' i_p0_size i_p0_size' i_p0_overflown i_p0_overflown' f_p0_bytes f_p0_bytes' f_p0_digits f_p0_digits' e_x1 e_x3 e_x5 e_x6 e_i_p0_size e_i_p0_overflown e_f_p0_bytes e_f_p0_digits; exact lf_none
  | succ nn ih =>
    intro x1 x1' x3 x3' x5 x5' x6 x6' i_p0_size i_p0_size' i_p0_overflown i_p0_overflown' f_p0_bytes f_p0_bytes' f_p0_digits f_p0_digits' e_x1 e_x3 e_x5 e_x6 e_i_p0_size e_i_p0_overflown e_f_p0_bytes e_f_p0_digits
    rw [B_Pa_putNumber_61, LB_Pa_putNumber_61]
    refine lf_if (c_lt e_x6 k32_0) ?_ ?_
    · exact lf_some (tup4 e_i_p0_size e_i_p0_overflown e_f_p0_bytes e_f_p0_digits)
    · refine lf_gd (fun h1 => ⟨(c_idx (n := 20) (n' := 20) rfl e_x6).1 h1, ?_⟩)
      refine lf_guard (fun gg => ?_)
      have g2 := gg
      refine lf_bind (hm_Pa_put fl (q_add k32_48 (q_get e_f_p0_digits (q_clamp e_x6)) g2) e_i_p0_size e_i_p0_overflown e_f_p0_bytes) (fun o0 => ?_)
      refine lf_guard (fun gg => ?_)
      have g3 := gg
      exact (ih e_x1 e_x3 e_x5 (q_add e_x6 k32_n1 g3) (rfl : (o0.1).toInt = (o0.1).toInt) (rfl : (o0.2.1).toInt = (o0.2.1).toInt) (rfl : (t32 o0.2.2) = (t32 o0.2.2)) e_f_p0_digits)
def LB_Pa_putNumber_55 (fl : Nat) (x1' : Int) (x3' : Int) (x5' : Int) (i_p0_size' : Int) (i_p0_overflown' : Int) (f_p0_bytes' : (Nat → Int)) (f_p0_digits' : (Nat → Int)) : Option (Int × Int × (Nat → Int) × (Nat → Int)) := (if (-2147483648 ≤ (x5' - (1 : Int)) ∧ (x5' - (1 : Int)) < 2147483648) then (LB_Pa_putNumber_61 fl fl x1' x3' x5' (x5' - (1 : Int)) i_p0_size' i_p0_overflown' f_p0_bytes' f_p0_digits') else none)
theorem hB_Pa_putNumber_55 {x1 : Int64} {x1' : Int} {x3 : Int64} {x3' : Int} {x5 : Int32} {x5' : Int} {i_p0_size : Int32} {i_p0_size' : Int} {i_p0_overflown : Int32} {i_p0_overflown' : Int} {f_p0_bytes : (Nat → Int32)} {f_p0_bytes' : (Nat → Int)} {f_p0_digits : (Nat → Int32)} {f_p0_digits' : (Nat → Int)} (fl : Nat) (e_x1 : x1' = (x1).toInt) (e_x3 : x3' = (x3).toInt) (e_x5 : x5' = (x5).toInt) (e_i_p0_size : i_p0_size' = (i_p0_size).toInt) (e_i_p0_overflown : i_p0_overflown' = (i_p0_overflown).toInt) (e_f_p0_bytes : f_p0_bytes' = (t32 f_p0_bytes)) (e_f_p0_digits : f_p0_digits' = (t32 f_p0_digits)) : Ok (fun r => (r.1.toInt, r.2.1.toInt, t32 r.2.2.1, t32 r.2.2.2)) (B_Pa_putNumber_55 fl x1 x3 x5 i_p0_size i_p0_overflown f_p0_bytes f_p0_digits) (LB_Pa_putNumber_55 fl x1' x3' x5' i_p0_size' i_p0_overflown' f_p0_bytes' f_p0_digits') := by
  unfold B_Pa_putNumber_55 LB_Pa_putNumber_55
  refine lf_guard (fun gg => ?_)
  have g1 := gg
  exact (hB_Pa_putNumber_61 fl fl e_x1 e_x3 e_x5 (q_sub e_x5 k32_1 g1) e_i_p0_size e_i_p0_overflown e_f_p0_bytes e_f_p0_digits)
def LB_Pa_putNumber_17 (fl : Nat) : Nat → Int → Int → Int → Int → Int → (Nat → Int) → (Nat → Int) → Option (Int × Int × (Nat → Int) × (Nat → Int))
  | 0, _, _, _, _, _, _, _ => none
  | nn + 1, x1', x3', x5', i_p0_size', i_p0_overflown', f_p0_bytes', f_p0_digits' => (if ¬ ((10 : Int) = (0 : Int)) then (if (0 ≤ x5' ∧ x5' < 20) then (if (-9223372036854775808 ≤ (Int.tdiv x3' (10 : Int)) ∧ (Int.tdiv x3' (10 : Int)) < 9223372036854775808) then (if (Int.tdiv x3' (10 : Int)) = (0 : Int) then (if (-2147483648 ≤ (x5' + (1 : Int)) ∧ (x5' + (1 : Int)) < 2147483648) ∧ (-9223372036854775808 ≤ (-(Int.tmod x3' (10 : Int))) ∧ (-(Int.tmod x3' (10 : Int))) < 9223372036854775808) ∧ (-2147483648 ≤ (if (0 : Int) < (Int.tmod x3' (10 : Int)) then (Int.tmod x3' (10 : Int)) else (-(Int.tmod x3' (10 : Int)))) ∧ (if (0 : Int) < (Int.tmod x3' (10 : Int)) then (Int.tmod x3' (10 : Int)) else (-(Int.tmod x3' (10 : Int)))) < 2147483648) then (LB_Pa_putNumber_55 fl x1' (Int.tdiv x3' (10 : Int)) (x5' + (1 : Int)) i_p0_size' i_p0_overflown' f_p0_bytes' (up f_p0_digits' (Int.toNat x5') (if (0 : Int) < (Int.tmod x3' (10 : Int)) then (Int.tmod x3' (10 : Int)) else (-(Int.tmod x3' (10 : Int)))))) else none) else (if (-2147483648 ≤ (x5' + (1 : Int)) ∧ (x5' + (1 : Int)) < 2147483648) then (if (x5' + (1 : Int)) < (20 : Int) then (if (-9223372036854775808 ≤ (-(Int.tmod x3' (10 : Int))) ∧ (-(Int.tmod x3' (10 : Int))) < 9223372036854775808) ∧ (-2147483648 ≤ (if (0 : Int) < (Int.tmod x3' (10 : Int)) then (Int.tmod x3' (10 : Int)) else (-(Int.tmod x3' (10 : Int)))) ∧ (if (0 : Int) < (Int.tmod x3' (10 : Int)) then (Int.tmod x3' (10 : Int)) else (-(Int.tmod x3' (10 : Int)))) < 2147483648) then (LB_Pa_putNumber_17 fl nn x1' (Int.tdiv x3' (10 : Int)) (x5' + (1 : Int)) i_p0_size' i_p0_overflown' f_p0_bytes' (up f_p0_digits' (Int.toNat x5') (if (0 : Int) < (Int.tmod x3' (10 : Int)) then (Int.tmod x3' (10 : Int)) else (-(Int.tmod x3' (10 : Int)))))) else none) else (if (-9223372036854775808 ≤ (-(Int.tmod x3' (10 : Int))) ∧ (-(Int.tmod x3' (10 : Int))) < 9223372036854775808) ∧ (-2147483648 ≤ (if (0 : Int) < (Int.tmod x3' (10 : Int)) then (Int.tmod x3' (10 : Int)) else (-(Int.tmod x3' (10 : Int)))) ∧ (if (0 : Int) < (Int.tmod x3' (10 : Int)) then (Int.tmod x3' (10 : Int)) else (-(Int.tmod x3' (10 : Int)))) < 2147483648) then (LB_Pa_putNumber_55 fl x1' (Int.tdiv x3' (10 : Int)) (x5' + (1 : Int)) i_p0_size' i_p0_overflown' f_p0_bytes' (up f_p0_digits' (Int.toNat x5') (if (0 : Int) < (Int.tmod x3' (10 : Int)) then (Int.tmod x3' (10 : Int)) else (-(Int.tmod x3' (10 : Int)))))) else none)) else none)) else none) else none) else none)
theorem hB_Pa_putNumber_17  (fl : Nat) : ∀ (nn : Nat) {x1 : Int64} {x1' : Int} {x3 : Int64} {x3' : Int} {x5 : Int32} {x5' : Int} {i_p0_size : Int32} {i_p0_size' : Int} {i_p0_overflown : Int32} {i_p0_overflown' : Int} {f_p0_bytes : (Nat → Int32)} {f_p0_bytes' : (Nat → Int)} {f_p0_digits : (Nat → Int32)} {f_p0_digits' : (Nat → Int)} (e_x1 : x1' = (x1).toInt) (e_x3 : x3' = (x3).toInt) (e_x5 : x5' = (x5).toInt) (e_i_p0_size : i_p0_size' = (i_p0_size).toInt) (e_i_p0_overflown : i_p0_overflown' = (i_p0_overflown).toInt) (e_f_p0_bytes : f_p0_bytes' = (t32 f_p0_bytes)) (e_f_p0_digits : f_p0_digits' = (t32 f_p0_digits)), Ok (fun r => (r.1.toInt, r.2.1.toInt, t32 r.2.2.1, t32 r.2.2.2)) (B_Pa_putNumber_17 fl nn x1 x3 x5 i_p0_size i_p0_overflown f_p0_bytes f_p0_digits) (LB_Pa_putNumber_17 fl nn x1' x3' x5' i_p0_size' i_p0_overflown' f_p0_bytes' f_p0_digits') := by
  intro nn
  induction nn with
  | zero => intro x1 x1' x3 x3' x5 x5' i_p0_size i_p0_size' i_p0_overflown i_p0_overflown' f_p0_bytes f_p0_bytes' f_p0_digits f_p0_digits' e_x1 e_x3 e_x5 e_i_p0_size e_i_p0_overflown e_f_p0_bytes e_f_p0_digits; exact lf_none
  | succ nn ih =>
    intro x1 x1' x3 x3' x5 x5' i_p0_size i_p0_size' i_p0_overflown i_p0_overflown' f_p0_bytes f_p0_bytes' f_p0_digits f_p0_digits' e_x1 e_x3 e_x5 e_i_p0_size e_i_p0_overflown e_f_p0_bytes e_f_p0_digits
    rw [B_Pa_putNumber_17, LB_Pa_putNumber_17]
    refine lf_gd (fun h1 => ⟨(not_congr (d_eq k64_10 k64_0)).1 h1, ?_⟩)
    refine lf_gd (fun h2 => ⟨(c_idx (n := 20) (n' := 20) rfl e_x5).1 h2, ?_⟩)
    refine lf_pos ((not_congr (d_eq k64_10 k64_0)).1 h1) ?_
    refine lf_guard (fun gg => ?_)
    have g3 := gg
    refine lf_if (g_eq0 (p_div e_x3 k64_10 g3) k64_0) ?_ ?_
    · refine lf_guard (fun gg => ?_)
      obtain ⟨g4, g5, g6⟩ := gg
      exact (hB_Pa_putNumber_55 fl e_x1 (p_div e_x3 k64_10 g3) (q_add e_x5 k32_1 g4) e_i_p0_size e_i_p0_overflown e_f_p0_bytes (q_upd e_f_p0_digits (q_clamp e_x5) (q_nar (p_ite (d_lt k64_0 (p_rem e_x3 k64_10)) (p_rem e_x3 k64_10) (p_neg (p_rem e_x3 k64_10) g5)) g6)))
    · refine lf_guard (fun gg => ?_)
      have g7 := gg
      refine lf_if (c_lt (q_add e_x5 k32_1 g7) k32_20) ?_ ?_
      · refine lf_guard (fun gg => ?_)
        obtain ⟨g8, g9⟩ := gg
        exact (ih e_x1 (p_div e_x3 k64_10 g3) (q_add e_x5 k32_1 g7) e_i_p0_size e_i_p0_overflown e_f_p0_bytes (q_upd e_f_p0_digits (q_clamp e_x5) (q_nar (p_ite (d_lt k64_0 (p_rem e_x3 k64_10)) (p_rem e_x3 k64_10) (p_neg (p_rem e_x3 k64_10) g8)) g9)))
      · refine lf_guard (fun gg => ?_)
        obtain ⟨g10, g11⟩ := gg
        exact (hB_Pa_putNumber_55 fl e_x1 (p_div e_x3 k64_10 g3) (q_add e_x5 k32_1 g7) e_i_p0_size e_i_p0_overflown e_f_p0_bytes (q_upd e_f_p0_digits (q_clamp e_x5) (q_nar (p_ite (d_lt k64_0 (p_rem e_x3 k64_10)) (p_rem e_x3 k64_10) (p_neg (p_rem e_x3 k64_10) g10)) g11)))
def LB_Pa_putNumber_12 (fl : Nat) (x1' : Int) (i_p0_size' : Int) (i_p0_overflown' : Int) (f_p0_bytes' : (Nat → Int)) (f_p0_digits' : (Nat → Int)) : Option (Int × Int × (Nat → Int) × (Nat → Int)) := (LB_Pa_putNumber_17 fl fl x1' x1' (0 : Int) i_p0_size' i_p0_overflown' f_p0_bytes' f_p0_digits')
theorem hB_Pa_putNumber_12 {x1 : Int64} {x1' : Int} {i_p0_size : Int32} {i_p0_size' : Int} {i_p0_overflown : Int32} {i_p0_overflown' : Int} {f_p0_bytes : (Nat → Int32)} {f_p0_bytes' : (Nat → Int)} {f_p0_digits : (Nat → Int32)} {f_p0_digits' : (Nat → Int)} (fl : Nat) (e_x1 : x1' = (x1).toInt) (e_i_p0_size : i_p0_size' = (i_p0_size).toInt) (e_i_p0_overflown : i_p0_overflown' = (i_p0_overflown).toInt) (e_f_p0_bytes : f_p0_bytes' = (t32 f_p0_bytes)) (e_f_p0_digits : f_p0_digits' = (t32 f_p0_digits)) : Ok (fun r => (r.1.toInt, r.2.1.toInt, t32 r.2.2.1, t32 r.2.2.2)) (B_Pa_putNumber_12 fl x1 i_p0_size i_p0_overflown f_p0_bytes f_p0_digits) (LB_Pa_putNumber_12 fl x1' i_p0_size' i_p0_overflown' f_p0_bytes' f_p0_digits') := by
  unfold B_Pa_putNumber_12 LB_Pa_putNumber_12
  exact (hB_Pa_putNumber_17 fl fl e_x1 e_x1 k32_0 e_i_p0_size e_i_p0_overflown e_f_p0_bytes e_f_p0_digits)
def LB_Pa_putNumber_0 (fl : Nat) (x1' : Int) (i_p0_size' : Int) (i_p0_overflown' : Int) (f_p0_bytes' : (Nat → Int)) (f_p0_digits' : (Nat → Int)) : Option (Int × Int × (Nat → Int) × (Nat → Int)) := (if (0 : Int) ≤ x1' then (LB_Pa_putNumber_12 fl x1' i_p0_size' i_p0_overflown' f_p0_bytes' f_p0_digits') else ((LM_Pa_put fl (45 : Int) i_p0_size' i_p0_overflown' f_p0_bytes').bind fun o0 => (LB_Pa_putNumber_12 fl x1' o0.1 o0.2.1 o0.2.2 f_p0_digits')))
theorem hB_Pa_putNumber_0 {x1 : Int64} {x1' : Int} {i_p0_size : Int32} {i_p0_size' : Int} {i_p0_overflown : Int32} {i_p0_overflown' : Int} {f_p0_bytes : (Nat → Int32)} {f_p0_bytes' : (Nat → Int)} {f_p0_digits : (Nat → Int32)} {f_p0_digits' : (Nat → Int)} (fl : Nat) (e_x1 : x1' = (x1).toInt) (e_i_p0_size : i_p0_size' = (i_p0_size).toInt) (e_i_p0_overflown : i_p0_overflown' = (i_p0_overflown).toInt) (e_f_p0_bytes : f_p0_bytes' = (t32 f_p0_bytes)) (e_f_p0_digits : f_p0_digits' = (t32 f_p0_digits)) : Ok (fun r => (r.1.toInt, r.2.1.toInt, t32 r.2.2.1, t32 r.2.2.2)) (B_Pa_putNumber_0 fl x1 i_p0_size i_p0_overflown f_p0_bytes f_p0_digits) (LB_Pa_putNumber_0 fl x1' i_p0_size' i_p0_overflown' f_p0_bytes' f_p0_digits') := by
  unfold B_Pa_putNumber_0 LB_Pa_putNumber_0
  refine lf_if (g_0le e_x1 k64_0) ?_ ?_
  · exact (hB_Pa_putNumber_12 fl e_x1 e_i_p0_size e_i_p0_overflown e_f_p0_bytes e_f_p0_digits)
  · refine lf_bind (hm_Pa_put fl k32_45 e_i_p0_size e_i_p0_overflown e_f_p0_bytes) (fun o0 => ?_)
    exact (hB_Pa_putNumber_12 fl e_x1 (rfl : (o0.1).toInt = (o0.1).toInt) (rfl : (o0.2.1).toInt = (o0.2.1).toInt) (rfl : (t32 o0.2.2) = (t32 o0.2.2)) e_f_p0_digits)
def LM_Pa_putNumber (fl : Nat) (x1' : Int) (i_p0_size' : Int) (i_p0_overflown' : Int) (f_p0_bytes' : (Nat → Int)) (f_p0_digits' : (Nat → Int)) : Option (Int × Int × (Nat → Int) × (Nat → Int)) := (LB_Pa_putNumber_0 fl x1' i_p0_size' i_p0_overflown' f_p0_bytes' f_p0_digits')
theorem hm_Pa_putNumber {x1 : Int64} {x1' : Int} {i_p0_size : Int32} {i_p0_size' : Int} {i_p0_overflown : Int32} {i_p0_overflown' : Int} {f_p0_bytes : (Nat → Int32)} {f_p0_bytes' : (Nat → Int)} {f_p0_digits : (Nat → Int32)} {f_p0_digits' : (Nat → Int)} (fl : Nat) (e_x1 : x1' = (x1).toInt) (e_i_p0_size : i_p0_size' = (i_p0_size).toInt) (e_i_p0_overflown : i_p0_overflown' = (i_p0_overflown).toInt) (e_f_p0_bytes : f_p0_bytes' = (t32 f_p0_bytes)) (e_f_p0_digits : f_p0_digits' = (t32 f_p0_digits)) : Ok (fun r => (r.1.toInt, r.2.1.toInt, t32 r.2.2.1, t32 r.2.2.2)) (m_Pa_putNumber fl x1 i_p0_size i_p0_overflown f_p0_bytes f_p0_digits) (LM_Pa_putNumber fl x1' i_p0_size' i_p0_overflown' f_p0_bytes' f_p0_digits') := by
  unfold m_Pa_putNumber LM_Pa_putNumber
  exact (hB_Pa_putNumber_0 fl e_x1 e_i_p0_size e_i_p0_overflown e_f_p0_bytes e_f_p0_digits)
def LB_Di_upperIn_0 (fl : Nat) (f_p0_sign' : (Nat → Int)) (x1' : Int) : Option (Int) := (if (0 ≤ x1' ∧ x1' < 20) then (if (f_p0_sign' (Int.toNat x1')) ≤ (0 : Int) then (if (-2147483648 ≤ ((4 : Int) * x1') ∧ ((4 : Int) * x1') < 2147483648) ∧ (-2147483648 ≤ (((4 : Int) * x1') + (1 : Int)) ∧ (((4 : Int) * x1') + (1 : Int)) < 2147483648) then (some ((((4 : Int) * x1') + (1 : Int)))) else none) else (if (-2147483648 ≤ ((4 : Int) * x1') ∧ ((4 : Int) * x1') < 2147483648) ∧ (-2147483648 ≤ (((4 : Int) * x1') + (3 : Int)) ∧ (((4 : Int) * x1') + (3 : Int)) < 2147483648) then (some ((((4 : Int) * x1') + (3 : Int)))) else none)) else none)
theorem hB_Di_upperIn_0 {f_p0_sign : (Nat → Int32)} {f_p0_sign' : (Nat → Int)} {x1 : Int32} {x1' : Int} (fl : Nat) (e_f_p0_sign : f_p0_sign' = (t32 f_p0_sign)) (e_x1 : x1' = (x1).toInt) : Ok Int32.toInt (B_Di_upperIn_0 fl f_p0_sign x1) (LB_Di_upperIn_0 fl f_p0_sign' x1') := by
  unfold B_Di_upperIn_0 LB_Di_upperIn_0
  refine lf_gd (fun h1 => ⟨(c_idx (n := 20) (n' := 20) rfl e_x1).1 h1, ?_⟩)
  refine lf_if (c_le (q_get e_f_p0_sign (q_clamp e_x1)) k32_0) ?_ ?_
  · refine lf_guard (fun gg => ?_)
    obtain ⟨g2, g3⟩ := gg
    exact lf_some (q_add (q_mul k32_4 e_x1 g2) k32_1 g3)
  · refine lf_guard (fun gg => ?_)
    obtain ⟨g4, g5⟩ := gg
    exact lf_some (q_add (q_mul k32_4 e_x1 g4) k32_3 g5)
def LM_Di_upperIn (fl : Nat) (f_p0_sign' : (Nat → Int)) (x1' : Int) : Option (Int) := (LB_Di_upperIn_0 fl f_p0_sign' x1')
theorem hm_Di_upperIn {f_p0_sign : (Nat → Int32)} {f_p0_sign' : (Nat → Int)} {x1 : Int32} {x1' : Int} (fl : Nat) (e_f_p0_sign : f_p0_sign' = (t32 f_p0_sign)) (e_x1 : x1' = (x1).toInt) : Ok Int32.toInt (m_Di_upperIn fl f_p0_sign x1) (LM_Di_upperIn fl f_p0_sign' x1') := by
  unfold m_Di_upperIn LM_Di_upperIn
  exact (hB_Di_upperIn_0 fl e_f_p0_sign e_x1)
def LB_Di_rename_34 (fl : Nat) (i_p0_count' : Int) (kb_7' : (Int → Int → Int → Int → (Nat → Int) → Option (Int × (Nat → Int)))) (x1' : Int) (x2' : Int) (x3' : Int) (i_p0_shapeIsKnown' : Int) (f_p0_label' : (Nat → Int)) : Option (Int × (Nat → Int)) := (if (-2147483648 ≤ (x3' + (1 : Int)) ∧ (x3' + (1 : Int)) < 2147483648) then (kb_7' x1' x2' (x3' + (1 : Int)) i_p0_shapeIsKnown' f_p0_label') else none)
theorem hB_Di_rename_34 {i_p0_count : Int32} {i_p0_count' : Int} {kb_7 : (Int32 → Int32 → Int32 → Int32 → (Nat → Int32) → Option (Int32 × (Nat → Int32)))} {kb_7' : (Int → Int → Int → Int → (Nat → Int) → Option (Int × (Nat → Int)))} {x1 : Int32} {x1' : Int} {x2 : Int32} {x2' : Int} {x3 : Int32} {x3' : Int} {i_p0_shapeIsKnown : Int32} {i_p0_shapeIsKnown' : Int} {f_p0_label : (Nat → Int32)} {f_p0_label' : (Nat → Int)} (fl : Nat) (e_i_p0_count : i_p0_count' = (i_p0_count).toInt) (k_kb_7 : ∀ {z0 : Int32} {z0' : Int} {z1 : Int32} {z1' : Int} {z2 : Int32} {z2' : Int} {z3 : Int32} {z3' : Int} {z4 : (Nat → Int32)} {z4' : (Nat → Int)} (e0 : z0' = (z0).toInt) (e1 : z1' = (z1).toInt) (e2 : z2' = (z2).toInt) (e3 : z3' = (z3).toInt) (e4 : z4' = (t32 z4)), Ok (fun r => (r.1.toInt, t32 r.2)) (kb_7 z0 z1 z2 z3 z4) (kb_7' z0' z1' z2' z3' z4')) (e_x1 : x1' = (x1).toInt) (e_x2 : x2' = (x2).toInt) (e_x3 : x3' = (x3).toInt) (e_i_p0_shapeIsKnown : i_p0_shapeIsKnown' = (i_p0_shapeIsKnown).toInt) (e_f_p0_label : f_p0_label' = (t32 f_p0_label)) : Ok (fun r => (r.1.toInt, t32 r.2)) (B_Di_rename_34 fl i_p0_count kb_7 x1 x2 x3 i_p0_shapeIsKnown f_p0_label) (LB_Di_rename_34 fl i_p0_count' kb_7' x1' x2' x3' i_p0_shapeIsKnown' f_p0_label') := by
  unfold B_Di_rename_34 LB_Di_rename_34
  refine lf_guard (fun gg => ?_)
  have g1 := gg
  exact (k_kb_7 e_x1 e_x2 (q_add e_x3 k32_1 g1) e_i_p0_shapeIsKnown e_f_p0_label)
def LB_Di_rename_7 (fl : Nat) (i_p0_count' : Int) : Nat → Int → Int → Int → Int → (Nat → Int) → Option (Int × (Nat → Int))
  | 0, _, _, _, _, _ => none
  | nn + 1, x1', x2', x3', i_p0_shapeIsKnown', f_p0_label' => (if (-2147483648 ≤ ((4 : Int) * i_p0_count') ∧ ((4 : Int) * i_p0_count') < 2147483648) then (if ((4 : Int) * i_p0_count') ≤ x3' then (some (i_p0_shapeIsKnown', f_p0_label')) else (if (0 ≤ x3' ∧ x3' < 80) then (if ¬ ((f_p0_label' (Int.toNat x3')) = x1') then (LB_Di_rename_34 fl i_p0_count' (LB_Di_rename_7 fl i_p0_count' nn) x1' x2' x3' i_p0_shapeIsKnown' f_p0_label') else (LB_Di_rename_34 fl i_p0_count' (LB_Di_rename_7 fl i_p0_count' nn) x1' x2' x3' i_p0_shapeIsKnown' (up f_p0_label' (Int.toNat x3') x2'))) else none)) else none)
theorem hB_Di_rename_7 {i_p0_count : Int32} {i_p0_count' : Int} (fl : Nat) (e_i_p0_count : i_p0_count' = (i_p0_count).toInt) : ∀ (nn : Nat) {x1 : Int32} {x1' : Int} {x2 : Int32} {x2' : Int} {x3 : Int32} {x3' : Int} {i_p0_shapeIsKnown : Int32} {i_p0_shapeIsKnown' : Int} {f_p0_label : (Nat → Int32)} {f_p0_label' : (Nat → Int)} (e_x1 : x1' = (x1).toInt) (e_x2 : x2' = (x2).toInt) (e_x3 : x3' = (x3).toInt) (e_i_p0_shapeIsKnown : i_p0_shapeIsKnown' = (i_p0_shapeIsKnown).toInt) (e_f_p0_label : f_p0_label' = (t32 f_p0_label)), Ok (fun r => (r.1.toInt, t32 r.2)) (B_Di_rename_7 fl i_p0_count nn x1 x2 x3 i_p0_shapeIsKnown f_p0_label) (LB_Di_rename_7 fl i_p0_count' nn x1' x2' x3' i_p0_shapeIsKnown' f_p0_label') := by
  intro nn
  induction nn with
  | zero => intro x1 x1' x2 x2' x3 x3' i_p0_shapeIsKnown i_p0_shapeIsKnown' f_p0_label f_p0_label' e_x1 e_x2 e_x3 e_i_p0_shapeIsKnown e_f_p0_label; exact lf_none
  | succ nn ih =>
    intro x1 x1' x2 x2' x3 x3' i_p0_shapeIsKnown i_p0_shapeIsKnown' f_p0_label f_p0_label' e_x1 e_x2 e_x3 e_i_p0_shapeIsKnown e_f_p0_label
    rw [B_Di_rename_7, LB_Di_rename_7]
    refine lf_guard (fun gg => ?_)
    have g1 := gg
    refine lf_if (c_le (q_mul k32_4 e_i_p0_count g1) e_x3) ?_ ?_
    · exact lf_some (tup2 e_i_p0_shapeIsKnown e_f_p0_label)
    · refine lf_gd (fun h2 => ⟨(c_idx (n := 80) (n' := 80) rfl e_x3).1 h2, ?_⟩)
      refine lf_if (not_congr (c_eq (q_get e_f_p0_label (q_clamp e_x3)) e_x1)) ?_ ?_
      · exact (hB_Di_rename_34 fl e_i_p0_count ih e_x1 e_x2 e_x3 e_i_p0_shapeIsKnown e_f_p0_label)
      · refine lf_pos ((c_idx (n := 80) (n' := 80) rfl e_x3).1 h2) ?_
        exact (hB_Di_rename_34 fl e_i_p0_count ih e_x1 e_x2 e_x3 e_i_p0_shapeIsKnown (q_upd e_f_p0_label (q_clamp e_x3) e_x2))
def LB_Di_rename_0 (fl : Nat) (i_p0_count' : Int) (x1' : Int) (x2' : Int) (i_p0_shapeIsKnown' : Int) (f_p0_label' : (Nat → Int)) : Option (Int × (Nat → Int)) := (LB_Di_rename_7 fl i_p0_count' fl x1' x2' (0 : Int) (0 : Int) f_p0_label')
theorem hB_Di_rename_0 {i_p0_count : Int32} {i_p0_count' : Int} {x1 : Int32} {x1' : Int} {x2 : Int32} {x2' : Int} {i_p0_shapeIsKnown : Int32} {i_p0_shapeIsKnown' : Int} {f_p0_label : (Nat → Int32)} {f_p0_label' : (Nat → Int)} (fl : Nat) (e_i_p0_count : i_p0_count' = (i_p0_count).toInt) (e_x1 : x1' = (x1).toInt) (e_x2 : x2' = (x2).toInt) (e_i_p0_shapeIsKnown : i_p0_shapeIsKnown' = (i_p0_shapeIsKnown).toInt) (e_f_p0_label : f_p0_label' = (t32 f_p0_label)) : Ok (fun r => (r.1.toInt, t32 r.2)) (B_Di_rename_0 fl i_p0_count x1 x2 i_p0_shapeIsKnown f_p0_label) (LB_Di_rename_0 fl i_p0_count' x1' x2' i_p0_shapeIsKnown' f_p0_label') := by
  unfold B_Di_rename_0 LB_Di_rename_0
  exact (hB_Di_rename_7 fl e_i_p0_count fl e_x1 e_x2 k32_0 k32_0 e_f_p0_label)
def LM_Di_rename (fl : Nat) (i_p0_count' : Int) (x1' : Int) (x2' : Int) (i_p0_shapeIsKnown' : Int) (f_p0_label' : (Nat → Int)) : Option (Int × (Nat → Int)) := (LB_Di_rename_0 fl i_p0_count' x1' x2' i_p0_shapeIsKnown' f_p0_label')
theorem hm_Di_rename {i_p0_count : Int32} {i_p0_count' : Int} {x1 : Int32} {x1' : Int} {x2 : Int32} {x2' : Int} {i_p0_shapeIsKnown : Int32} {i_p0_shapeIsKnown' : Int} {f_p0_label : (Nat → Int32)} {f_p0_label' : (Nat → Int)} (fl : Nat) (e_i_p0_count : i_p0_count' = (i_p0_count).toInt) (e_x1 : x1' = (x1).toInt) (e_x2 : x2' = (x2).toInt) (e_i_p0_shapeIsKnown : i_p0_shapeIsKnown' = (i_p0_shapeIsKnown).toInt) (e_f_p0_label : f_p0_label' = (t32 f_p0_label)) : Ok (fun r => (r.1.toInt, t32 r.2)) (m_Di_rename fl i_p0_count x1 x2 i_p0_shapeIsKnown f_p0_label) (LM_Di_rename fl i_p0_count' x1' x2' i_p0_shapeIsKnown' f_p0_label') := by
  unfold m_Di_rename LM_Di_rename
  exact (hB_Di_rename_0 fl e_i_p0_count e_x1 e_x2 e_i_p0_shapeIsKnown e_f_p0_label)
def LB_Sh_isUpper_0 (fl : Nat) (x0' : Int) : Option (Int) := (if ¬ ((x0' % 2) = (1 : Int)) then (some ((0 : Int))) else (some ((1 : Int))))
theorem hB_Sh_isUpper_0 {x0 : Int32} {x0' : Int} (fl : Nat) (e_x0 : x0' = (x0).toInt) : Ok Int32.toInt (B_Sh_isUpper_0 fl x0) (LB_Sh_isUpper_0 fl x0') := by
  unfold B_Sh_isUpper_0 LB_Sh_isUpper_0
  refine lf_if (not_congr (c_eq (q_mask (k := 1) (by decide) (by decide) e_x0) k32_1)) ?_ ?_
  · exact lf_some k32_0
  · exact lf_some k32_1
def LM_Sh_isUpper (fl : Nat) (x0' : Int) : Option (Int) := (LB_Sh_isUpper_0 fl x0')
theorem hm_Sh_isUpper {x0 : Int32} {x0' : Int} (fl : Nat) (e_x0 : x0' = (x0).toInt) : Ok Int32.toInt (m_Sh_isUpper fl x0) (LM_Sh_isUpper fl x0') := by
  unfold m_Sh_isUpper LM_Sh_isUpper
  exact (hB_Sh_isUpper_0 fl e_x0)
def LB_Di_copy_0 (fl : Nat) (i_p1_count' : Int) (i_p1_circles' : Int) (f_p1_label' : (Nat → Int)) (f_p1_sign' : (Nat → Int)) (i_p0_count' : Int) (i_p0_circles' : Int) (i_p0_shapeIsKnown' : Int) (f_p0_label' : (Nat → Int)) (f_p0_sign' : (Nat → Int)) : Option (Int × Int × Int × (Nat → Int) × (Nat → Int)) := (if (¬ ((0 : Int) < (0 : Int))) ∧ ((¬ ((0 : Int) < (0 : Int))) ∧ ((¬ (i_p1_count' < (0 : Int))) ∧ ((((Int.toNat (0 : Int)) + (Int.toNat i_p1_count')) ≤ 20) ∧ (((Int.toNat (0 : Int)) + (Int.toNat i_p1_count')) ≤ 20)))) then (if (-2147483648 ≤ ((4 : Int) * i_p1_count') ∧ ((4 : Int) * i_p1_count') < 2147483648) then (if (¬ ((0 : Int) < (0 : Int))) ∧ ((¬ ((0 : Int) < (0 : Int))) ∧ ((¬ (((4 : Int) * i_p1_count') < (0 : Int))) ∧ ((((Int.toNat (0 : Int)) + (Int.toNat ((4 : Int) * i_p1_count'))) ≤ 80) ∧ (((Int.toNat (0 : Int)) + (Int.toNat ((4 : Int) * i_p1_count'))) ≤ 80)))) then (some (i_p1_count', i_p1_circles', (0 : Int), (cpI f_p1_label' f_p0_label' (Int.toNat (0 : Int)) (Int.toNat (0 : Int)) (Int.toNat ((4 : Int) * i_p1_count'))), (cpI f_p1_sign' f_p0_sign' (Int.toNat (0 : Int)) (Int.toNat (0 : Int)) (Int.toNat i_p1_count')))) else none) else none) else none)
theorem hB_Di_copy_0 {i_p1_count : Int32} {i_p1_count' : Int} {i_p1_circles : Int32} {i_p1_circles' : Int} {f_p1_label : (Nat → Int32)} {f_p1_label' : (Nat → Int)} {f_p1_sign : (Nat → Int32)} {f_p1_sign' : (Nat → Int)} {i_p0_count : Int32} {i_p0_count' : Int} {i_p0_circles : Int32} {i_p0_circles' : Int} {i_p0_shapeIsKnown : Int32} {i_p0_shapeIsKnown' : Int} {f_p0_label : (Nat → Int32)} {f_p0_label' : (Nat → Int)} {f_p0_sign : (Nat → Int32)} {f_p0_sign' : (Nat → Int)} (fl : Nat) (e_i_p1_count : i_p1_count' = (i_p1_count).toInt) (e_i_p1_circles : i_p1_circles' = (i_p1_circles).toInt) (e_f_p1_label : f_p1_label' = (t32 f_p1_label)) (e_f_p1_sign : f_p1_sign' = (t32 f_p1_sign)) (e_i_p0_count : i_p0_count' = (i_p0_count).toInt) (e_i_p0_circles : i_p0_circles' = (i_p0_circles).toInt) (e_i_p0_shapeIsKnown : i_p0_shapeIsKnown' = (i_p0_shapeIsKnown).toInt) (e_f_p0_label : f_p0_label' = (t32 f_p0_label)) (e_f_p0_sign : f_p0_sign' = (t32 f_p0_sign)) : Ok (fun r => (r.1.toInt, r.2.1.toInt, r.2.2.1.toInt, t32 r.2.2.2.1, t32 r.2.2.2.2)) (B_Di_copy_0 fl i_p1_count i_p1_circles f_p1_label f_p1_sign i_p0_count i_p0_circles i_p0_shapeIsKnown f_p0_label f_p0_sign) (LB_Di_copy_0 fl i_p1_count' i_p1_circles' f_p1_label' f_p1_sign' i_p0_count' i_p0_circles' i_p0_shapeIsKnown' f_p0_label' f_p0_sign') := by
  unfold B_Di_copy_0 LB_Di_copy_0
  refine lf_gd (fun h1 => ⟨(and_congr (not_congr (c_lt k32_0 k32_0)) (and_congr (not_congr (c_lt k32_0 k32_0)) (and_congr (not_congr (c_lt e_i_p1_count k32_0)) (and_congr (c_nidx (n_add (q_clamp k32_0) (q_clamp e_i_p1_count)) rfl) (c_nidx (n_add (q_clamp k32_0) (q_clamp e_i_p1_count)) rfl))))).1 h1, ?_⟩)
  refine lf_guard (fun gg => ?_)
  have g2 := gg
  refine lf_gd (fun h3 => ⟨(and_congr (not_congr (c_lt k32_0 k32_0)) (and_congr (not_congr (c_lt k32_0 k32_0)) (and_congr (not_congr (c_lt (q_mul k32_4 e_i_p1_count g2) k32_0)) (and_congr (c_nidx (n_add (q_clamp k32_0) (q_clamp (q_mul k32_4 e_i_p1_count g2))) rfl) (c_nidx (n_add (q_clamp k32_0) (q_clamp (q_mul k32_4 e_i_p1_count g2))) rfl))))).1 h3, ?_⟩)
  exact lf_some (tup5 e_i_p1_count e_i_p1_circles k32_0 (q_cpy e_f_p1_label e_f_p0_label (q_clamp k32_0) (q_clamp k32_0) (q_clamp (q_mul k32_4 e_i_p1_count g2))) (q_cpy e_f_p1_sign e_f_p0_sign (q_clamp k32_0) (q_clamp k32_0) (q_clamp e_i_p1_count)))
def LM_Di_copy (fl : Nat) (i_p1_count' : Int) (i_p1_circles' : Int) (f_p1_label' : (Nat → Int)) (f_p1_sign' : (Nat → Int)) (i_p0_count' : Int) (i_p0_circles' : Int) (i_p0_shapeIsKnown' : Int) (f_p0_label' : (Nat → Int)) (f_p0_sign' : (Nat → Int)) : Option (Int × Int × Int × (Nat → Int) × (Nat → Int)) := (LB_Di_copy_0 fl i_p1_count' i_p1_circles' f_p1_label' f_p1_sign' i_p0_count' i_p0_circles' i_p0_shapeIsKnown' f_p0_label' f_p0_sign')
theorem hm_Di_copy {i_p1_count : Int32} {i_p1_count' : Int} {i_p1_circles : Int32} {i_p1_circles' : Int} {f_p1_label : (Nat → Int32)} {f_p1_label' : (Nat → Int)} {f_p1_sign : (Nat → Int32)} {f_p1_sign' : (Nat → Int)} {i_p0_count : Int32} {i_p0_count' : Int} {i_p0_circles : Int32} {i_p0_circles' : Int} {i_p0_shapeIsKnown : Int32} {i_p0_shapeIsKnown' : Int} {f_p0_label : (Nat → Int32)} {f_p0_label' : (Nat → Int)} {f_p0_sign : (Nat → Int32)} {f_p0_sign' : (Nat → Int)} (fl : Nat) (e_i_p1_count : i_p1_count' = (i_p1_count).toInt) (e_i_p1_circles : i_p1_circles' = (i_p1_circles).toInt) (e_f_p1_label : f_p1_label' = (t32 f_p1_label)) (e_f_p1_sign : f_p1_sign' = (t32 f_p1_sign)) (e_i_p0_count : i_p0_count' = (i_p0_count).toInt) (e_i_p0_circles : i_p0_circles' = (i_p0_circles).toInt) (e_i_p0_shapeIsKnown : i_p0_shapeIsKnown' = (i_p0_shapeIsKnown).toInt) (e_f_p0_label : f_p0_label' = (t32 f_p0_label)) (e_f_p0_sign : f_p0_sign' = (t32 f_p0_sign)) : Ok (fun r => (r.1.toInt, r.2.1.toInt, r.2.2.1.toInt, t32 r.2.2.2.1, t32 r.2.2.2.2)) (m_Di_copy fl i_p1_count i_p1_circles f_p1_label f_p1_sign i_p0_count i_p0_circles i_p0_shapeIsKnown f_p0_label f_p0_sign) (LM_Di_copy fl i_p1_count' i_p1_circles' f_p1_label' f_p1_sign' i_p0_count' i_p0_circles' i_p0_shapeIsKnown' f_p0_label' f_p0_sign') := by
  unfold m_Di_copy LM_Di_copy
  exact (hB_Di_copy_0 fl e_i_p1_count e_i_p1_circles e_f_p1_label e_f_p1_sign e_i_p0_count e_i_p0_circles e_i_p0_shapeIsKnown e_f_p0_label e_f_p0_sign)
def LB_Di_moveToEnd_52 (fl : Nat) (i_p0_count' : Int) (kb_7' : (Int → Int → Int → (Nat → Int) → (Nat → Int) → Option (Int × Int × (Nat → Int) × (Nat → Int)))) : Nat → Int → Int → Int → Int → Int → (Nat → Int) → (Nat → Int) → Option (Int × Int × (Nat → Int) × (Nat → Int))
  | 0, _, _, _, _, _, _, _ => none
  | nn + 1, x1', x2', x3', x4', i_p0_shapeIsKnown', f_p0_label', f_p0_sign' => (if (-2147483648 ≤ ((4 : Int) * x2') ∧ ((4 : Int) * x2') < 2147483648) ∧ (-2147483648 ≤ (((4 : Int) * x2') + (4 : Int)) ∧ (((4 : Int) * x2') + (4 : Int)) < 2147483648) then (if (((4 : Int) * x2') + (4 : Int)) ≤ x4' then (if (-2147483648 ≤ (x2' + (1 : Int)) ∧ (x2' + (1 : Int)) < 2147483648) then (kb_7' x1' (x2' + (1 : Int)) i_p0_shapeIsKnown' f_p0_label' f_p0_sign') else none) else (if (0 ≤ x4' ∧ x4' < 80) then (if (0 ≤ (x4' + (4 : Int)) ∧ (x4' + (4 : Int)) < 80) then (if (-2147483648 ≤ (x4' + (1 : Int)) ∧ (x4' + (1 : Int)) < 2147483648) then (LB_Di_moveToEnd_52 fl i_p0_count' kb_7' nn x1' x2' x3' (x4' + (1 : Int)) i_p0_shapeIsKnown' (up (up f_p0_label' (Int.toNat x4') (f_p0_label' (Int.toNat (x4' + (4 : Int))))) (Int.toNat (x4' + (4 : Int))) (f_p0_label' (Int.toNat x4'))) f_p0_sign') else none) else none) else none)) else none)
theorem hB_Di_moveToEnd_52 {i_p0_count : Int32} {i_p0_count' : Int} {kb_7 : (Int32 → Int32 → Int32 → (Nat → Int32) → (Nat → Int32) → Option (Int32 × Int32 × (Nat → Int32) × (Nat → Int32)))} {kb_7' : (Int → Int → Int → (Nat → Int) → (Nat → Int) → Option (Int × Int × (Nat → Int) × (Nat → Int)))} (fl : Nat) (e_i_p0_count : i_p0_count' = (i_p0_count).toInt) (k_kb_7 : ∀ {z0 : Int32} {z0' : Int} {z1 : Int32} {z1' : Int} {z2 : Int32} {z2' : Int} {z3 : (Nat → Int32)} {z3' : (Nat → Int)} {z4 : (Nat → Int32)} {z4' : (Nat → Int)} (e0 : z0' = (z0).toInt) (e1 : z1' = (z1).toInt) (e2 : z2' = (z2).toInt) (e3 : z3' = (t32 z3)) (e4 : z4' = (t32 z4)), Ok (fun r => (r.1.toInt, r.2.1.toInt, t32 r.2.2.1, t32 r.2.2.2)) (kb_7 z0 z1 z2 z3 z4) (kb_7' z0' z1' z2' z3' z4')) : ∀ (nn : Nat) {x1 : Int32} {x1' : Int} {x2 : Int32} {x2' : Int} {x3 : Int32} {x3' : Int} {x4 : Int32} {x4' : Int} {i_p0_shapeIsKnown : Int32} {i_p0_shapeIsKnown' : Int} {f_p0_label : (Nat → Int32)} {f_p0_label' : (Nat → Int)} {f_p0_sign : (Nat → Int32)} {f_p0_sign' : (Nat → Int)} (e_x1 : x1' = (x1).toInt) (e_x2 : x2' = (x2).toInt) (e_x3 : x3' = (x3).toInt) (e_x4 : x4' = (x4).toInt) (e_i_p0_shapeIsKnown : i_p0_shapeIsKnown' = (i_p0_shapeIsKnown).toInt) (e_f_p0_label : f_p0_label' = (t32 f_p0_label)) (e_f_p0_sign : f_p0_sign' = (t32 f_p0_sign)), Ok (fun r => (r.1.toInt, r.2.1.toInt, t32 r.2.2.1, t32 r.2.2.2)) (B_Di_moveToEnd_52 fl i_p0_count kb_7 nn x1 x2 x3 x4 i_p0_shapeIsKnown f_p0_label f_p0_sign) (LB_Di_moveToEnd_52 fl i_p0_count' kb_7' nn x1' x2' x3' x4' i_p0_shapeIsKnown' f_p0_label' f_p0_sign') := by
  intro nn
  induction nn with
  | zero => intro x1 x1' x2 x2' x3 x3' x4 x4' i_p0_shapeIsKnown i_p0_shapeIsKnown' f_p0_label f_p0_label' f_p0_sign f_p0_sign' e_x1 e_x2 e_x3 e_x4 e_i_p0_shapeIsKnown e_f_p0_label e_f_p0_sign; exact lf_none
  | succ nn ih =>
    intro x1 x1' x2 x2' x3 x3' x4 x4' i_p0_shapeIsKnown i_p0_shapeIsKnown' f_p0_label f_p0_label' f_p0_sign f_p0_sign' e_x1 e_x2 e_x3 e_x4 e_i_p0_shapeIsKnown e_f_p0_label e_f_p0_sign
    rw [B_Di_moveToEnd_52, LB_Di_moveToEnd_52]
    refine lf_guard (fun gg => ?_)
    obtain ⟨g1, g2⟩ := gg
    refine lf_if (c_le (q_add (q_mul k32_4 e_x2 g1) k32_4 g2) e_x4) ?_ ?_
    · refine lf_guard (fun gg => ?_)
      have g3 := gg
      exact (k_kb_7 e_x1 (q_add e_x2 k32_1 g3) e_i_p0_shapeIsKnown e_f_p0_label e_f_p0_sign)
    · refine lf_gd (fun h4 => ⟨(c_idx (n := 80) (n' := 80) rfl e_x4).1 h4, ?_⟩)
      refine lf_gd (fun h6 => ⟨(c_idx (n := 80) (n' := 80) rfl (q_add e_x4 k32_4 (ri h6 (by decide)))).1 h6, ?_⟩)
      refine lf_pos ((c_idx (n := 80) (n' := 80) rfl e_x4).1 h4) ?_
      refine lf_pos ((c_idx (n := 80) (n' := 80) rfl (q_add e_x4 k32_4 (ri h6 (by decide)))).1 h6) ?_
      refine lf_guard (fun gg => ?_)
      have g7 := gg
      exact (ih e_x1 e_x2 e_x3 (q_add e_x4 k32_1 g7) e_i_p0_shapeIsKnown (q_upd (q_upd e_f_p0_label (q_clamp e_x4) (q_get e_f_p0_label (q_clamp (q_add e_x4 k32_4 (ri h6 (by decide)))))) (q_clamp (q_add e_x4 k32_4 (ri h6 (by decide)))) (q_get e_f_p0_label (q_clamp e_x4))) e_f_p0_sign)
def LB_Di_moveToEnd_7 (fl : Nat) (i_p0_count' : Int) : Nat → Int → Int → Int → (Nat → Int) → (Nat → Int) → Option (Int × Int × (Nat → Int) × (Nat → Int))
  | 0, _, _, _, _, _ => none
  | nn + 1, x1', x2', i_p0_shapeIsKnown', f_p0_label', f_p0_sign' => (if (-2147483648 ≤ (x2' + (1 : Int)) ∧ (x2' + (1 : Int)) < 2147483648) then (if i_p0_count' ≤ (x2' + (1 : Int)) then (if (-2147483648 ≤ (i_p0_count' - (1 : Int)) ∧ (i_p0_count' - (1 : Int)) < 2147483648) then (some ((i_p0_count' - (1 : Int)), i_p0_shapeIsKnown', f_p0_label', f_p0_sign')) else none) else (if (0 ≤ x2' ∧ x2' < 20) then (if (0 ≤ (x2' + (1 : Int)) ∧ (x2' + (1 : Int)) < 20) then (if (-2147483648 ≤ ((4 : Int) * x2') ∧ ((4 : Int) * x2') < 2147483648) then (LB_Di_moveToEnd_52 fl i_p0_count' (LB_Di_moveToEnd_7 fl i_p0_count' nn) fl x1' x2' (f_p0_sign' (Int.toNat x2')) ((4 : Int) * x2') i_p0_shapeIsKnown' f_p0_label' (up (up f_p0_sign' (Int.toNat x2') (f_p0_sign' (Int.toNat (x2' + (1 : Int))))) (Int.toNat (x2' + (1 : Int))) (f_p0_sign' (Int.toNat x2')))) else none) else none) else none)) else none)
theorem hB_Di_moveToEnd_7 {i_p0_count : Int32} {i_p0_count' : Int} (fl : Nat) (e_i_p0_count : i_p0_count' = (i_p0_count).toInt) : ∀ (nn : Nat) {x1 : Int32} {x1' : Int} {x2 : Int32} {x2' : Int} {i_p0_shapeIsKnown : Int32} {i_p0_shapeIsKnown' : Int} {f_p0_label : (Nat → Int32)} {f_p0_label' : (Nat → Int)} {f_p0_sign : (Nat → Int32)} {f_p0_sign' : (Nat → Int)} (e_x1 : x1' = (x1).toInt) (e_x2 : x2' = (x2).toInt) (e_i_p0_shapeIsKnown : i_p0_shapeIsKnown' = (i_p0_shapeIsKnown).toInt) (e_f_p0_label : f_p0_label' = (t32 f_p0_label)) (e_f_p0_sign : f_p0_sign' = (t32 f_p0_sign)), Ok (fun r => (r.1.toInt, r.2.1.toInt, t32 r.2.2.1, t32 r.2.2.2)) (B_Di_moveToEnd_7 fl i_p0_count nn x1 x2 i_p0_shapeIsKnown f_p0_label f_p0_sign) (LB_Di_moveToEnd_7 fl i_p0_count' nn x1' x2' i_p0_shapeIsKnown' f_p0_label' f_p0_sign') := by
  intro nn
  induction nn with
  | zero => intro x1 x1' x2 x2' i_p0_shapeIsKnown i_p0_shapeIsKnown' f_p0_label f_p0_label' f_p0_sign f_p0_sign' e_x1 e_x2 e_i_p0_shapeIsKnown e_f_p0_label e_f_p0_sign; exact lf_none
  | succ nn ih =>
    intro x1 x1' x2 x2' i_p0_shapeIsKnown i_p0_shapeIsKnown' f_p0_label f_p0_label' f_p0_sign f_p0_sign' e_x1 e_x2 e_i_p0_shapeIsKnown e_f_p0_label e_f_p0_sign
    rw [B_Di_moveToEnd_7, LB_Di_moveToEnd_7]
    refine lf_guard (fun gg => ?_)
    have g1 := gg
    refine lf_if (c_le e_i_p0_count (q_add e_x2 k32_1 g1)) ?_ ?_
    · refine lf_guard (fun gg => ?_)
      have g2 := gg
      exact lf_some (tup4 (q_sub e_i_p0_count k32_1 g2) e_i_p0_shapeIsKnown e_f_p0_label e_f_p0_sign)
    · refine lf_gd (fun h3 => ⟨(c_idx (n := 20) (n' := 20) rfl e_x2).1 h3, ?_⟩)
      refine lf_gd (fun h4 => ⟨(c_idx (n := 20) (n' := 20) rfl (q_add e_x2 k32_1 g1)).1 h4, ?_⟩)
      refine lf_pos ((c_idx (n := 20) (n' := 20) rfl e_x2).1 h3) ?_
      refine lf_pos ((c_idx (n := 20) (n' := 20) rfl (q_add e_x2 k32_1 g1)).1 h4) ?_
      refine lf_guard (fun gg => ?_)
      have g5 := gg
      exact (hB_Di_moveToEnd_52 fl e_i_p0_count ih fl e_x1 e_x2 (q_get e_f_p0_sign (q_clamp e_x2)) (q_mul k32_4 e_x2 g5) e_i_p0_shapeIsKnown e_f_p0_label (q_upd (q_upd e_f_p0_sign (q_clamp e_x2) (q_get e_f_p0_sign (q_clamp (q_add e_x2 k32_1 g1)))) (q_clamp (q_add e_x2 k32_1 g1)) (q_get e_f_p0_sign (q_clamp e_x2))))
def LB_Di_moveToEnd_0 (fl : Nat) (i_p0_count' : Int) (x1' : Int) (i_p0_shapeIsKnown' : Int) (f_p0_label' : (Nat → Int)) (f_p0_sign' : (Nat → Int)) : Option (Int × Int × (Nat → Int) × (Nat → Int)) := (LB_Di_moveToEnd_7 fl i_p0_count' fl x1' x1' (0 : Int) f_p0_label' f_p0_sign')
theorem hB_Di_moveToEnd_0 {i_p0_count : Int32} {i_p0_count' : Int} {x1 : Int32} {x1' : Int} {i_p0_shapeIsKnown : Int32} {i_p0_shapeIsKnown' : Int} {f_p0_label : (Nat → Int32)} {f_p0_label' : (Nat → Int)} {f_p0_sign : (Nat → Int32)} {f_p0_sign' : (Nat → Int)} (fl : Nat) (e_i_p0_count : i_p0_count' = (i_p0_count).toInt) (e_x1 : x1' = (x1).toInt) (e_i_p0_shapeIsKnown : i_p0_shapeIsKnown' = (i_p0_shapeIsKnown).toInt) (e_f_p0_label : f_p0_label' = (t32 f_p0_label)) (e_f_p0_sign : f_p0_sign' = (t32 f_p0_sign)) : Ok (fun r => (r.1.toInt, r.2.1.toInt, t32 r.2.2.1, t32 r.2.2.2)) (B_Di_moveToEnd_0 fl i_p0_count x1 i_p0_shapeIsKnown f_p0_label f_p0_sign) (LB_Di_moveToEnd_0 fl i_p0_count' x1' i_p0_shapeIsKnown' f_p0_label' f_p0_sign') := by
  unfold B_Di_moveToEnd_0 LB_Di_moveToEnd_0
  exact (hB_Di_moveToEnd_7 fl e_i_p0_count fl e_x1 e_x1 k32_0 e_f_p0_label e_f_p0_sign)
def LM_Di_moveToEnd (fl : Nat) (i_p0_count' : Int) (x1' : Int) (i_p0_shapeIsKnown' : Int) (f_p0_label' : (Nat → Int)) (f_p0_sign' : (Nat → Int)) : Option (Int × Int × (Nat → Int) × (Nat → Int)) := (LB_Di_moveToEnd_0 fl i_p0_count' x1' i_p0_shapeIsKnown' f_p0_label' f_p0_sign')
theorem hm_Di_moveToEnd {i_p0_count : Int32} {i_p0_count' : Int} {x1 : Int32} {x1' : Int} {i_p0_shapeIsKnown : Int32} {i_p0_shapeIsKnown' : Int} {f_p0_label : (Nat → Int32)} {f_p0_label' : (Nat → Int)} {f_p0_sign : (Nat → Int32)} {f_p0_sign' : (Nat → Int)} (fl : Nat) (e_i_p0_count : i_p0_count' = (i_p0_count).toInt) (e_x1 : x1' = (x1).toInt) (e_i_p0_shapeIsKnown : i_p0_shapeIsKnown' = (i_p0_shapeIsKnown).toInt) (e_f_p0_label : f_p0_label' = (t32 f_p0_label)) (e_f_p0_sign : f_p0_sign' = (t32 f_p0_sign)) : Ok (fun r => (r.1.toInt, r.2.1.toInt, t32 r.2.2.1, t32 r.2.2.2)) (m_Di_moveToEnd fl i_p0_count x1 i_p0_shapeIsKnown f_p0_label f_p0_sign) (LM_Di_moveToEnd fl i_p0_count' x1' i_p0_shapeIsKnown' f_p0_label' f_p0_sign') := by
  unfold m_Di_moveToEnd LM_Di_moveToEnd
  exact (hB_Di_moveToEnd_0 fl e_i_p0_count e_x1 e_i_p0_shapeIsKnown e_f_p0_label e_f_p0_sign)
def LB_Di_joinAt_0 (fl : Nat) (i_p0_count' : Int) (x1' : Int) (x2' : Int) (i_p0_circles' : Int) (i_p0_shapeIsKnown' : Int) (f_p0_label' : (Nat → Int)) : Option (Int × Int × (Nat → Int)) := (if (0 ≤ x1' ∧ x1' < 80) then (if (0 ≤ x2' ∧ x2' < 80) then (if ¬ ((f_p0_label' (Int.toNat x1')) = (f_p0_label' (Int.toNat x2'))) then ((LM_Di_rename fl i_p0_count' (if (f_p0_label' (Int.toNat x1')) < (f_p0_label' (Int.toNat x2')) then (f_p0_label' (Int.toNat x2')) else (f_p0_label' (Int.toNat x1'))) (if (f_p0_label' (Int.toNat x2')) < (f_p0_label' (Int.toNat x1')) then (f_p0_label' (Int.toNat x2')) else (f_p0_label' (Int.toNat x1'))) i_p0_shapeIsKnown' f_p0_label').bind fun o0 => (some (i_p0_circles', o0.1, o0.2))) else (if (-2147483648 ≤ (i_p0_circles' + (1 : Int)) ∧ (i_p0_circles' + (1 : Int)) < 2147483648) then (some ((i_p0_circles' + (1 : Int)), i_p0_shapeIsKnown', f_p0_label')) else none)) else none) else none)
theorem hB_Di_joinAt_0 {i_p0_count : Int32} {i_p0_count' : Int} {x1 : Int32} {x1' : Int} {x2 : Int32} {x2' : Int} {i_p0_circles : Int32} {i_p0_circles' : Int} {i_p0_shapeIsKnown : Int32} {i_p0_shapeIsKnown' : Int} {f_p0_label : (Nat → Int32)} {f_p0_label' : (Nat → Int)} (fl : Nat) (e_i_p0_count : i_p0_count' = (i_p0_count).toInt) (e_x1 : x1' = (x1).toInt) (e_x2 : x2' = (x2).toInt) (e_i_p0_circles : i_p0_circles' = (i_p0_circles).toInt) (e_i_p0_shapeIsKnown : i_p0_shapeIsKnown' = (i_p0_shapeIsKnown).toInt) (e_f_p0_label : f_p0_label' = (t32 f_p0_label)) : Ok (fun r => (r.1.toInt, r.2.1.toInt, t32 r.2.2)) (B_Di_joinAt_0 fl i_p0_count x1 x2 i_p0_circles i_p0_shapeIsKnown f_p0_label) (LB_Di_joinAt_0 fl i_p0_count' x1' x2' i_p0_circles' i_p0_shapeIsKnown' f_p0_label') := by
  unfold B_Di_joinAt_0 LB_Di_joinAt_0
  refine lf_gd (fun h1 => ⟨(c_idx (n := 80) (n' := 80) rfl e_x1).1 h1, ?_⟩)
  refine lf_gd (fun h2 => ⟨(c_idx (n := 80) (n' := 80) rfl e_x2).1 h2, ?_⟩)
  refine lf_if (not_congr (c_eq (q_get e_f_p0_label (q_clamp e_x1)) (q_get e_f_p0_label (q_clamp e_x2)))) ?_ ?_
  · refine lf_bind (hm_Di_rename fl e_i_p0_count (q_ite (c_lt (q_get e_f_p0_label (q_clamp e_x1)) (q_get e_f_p0_label (q_clamp e_x2))) (q_get e_f_p0_label (q_clamp e_x2)) (q_get e_f_p0_label (q_clamp e_x1))) (q_ite (c_lt (q_get e_f_p0_label (q_clamp e_x2)) (q_get e_f_p0_label (q_clamp e_x1))) (q_get e_f_p0_label (q_clamp e_x2)) (q_get e_f_p0_label (q_clamp e_x1))) e_i_p0_shapeIsKnown e_f_p0_label) (fun o0 => ?_)
    exact lf_some (tup3 e_i_p0_circles (rfl : (o0.1).toInt = (o0.1).toInt) (rfl : (t32 o0.2) = (t32 o0.2)))
  · refine lf_guard (fun gg => ?_)
    have g3 := gg
    exact lf_some (tup3 (q_add e_i_p0_circles k32_1 g3) e_i_p0_shapeIsKnown e_f_p0_label)
def LM_Di_joinAt (fl : Nat) (i_p0_count' : Int) (x1' : Int) (x2' : Int) (i_p0_circles' : Int) (i_p0_shapeIsKnown' : Int) (f_p0_label' : (Nat → Int)) : Option (Int × Int × (Nat → Int)) := (LB_Di_joinAt_0 fl i_p0_count' x1' x2' i_p0_circles' i_p0_shapeIsKnown' f_p0_label')
theorem hm_Di_joinAt {i_p0_count : Int32} {i_p0_count' : Int} {x1 : Int32} {x1' : Int} {x2 : Int32} {x2' : Int} {i_p0_circles : Int32} {i_p0_circles' : Int} {i_p0_shapeIsKnown : Int32} {i_p0_shapeIsKnown' : Int} {f_p0_label : (Nat → Int32)} {f_p0_label' : (Nat → Int)} (fl : Nat) (e_i_p0_count : i_p0_count' = (i_p0_count).toInt) (e_x1 : x1' = (x1).toInt) (e_x2 : x2' = (x2).toInt) (e_i_p0_circles : i_p0_circles' = (i_p0_circles).toInt) (e_i_p0_shapeIsKnown : i_p0_shapeIsKnown' = (i_p0_shapeIsKnown).toInt) (e_f_p0_label : f_p0_label' = (t32 f_p0_label)) : Ok (fun r => (r.1.toInt, r.2.1.toInt, t32 r.2.2)) (m_Di_joinAt fl i_p0_count x1 x2 i_p0_circles i_p0_shapeIsKnown f_p0_label) (LM_Di_joinAt fl i_p0_count' x1' x2' i_p0_circles' i_p0_shapeIsKnown' f_p0_label') := by
  unfold m_Di_joinAt LM_Di_joinAt
  exact (hB_Di_joinAt_0 fl e_i_p0_count e_x1 e_x2 e_i_p0_circles e_i_p0_shapeIsKnown e_f_p0_label)
def LB_Sh_fillArc_12 (fl : Nat) (i_p0_edges' : Int) (f_p0_edgeAt' : (Nat → Int)) (f_p0_to' : (Nat → Int)) : Nat → Int → Int → Int → Int → (Nat → Int) → Option ((Nat → Int))
  | 0, _, _, _, _, _ => none
  | nn + 1, x1', x2', x3', x4', f_p0_arcOf' => (if i_p0_edges' ≤ x4' then (some (f_p0_arcOf')) else (if (0 ≤ x3' ∧ x3' < 40) then ((LM_Sh_isUpper fl (f_p0_to' (Int.toNat x3'))).bind fun o0 => (if o0 = (0 : Int) then (some (f_p0_arcOf')) else ((LM_Sh_nextEdge fl f_p0_edgeAt' f_p0_to' x3').bind fun o1 => (if (0 ≤ o1 ∧ o1 < 40) then (if (-2147483648 ≤ (x4' + (1 : Int)) ∧ (x4' + (1 : Int)) < 2147483648) then (LB_Sh_fillArc_12 fl i_p0_edges' f_p0_edgeAt' f_p0_to' nn x1' x2' o1 (x4' + (1 : Int)) (up f_p0_arcOf' (Int.toNat o1) x2')) else none) else none)))) else none))
theorem hB_Sh_fillArc_12 {i_p0_edges : Int32} {i_p0_edges' : Int} {f_p0_edgeAt : (Nat → Int32)} {f_p0_edgeAt' : (Nat → Int)} {f_p0_to : (Nat → Int32)} {f_p0_to' : (Nat → Int)} (fl : Nat) (e_i_p0_edges : i_p0_edges' = (i_p0_edges).toInt) (e_f_p0_edgeAt : f_p0_edgeAt' = (t32 f_p0_edgeAt)) (e_f_p0_to : f_p0_to' = (t32 f_p0_to)) : ∀ (nn : Nat) {x1 : Int32} {x1' : Int} {x2 : Int32} {x2' : Int} {x3 : Int32} {x3' : Int} {x4 : Int32} {x4' : Int} {f_p0_arcOf : (Nat → Int32)} {f_p0_arcOf' : (Nat → Int)} (e_x1 : x1' = (x1).toInt) (e_x2 : x2' = (x2).toInt) (e_x3 : x3' = (x3).toInt) (e_x4 : x4' = (x4).toInt) (e_f_p0_arcOf : f_p0_arcOf' = (t32 f_p0_arcOf)), Ok t32 (B_Sh_fillArc_12 fl i_p0_edges f_p0_edgeAt f_p0_to nn x1 x2 x3 x4 f_p0_arcOf) (LB_Sh_fillArc_12 fl i_p0_edges' f_p0_edgeAt' f_p0_to' nn x1' x2' x3' x4' f_p0_arcOf') := by
  intro nn
  induction nn with
  | zero => intro x1 x1' x2 x2' x3 x3' x4 x4' f_p0_arcOf f_p0_arcOf' e_x1 e_x2 e_x3 e_x4 e_f_p0_arcOf; exact lf_none
  | succ nn ih =>
    intro x1 x1' x2 x2' x3 x3' x4 x4' f_p0_arcOf f_p0_arcOf' e_x1 e_x2 e_x3 e_x4 e_f_p0_arcOf
    rw [B_Sh_fillArc_12, LB_Sh_fillArc_12]
    refine lf_if (c_le e_i_p0_edges e_x4) ?_ ?_
    · exact lf_some e_f_p0_arcOf
    · refine lf_gd (fun h1 => ⟨(c_idx (n := 40) (n' := 40) rfl e_x3).1 h1, ?_⟩)
      refine lf_bind (hm_Sh_isUpper fl (q_get e_f_p0_to (q_clamp e_x3))) (fun o0 => ?_)
      refine lf_if (c_eq (rfl : (o0).toInt = (o0).toInt) k32_0) ?_ ?_
      · exact lf_some e_f_p0_arcOf
      · refine lf_bind (hm_Sh_nextEdge fl e_f_p0_edgeAt e_f_p0_to e_x3) (fun o1 => ?_)
        refine lf_gd (fun h2 => ⟨(c_idx (n := 40) (n' := 40) rfl (rfl : (o1).toInt = (o1).toInt)).1 h2, ?_⟩)
        refine lf_guard (fun gg => ?_)
        have g3 := gg
        exact (ih e_x1 e_x2 (rfl : (o1).toInt = (o1).toInt) (q_add e_x4 k32_1 g3) (q_upd e_f_p0_arcOf (q_clamp (rfl : (o1).toInt = (o1).toInt)) e_x2))
def LB_Sh_fillArc_0 (fl : Nat) (i_p0_edges' : Int) (f_p0_edgeAt' : (Nat → Int)) (f_p0_to' : (Nat → Int)) (x1' : Int) (x2' : Int) (f_p0_arcOf' : (Nat → Int)) : Option ((Nat → Int)) := (if (0 ≤ x1' ∧ x1' < 40) then (LB_Sh_fillArc_12 fl i_p0_edges' f_p0_edgeAt' f_p0_to' fl x1' x2' x1' (0 : Int) (up f_p0_arcOf' (Int.toNat x1') x2')) else none)
theorem hB_Sh_fillArc_0 {i_p0_edges : Int32} {i_p0_edges' : Int} {f_p0_edgeAt : (Nat → Int32)} {f_p0_edgeAt' : (Nat → Int)} {f_p0_to : (Nat → Int32)} {f_p0_to' : (Nat → Int)} {x1 : Int32} {x1' : Int} {x2 : Int32} {x2' : Int} {f_p0_arcOf : (Nat → Int32)} {f_p0_arcOf' : (Nat → Int)} (fl : Nat) (e_i_p0_edges : i_p0_edges' = (i_p0_edges).toInt) (e_f_p0_edgeAt : f_p0_edgeAt' = (t32 f_p0_edgeAt)) (e_f_p0_to : f_p0_to' = (t32 f_p0_to)) (e_x1 : x1' = (x1).toInt) (e_x2 : x2' = (x2).toInt) (e_f_p0_arcOf : f_p0_arcOf' = (t32 f_p0_arcOf)) : Ok t32 (B_Sh_fillArc_0 fl i_p0_edges f_p0_edgeAt f_p0_to x1 x2 f_p0_arcOf) (LB_Sh_fillArc_0 fl i_p0_edges' f_p0_edgeAt' f_p0_to' x1' x2' f_p0_arcOf') := by
  unfold B_Sh_fillArc_0 LB_Sh_fillArc_0
  refine lf_gd (fun h1 => ⟨(c_idx (n := 40) (n' := 40) rfl e_x1).1 h1, ?_⟩)
  exact (hB_Sh_fillArc_12 fl e_i_p0_edges e_f_p0_edgeAt e_f_p0_to fl e_x1 e_x2 e_x1 k32_0 (q_upd e_f_p0_arcOf (q_clamp e_x1) e_x2))
def LM_Sh_fillArc (fl : Nat) (i_p0_edges' : Int) (f_p0_edgeAt' : (Nat → Int)) (f_p0_to' : (Nat → Int)) (x1' : Int) (x2' : Int) (f_p0_arcOf' : (Nat → Int)) : Option ((Nat → Int)) := (LB_Sh_fillArc_0 fl i_p0_edges' f_p0_edgeAt' f_p0_to' x1' x2' f_p0_arcOf')
theorem hm_Sh_fillArc {i_p0_edges : Int32} {i_p0_edges' : Int} {f_p0_edgeAt : (Nat → Int32)} {f_p0_edgeAt' : (Nat → Int)} {f_p0_to : (Nat → Int32)} {f_p0_to' : (Nat → Int)} {x1 : Int32} {x1' : Int} {x2 : Int32} {x2' : Int} {f_p0_arcOf : (Nat → Int32)} {f_p0_arcOf' : (Nat → Int)} (fl : Nat) (e_i_p0_edges : i_p0_edges' = (i_p0_edges).toInt) (e_f_p0_edgeAt : f_p0_edgeAt' = (t32 f_p0_edgeAt)) (e_f_p0_to : f_p0_to' = (t32 f_p0_to)) (e_x1 : x1' = (x1).toInt) (e_x2 : x2' = (x2).toInt) (e_f_p0_arcOf : f_p0_arcOf' = (t32 f_p0_arcOf)) : Ok t32 (m_Sh_fillArc fl i_p0_edges f_p0_edgeAt f_p0_to x1 x2 f_p0_arcOf) (LM_Sh_fillArc fl i_p0_edges' f_p0_edgeAt' f_p0_to' x1' x2' f_p0_arcOf') := by
  unfold m_Sh_fillArc LM_Sh_fillArc
  exact (hB_Sh_fillArc_0 fl e_i_p0_edges e_f_p0_edgeAt e_f_p0_to e_x1 e_x2 e_f_p0_arcOf)
def LB_Sh_seifertRounds_117 (fl : Nat) (i_p0_edges' : Int) (f_p0_edgeAt' : (Nat → Int)) (f_p0_to' : (Nat → Int)) (f_p1_sign' : (Nat → Int)) (kb_12' : (Int → Int → (Nat → Int) → Option (Int × (Nat → Int)))) (x2' : Int) (x3' : Int) (f_p0_scratch' : (Nat → Int)) : Option (Int × (Nat → Int)) := (if (-2147483648 ≤ (x3' + (1 : Int)) ∧ (x3' + (1 : Int)) < 2147483648) then (kb_12' x2' (x3' + (1 : Int)) f_p0_scratch') else none)
theorem hB_Sh_seifertRounds_117 {i_p0_edges : Int32} {i_p0_edges' : Int} {f_p0_edgeAt : (Nat → Int32)} {f_p0_edgeAt' : (Nat → Int)} {f_p0_to : (Nat → Int32)} {f_p0_to' : (Nat → Int)} {f_p1_sign : (Nat → Int32)} {f_p1_sign' : (Nat → Int)} {kb_12 : (Int32 → Int32 → (Nat → Int32) → Option (Int32 × (Nat → Int32)))} {kb_12' : (Int → Int → (Nat → Int) → Option (Int × (Nat → Int)))} {x2 : Int32} {x2' : Int} {x3 : Int32} {x3' : Int} {f_p0_scratch : (Nat → Int32)} {f_p0_scratch' : (Nat → Int)} (fl : Nat) (e_i_p0_edges : i_p0_edges' = (i_p0_edges).toInt) (e_f_p0_edgeAt : f_p0_edgeAt' = (t32 f_p0_edgeAt)) (e_f_p0_to : f_p0_to' = (t32 f_p0_to)) (e_f_p1_sign : f_p1_sign' = (t32 f_p1_sign)) (k_kb_12 : ∀ {z0 : Int32} {z0' : Int} {z1 : Int32} {z1' : Int} {z2 : (Nat → Int32)} {z2' : (Nat → Int)} (e0 : z0' = (z0).toInt) (e1 : z1' = (z1).toInt) (e2 : z2' = (t32 z2)), Ok (fun r => (r.1.toInt, t32 r.2)) (kb_12 z0 z1 z2) (kb_12' z0' z1' z2')) (e_x2 : x2' = (x2).toInt) (e_x3 : x3' = (x3).toInt) (e_f_p0_scratch : f_p0_scratch' = (t32 f_p0_scratch)) : Ok (fun r => (r.1.toInt, t32 r.2)) (B_Sh_seifertRounds_117 fl i_p0_edges f_p0_edgeAt f_p0_to f_p1_sign kb_12 x2 x3 f_p0_scratch) (LB_Sh_seifertRounds_117 fl i_p0_edges' f_p0_edgeAt' f_p0_to' f_p1_sign' kb_12' x2' x3' f_p0_scratch') := by
  unfold B_Sh_seifertRounds_117 LB_Sh_seifertRounds_117
  refine lf_guard (fun gg => ?_)
  have g1 := gg
  exact (k_kb_12 e_x2 (q_add e_x3 k32_1 g1) e_f_p0_scratch)
def LB_Sh_seifertRounds_114 (fl : Nat) (i_p0_edges' : Int) (f_p0_edgeAt' : (Nat → Int)) (f_p0_to' : (Nat → Int)) (f_p1_sign' : (Nat → Int)) (kb_12' : (Int → Int → (Nat → Int) → Option (Int × (Nat → Int)))) (x2' : Int) (x3' : Int) (x4' : Int) (x5' : Int) (f_p0_scratch' : (Nat → Int)) : Option (Int × (Nat → Int)) := (if (-2147483648 ≤ (x2' + (1 : Int)) ∧ (x2' + (1 : Int)) < 2147483648) then (LB_Sh_seifertRounds_117 fl i_p0_edges' f_p0_edgeAt' f_p0_to' f_p1_sign' kb_12' (x2' + (1 : Int)) x3' f_p0_scratch') else none)
theorem hB_Sh_seifertRounds_114 {i_p0_edges : Int32} {i_p0_edges' : Int} {f_p0_edgeAt : (Nat → Int32)} {f_p0_edgeAt' : (Nat → Int)} {f_p0_to : (Nat → Int32)} {f_p0_to' : (Nat → Int)} {f_p1_sign : (Nat → Int32)} {f_p1_sign' : (Nat → Int)} {kb_12 : (Int32 → Int32 → (Nat → Int32) → Option (Int32 × (Nat → Int32)))} {kb_12' : (Int → Int → (Nat → Int) → Option (Int × (Nat → Int)))} {x2 : Int32} {x2' : Int} {x3 : Int32} {x3' : Int} {x4 : Int32} {x4' : Int} {x5 : Int32} {x5' : Int} {f_p0_scratch : (Nat → Int32)} {f_p0_scratch' : (Nat → Int)} (fl : Nat) (e_i_p0_edges : i_p0_edges' = (i_p0_edges).toInt) (e_f_p0_edgeAt : f_p0_edgeAt' = (t32 f_p0_edgeAt)) (e_f_p0_to : f_p0_to' = (t32 f_p0_to)) (e_f_p1_sign : f_p1_sign' = (t32 f_p1_sign)) (k_kb_12 : ∀ {z0 : Int32} {z0' : Int} {z1 : Int32} {z1' : Int} {z2 : (Nat → Int32)} {z2' : (Nat → Int)} (e0 : z0' = (z0).toInt) (e1 : z1' = (z1).toInt) (e2 : z2' = (t32 z2)), Ok (fun r => (r.1.toInt, t32 r.2)) (kb_12 z0 z1 z2) (kb_12' z0' z1' z2')) (e_x2 : x2' = (x2).toInt) (e_x3 : x3' = (x3).toInt) (e_x4 : x4' = (x4).toInt) (e_x5 : x5' = (x5).toInt) (e_f_p0_scratch : f_p0_scratch' = (t32 f_p0_scratch)) : Ok (fun r => (r.1.toInt, t32 r.2)) (B_Sh_seifertRounds_114 fl i_p0_edges f_p0_edgeAt f_p0_to f_p1_sign kb_12 x2 x3 x4 x5 f_p0_scratch) (LB_Sh_seifertRounds_114 fl i_p0_edges' f_p0_edgeAt' f_p0_to' f_p1_sign' kb_12' x2' x3' x4' x5' f_p0_scratch') := by
  unfold B_Sh_seifertRounds_114 LB_Sh_seifertRounds_114
  refine lf_guard (fun gg => ?_)
  have g1 := gg
  exact (hB_Sh_seifertRounds_117 fl e_i_p0_edges e_f_p0_edgeAt e_f_p0_to e_f_p1_sign k_kb_12 (q_add e_x2 k32_1 g1) e_x3 e_f_p0_scratch)
def LB_Sh_seifertRounds_105 (fl : Nat) (i_p0_edges' : Int) (f_p0_edgeAt' : (Nat → Int)) (f_p0_to' : (Nat → Int)) (f_p1_sign' : (Nat → Int)) (kb_12' : (Int → Int → (Nat → Int) → Option (Int × (Nat → Int)))) (kb_35' : (Int → Int → Int → Int → (Nat → Int) → Option (Int × (Nat → Int)))) (s0' : Int) (x2' : Int) (x3' : Int) (x4' : Int) (x5' : Int) (x6' : Int) (f_p0_scratch' : (Nat → Int)) : Option (Int × (Nat → Int)) := (if (0 ≤ s0' ∧ s0' < 80) then (if (-2147483648 ≤ (x5' + (1 : Int)) ∧ (x5' + (1 : Int)) < 2147483648) then (kb_35' x2' x3' (f_p0_edgeAt' (Int.toNat s0')) (x5' + (1 : Int)) f_p0_scratch') else none) else none)
theorem hB_Sh_seifertRounds_105 {i_p0_edges : Int32} {i_p0_edges' : Int} {f_p0_edgeAt : (Nat → Int32)} {f_p0_edgeAt' : (Nat → Int)} {f_p0_to : (Nat → Int32)} {f_p0_to' : (Nat → Int)} {f_p1_sign : (Nat → Int32)} {f_p1_sign' : (Nat → Int)} {kb_12 : (Int32 → Int32 → (Nat → Int32) → Option (Int32 × (Nat → Int32)))} {kb_12' : (Int → Int → (Nat → Int) → Option (Int × (Nat → Int)))} {kb_35 : (Int32 → Int32 → Int32 → Int32 → (Nat → Int32) → Option (Int32 × (Nat → Int32)))} {kb_35' : (Int → Int → Int → Int → (Nat → Int) → Option (Int × (Nat → Int)))} {s0 : Int32} {s0' : Int} {x2 : Int32} {x2' : Int} {x3 : Int32} {x3' : Int} {x4 : Int32} {x4' : Int} {x5 : Int32} {x5' : Int} {x6 : Int32} {x6' : Int} {f_p0_scratch : (Nat → Int32)} {f_p0_scratch' : (Nat → Int)} (fl : Nat) (e_i_p0_edges : i_p0_edges' = (i_p0_edges).toInt) (e_f_p0_edgeAt : f_p0_edgeAt' = (t32 f_p0_edgeAt)) (e_f_p0_to : f_p0_to' = (t32 f_p0_to)) (e_f_p1_sign : f_p1_sign' = (t32 f_p1_sign)) (k_kb_12 : ∀ {z0 : Int32} {z0' : Int} {z1 : Int32} {z1' : Int} {z2 : (Nat → Int32)} {z2' : (Nat → Int)} (e0 : z0' = (z0).toInt) (e1 : z1' = (z1).toInt) (e2 : z2' = (t32 z2)), Ok (fun r => (r.1.toInt, t32 r.2)) (kb_12 z0 z1 z2) (kb_12' z0' z1' z2')) (k_kb_35 : ∀ {z0 : Int32} {z0' : Int} {z1 : Int32} {z1' : Int} {z2 : Int32} {z2' : Int} {z3 : Int32} {z3' : Int} {z4 : (Nat → Int32)} {z4' : (Nat → Int)} (e0 : z0' = (z0).toInt) (e1 : z1' = (z1).toInt) (e2 : z2' = (z2).toInt) (e3 : z3' = (z3).toInt) (e4 : z4' = (t32 z4)), Ok (fun r => (r.1.toInt, t32 r.2)) (kb_35 z0 z1 z2 z3 z4) (kb_35' z0' z1' z2' z3' z4')) (e_s0 : s0' = (s0).toInt) (e_x2 : x2' = (x2).toInt) (e_x3 : x3' = (x3).toInt) (e_x4 : x4' = (x4).toInt) (e_x5 : x5' = (x5).toInt) (e_x6 : x6' = (x6).toInt) (e_f_p0_scratch : f_p0_scratch' = (t32 f_p0_scratch)) : Ok (fun r => (r.1.toInt, t32 r.2)) (B_Sh_seifertRounds_105 fl i_p0_edges f_p0_edgeAt f_p0_to f_p1_sign kb_12 kb_35 s0 x2 x3 x4 x5 x6 f_p0_scratch) (LB_Sh_seifertRounds_105 fl i_p0_edges' f_p0_edgeAt' f_p0_to' f_p1_sign' kb_12' kb_35' s0' x2' x3' x4' x5' x6' f_p0_scratch') := by
  unfold B_Sh_seifertRounds_105 LB_Sh_seifertRounds_105
  refine lf_gd (fun h1 => ⟨(c_idx (n := 80) (n' := 80) rfl e_s0).1 h1, ?_⟩)
  refine lf_guard (fun gg => ?_)
  have g2 := gg
  exact (k_kb_35 e_x2 e_x3 (q_get e_f_p0_edgeAt (q_clamp e_s0)) (q_add e_x5 k32_1 g2) e_f_p0_scratch)
def LB_Sh_seifertRounds_35 (fl : Nat) (i_p0_edges' : Int) (f_p0_edgeAt' : (Nat → Int)) (f_p0_to' : (Nat → Int)) (f_p1_sign' : (Nat → Int)) (kb_12' : (Int → Int → (Nat → Int) → Option (Int × (Nat → Int)))) : Nat → Int → Int → Int → Int → (Nat → Int) → Option (Int × (Nat → Int))
  | 0, _, _, _, _, _ => none
  | nn + 1, x2', x3', x4', x5', f_p0_scratch' => (if i_p0_edges' ≤ x5' then (LB_Sh_seifertRounds_114 fl i_p0_edges' f_p0_edgeAt' f_p0_to' f_p1_sign' kb_12' x2' x3' x4' x5' f_p0_scratch') else (if (0 ≤ x4' ∧ x4' < 80) then (if ¬ ((f_p0_scratch' (Int.toNat x4')) = (0 : Int)) then (LB_Sh_seifertRounds_114 fl i_p0_edges' f_p0_edgeAt' f_p0_to' f_p1_sign' kb_12' x2' x3' x4' x5' f_p0_scratch') else (if (0 ≤ x4' ∧ x4' < 40) then ((LM_Sh_isUpper fl (f_p0_to' (Int.toNat x4'))).bind fun o0 => (if o0 = (0 : Int) then ((LM_Di_upperOut fl f_p1_sign' ((f_p0_to' (Int.toNat x4')) / 4)).bind fun o1 => (LB_Sh_seifertRounds_105 fl i_p0_edges' f_p0_edgeAt' f_p0_to' f_p1_sign' kb_12' (LB_Sh_seifertRounds_35 fl i_p0_edges' f_p0_edgeAt' f_p0_to' f_p1_sign' kb_12' nn) o1 x2' x3' x4' x5' ((f_p0_to' (Int.toNat x4')) / 4) (up f_p0_scratch' (Int.toNat x4') (1 : Int)))) else (if (-2147483648 ≤ ((4 : Int) * ((f_p0_to' (Int.toNat x4')) / 4)) ∧ ((4 : Int) * ((f_p0_to' (Int.toNat x4')) / 4)) < 2147483648) ∧ (-2147483648 ≤ (((4 : Int) * ((f_p0_to' (Int.toNat x4')) / 4)) + (2 : Int)) ∧ (((4 : Int) * ((f_p0_to' (Int.toNat x4')) / 4)) + (2 : Int)) < 2147483648) then (LB_Sh_seifertRounds_105 fl i_p0_edges' f_p0_edgeAt' f_p0_to' f_p1_sign' kb_12' (LB_Sh_seifertRounds_35 fl i_p0_edges' f_p0_edgeAt' f_p0_to' f_p1_sign' kb_12' nn) (((4 : Int) * ((f_p0_to' (Int.toNat x4')) / 4)) + (2 : Int)) x2' x3' x4' x5' ((f_p0_to' (Int.toNat x4')) / 4) (up f_p0_scratch' (Int.toNat x4') (1 : Int))) else none))) else none)) else none))
theorem hB_Sh_seifertRounds_35 {i_p0_edges : Int32} {i_p0_edges' : Int} {f_p0_edgeAt : (Nat → Int32)} {f_p0_edgeAt' : (Nat → Int)} {f_p0_to : (Nat → Int32)} {f_p0_to' : (Nat → Int)} {f_p1_sign : (Nat → Int32)} {f_p1_sign' : (Nat → Int)} {kb_12 : (Int32 → Int32 → (Nat → Int32) → Option (Int32 × (Nat → Int32)))} {kb_12' : (Int → Int → (Nat → Int) → Option (Int × (Nat → Int)))} (fl : Nat) (e_i_p0_edges : i_p0_edges' = (i_p0_edges).toInt) (e_f_p0_edgeAt : f_p0_edgeAt' = (t32 f_p0_edgeAt)) (e_f_p0_to : f_p0_to' = (t32 f_p0_to)) (e_f_p1_sign : f_p1_sign' = (t32 f_p1_sign)) (k_kb_12 : ∀ {z0 : Int32} {z0' : Int} {z1 : Int32} {z1' : Int} {z2 : (Nat → Int32)} {z2' : (Nat → Int)} (e0 : z0' = (z0).toInt) (e1 : z1' = (z1).toInt) (e2 : z2' = (t32 z2)), Ok (fun r => (r.1.toInt, t32 r.2)) (kb_12 z0 z1 z2) (kb_12' z0' z1' z2')) : ∀ (nn : Nat) {x2 : Int32} {x2' : Int} {x3 : Int32} {x3' : Int} {x4 : Int32} {x4' : Int} {x5 : Int32} {x5' : Int} {f_p0_scratch : (Nat → Int32)} {f_p0_scratch' : (Nat → Int)} (e_x2 : x2' = (x2).toInt) (e_x3 : x3' = (x3).toInt) (e_x4 : x4' = (x4).toInt) (e_x5 : x5' = (x5).toInt) (e_f_p0_scratch : f_p0_scratch' = (t32 f_p0_scratch)), Ok (fun r => (r.1.toInt, t32 r.2)) (B_Sh_seifertRounds_35 fl i_p0_edges f_p0_edgeAt f_p0_to f_p1_sign kb_12 nn x2 x3 x4 x5 f_p0_scratch) (LB_Sh_seifertRounds_35 fl i_p0_edges' f_p0_edgeAt' f_p0_to' f_p1_sign' kb_12' nn x2' x3' x4' x5' f_p0_scratch') := by
  intro nn
  induction nn with
  | zero => intro x2 x2' x3 x3' x4 x4' x5 x5' f_p0_scratch f_p0_scratch' e_x2 e_x3 e_x4 e_x5 e_f_p0_scratch; exact lf_none
  | succ nn ih =>
    intro x2 x2' x3 x3' x4 x4' x5 x5' f_p0_scratch f_p0_scratch' e_x2 e_x3 e_x4 e_x5 e_f_p0_scratch
    rw [B_Sh_seifertRounds_35, LB_Sh_seifertRounds_35]
    refine lf_if (c_le e_i_p0_edges e_x5) ?_ ?_
    · exact (hB_Sh_seifertRounds_114 fl e_i_p0_edges e_f_p0_edgeAt e_f_p0_to e_f_p1_sign k_kb_12 e_x2 e_x3 e_x4 e_x5 e_f_p0_scratch)
    · refine lf_gd (fun h1 => ⟨(c_idx (n := 80) (n' := 80) rfl e_x4).1 h1, ?_⟩)
      refine lf_if (not_congr (c_eq (q_get e_f_p0_scratch (q_clamp e_x4)) k32_0)) ?_ ?_
      · exact (hB_Sh_seifertRounds_114 fl e_i_p0_edges e_f_p0_edgeAt e_f_p0_to e_f_p1_sign k_kb_12 e_x2 e_x3 e_x4 e_x5 e_f_p0_scratch)
      · refine lf_pos ((c_idx (n := 80) (n' := 80) rfl e_x4).1 h1) ?_
        refine lf_gd (fun h2 => ⟨(c_idx (n := 40) (n' := 40) rfl e_x4).1 h2, ?_⟩)
        refine lf_pos ((c_idx (n := 40) (n' := 40) rfl e_x4).1 h2) ?_
        refine lf_bind (hm_Sh_isUpper fl (q_get e_f_p0_to (q_clamp e_x4))) (fun o0 => ?_)
        refine lf_if (c_eq (rfl : (o0).toInt = (o0).toInt) k32_0) ?_ ?_
        · refine lf_bind (hm_Di_upperOut fl e_f_p1_sign (q_sh2 (q_get e_f_p0_to (q_clamp e_x4)))) (fun o1 => ?_)
          exact (hB_Sh_seifertRounds_105 fl e_i_p0_edges e_f_p0_edgeAt e_f_p0_to e_f_p1_sign k_kb_12 ih (rfl : (o1).toInt = (o1).toInt) e_x2 e_x3 e_x4 e_x5 (q_sh2 (q_get e_f_p0_to (q_clamp e_x4))) (q_upd e_f_p0_scratch (q_clamp e_x4) k32_1))
        · refine lf_guard (fun gg => ?_)
          obtain ⟨g3, g4⟩ := gg
          exact (hB_Sh_seifertRounds_105 fl e_i_p0_edges e_f_p0_edgeAt e_f_p0_to e_f_p1_sign k_kb_12 ih (q_add (q_mul k32_4 (q_sh2 (q_get e_f_p0_to (q_clamp e_x4))) g3) k32_2 g4) e_x2 e_x3 e_x4 e_x5 (q_sh2 (q_get e_f_p0_to (q_clamp e_x4))) (q_upd e_f_p0_scratch (q_clamp e_x4) k32_1))
def LB_Sh_seifertRounds_12 (fl : Nat) (i_p0_edges' : Int) (f_p0_edgeAt' : (Nat → Int)) (f_p0_to' : (Nat → Int)) (f_p1_sign' : (Nat → Int)) : Nat → Int → Int → (Nat → Int) → Option (Int × (Nat → Int))
  | 0, _, _, _ => none
  | nn + 1, x2', x3', f_p0_scratch' => (if i_p0_edges' ≤ x3' then (some (x2', f_p0_scratch')) else (if (0 ≤ x3' ∧ x3' < 80) then (if ¬ ((f_p0_scratch' (Int.toNat x3')) = (0 : Int)) then (LB_Sh_seifertRounds_117 fl i_p0_edges' f_p0_edgeAt' f_p0_to' f_p1_sign' (LB_Sh_seifertRounds_12 fl i_p0_edges' f_p0_edgeAt' f_p0_to' f_p1_sign' nn) x2' x3' f_p0_scratch') else (LB_Sh_seifertRounds_35 fl i_p0_edges' f_p0_edgeAt' f_p0_to' f_p1_sign' (LB_Sh_seifertRounds_12 fl i_p0_edges' f_p0_edgeAt' f_p0_to' f_p1_sign' nn) fl x2' x3' x3' (0 : Int) f_p0_scratch')) else none))
theorem hB_Sh_seifertRounds_12 {i_p0_edges : Int32} {i_p0_edges' : Int} {f_p0_edgeAt : (Nat → Int32)} {f_p0_edgeAt' : (Nat → Int)} {f_p0_to : (Nat → Int32)} {f_p0_to' : (Nat → Int)} {f_p1_sign : (Nat → Int32)} {f_p1_sign' : (Nat → Int)} (fl : Nat) (e_i_p0_edges : i_p0_edges' = (i_p0_edges).toInt) (e_f_p0_edgeAt : f_p0_edgeAt' = (t32 f_p0_edgeAt)) (e_f_p0_to : f_p0_to' = (t32 f_p0_to)) (e_f_p1_sign : f_p1_sign' = (t32 f_p1_sign)) : ∀ (nn : Nat) {x2 : Int32} {x2' : Int} {x3 : Int32} {x3' : Int} {f_p0_scratch : (Nat → Int32)} {f_p0_scratch' : (Nat → Int)} (e_x2 : x2' = (x2).toInt) (e_x3 : x3' = (x3).toInt) (e_f_p0_scratch : f_p0_scratch' = (t32 f_p0_scratch)), Ok (fun r => (r.1.toInt, t32 r.2)) (B_Sh_seifertRounds_12 fl i_p0_edges f_p0_edgeAt f_p0_to f_p1_sign nn x2 x3 f_p0_scratch) (LB_Sh_seifertRounds_12 fl i_p0_edges' f_p0_edgeAt' f_p0_to' f_p1_sign' nn x2' x3' f_p0_scratch') := by
  intro nn
  induction nn with
  | zero => intro x2 x2' x3 x3' f_p0_scratch f_p0_scratch' e_x2 e_x3 e_f_p0_scratch; exact lf_none
  | succ nn ih =>
    intro x2 x2' x3 x3' f_p0_scratch f_p0_scratch' e_x2 e_x3 e_f_p0_scratch
    rw [B_Sh_seifertRounds_12, LB_Sh_seifertRounds_12]
    refine lf_if (c_le e_i_p0_edges e_x3) ?_ ?_
    · exact lf_some (tup2 e_x2 e_f_p0_scratch)
    · refine lf_gd (fun h1 => ⟨(c_idx (n := 80) (n' := 80) rfl e_x3).1 h1, ?_⟩)
      refine lf_if (not_congr (c_eq (q_get e_f_p0_scratch (q_clamp e_x3)) k32_0)) ?_ ?_
      · exact (hB_Sh_seifertRounds_117 fl e_i_p0_edges e_f_p0_edgeAt e_f_p0_to e_f_p1_sign ih e_x2 e_x3 e_f_p0_scratch)
      · exact (hB_Sh_seifertRounds_35 fl e_i_p0_edges e_f_p0_edgeAt e_f_p0_to e_f_p1_sign ih fl e_x2 e_x3 e_x3 k32_0 e_f_p0_scratch)
def LB_Sh_seifertRounds_0 (fl : Nat) (i_p0_edges' : Int) (f_p0_edgeAt' : (Nat → Int)) (f_p0_to' : (Nat → Int)) (f_p1_sign' : (Nat → Int)) (f_p0_scratch' : (Nat → Int)) : Option (Int × (Nat → Int)) := (LB_Sh_seifertRounds_12 fl i_p0_edges' f_p0_edgeAt' f_p0_to' f_p1_sign' fl (0 : Int) (0 : Int) (fillF f_p0_scratch' 80 (0 : Int)))
theorem hB_Sh_seifertRounds_0 {i_p0_edges : Int32} {i_p0_edges' : Int} {f_p0_edgeAt : (Nat → Int32)} {f_p0_edgeAt' : (Nat → Int)} {f_p0_to : (Nat → Int32)} {f_p0_to' : (Nat → Int)} {f_p1_sign : (Nat → Int32)} {f_p1_sign' : (Nat → Int)} {f_p0_scratch : (Nat → Int32)} {f_p0_scratch' : (Nat → Int)} (fl : Nat) (e_i_p0_edges : i_p0_edges' = (i_p0_edges).toInt) (e_f_p0_edgeAt : f_p0_edgeAt' = (t32 f_p0_edgeAt)) (e_f_p0_to : f_p0_to' = (t32 f_p0_to)) (e_f_p1_sign : f_p1_sign' = (t32 f_p1_sign)) (e_f_p0_scratch : f_p0_scratch' = (t32 f_p0_scratch)) : Ok (fun r => (r.1.toInt, t32 r.2)) (B_Sh_seifertRounds_0 fl i_p0_edges f_p0_edgeAt f_p0_to f_p1_sign f_p0_scratch) (LB_Sh_seifertRounds_0 fl i_p0_edges' f_p0_edgeAt' f_p0_to' f_p1_sign' f_p0_scratch') := by
  unfold B_Sh_seifertRounds_0 LB_Sh_seifertRounds_0
  exact (hB_Sh_seifertRounds_12 fl e_i_p0_edges e_f_p0_edgeAt e_f_p0_to e_f_p1_sign fl k32_0 k32_0 (q_fill e_f_p0_scratch k32_0))
def LM_Sh_seifertRounds (fl : Nat) (i_p0_edges' : Int) (f_p0_edgeAt' : (Nat → Int)) (f_p0_to' : (Nat → Int)) (f_p1_sign' : (Nat → Int)) (f_p0_scratch' : (Nat → Int)) : Option (Int × (Nat → Int)) := (LB_Sh_seifertRounds_0 fl i_p0_edges' f_p0_edgeAt' f_p0_to' f_p1_sign' f_p0_scratch')
theorem hm_Sh_seifertRounds {i_p0_edges : Int32} {i_p0_edges' : Int} {f_p0_edgeAt : (Nat → Int32)} {f_p0_edgeAt' : (Nat → Int)} {f_p0_to : (Nat → Int32)} {f_p0_to' : (Nat → Int)} {f_p1_sign : (Nat → Int32)} {f_p1_sign' : (Nat → Int)} {f_p0_scratch : (Nat → Int32)} {f_p0_scratch' : (Nat → Int)} (fl : Nat) (e_i_p0_edges : i_p0_edges' = (i_p0_edges).toInt) (e_f_p0_edgeAt : f_p0_edgeAt' = (t32 f_p0_edgeAt)) (e_f_p0_to : f_p0_to' = (t32 f_p0_to)) (e_f_p1_sign : f_p1_sign' = (t32 f_p1_sign)) (e_f_p0_scratch : f_p0_scratch' = (t32 f_p0_scratch)) : Ok (fun r => (r.1.toInt, t32 r.2)) (m_Sh_seifertRounds fl i_p0_edges f_p0_edgeAt f_p0_to f_p1_sign f_p0_scratch) (LM_Sh_seifertRounds fl i_p0_edges' f_p0_edgeAt' f_p0_to' f_p1_sign' f_p0_scratch') := by
  unfold m_Sh_seifertRounds LM_Sh_seifertRounds
  exact (hB_Sh_seifertRounds_0 fl e_i_p0_edges e_f_p0_edgeAt e_f_p0_to e_f_p1_sign e_f_p0_scratch)
def LB_Di_sumOfSigns_4 (fl : Nat) (i_p0_count' : Int) (f_p0_sign' : (Nat → Int)) : Nat → Int → Int → Option (Int)
  | 0, _, _ => none
  | nn + 1, x1', x2' => (if i_p0_count' ≤ x2' then (some (x1')) else (if (0 ≤ x2' ∧ x2' < 20) then (if (-2147483648 ≤ (x1' + (f_p0_sign' (Int.toNat x2'))) ∧ (x1' + (f_p0_sign' (Int.toNat x2'))) < 2147483648) ∧ (-2147483648 ≤ (x2' + (1 : Int)) ∧ (x2' + (1 : Int)) < 2147483648) then (LB_Di_sumOfSigns_4 fl i_p0_count' f_p0_sign' nn (x1' + (f_p0_sign' (Int.toNat x2'))) (x2' + (1 : Int))) else none) else none))
theorem hB_Di_sumOfSigns_4 {i_p0_count : Int32} {i_p0_count' : Int} {f_p0_sign : (Nat → Int32)} {f_p0_sign' : (Nat → Int)} (fl : Nat) (e_i_p0_count : i_p0_count' = (i_p0_count).toInt) (e_f_p0_sign : f_p0_sign' = (t32 f_p0_sign)) : ∀ (nn : Nat) {x1 : Int32} {x1' : Int} {x2 : Int32} {x2' : Int} (e_x1 : x1' = (x1).toInt) (e_x2 : x2' = (x2).toInt), Ok Int32.toInt (B_Di_sumOfSigns_4 fl i_p0_count f_p0_sign nn x1 x2) (LB_Di_sumOfSigns_4 fl i_p0_count' f_p0_sign' nn x1' x2') := by
  intro nn
  induction nn with
  | zero => intro x1 x1' x2 x2' e_x1 e_x2; exact lf_none
  | succ nn ih =>
    intro x1 x1' x2 x2' e_x1 e_x2
    rw [B_Di_sumOfSigns_4, LB_Di_sumOfSigns_4]
    refine lf_if (c_le e_i_p0_count e_x2) ?_ ?_
    · exact lf_some e_x1
    · refine lf_gd (fun h1 => ⟨(c_idx (n := 20) (n' := 20) rfl e_x2).1 h1, ?_⟩)
      refine lf_guard (fun gg => ?_)
      obtain ⟨g2, g3⟩ := gg
      exact (ih (q_add e_x1 (q_get e_f_p0_sign (q_clamp e_x2)) g2) (q_add e_x2 k32_1 g3))
def LB_Di_sumOfSigns_0 (fl : Nat) (i_p0_count' : Int) (f_p0_sign' : (Nat → Int)) : Option (Int) := (LB_Di_sumOfSigns_4 fl i_p0_count' f_p0_sign' fl (0 : Int) (0 : Int))
theorem hB_Di_sumOfSigns_0 {i_p0_count : Int32} {i_p0_count' : Int} {f_p0_sign : (Nat → Int32)} {f_p0_sign' : (Nat → Int)} (fl : Nat) (e_i_p0_count : i_p0_count' = (i_p0_count).toInt) (e_f_p0_sign : f_p0_sign' = (t32 f_p0_sign)) : Ok Int32.toInt (B_Di_sumOfSigns_0 fl i_p0_count f_p0_sign) (LB_Di_sumOfSigns_0 fl i_p0_count' f_p0_sign') := by
  unfold B_Di_sumOfSigns_0 LB_Di_sumOfSigns_0
  exact (hB_Di_sumOfSigns_4 fl e_i_p0_count e_f_p0_sign fl k32_0 k32_0)
def LM_Di_sumOfSigns (fl : Nat) (i_p0_count' : Int) (f_p0_sign' : (Nat → Int)) : Option (Int) := (LB_Di_sumOfSigns_0 fl i_p0_count' f_p0_sign')
theorem hm_Di_sumOfSigns {i_p0_count : Int32} {i_p0_count' : Int} {f_p0_sign : (Nat → Int32)} {f_p0_sign' : (Nat → Int)} (fl : Nat) (e_i_p0_count : i_p0_count' = (i_p0_count).toInt) (e_f_p0_sign : f_p0_sign' = (t32 f_p0_sign)) : Ok Int32.toInt (m_Di_sumOfSigns fl i_p0_count f_p0_sign) (LM_Di_sumOfSigns fl i_p0_count' f_p0_sign') := by
  unfold m_Di_sumOfSigns LM_Di_sumOfSigns
  exact (hB_Di_sumOfSigns_0 fl e_i_p0_count e_f_p0_sign)
def LB_Sh_isAlternating_2 (fl : Nat) (i_p0_edges' : Int) (f_p0_from' : (Nat → Int)) (f_p0_to' : (Nat → Int)) : Nat → Int → Option (Int)
  | 0, _ => none
  | nn + 1, x1' => (if i_p0_edges' ≤ x1' then (some ((1 : Int))) else (if (0 ≤ x1' ∧ x1' < 40) then ((LM_Sh_isUpper fl (f_p0_from' (Int.toNat x1'))).bind fun o0 => ((LM_Sh_isUpper fl (f_p0_to' (Int.toNat x1'))).bind fun o1 => (if ¬ (o0 = o1) then (if (-2147483648 ≤ (x1' + (1 : Int)) ∧ (x1' + (1 : Int)) < 2147483648) then (LB_Sh_isAlternating_2 fl i_p0_edges' f_p0_from' f_p0_to' nn (x1' + (1 : Int))) else none) else (some ((0 : Int)))))) else none))
theorem hB_Sh_isAlternating_2 {i_p0_edges : Int32} {i_p0_edges' : Int} {f_p0_from : (Nat → Int32)} {f_p0_from' : (Nat → Int)} {f_p0_to : (Nat → Int32)} {f_p0_to' : (Nat → Int)} (fl : Nat) (e_i_p0_edges : i_p0_edges' = (i_p0_edges).toInt) (e_f_p0_from : f_p0_from' = (t32 f_p0_from)) (e_f_p0_to : f_p0_to' = (t32 f_p0_to)) : ∀ (nn : Nat) {x1 : Int32} {x1' : Int} (e_x1 : x1' = (x1).toInt), Ok Int32.toInt (B_Sh_isAlternating_2 fl i_p0_edges f_p0_from f_p0_to nn x1) (LB_Sh_isAlternating_2 fl i_p0_edges' f_p0_from' f_p0_to' nn x1') := by
  intro nn
  induction nn with
  | zero => intro x1 x1' e_x1; exact lf_none
  | succ nn ih =>
    intro x1 x1' e_x1
    rw [B_Sh_isAlternating_2, LB_Sh_isAlternating_2]
    refine lf_if (c_le e_i_p0_edges e_x1) ?_ ?_
    · exact lf_some k32_1
    · refine lf_gd (fun h1 => ⟨(c_idx (n := 40) (n' := 40) rfl e_x1).1 h1, ?_⟩)
      refine lf_bind (hm_Sh_isUpper fl (q_get e_f_p0_from (q_clamp e_x1))) (fun o0 => ?_)
      refine lf_pos ((c_idx (n := 40) (n' := 40) rfl e_x1).1 h1) ?_
      refine lf_bind (hm_Sh_isUpper fl (q_get e_f_p0_to (q_clamp e_x1))) (fun o1 => ?_)
      refine lf_if (not_congr (c_eq (rfl : (o0).toInt = (o0).toInt) (rfl : (o1).toInt = (o1).toInt))) ?_ ?_
      · refine lf_guard (fun gg => ?_)
        have g2 := gg
        exact (ih (q_add e_x1 k32_1 g2))
      · exact lf_some k32_0
def LB_Sh_isAlternating_0 (fl : Nat) (i_p0_edges' : Int) (f_p0_from' : (Nat → Int)) (f_p0_to' : (Nat → Int)) : Option (Int) := (LB_Sh_isAlternating_2 fl i_p0_edges' f_p0_from' f_p0_to' fl (0 : Int))
theorem hB_Sh_isAlternating_0 {i_p0_edges : Int32} {i_p0_edges' : Int} {f_p0_from : (Nat → Int32)} {f_p0_from' : (Nat → Int)} {f_p0_to : (Nat → Int32)} {f_p0_to' : (Nat → Int)} (fl : Nat) (e_i_p0_edges : i_p0_edges' = (i_p0_edges).toInt) (e_f_p0_from : f_p0_from' = (t32 f_p0_from)) (e_f_p0_to : f_p0_to' = (t32 f_p0_to)) : Ok Int32.toInt (B_Sh_isAlternating_0 fl i_p0_edges f_p0_from f_p0_to) (LB_Sh_isAlternating_0 fl i_p0_edges' f_p0_from' f_p0_to') := by
  unfold B_Sh_isAlternating_0 LB_Sh_isAlternating_0
  exact (hB_Sh_isAlternating_2 fl e_i_p0_edges e_f_p0_from e_f_p0_to fl k32_0)
def LM_Sh_isAlternating (fl : Nat) (i_p0_edges' : Int) (f_p0_from' : (Nat → Int)) (f_p0_to' : (Nat → Int)) : Option (Int) := (LB_Sh_isAlternating_0 fl i_p0_edges' f_p0_from' f_p0_to')
theorem hm_Sh_isAlternating {i_p0_edges : Int32} {i_p0_edges' : Int} {f_p0_from : (Nat → Int32)} {f_p0_from' : (Nat → Int)} {f_p0_to : (Nat → Int32)} {f_p0_to' : (Nat → Int)} (fl : Nat) (e_i_p0_edges : i_p0_edges' = (i_p0_edges).toInt) (e_f_p0_from : f_p0_from' = (t32 f_p0_from)) (e_f_p0_to : f_p0_to' = (t32 f_p0_to)) : Ok Int32.toInt (m_Sh_isAlternating fl i_p0_edges f_p0_from f_p0_to) (LM_Sh_isAlternating fl i_p0_edges' f_p0_from' f_p0_to') := by
  unfold m_Sh_isAlternating LM_Sh_isAlternating
  exact (hB_Sh_isAlternating_0 fl e_i_p0_edges e_f_p0_from e_f_p0_to)
def LB_Sh_dartNumber_0 (fl : Nat) (f_p0_name' : (Nat → Int)) (x1' : Int) : Option (Int) := (if (0 ≤ (x1' / 2) ∧ (x1' / 2) < 40) then (if ¬ ((x1' % 2) = (0 : Int)) then (if (-2147483648 ≤ (-(f_p0_name' (Int.toNat (x1' / 2)))) ∧ (-(f_p0_name' (Int.toNat (x1' / 2)))) < 2147483648) then (some ((-(f_p0_name' (Int.toNat (x1' / 2)))))) else none) else (some ((f_p0_name' (Int.toNat (x1' / 2)))))) else none)
theorem hB_Sh_dartNumber_0 {f_p0_name : (Nat → Int32)} {f_p0_name' : (Nat → Int)} {x1 : Int32} {x1' : Int} (fl : Nat) (e_f_p0_name : f_p0_name' = (t32 f_p0_name)) (e_x1 : x1' = (x1).toInt) : Ok Int32.toInt (B_Sh_dartNumber_0 fl f_p0_name x1) (LB_Sh_dartNumber_0 fl f_p0_name' x1') := by
  unfold B_Sh_dartNumber_0 LB_Sh_dartNumber_0
  refine lf_gd (fun h1 => ⟨(c_idx (n := 40) (n' := 40) rfl (q_sh1 e_x1)).1 h1, ?_⟩)
  refine lf_if (not_congr (c_eq (q_mask (k := 1) (by decide) (by decide) e_x1) k32_0)) ?_ ?_
  · refine lf_guard (fun gg => ?_)
    have g2 := gg
    exact lf_some (q_neg (q_get e_f_p0_name (q_clamp (q_sh1 e_x1))) g2)
  · exact lf_some (q_get e_f_p0_name (q_clamp (q_sh1 e_x1)))
def LM_Sh_dartNumber (fl : Nat) (f_p0_name' : (Nat → Int)) (x1' : Int) : Option (Int) := (LB_Sh_dartNumber_0 fl f_p0_name' x1')
theorem hm_Sh_dartNumber {f_p0_name : (Nat → Int32)} {f_p0_name' : (Nat → Int)} {x1 : Int32} {x1' : Int} (fl : Nat) (e_f_p0_name : f_p0_name' = (t32 f_p0_name)) (e_x1 : x1' = (x1).toInt) : Ok Int32.toInt (m_Sh_dartNumber fl f_p0_name x1) (LM_Sh_dartNumber fl f_p0_name' x1') := by
  unfold m_Sh_dartNumber LM_Sh_dartNumber
  exact (hB_Sh_dartNumber_0 fl e_f_p0_name e_x1)
def LB_Po_clear_0 (fl : Nat) (i_p0_raise' : Int) (i_p0_sign' : Int) (f_p0_term' : (Nat → Int)) : Option (Int × Int × (Nat → Int)) := (some ((0 : Int), (1 : Int), (fillF f_p0_term' 161 (0 : Int))))
theorem hB_Po_clear_0 {i_p0_raise : Int32} {i_p0_raise' : Int} {i_p0_sign : Int32} {i_p0_sign' : Int} {f_p0_term : (Nat → Int64)} {f_p0_term' : (Nat → Int)} (fl : Nat) (e_i_p0_raise : i_p0_raise' = (i_p0_raise).toInt) (e_i_p0_sign : i_p0_sign' = (i_p0_sign).toInt) (e_f_p0_term : f_p0_term' = (t64 f_p0_term)) : Ok (fun r => (r.1.toInt, r.2.1.toInt, t64 r.2.2)) (B_Po_clear_0 fl i_p0_raise i_p0_sign f_p0_term) (LB_Po_clear_0 fl i_p0_raise' i_p0_sign' f_p0_term') := by
  unfold B_Po_clear_0 LB_Po_clear_0
  exact lf_some (tup3 k32_0 k32_1 (p_fill e_f_p0_term k64_0))
def LM_Po_clear (fl : Nat) (i_p0_raise' : Int) (i_p0_sign' : Int) (f_p0_term' : (Nat → Int)) : Option (Int × Int × (Nat → Int)) := (LB_Po_clear_0 fl i_p0_raise' i_p0_sign' f_p0_term')
theorem hm_Po_clear {i_p0_raise : Int32} {i_p0_raise' : Int} {i_p0_sign : Int32} {i_p0_sign' : Int} {f_p0_term : (Nat → Int64)} {f_p0_term' : (Nat → Int)} (fl : Nat) (e_i_p0_raise : i_p0_raise' = (i_p0_raise).toInt) (e_i_p0_sign : i_p0_sign' = (i_p0_sign).toInt) (e_f_p0_term : f_p0_term' = (t64 f_p0_term)) : Ok (fun r => (r.1.toInt, r.2.1.toInt, t64 r.2.2)) (m_Po_clear fl i_p0_raise i_p0_sign f_p0_term) (LM_Po_clear fl i_p0_raise' i_p0_sign' f_p0_term') := by
  unfold m_Po_clear LM_Po_clear
  exact (hB_Po_clear_0 fl e_i_p0_raise e_i_p0_sign e_f_p0_term)
def LB_Mi_reach_18 (fl : Nat) : Nat → Int → Int → (Nat → Int) → (Nat → Int) → Option ((Nat → Int) × (Nat → Int))
  | 0, _, _, _, _ => none
  | nn + 1, x1', x2', f_p0_reached', f_p0_sum' => (if (10 : Int) ≤ x2' then (some (f_p0_reached', f_p0_sum')) else (if (-2147483648 ≤ (x1' * (10 : Int)) ∧ (x1' * (10 : Int)) < 2147483648) then (if (0 ≤ ((x1' * (10 : Int)) + x2') ∧ ((x1' * (10 : Int)) + x2') < 5120) then (if (-2147483648 ≤ (x2' + (1 : Int)) ∧ (x2' + (1 : Int)) < 2147483648) then (LB_Mi_reach_18 fl nn x1' (x2' + (1 : Int)) f_p0_reached' (up f_p0_sum' (Int.toNat ((x1' * (10 : Int)) + x2')) (0 : Int))) else none) else none) else none))
theorem hB_Mi_reach_18  (fl : Nat) : ∀ (nn : Nat) {x1 : Int32} {x1' : Int} {x2 : Int32} {x2' : Int} {f_p0_reached : (Nat → Int32)} {f_p0_reached' : (Nat → Int)} {f_p0_sum : (Nat → Int32)} {f_p0_sum' : (Nat → Int)} (e_x1 : x1' = (x1).toInt) (e_x2 : x2' = (x2).toInt) (e_f_p0_reached : f_p0_reached' = (t32 f_p0_reached)) (e_f_p0_sum : f_p0_sum' = (t32 f_p0_sum)), Ok (fun r => (t32 r.1, t32 r.2)) (B_Mi_reach_18 fl nn x1 x2 f_p0_reached f_p0_sum) (LB_Mi_reach_18 fl nn x1' x2' f_p0_reached' f_p0_sum') := by
  intro nn
  induction nn with
  | zero => intro x1 x1' x2 x2' f_p0_reached f_p0_reached' f_p0_sum f_p0_sum' e_x1 e_x2 e_f_p0_reached e_f_p0_sum; exact lf_none
  | succ nn ih =>
    intro x1 x1' x2 x2' f_p0_reached f_p0_reached' f_p0_sum f_p0_sum' e_x1 e_x2 e_f_p0_reached e_f_p0_sum
    rw [B_Mi_reach_18, LB_Mi_reach_18]
    refine lf_if (c_le k32_10 e_x2) ?_ ?_
    · exact lf_some (tup2 e_f_p0_reached e_f_p0_sum)
    · refine lf_guard (fun gg => ?_)
      have g1 := gg
      refine lf_gd (fun h3 => ⟨(c_idx (n := 5120) (n' := 5120) rfl (q_add (q_mul e_x1 k32_10 g1) e_x2 (ri h3 (by decide)))).1 h3, ?_⟩)
      refine lf_guard (fun gg => ?_)
      have g4 := gg
      exact (ih e_x1 (q_add e_x2 k32_1 g4) e_f_p0_reached (q_upd e_f_p0_sum (q_clamp (q_add (q_mul e_x1 k32_10 g1) e_x2 (ri h3 (by decide)))) k32_0))
def LB_Mi_reach_0 (fl : Nat) (x1' : Int) (f_p0_reached' : (Nat → Int)) (f_p0_sum' : (Nat → Int)) : Option ((Nat → Int) × (Nat → Int)) := (if (0 ≤ x1' ∧ x1' < 512) then (if ¬ ((f_p0_reached' (Int.toNat x1')) = (0 : Int)) then (some (f_p0_reached', f_p0_sum')) else (LB_Mi_reach_18 fl fl x1' (0 : Int) (up f_p0_reached' (Int.toNat x1') (1 : Int)) f_p0_sum')) else none)
theorem hB_Mi_reach_0 {x1 : Int32} {x1' : Int} {f_p0_reached : (Nat → Int32)} {f_p0_reached' : (Nat → Int)} {f_p0_sum : (Nat → Int32)} {f_p0_sum' : (Nat → Int)} (fl : Nat) (e_x1 : x1' = (x1).toInt) (e_f_p0_reached : f_p0_reached' = (t32 f_p0_reached)) (e_f_p0_sum : f_p0_sum' = (t32 f_p0_sum)) : Ok (fun r => (t32 r.1, t32 r.2)) (B_Mi_reach_0 fl x1 f_p0_reached f_p0_sum) (LB_Mi_reach_0 fl x1' f_p0_reached' f_p0_sum') := by
  unfold B_Mi_reach_0 LB_Mi_reach_0
  refine lf_gd (fun h1 => ⟨(c_idx (n := 512) (n' := 512) rfl e_x1).1 h1, ?_⟩)
  refine lf_if (not_congr (c_eq (q_get e_f_p0_reached (q_clamp e_x1)) k32_0)) ?_ ?_
  · exact lf_some (tup2 e_f_p0_reached e_f_p0_sum)
  · refine lf_pos ((c_idx (n := 512) (n' := 512) rfl e_x1).1 h1) ?_
    exact (hB_Mi_reach_18 fl fl e_x1 k32_0 (q_upd e_f_p0_reached (q_clamp e_x1) k32_1) e_f_p0_sum)
def LM_Mi_reach (fl : Nat) (x1' : Int) (f_p0_reached' : (Nat → Int)) (f_p0_sum' : (Nat → Int)) : Option ((Nat → Int) × (Nat → Int)) := (LB_Mi_reach_0 fl x1' f_p0_reached' f_p0_sum')
theorem hm_Mi_reach {x1 : Int32} {x1' : Int} {f_p0_reached : (Nat → Int32)} {f_p0_reached' : (Nat → Int)} {f_p0_sum : (Nat → Int32)} {f_p0_sum' : (Nat → Int)} (fl : Nat) (e_x1 : x1' = (x1).toInt) (e_f_p0_reached : f_p0_reached' = (t32 f_p0_reached)) (e_f_p0_sum : f_p0_sum' = (t32 f_p0_sum)) : Ok (fun r => (t32 r.1, t32 r.2)) (m_Mi_reach fl x1 f_p0_reached f_p0_sum) (LM_Mi_reach fl x1' f_p0_reached' f_p0_sum') := by
  unfold m_Mi_reach LM_Mi_reach
  exact (hB_Mi_reach_0 fl e_x1 e_f_p0_reached e_f_p0_sum)
def LB_Po_add_0 (fl : Nat) (x1' : Int) (x2' : Int) (f_p0_term' : (Nat → Int)) : Option ((Nat → Int)) := (if (-2147483648 ≤ ((0 : Int) - x1') ∧ ((0 : Int) - x1') < 2147483648) then (if (80 : Int) < (if (0 : Int) ≤ x1' then x1' else ((0 : Int) - x1')) then (some (f_p0_term')) else (if (0 ≤ (x1' + (80 : Int)) ∧ (x1' + (80 : Int)) < 161) then (if (-9223372036854775808 ≤ ((f_p0_term' (Int.toNat (x1' + (80 : Int)))) + x2') ∧ ((f_p0_term' (Int.toNat (x1' + (80 : Int)))) + x2') < 9223372036854775808) then (some ((up f_p0_term' (Int.toNat (x1' + (80 : Int))) ((f_p0_term' (Int.toNat (x1' + (80 : Int)))) + x2')))) else none) else none)) else none)
theorem hB_Po_add_0 {x1 : Int32} {x1' : Int} {x2 : Int64} {x2' : Int} {f_p0_term : (Nat → Int64)} {f_p0_term' : (Nat → Int)} (fl : Nat) (e_x1 : x1' = (x1).toInt) (e_x2 : x2' = (x2).toInt) (e_f_p0_term : f_p0_term' = (t64 f_p0_term)) : Ok t64 (B_Po_add_0 fl x1 x2 f_p0_term) (LB_Po_add_0 fl x1' x2' f_p0_term') := by
  unfold B_Po_add_0 LB_Po_add_0
  refine lf_guard (fun gg => ?_)
  have g1 := gg
  refine lf_if (c_lt k32_80 (q_ite (c_le k32_0 e_x1) e_x1 (q_sub k32_0 e_x1 g1))) ?_ ?_
  · exact lf_some e_f_p0_term
  · refine lf_gd (fun h3 => ⟨(c_idx (n := 161) (n' := 161) rfl (q_add e_x1 k32_80 (ri h3 (by decide)))).1 h3, ?_⟩)
    refine lf_pos ((c_idx (n := 161) (n' := 161) rfl (q_add e_x1 k32_80 (ri h3 (by decide)))).1 h3) ?_
    refine lf_guard (fun gg => ?_)
    have g4 := gg
    exact lf_some (p_upd e_f_p0_term (q_clamp (q_add e_x1 k32_80 (ri h3 (by decide)))) (p_add (p_get e_f_p0_term (q_clamp (q_add e_x1 k32_80 (ri h3 (by decide))))) e_x2 g4))
def LM_Po_add (fl : Nat) (x1' : Int) (x2' : Int) (f_p0_term' : (Nat → Int)) : Option ((Nat → Int)) := (LB_Po_add_0 fl x1' x2' f_p0_term')
theorem hm_Po_add {x1 : Int32} {x1' : Int} {x2 : Int64} {x2' : Int} {f_p0_term : (Nat → Int64)} {f_p0_term' : (Nat → Int)} (fl : Nat) (e_x1 : x1' = (x1).toInt) (e_x2 : x2' = (x2).toInt) (e_f_p0_term : f_p0_term' = (t64 f_p0_term)) : Ok t64 (m_Po_add fl x1 x2 f_p0_term) (LM_Po_add fl x1' x2' f_p0_term') := by
  unfold m_Po_add LM_Po_add
  exact (hB_Po_add_0 fl e_x1 e_x2 e_f_p0_term)
def LB_Po_makeNormal_47 (fl : Nat) (f_p0_term' : (Nat → Int)) (s0' : Int) (x1' : Int) (i_p0_raise' : Int) (i_p0_sign' : Int) : Option (Int × Int) := (some (i_p0_raise', s0'))
theorem hB_Po_makeNormal_47 {f_p0_term : (Nat → Int64)} {f_p0_term' : (Nat → Int)} {s0 : Int32} {s0' : Int} {x1 : Int32} {x1' : Int} {i_p0_raise : Int32} {i_p0_raise' : Int} {i_p0_sign : Int32} {i_p0_sign' : Int} (fl : Nat) (e_f_p0_term : f_p0_term' = (t64 f_p0_term)) (e_s0 : s0' = (s0).toInt) (e_x1 : x1' = (x1).toInt) (e_i_p0_raise : i_p0_raise' = (i_p0_raise).toInt) (e_i_p0_sign : i_p0_sign' = (i_p0_sign).toInt) : Ok (fun r => (r.1.toInt, r.2.toInt)) (B_Po_makeNormal_47 fl f_p0_term s0 x1 i_p0_raise i_p0_sign) (LB_Po_makeNormal_47 fl f_p0_term' s0' x1' i_p0_raise' i_p0_sign') := by
  unfold B_Po_makeNormal_47 LB_Po_makeNormal_47
  exact lf_some (tup2 e_i_p0_raise e_s0)
def LB_Po_makeNormal_2 (fl : Nat) (f_p0_term' : (Nat → Int)) : Nat → Int → Int → Int → Option (Int × Int)
  | 0, _, _, _ => none
  | nn + 1, x1', i_p0_raise', i_p0_sign' => (if (161 : Int) ≤ x1' then (some (i_p0_raise', i_p0_sign')) else (if (0 ≤ x1' ∧ x1' < 161) then (if (f_p0_term' (Int.toNat x1')) = (0 : Int) then (if (-2147483648 ≤ (x1' + (1 : Int)) ∧ (x1' + (1 : Int)) < 2147483648) then (LB_Po_makeNormal_2 fl f_p0_term' nn (x1' + (1 : Int)) i_p0_raise' i_p0_sign') else none) else (if (f_p0_term' (Int.toNat x1')) ≤ (0 : Int) then (if (-2147483648 ≤ ((80 : Int) - x1') ∧ ((80 : Int) - x1') < 2147483648) then (LB_Po_makeNormal_47 fl f_p0_term' (-1 : Int) x1' ((80 : Int) - x1') i_p0_sign') else none) else (if (-2147483648 ≤ ((80 : Int) - x1') ∧ ((80 : Int) - x1') < 2147483648) then (LB_Po_makeNormal_47 fl f_p0_term' (1 : Int) x1' ((80 : Int) - x1') i_p0_sign') else none))) else none))
theorem hB_Po_makeNormal_2 {f_p0_term : (Nat → Int64)} {f_p0_term' : (Nat → Int)} (fl : Nat) (e_f_p0_term : f_p0_term' = (t64 f_p0_term)) : ∀ (nn : Nat) {x1 : Int32} {x1' : Int} {i_p0_raise : Int32} {i_p0_raise' : Int} {i_p0_sign : Int32} {i_p0_sign' : Int} (e_x1 : x1' = (x1).toInt) (e_i_p0_raise : i_p0_raise' = (i_p0_raise).toInt) (e_i_p0_sign : i_p0_sign' = (i_p0_sign).toInt), Ok (fun r => (r.1.toInt, r.2.toInt)) (B_Po_makeNormal_2 fl f_p0_term nn x1 i_p0_raise i_p0_sign) (LB_Po_makeNormal_2 fl f_p0_term' nn x1' i_p0_raise' i_p0_sign') := by
  intro nn
  induction nn with
  | zero => intro x1 x1' i_p0_raise i_p0_raise' i_p0_sign i_p0_sign' e_x1 e_i_p0_raise e_i_p0_sign; exact lf_none
  | succ nn ih =>
    intro x1 x1' i_p0_raise i_p0_raise' i_p0_sign i_p0_sign' e_x1 e_i_p0_raise e_i_p0_sign
    rw [B_Po_makeNormal_2, LB_Po_makeNormal_2]
    refine lf_if (c_le k32_161 e_x1) ?_ ?_
    · exact lf_some (tup2 e_i_p0_raise e_i_p0_sign)
    · refine lf_gd (fun h1 => ⟨(c_idx (n := 161) (n' := 161) rfl e_x1).1 h1, ?_⟩)
      refine lf_if (g_eq0 (p_get e_f_p0_term (q_clamp e_x1)) k64_0) ?_ ?_
      · refine lf_guard (fun gg => ?_)
        have g2 := gg
        exact (ih (q_add e_x1 k32_1 g2) e_i_p0_raise e_i_p0_sign)
      · refine lf_pos ((c_idx (n := 161) (n' := 161) rfl e_x1).1 h1) ?_
        refine lf_if (g_le0 (p_get e_f_p0_term (q_clamp e_x1)) k64_0) ?_ ?_
        · refine lf_guard (fun gg => ?_)
          have g3 := gg
          exact (hB_Po_makeNormal_47 fl e_f_p0_term k32_n1 e_x1 (q_sub k32_80 e_x1 g3) e_i_p0_sign)
        · refine lf_guard (fun gg => ?_)
          have g4 := gg
          exact (hB_Po_makeNormal_47 fl e_f_p0_term k32_1 e_x1 (q_sub k32_80 e_x1 g4) e_i_p0_sign)
def LB_Po_makeNormal_0 (fl : Nat) (f_p0_term' : (Nat → Int)) (i_p0_raise' : Int) (i_p0_sign' : Int) : Option (Int × Int) := (LB_Po_makeNormal_2 fl f_p0_term' fl (0 : Int) i_p0_raise' i_p0_sign')
theorem hB_Po_makeNormal_0 {f_p0_term : (Nat → Int64)} {f_p0_term' : (Nat → Int)} {i_p0_raise : Int32} {i_p0_raise' : Int} {i_p0_sign : Int32} {i_p0_sign' : Int} (fl : Nat) (e_f_p0_term : f_p0_term' = (t64 f_p0_term)) (e_i_p0_raise : i_p0_raise' = (i_p0_raise).toInt) (e_i_p0_sign : i_p0_sign' = (i_p0_sign).toInt) : Ok (fun r => (r.1.toInt, r.2.toInt)) (B_Po_makeNormal_0 fl f_p0_term i_p0_raise i_p0_sign) (LB_Po_makeNormal_0 fl f_p0_term' i_p0_raise' i_p0_sign') := by
  unfold B_Po_makeNormal_0 LB_Po_makeNormal_0
  exact (hB_Po_makeNormal_2 fl e_f_p0_term fl k32_0 e_i_p0_raise e_i_p0_sign)
def LM_Po_makeNormal (fl : Nat) (f_p0_term' : (Nat → Int)) (i_p0_raise' : Int) (i_p0_sign' : Int) : Option (Int × Int) := (LB_Po_makeNormal_0 fl f_p0_term' i_p0_raise' i_p0_sign')
theorem hm_Po_makeNormal {f_p0_term : (Nat → Int64)} {f_p0_term' : (Nat → Int)} {i_p0_raise : Int32} {i_p0_raise' : Int} {i_p0_sign : Int32} {i_p0_sign' : Int} (fl : Nat) (e_f_p0_term : f_p0_term' = (t64 f_p0_term)) (e_i_p0_raise : i_p0_raise' = (i_p0_raise).toInt) (e_i_p0_sign : i_p0_sign' = (i_p0_sign).toInt) : Ok (fun r => (r.1.toInt, r.2.toInt)) (m_Po_makeNormal fl f_p0_term i_p0_raise i_p0_sign) (LM_Po_makeNormal fl f_p0_term' i_p0_raise' i_p0_sign') := by
  unfold m_Po_makeNormal LM_Po_makeNormal
  exact (hB_Po_makeNormal_0 fl e_f_p0_term e_i_p0_raise e_i_p0_sign)
def LB_Ss_splitAs_126 (fl : Nat) (ks' : (Int → Int → Int → Int → (Nat → Int) → (Nat → Int) → Option ((Nat → Int) × (Nat → Int)))) (i_p0_crossings' : Int) (s0' : Int) (s1' : Int) (x1' : Int) (x2' : Int) (x3' : Int) (x4' : Int) (x5' : Int) (x6' : Int) (x7' : Int) (x8' : Int) (x9' : Int) (x10' : Int) (x11' : Int) (x12' : Int) (f_p0_mate' : (Nat → Int)) (f_p0_states' : (Nat → Int)) : Option ((Nat → Int) × (Nat → Int)) := (if (-2147483648 ≤ (x1' + (1 : Int)) ∧ (x1' + (1 : Int)) < 2147483648) ∧ (-2147483648 ≤ (s1' + s0') ∧ (s1' + s0') < 2147483648) ∧ (-2147483648 ≤ (x4' + (s1' + s0')) ∧ (x4' + (s1' + s0')) < 2147483648) then ((ks' i_p0_crossings' (x1' + (1 : Int)) x3' (x4' + (s1' + s0')) f_p0_mate' f_p0_states').bind fun o0 => (if (0 ≤ x11' ∧ x11' < 40) then (if (0 ≤ x12' ∧ x12' < 40) then (if (0 ≤ x9' ∧ x9' < 40) then (if (0 ≤ x10' ∧ x10' < 40) then (some ((up (up (up (up o0.1 (Int.toNat x11') x7') (Int.toNat x12') x8') (Int.toNat x9') x5') (Int.toNat x10') x6'), o0.2)) else none) else none) else none) else none)) else none)
theorem hB_Ss_splitAs_126 {ks : (Int32 → Int32 → Int32 → Int32 → (Nat → Int32) → (Nat → Int32) → Option ((Nat → Int32) × (Nat → Int32)))} {ks' : (Int → Int → Int → Int → (Nat → Int) → (Nat → Int) → Option ((Nat → Int) × (Nat → Int)))} {i_p0_crossings : Int32} {i_p0_crossings' : Int} {s0 : Int32} {s0' : Int} {s1 : Int32} {s1' : Int} {x1 : Int32} {x1' : Int} {x2 : Int32} {x2' : Int} {x3 : Int32} {x3' : Int} {x4 : Int32} {x4' : Int} {x5 : Int32} {x5' : Int} {x6 : Int32} {x6' : Int} {x7 : Int32} {x7' : Int} {x8 : Int32} {x8' : Int} {x9 : Int32} {x9' : Int} {x10 : Int32} {x10' : Int} {x11 : Int32} {x11' : Int} {x12 : Int32} {x12' : Int} {f_p0_mate : (Nat → Int32)} {f_p0_mate' : (Nat → Int)} {f_p0_states : (Nat → Int32)} {f_p0_states' : (Nat → Int)} (fl : Nat) (k_ks : ∀ {z0 : Int32} {z0' : Int} {z1 : Int32} {z1' : Int} {z2 : Int32} {z2' : Int} {z3 : Int32} {z3' : Int} {z4 : (Nat → Int32)} {z4' : (Nat → Int)} {z5 : (Nat → Int32)} {z5' : (Nat → Int)} (e0 : z0' = (z0).toInt) (e1 : z1' = (z1).toInt) (e2 : z2' = (z2).toInt) (e3 : z3' = (z3).toInt) (e4 : z4' = (t32 z4)) (e5 : z5' = (t32 z5)), Ok (fun r => (t32 r.1, t32 r.2)) (ks z0 z1 z2 z3 z4 z5) (ks' z0' z1' z2' z3' z4' z5')) (e_i_p0_crossings : i_p0_crossings' = (i_p0_crossings).toInt) (e_s0 : s0' = (s0).toInt) (e_s1 : s1' = (s1).toInt) (e_x1 : x1' = (x1).toInt) (e_x2 : x2' = (x2).toInt) (e_x3 : x3' = (x3).toInt) (e_x4 : x4' = (x4).toInt) (e_x5 : x5' = (x5).toInt) (e_x6 : x6' = (x6).toInt) (e_x7 : x7' = (x7).toInt) (e_x8 : x8' = (x8).toInt) (e_x9 : x9' = (x9).toInt) (e_x10 : x10' = (x10).toInt) (e_x11 : x11' = (x11).toInt) (e_x12 : x12' = (x12).toInt) (e_f_p0_mate : f_p0_mate' = (t32 f_p0_mate)) (e_f_p0_states : f_p0_states' = (t32 f_p0_states)) : Ok (fun r => (t32 r.1, t32 r.2)) (B_Ss_splitAs_126 fl ks i_p0_crossings s0 s1 x1 x2 x3 x4 x5 x6 x7 x8 x9 x10 x11 x12 f_p0_mate f_p0_states) (LB_Ss_splitAs_126 fl ks' i_p0_crossings' s0' s1' x1' x2' x3' x4' x5' x6' x7' x8' x9' x10' x11' x12' f_p0_mate' f_p0_states') := by
  unfold B_Ss_splitAs_126 LB_Ss_splitAs_126
  refine lf_guard (fun gg => ?_)
  obtain ⟨g1, g2, g3⟩ := gg
  refine lf_bind (k_ks e_i_p0_crossings (q_add e_x1 k32_1 g1) e_x3 (q_add e_x4 (q_add e_s1 e_s0 g2) g3) e_f_p0_mate e_f_p0_states) (fun o0 => ?_)
  refine lf_gd (fun h4 => ⟨(c_idx (n := 40) (n' := 40) rfl e_x11).1 h4, ?_⟩)
  refine lf_gd (fun h5 => ⟨(c_idx (n := 40) (n' := 40) rfl e_x12).1 h5, ?_⟩)
  refine lf_gd (fun h6 => ⟨(c_idx (n := 40) (n' := 40) rfl e_x9).1 h6, ?_⟩)
  refine lf_gd (fun h7 => ⟨(c_idx (n := 40) (n' := 40) rfl e_x10).1 h7, ?_⟩)
  exact lf_some (tup2 (q_upd (q_upd (q_upd (q_upd (rfl : (t32 o0.1) = (t32 o0.1)) (q_clamp e_x11) e_x7) (q_clamp e_x12) e_x8) (q_clamp e_x9) e_x5) (q_clamp e_x10) e_x6) (rfl : (t32 o0.2) = (t32 o0.2)))
def LB_Ss_splitAs_114 (fl : Nat) (ks' : (Int → Int → Int → Int → (Nat → Int) → (Nat → Int) → Option ((Nat → Int) × (Nat → Int)))) (i_p0_crossings' : Int) (s0' : Int) (x1' : Int) (x2' : Int) (x3' : Int) (x4' : Int) (x5' : Int) (x6' : Int) (x7' : Int) (x8' : Int) (x9' : Int) (x10' : Int) (x11' : Int) (x12' : Int) (f_p0_mate' : (Nat → Int)) (f_p0_states' : (Nat → Int)) : Option ((Nat → Int) × (Nat → Int)) := (if ¬ (x11' = x8') then (LB_Ss_splitAs_126 fl ks' i_p0_crossings' (0 : Int) s0' x1' x2' x3' x4' x5' x6' x7' x8' x9' x10' x11' x12' f_p0_mate' f_p0_states') else (LB_Ss_splitAs_126 fl ks' i_p0_crossings' (1 : Int) s0' x1' x2' x3' x4' x5' x6' x7' x8' x9' x10' x11' x12' f_p0_mate' f_p0_states'))
theorem hB_Ss_splitAs_114 {ks : (Int32 → Int32 → Int32 → Int32 → (Nat → Int32) → (Nat → Int32) → Option ((Nat → Int32) × (Nat → Int32)))} {ks' : (Int → Int → Int → Int → (Nat → Int) → (Nat → Int) → Option ((Nat → Int) × (Nat → Int)))} {i_p0_crossings : Int32} {i_p0_crossings' : Int} {s0 : Int32} {s0' : Int} {x1 : Int32} {x1' : Int} {x2 : Int32} {x2' : Int} {x3 : Int32} {x3' : Int} {x4 : Int32} {x4' : Int} {x5 : Int32} {x5' : Int} {x6 : Int32} {x6' : Int} {x7 : Int32} {x7' : Int} {x8 : Int32} {x8' : Int} {x9 : Int32} {x9' : Int} {x10 : Int32} {x10' : Int} {x11 : Int32} {x11' : Int} {x12 : Int32} {x12' : Int} {f_p0_mate : (Nat → Int32)} {f_p0_mate' : (Nat → Int)} {f_p0_states : (Nat → Int32)} {f_p0_states' : (Nat → Int)} (fl : Nat) (k_ks : ∀ {z0 : Int32} {z0' : Int} {z1 : Int32} {z1' : Int} {z2 : Int32} {z2' : Int} {z3 : Int32} {z3' : Int} {z4 : (Nat → Int32)} {z4' : (Nat → Int)} {z5 : (Nat → Int32)} {z5' : (Nat → Int)} (e0 : z0' = (z0).toInt) (e1 : z1' = (z1).toInt) (e2 : z2' = (z2).toInt) (e3 : z3' = (z3).toInt) (e4 : z4' = (t32 z4)) (e5 : z5' = (t32 z5)), Ok (fun r => (t32 r.1, t32 r.2)) (ks z0 z1 z2 z3 z4 z5) (ks' z0' z1' z2' z3' z4' z5')) (e_i_p0_crossings : i_p0_crossings' = (i_p0_crossings).toInt) (e_s0 : s0' = (s0).toInt) (e_x1 : x1' = (x1).toInt) (e_x2 : x2' = (x2).toInt) (e_x3 : x3' = (x3).toInt) (e_x4 : x4' = (x4).toInt) (e_x5 : x5' = (x5).toInt) (e_x6 : x6' = (x6).toInt) (e_x7 : x7' = (x7).toInt) (e_x8 : x8' = (x8).toInt) (e_x9 : x9' = (x9).toInt) (e_x10 : x10' = (x10).toInt) (e_x11 : x11' = (x11).toInt) (e_x12 : x12' = (x12).toInt) (e_f_p0_mate : f_p0_mate' = (t32 f_p0_mate)) (e_f_p0_states : f_p0_states' = (t32 f_p0_states)) : Ok (fun r => (t32 r.1, t32 r.2)) (B_Ss_splitAs_114 fl ks i_p0_crossings s0 x1 x2 x3 x4 x5 x6 x7 x8 x9 x10 x11 x12 f_p0_mate f_p0_states) (LB_Ss_splitAs_114 fl ks' i_p0_crossings' s0' x1' x2' x3' x4' x5' x6' x7' x8' x9' x10' x11' x12' f_p0_mate' f_p0_states') := by
  unfold B_Ss_splitAs_114 LB_Ss_splitAs_114
  refine lf_if (not_congr (c_eq e_x11 e_x8)) ?_ ?_
  · exact (hB_Ss_splitAs_126 fl k_ks e_i_p0_crossings k32_0 e_s0 e_x1 e_x2 e_x3 e_x4 e_x5 e_x6 e_x7 e_x8 e_x9 e_x10 e_x11 e_x12 e_f_p0_mate e_f_p0_states)
  · exact (hB_Ss_splitAs_126 fl k_ks e_i_p0_crossings k32_1 e_s0 e_x1 e_x2 e_x3 e_x4 e_x5 e_x6 e_x7 e_x8 e_x9 e_x10 e_x11 e_x12 e_f_p0_mate e_f_p0_states)
set_option maxHeartbeats 4000000 in
set_option maxRecDepth 100000 in
def LB_Ss_splitAs_0 (fl : Nat) (ks' : (Int → Int → Int → Int → (Nat → Int) → (Nat → Int) → Option ((Nat → Int) × (Nat → Int)))) (i_p0_crossings' : Int) (x1' : Int) (x2' : Int) (x3' : Int) (x4' : Int) (f_p0_mate' : (Nat → Int)) (f_p0_states' : (Nat → Int)) : Option ((Nat → Int) × (Nat → Int)) := (if (-2147483648 ≤ ((4 : Int) * x1') ∧ ((4 : Int) * x1') < 2147483648) then (if (0 ≤ (((4 : Int) * x1') + x2') ∧ (((4 : Int) * x1') + x2') < 40) then (if (0 ≤ ((((4 : Int) * x1') + x2') + (1 : Int)) ∧ ((((4 : Int) * x1') + x2') + (1 : Int)) < 40) then (if (0 ≤ (f_p0_mate' (Int.toNat (((4 : Int) * x1') + x2'))) ∧ (f_p0_mate' (Int.toNat (((4 : Int) * x1') + x2'))) < 40) then (if (0 ≤ (f_p0_mate' (Int.toNat ((((4 : Int) * x1') + x2') + (1 : Int)))) ∧ (f_p0_mate' (Int.toNat ((((4 : Int) * x1') + x2') + (1 : Int)))) < 40) then (if (0 ≤ ((((4 : Int) * x1') + x2') + (2 : Int)) ∧ ((((4 : Int) * x1') + x2') + (2 : Int)) < 40) then (if (-2147483648 ≤ (x2' + (3 : Int)) ∧ (x2' + (3 : Int)) < 2147483648) then (if (0 ≤ (((4 : Int) * x1') + ((x2' + (3 : Int)) % 4)) ∧ (((4 : Int) * x1') + ((x2' + (3 : Int)) % 4)) < 40) then (if (0 ≤ ((up (up f_p0_mate' (Int.toNat (f_p0_mate' (Int.toNat (((4 : Int) * x1') + x2')))) (f_p0_mate' (Int.toNat ((((4 : Int) * x1') + x2') + (1 : Int))))) (Int.toNat (f_p0_mate' (Int.toNat ((((4 : Int) * x1') + x2') + (1 : Int))))) (f_p0_mate' (Int.toNat (((4 : Int) * x1') + x2')))) (Int.toNat ((((4 : Int) * x1') + x2') + (2 : Int)))) ∧ ((up (up f_p0_mate' (Int.toNat (f_p0_mate' (Int.toNat (((4 : Int) * x1') + x2')))) (f_p0_mate' (Int.toNat ((((4 : Int) * x1') + x2') + (1 : Int))))) (Int.toNat (f_p0_mate' (Int.toNat ((((4 : Int) * x1') + x2') + (1 : Int))))) (f_p0_mate' (Int.toNat (((4 : Int) * x1') + x2')))) (Int.toNat ((((4 : Int) * x1') + x2') + (2 : Int)))) < 40) then (if (0 ≤ ((up (up f_p0_mate' (Int.toNat (f_p0_mate' (Int.toNat (((4 : Int) * x1') + x2')))) (f_p0_mate' (Int.toNat ((((4 : Int) * x1') + x2') + (1 : Int))))) (Int.toNat (f_p0_mate' (Int.toNat ((((4 : Int) * x1') + x2') + (1 : Int))))) (f_p0_mate' (Int.toNat (((4 : Int) * x1') + x2')))) (Int.toNat (((4 : Int) * x1') + ((x2' + (3 : Int)) % 4)))) ∧ ((up (up f_p0_mate' (Int.toNat (f_p0_mate' (Int.toNat (((4 : Int) * x1') + x2')))) (f_p0_mate' (Int.toNat ((((4 : Int) * x1') + x2') + (1 : Int))))) (Int.toNat (f_p0_mate' (Int.toNat ((((4 : Int) * x1') + x2') + (1 : Int))))) (f_p0_mate' (Int.toNat (((4 : Int) * x1') + x2')))) (Int.toNat (((4 : Int) * x1') + ((x2' + (3 : Int)) % 4)))) < 40) then (if ¬ ((f_p0_mate' (Int.toNat (((4 : Int) * x1') + x2'))) = ((((4 : Int) * x1') + x2') + (1 : Int))) then (LB_Ss_splitAs_114 fl ks' i_p0_crossings' (0 : Int) x1' x2' x3' x4' (((4 : Int) * x1') + x2') ((((4 : Int) * x1') + x2') + (1 : Int)) ((((4 : Int) * x1') + x2') + (2 : Int)) (((4 : Int) * x1') + ((x2' + (3 : Int)) % 4)) (f_p0_mate' (Int.toNat (((4 : Int) * x1') + x2'))) (f_p0_mate' (Int.toNat ((((4 : Int) * x1') + x2') + (1 : Int)))) ((up (up f_p0_mate' (Int.toNat (f_p0_mate' (Int.toNat (((4 : Int) * x1') + x2')))) (f_p0_mate' (Int.toNat ((((4 : Int) * x1') + x2') + (1 : Int))))) (Int.toNat (f_p0_mate' (Int.toNat ((((4 : Int) * x1') + x2') + (1 : Int))))) (f_p0_mate' (Int.toNat (((4 : Int) * x1') + x2')))) (Int.toNat ((((4 : Int) * x1') + x2') + (2 : Int)))) ((up (up f_p0_mate' (Int.toNat (f_p0_mate' (Int.toNat (((4 : Int) * x1') + x2')))) (f_p0_mate' (Int.toNat ((((4 : Int) * x1') + x2') + (1 : Int))))) (Int.toNat (f_p0_mate' (Int.toNat ((((4 : Int) * x1') + x2') + (1 : Int))))) (f_p0_mate' (Int.toNat (((4 : Int) * x1') + x2')))) (Int.toNat (((4 : Int) * x1') + ((x2' + (3 : Int)) % 4)))) (up (up (up (up f_p0_mate' (Int.toNat (f_p0_mate' (Int.toNat (((4 : Int) * x1') + x2')))) (f_p0_mate' (Int.toNat ((((4 : Int) * x1') + x2') + (1 : Int))))) (Int.toNat (f_p0_mate' (Int.toNat ((((4 : Int) * x1') + x2') + (1 : Int))))) (f_p0_mate' (Int.toNat (((4 : Int) * x1') + x2')))) (Int.toNat ((up (up f_p0_mate' (Int.toNat (f_p0_mate' (Int.toNat (((4 : Int) * x1') + x2')))) (f_p0_mate' (Int.toNat ((((4 : Int) * x1') + x2') + (1 : Int))))) (Int.toNat (f_p0_mate' (Int.toNat ((((4 : Int) * x1') + x2') + (1 : Int))))) (f_p0_mate' (Int.toNat (((4 : Int) * x1') + x2')))) (Int.toNat ((((4 : Int) * x1') + x2') + (2 : Int))))) ((up (up f_p0_mate' (Int.toNat (f_p0_mate' (Int.toNat (((4 : Int) * x1') + x2')))) (f_p0_mate' (Int.toNat ((((4 : Int) * x1') + x2') + (1 : Int))))) (Int.toNat (f_p0_mate' (Int.toNat ((((4 : Int) * x1') + x2') + (1 : Int))))) (f_p0_mate' (Int.toNat (((4 : Int) * x1') + x2')))) (Int.toNat (((4 : Int) * x1') + ((x2' + (3 : Int)) % 4))))) (Int.toNat ((up (up f_p0_mate' (Int.toNat (f_p0_mate' (Int.toNat (((4 : Int) * x1') + x2')))) (f_p0_mate' (Int.toNat ((((4 : Int) * x1') + x2') + (1 : Int))))) (Int.toNat (f_p0_mate' (Int.toNat ((((4 : Int) * x1') + x2') + (1 : Int))))) (f_p0_mate' (Int.toNat (((4 : Int) * x1') + x2')))) (Int.toNat (((4 : Int) * x1') + ((x2' + (3 : Int)) % 4))))) ((up (up f_p0_mate' (Int.toNat (f_p0_mate' (Int.toNat (((4 : Int) * x1') + x2')))) (f_p0_mate' (Int.toNat ((((4 : Int) * x1') + x2') + (1 : Int))))) (Int.toNat (f_p0_mate' (Int.toNat ((((4 : Int) * x1') + x2') + (1 : Int))))) (f_p0_mate' (Int.toNat (((4 : Int) * x1') + x2')))) (Int.toNat ((((4 : Int) * x1') + x2') + (2 : Int))))) f_p0_states') else (LB_Ss_splitAs_114 fl ks' i_p0_crossings' (1 : Int) x1' x2' x3' x4' (((4 : Int) * x1') + x2') ((((4 : Int) * x1') + x2') + (1 : Int)) ((((4 : Int) * x1') + x2') + (2 : Int)) (((4 : Int) * x1') + ((x2' + (3 : Int)) % 4)) (f_p0_mate' (Int.toNat (((4 : Int) * x1') + x2'))) (f_p0_mate' (Int.toNat ((((4 : Int) * x1') + x2') + (1 : Int)))) ((up (up f_p0_mate' (Int.toNat (f_p0_mate' (Int.toNat (((4 : Int) * x1') + x2')))) (f_p0_mate' (Int.toNat ((((4 : Int) * x1') + x2') + (1 : Int))))) (Int.toNat (f_p0_mate' (Int.toNat ((((4 : Int) * x1') + x2') + (1 : Int))))) (f_p0_mate' (Int.toNat (((4 : Int) * x1') + x2')))) (Int.toNat ((((4 : Int) * x1') + x2') + (2 : Int)))) ((up (up f_p0_mate' (Int.toNat (f_p0_mate' (Int.toNat (((4 : Int) * x1') + x2')))) (f_p0_mate' (Int.toNat ((((4 : Int) * x1') + x2') + (1 : Int))))) (Int.toNat (f_p0_mate' (Int.toNat ((((4 : Int) * x1') + x2') + (1 : Int))))) (f_p0_mate' (Int.toNat (((4 : Int) * x1') + x2')))) (Int.toNat (((4 : Int) * x1') + ((x2' + (3 : Int)) % 4)))) (up (up (up (up f_p0_mate' (Int.toNat (f_p0_mate' (Int.toNat (((4 : Int) * x1') + x2')))) (f_p0_mate' (Int.toNat ((((4 : Int) * x1') + x2') + (1 : Int))))) (Int.toNat (f_p0_mate' (Int.toNat ((((4 : Int) * x1') + x2') + (1 : Int))))) (f_p0_mate' (Int.toNat (((4 : Int) * x1') + x2')))) (Int.toNat ((up (up f_p0_mate' (Int.toNat (f_p0_mate' (Int.toNat (((4 : Int) * x1') + x2')))) (f_p0_mate' (Int.toNat ((((4 : Int) * x1') + x2') + (1 : Int))))) (Int.toNat (f_p0_mate' (Int.toNat ((((4 : Int) * x1') + x2') + (1 : Int))))) (f_p0_mate' (Int.toNat (((4 : Int) * x1') + x2')))) (Int.toNat ((((4 : Int) * x1') + x2') + (2 : Int))))) ((up (up f_p0_mate' (Int.toNat (f_p0_mate' (Int.toNat (((4 : Int) * x1') + x2')))) (f_p0_mate' (Int.toNat ((((4 : Int) * x1') + x2') + (1 : Int))))) (Int.toNat (f_p0_mate' (Int.toNat ((((4 : Int) * x1') + x2') + (1 : Int))))) (f_p0_mate' (Int.toNat (((4 : Int) * x1') + x2')))) (Int.toNat (((4 : Int) * x1') + ((x2' + (3 : Int)) % 4))))) (Int.toNat ((up (up f_p0_mate' (Int.toNat (f_p0_mate' (Int.toNat (((4 : Int) * x1') + x2')))) (f_p0_mate' (Int.toNat ((((4 : Int) * x1') + x2') + (1 : Int))))) (Int.toNat (f_p0_mate' (Int.toNat ((((4 : Int) * x1') + x2') + (1 : Int))))) (f_p0_mate' (Int.toNat (((4 : Int) * x1') + x2')))) (Int.toNat (((4 : Int) * x1') + ((x2' + (3 : Int)) % 4))))) ((up (up f_p0_mate' (Int.toNat (f_p0_mate' (Int.toNat (((4 : Int) * x1') + x2')))) (f_p0_mate' (Int.toNat ((((4 : Int) * x1') + x2') + (1 : Int))))) (Int.toNat (f_p0_mate' (Int.toNat ((((4 : Int) * x1') + x2') + (1 : Int))))) (f_p0_mate' (Int.toNat (((4 : Int) * x1') + x2')))) (Int.toNat ((((4 : Int) * x1') + x2') + (2 : Int))))) f_p0_states')) else none) else none) else none) else none) else none) else none) else none) else none) else none) else none)
set_option maxHeartbeats 4000000 in
set_option maxRecDepth 100000 in
theorem hB_Ss_splitAs_0 {ks : (Int32 → Int32 → Int32 → Int32 → (Nat → Int32) → (Nat → Int32) → Option ((Nat → Int32) × (Nat → Int32)))} {ks' : (Int → Int → Int → Int → (Nat → Int) → (Nat → Int) → Option ((Nat → Int) × (Nat → Int)))} {i_p0_crossings : Int32} {i_p0_crossings' : Int} {x1 : Int32} {x1' : Int} {x2 : Int32} {x2' : Int} {x3 : Int32} {x3' : Int} {x4 : Int32} {x4' : Int} {f_p0_mate : (Nat → Int32)} {f_p0_mate' : (Nat → Int)} {f_p0_states : (Nat → Int32)} {f_p0_states' : (Nat → Int)} (fl : Nat) (k_ks : ∀ {z0 : Int32} {z0' : Int} {z1 : Int32} {z1' : Int} {z2 : Int32} {z2' : Int} {z3 : Int32} {z3' : Int} {z4 : (Nat → Int32)} {z4' : (Nat → Int)} {z5 : (Nat → Int32)} {z5' : (Nat → Int)} (e0 : z0' = (z0).toInt) (e1 : z1' = (z1).toInt) (e2 : z2' = (z2).toInt) (e3 : z3' = (z3).toInt) (e4 : z4' = (t32 z4)) (e5 : z5' = (t32 z5)), Ok (fun r => (t32 r.1, t32 r.2)) (ks z0 z1 z2 z3 z4 z5) (ks' z0' z1' z2' z3' z4' z5')) (e_i_p0_crossings : i_p0_crossings' = (i_p0_crossings).toInt) (e_x1 : x1' = (x1).toInt) (e_x2 : x2' = (x2).toInt) (e_x3 : x3' = (x3).toInt) (e_x4 : x4' = (x4).toInt) (e_f_p0_mate : f_p0_mate' = (t32 f_p0_mate)) (e_f_p0_states : f_p0_states' = (t32 f_p0_states)) : Ok (fun r => (t32 r.1, t32 r.2)) (B_Ss_splitAs_0 fl ks i_p0_crossings x1 x2 x3 x4 f_p0_mate f_p0_states) (LB_Ss_splitAs_0 fl ks' i_p0_crossings' x1' x2' x3' x4' f_p0_mate' f_p0_states') := by
  unfold B_Ss_splitAs_0 LB_Ss_splitAs_0
  refine lf_guard (fun gg => ?_)
  have g1 := gg
  refine lf_gd (fun h3 => ⟨(c_idx (n := 40) (n' := 40) rfl (q_add (q_mul k32_4 e_x1 g1) e_x2 (ri h3 (by decide)))).1 h3, ?_⟩)
  refine lf_gd (fun h5 => ⟨(c_idx (n := 40) (n' := 40) rfl (q_add (q_add (q_mul k32_4 e_x1 g1) e_x2 (ri h3 (by decide))) k32_1 (ri h5 (by decide)))).1 h5, ?_⟩)
  refine lf_gd (fun h6 => ⟨(c_idx (n := 40) (n' := 40) rfl (q_get e_f_p0_mate (q_clamp (q_add (q_mul k32_4 e_x1 g1) e_x2 (ri h3 (by decide)))))).1 h6, ?_⟩)
  refine lf_gd (fun h7 => ⟨(c_idx (n := 40) (n' := 40) rfl (q_get e_f_p0_mate (q_clamp (q_add (q_add (q_mul k32_4 e_x1 g1) e_x2 (ri h3 (by decide))) k32_1 (ri h5 (by decide)))))).1 h7, ?_⟩)
  refine lf_gd (fun h9 => ⟨(c_idx (n := 40) (n' := 40) rfl (q_add (q_add (q_mul k32_4 e_x1 g1) e_x2 (ri h3 (by decide))) k32_2 (ri h9 (by decide)))).1 h9, ?_⟩)
  refine lf_guard (fun gg => ?_)
  have g10 := gg
  refine lf_gd (fun h12 => ⟨(c_idx (n := 40) (n' := 40) rfl (q_add (q_mul k32_4 e_x1 g1) (q_mask (k := 2) (by decide) (by decide) (q_add e_x2 k32_3 g10)) (ri h12 (by decide)))).1 h12, ?_⟩)
  refine lf_gd (fun h13 => ⟨(c_idx (n := 40) (n' := 40) rfl (q_get (q_upd (q_upd e_f_p0_mate (q_clamp (q_get e_f_p0_mate (q_clamp (q_add (q_mul k32_4 e_x1 g1) e_x2 (ri h3 (by decide)))))) (q_get e_f_p0_mate (q_clamp (q_add (q_add (q_mul k32_4 e_x1 g1) e_x2 (ri h3 (by decide))) k32_1 (ri h5 (by decide)))))) (q_clamp (q_get e_f_p0_mate (q_clamp (q_add (q_add (q_mul k32_4 e_x1 g1) e_x2 (ri h3 (by decide))) k32_1 (ri h5 (by decide)))))) (q_get e_f_p0_mate (q_clamp (q_add (q_mul k32_4 e_x1 g1) e_x2 (ri h3 (by decide)))))) (q_clamp (q_add (q_add (q_mul k32_4 e_x1 g1) e_x2 (ri h3 (by decide))) k32_2 (ri h9 (by decide)))))).1 h13, ?_⟩)
  refine lf_gd (fun h14 => ⟨(c_idx (n := 40) (n' := 40) rfl (q_get (q_upd (q_upd e_f_p0_mate (q_clamp (q_get e_f_p0_mate (q_clamp (q_add (q_mul k32_4 e_x1 g1) e_x2 (ri h3 (by decide)))))) (q_get e_f_p0_mate (q_clamp (q_add (q_add (q_mul k32_4 e_x1 g1) e_x2 (ri h3 (by decide))) k32_1 (ri h5 (by decide)))))) (q_clamp (q_get e_f_p0_mate (q_clamp (q_add (q_add (q_mul k32_4 e_x1 g1) e_x2 (ri h3 (by decide))) k32_1 (ri h5 (by decide)))))) (q_get e_f_p0_mate (q_clamp (q_add (q_mul k32_4 e_x1 g1) e_x2 (ri h3 (by decide)))))) (q_clamp (q_add (q_mul k32_4 e_x1 g1) (q_mask (k := 2) (by decide) (by decide) (q_add e_x2 k32_3 g10)) (ri h12 (by decide)))))).1 h14, ?_⟩)
  refine lf_if (not_congr (c_eq (q_get e_f_p0_mate (q_clamp (q_add (q_mul k32_4 e_x1 g1) e_x2 (ri h3 (by decide))))) (q_add (q_add (q_mul k32_4 e_x1 g1) e_x2 (ri h3 (by decide))) k32_1 (ri h5 (by decide))))) ?_ ?_
  · exact (hB_Ss_splitAs_114 fl k_ks e_i_p0_crossings k32_0 e_x1 e_x2 e_x3 e_x4 (q_add (q_mul k32_4 e_x1 g1) e_x2 (ri h3 (by decide))) (q_add (q_add (q_mul k32_4 e_x1 g1) e_x2 (ri h3 (by decide))) k32_1 (ri h5 (by decide))) (q_add (q_add (q_mul k32_4 e_x1 g1) e_x2 (ri h3 (by decide))) k32_2 (ri h9 (by decide))) (q_add (q_mul k32_4 e_x1 g1) (q_mask (k := 2) (by decide) (by decide) (q_add e_x2 k32_3 g10)) (ri h12 (by decide))) (q_get e_f_p0_mate (q_clamp (q_add (q_mul k32_4 e_x1 g1) e_x2 (ri h3 (by decide))))) (q_get e_f_p0_mate (q_clamp (q_add (q_add (q_mul k32_4 e_x1 g1) e_x2 (ri h3 (by decide))) k32_1 (ri h5 (by decide))))) (q_get (q_upd (q_upd e_f_p0_mate (q_clamp (q_get e_f_p0_mate (q_clamp (q_add (q_mul k32_4 e_x1 g1) e_x2 (ri h3 (by decide)))))) (q_get e_f_p0_mate (q_clamp (q_add (q_add (q_mul k32_4 e_x1 g1) e_x2 (ri h3 (by decide))) k32_1 (ri h5 (by decide)))))) (q_clamp (q_get e_f_p0_mate (q_clamp (q_add (q_add (q_mul k32_4 e_x1 g1) e_x2 (ri h3 (by decide))) k32_1 (ri h5 (by decide)))))) (q_get e_f_p0_mate (q_clamp (q_add (q_mul k32_4 e_x1 g1) e_x2 (ri h3 (by decide)))))) (q_clamp (q_add (q_add (q_mul k32_4 e_x1 g1) e_x2 (ri h3 (by decide))) k32_2 (ri h9 (by decide))))) (q_get (q_upd (q_upd e_f_p0_mate (q_clamp (q_get e_f_p0_mate (q_clamp (q_add (q_mul k32_4 e_x1 g1) e_x2 (ri h3 (by decide)))))) (q_get e_f_p0_mate (q_clamp (q_add (q_add (q_mul k32_4 e_x1 g1) e_x2 (ri h3 (by decide))) k32_1 (ri h5 (by decide)))))) (q_clamp (q_get e_f_p0_mate (q_clamp (q_add (q_add (q_mul k32_4 e_x1 g1) e_x2 (ri h3 (by decide))) k32_1 (ri h5 (by decide)))))) (q_get e_f_p0_mate (q_clamp (q_add (q_mul k32_4 e_x1 g1) e_x2 (ri h3 (by decide)))))) (q_clamp (q_add (q_mul k32_4 e_x1 g1) (q_mask (k := 2) (by decide) (by decide) (q_add e_x2 k32_3 g10)) (ri h12 (by decide))))) (q_upd (q_upd (q_upd (q_upd e_f_p0_mate (q_clamp (q_get e_f_p0_mate (q_clamp (q_add (q_mul k32_4 e_x1 g1) e_x2 (ri h3 (by decide)))))) (q_get e_f_p0_mate (q_clamp (q_add (q_add (q_mul k32_4 e_x1 g1) e_x2 (ri h3 (by decide))) k32_1 (ri h5 (by decide)))))) (q_clamp (q_get e_f_p0_mate (q_clamp (q_add (q_add (q_mul k32_4 e_x1 g1) e_x2 (ri h3 (by decide))) k32_1 (ri h5 (by decide)))))) (q_get e_f_p0_mate (q_clamp (q_add (q_mul k32_4 e_x1 g1) e_x2 (ri h3 (by decide)))))) (q_clamp (q_get (q_upd (q_upd e_f_p0_mate (q_clamp (q_get e_f_p0_mate (q_clamp (q_add (q_mul k32_4 e_x1 g1) e_x2 (ri h3 (by decide)))))) (q_get e_f_p0_mate (q_clamp (q_add (q_add (q_mul k32_4 e_x1 g1) e_x2 (ri h3 (by decide))) k32_1 (ri h5 (by decide)))))) (q_clamp (q_get e_f_p0_mate (q_clamp (q_add (q_add (q_mul k32_4 e_x1 g1) e_x2 (ri h3 (by decide))) k32_1 (ri h5 (by decide)))))) (q_get e_f_p0_mate (q_clamp (q_add (q_mul k32_4 e_x1 g1) e_x2 (ri h3 (by decide)))))) (q_clamp (q_add (q_add (q_mul k32_4 e_x1 g1) e_x2 (ri h3 (by decide))) k32_2 (ri h9 (by decide)))))) (q_get (q_upd (q_upd e_f_p0_mate (q_clamp (q_get e_f_p0_mate (q_clamp (q_add (q_mul k32_4 e_x1 g1) e_x2 (ri h3 (by decide)))))) (q_get e_f_p0_mate (q_clamp (q_add (q_add (q_mul k32_4 e_x1 g1) e_x2 (ri h3 (by decide))) k32_1 (ri h5 (by decide)))))) (q_clamp (q_get e_f_p0_mate (q_clamp (q_add (q_add (q_mul k32_4 e_x1 g1) e_x2 (ri h3 (by decide))) k32_1 (ri h5 (by decide)))))) (q_get e_f_p0_mate (q_clamp (q_add (q_mul k32_4 e_x1 g1) e_x2 (ri h3 (by decide)))))) (q_clamp (q_add (q_mul k32_4 e_x1 g1) (q_mask (k := 2) (by decide) (by decide) (q_add e_x2 k32_3 g10)) (ri h12 (by decide)))))) (q_clamp (q_get (q_upd (q_upd e_f_p0_mate (q_clamp (q_get e_f_p0_mate (q_clamp (q_add (q_mul k32_4 e_x1 g1) e_x2 (ri h3 (by decide)))))) (q_get e_f_p0_mate (q_clamp (q_add (q_add (q_mul k32_4 e_x1 g1) e_x2 (ri h3 (by decide))) k32_1 (ri h5 (by decide)))))) (q_clamp (q_get e_f_p0_mate (q_clamp (q_add (q_add (q_mul k32_4 e_x1 g1) e_x2 (ri h3 (by decide))) k32_1 (ri h5 (by decide)))))) (q_get e_f_p0_mate (q_clamp (q_add (q_mul k32_4 e_x1 g1) e_x2 (ri h3 (by decide)))))) (q_clamp (q_add (q_mul k32_4 e_x1 g1) (q_mask (k := 2) (by decide) (by decide) (q_add e_x2 k32_3 g10)) (ri h12 (by decide)))))) (q_get (q_upd (q_upd e_f_p0_mate (q_clamp (q_get e_f_p0_mate (q_clamp (q_add (q_mul k32_4 e_x1 g1) e_x2 (ri h3 (by decide)))))) (q_get e_f_p0_mate (q_clamp (q_add (q_add (q_mul k32_4 e_x1 g1) e_x2 (ri h3 (by decide))) k32_1 (ri h5 (by decide)))))) (q_clamp (q_get e_f_p0_mate (q_clamp (q_add (q_add (q_mul k32_4 e_x1 g1) e_x2 (ri h3 (by decide))) k32_1 (ri h5 (by decide)))))) (q_get e_f_p0_mate (q_clamp (q_add (q_mul k32_4 e_x1 g1) e_x2 (ri h3 (by decide)))))) (q_clamp (q_add (q_add (q_mul k32_4 e_x1 g1) e_x2 (ri h3 (by decide))) k32_2 (ri h9 (by decide)))))) e_f_p0_states)
  · exact (hB_Ss_splitAs_114 fl k_ks e_i_p0_crossings k32_1 e_x1 e_x2 e_x3 e_x4 (q_add (q_mul k32_4 e_x1 g1) e_x2 (ri h3 (by decide))) (q_add (q_add (q_mul k32_4 e_x1 g1) e_x2 (ri h3 (by decide))) k32_1 (ri h5 (by decide))) (q_add (q_add (q_mul k32_4 e_x1 g1) e_x2 (ri h3 (by decide))) k32_2 (ri h9 (by decide))) (q_add (q_mul k32_4 e_x1 g1) (q_mask (k := 2) (by decide) (by decide) (q_add e_x2 k32_3 g10)) (ri h12 (by decide))) (q_get e_f_p0_mate (q_clamp (q_add (q_mul k32_4 e_x1 g1) e_x2 (ri h3 (by decide))))) (q_get e_f_p0_mate (q_clamp (q_add (q_add (q_mul k32_4 e_x1 g1) e_x2 (ri h3 (by decide))) k32_1 (ri h5 (by decide))))) (q_get (q_upd (q_upd e_f_p0_mate (q_clamp (q_get e_f_p0_mate (q_clamp (q_add (q_mul k32_4 e_x1 g1) e_x2 (ri h3 (by decide)))))) (q_get e_f_p0_mate (q_clamp (q_add (q_add (q_mul k32_4 e_x1 g1) e_x2 (ri h3 (by decide))) k32_1 (ri h5 (by decide)))))) (q_clamp (q_get e_f_p0_mate (q_clamp (q_add (q_add (q_mul k32_4 e_x1 g1) e_x2 (ri h3 (by decide))) k32_1 (ri h5 (by decide)))))) (q_get e_f_p0_mate (q_clamp (q_add (q_mul k32_4 e_x1 g1) e_x2 (ri h3 (by decide)))))) (q_clamp (q_add (q_add (q_mul k32_4 e_x1 g1) e_x2 (ri h3 (by decide))) k32_2 (ri h9 (by decide))))) (q_get (q_upd (q_upd e_f_p0_mate (q_clamp (q_get e_f_p0_mate (q_clamp (q_add (q_mul k32_4 e_x1 g1) e_x2 (ri h3 (by decide)))))) (q_get e_f_p0_mate (q_clamp (q_add (q_add (q_mul k32_4 e_x1 g1) e_x2 (ri h3 (by decide))) k32_1 (ri h5 (by decide)))))) (q_clamp (q_get e_f_p0_mate (q_clamp (q_add (q_add (q_mul k32_4 e_x1 g1) e_x2 (ri h3 (by decide))) k32_1 (ri h5 (by decide)))))) (q_get e_f_p0_mate (q_clamp (q_add (q_mul k32_4 e_x1 g1) e_x2 (ri h3 (by decide)))))) (q_clamp (q_add (q_mul k32_4 e_x1 g1) (q_mask (k := 2) (by decide) (by decide) (q_add e_x2 k32_3 g10)) (ri h12 (by decide))))) (q_upd (q_upd (q_upd (q_upd e_f_p0_mate (q_clamp (q_get e_f_p0_mate (q_clamp (q_add (q_mul k32_4 e_x1 g1) e_x2 (ri h3 (by decide)))))) (q_get e_f_p0_mate (q_clamp (q_add (q_add (q_mul k32_4 e_x1 g1) e_x2 (ri h3 (by decide))) k32_1 (ri h5 (by decide)))))) (q_clamp (q_get e_f_p0_mate (q_clamp (q_add (q_add (q_mul k32_4 e_x1 g1) e_x2 (ri h3 (by decide))) k32_1 (ri h5 (by decide)))))) (q_get e_f_p0_mate (q_clamp (q_add (q_mul k32_4 e_x1 g1) e_x2 (ri h3 (by decide)))))) (q_clamp (q_get (q_upd (q_upd e_f_p0_mate (q_clamp (q_get e_f_p0_mate (q_clamp (q_add (q_mul k32_4 e_x1 g1) e_x2 (ri h3 (by decide)))))) (q_get e_f_p0_mate (q_clamp (q_add (q_add (q_mul k32_4 e_x1 g1) e_x2 (ri h3 (by decide))) k32_1 (ri h5 (by decide)))))) (q_clamp (q_get e_f_p0_mate (q_clamp (q_add (q_add (q_mul k32_4 e_x1 g1) e_x2 (ri h3 (by decide))) k32_1 (ri h5 (by decide)))))) (q_get e_f_p0_mate (q_clamp (q_add (q_mul k32_4 e_x1 g1) e_x2 (ri h3 (by decide)))))) (q_clamp (q_add (q_add (q_mul k32_4 e_x1 g1) e_x2 (ri h3 (by decide))) k32_2 (ri h9 (by decide)))))) (q_get (q_upd (q_upd e_f_p0_mate (q_clamp (q_get e_f_p0_mate (q_clamp (q_add (q_mul k32_4 e_x1 g1) e_x2 (ri h3 (by decide)))))) (q_get e_f_p0_mate (q_clamp (q_add (q_add (q_mul k32_4 e_x1 g1) e_x2 (ri h3 (by decide))) k32_1 (ri h5 (by decide)))))) (q_clamp (q_get e_f_p0_mate (q_clamp (q_add (q_add (q_mul k32_4 e_x1 g1) e_x2 (ri h3 (by decide))) k32_1 (ri h5 (by decide)))))) (q_get e_f_p0_mate (q_clamp (q_add (q_mul k32_4 e_x1 g1) e_x2 (ri h3 (by decide)))))) (q_clamp (q_add (q_mul k32_4 e_x1 g1) (q_mask (k := 2) (by decide) (by decide) (q_add e_x2 k32_3 g10)) (ri h12 (by decide)))))) (q_clamp (q_get (q_upd (q_upd e_f_p0_mate (q_clamp (q_get e_f_p0_mate (q_clamp (q_add (q_mul k32_4 e_x1 g1) e_x2 (ri h3 (by decide)))))) (q_get e_f_p0_mate (q_clamp (q_add (q_add (q_mul k32_4 e_x1 g1) e_x2 (ri h3 (by decide))) k32_1 (ri h5 (by decide)))))) (q_clamp (q_get e_f_p0_mate (q_clamp (q_add (q_add (q_mul k32_4 e_x1 g1) e_x2 (ri h3 (by decide))) k32_1 (ri h5 (by decide)))))) (q_get e_f_p0_mate (q_clamp (q_add (q_mul k32_4 e_x1 g1) e_x2 (ri h3 (by decide)))))) (q_clamp (q_add (q_mul k32_4 e_x1 g1) (q_mask (k := 2) (by decide) (by decide) (q_add e_x2 k32_3 g10)) (ri h12 (by decide)))))) (q_get (q_upd (q_upd e_f_p0_mate (q_clamp (q_get e_f_p0_mate (q_clamp (q_add (q_mul k32_4 e_x1 g1) e_x2 (ri h3 (by decide)))))) (q_get e_f_p0_mate (q_clamp (q_add (q_add (q_mul k32_4 e_x1 g1) e_x2 (ri h3 (by decide))) k32_1 (ri h5 (by decide)))))) (q_clamp (q_get e_f_p0_mate (q_clamp (q_add (q_add (q_mul k32_4 e_x1 g1) e_x2 (ri h3 (by decide))) k32_1 (ri h5 (by decide)))))) (q_get e_f_p0_mate (q_clamp (q_add (q_mul k32_4 e_x1 g1) e_x2 (ri h3 (by decide)))))) (q_clamp (q_add (q_add (q_mul k32_4 e_x1 g1) e_x2 (ri h3 (by decide))) k32_2 (ri h9 (by decide)))))) e_f_p0_states)
def LM_Ss_splitAs (fl : Nat) (ks' : (Int → Int → Int → Int → (Nat → Int) → (Nat → Int) → Option ((Nat → Int) × (Nat → Int)))) (i_p0_crossings' : Int) (x1' : Int) (x2' : Int) (x3' : Int) (x4' : Int) (f_p0_mate' : (Nat → Int)) (f_p0_states' : (Nat → Int)) : Option ((Nat → Int) × (Nat → Int)) := (LB_Ss_splitAs_0 fl ks' i_p0_crossings' x1' x2' x3' x4' f_p0_mate' f_p0_states')
theorem hm_Ss_splitAs {ks : (Int32 → Int32 → Int32 → Int32 → (Nat → Int32) → (Nat → Int32) → Option ((Nat → Int32) × (Nat → Int32)))} {ks' : (Int → Int → Int → Int → (Nat → Int) → (Nat → Int) → Option ((Nat → Int) × (Nat → Int)))} {i_p0_crossings : Int32} {i_p0_crossings' : Int} {x1 : Int32} {x1' : Int} {x2 : Int32} {x2' : Int} {x3 : Int32} {x3' : Int} {x4 : Int32} {x4' : Int} {f_p0_mate : (Nat → Int32)} {f_p0_mate' : (Nat → Int)} {f_p0_states : (Nat → Int32)} {f_p0_states' : (Nat → Int)} (fl : Nat) (k_ks : ∀ {z0 : Int32} {z0' : Int} {z1 : Int32} {z1' : Int} {z2 : Int32} {z2' : Int} {z3 : Int32} {z3' : Int} {z4 : (Nat → Int32)} {z4' : (Nat → Int)} {z5 : (Nat → Int32)} {z5' : (Nat → Int)} (e0 : z0' = (z0).toInt) (e1 : z1' = (z1).toInt) (e2 : z2' = (z2).toInt) (e3 : z3' = (z3).toInt) (e4 : z4' = (t32 z4)) (e5 : z5' = (t32 z5)), Ok (fun r => (t32 r.1, t32 r.2)) (ks z0 z1 z2 z3 z4 z5) (ks' z0' z1' z2' z3' z4' z5')) (e_i_p0_crossings : i_p0_crossings' = (i_p0_crossings).toInt) (e_x1 : x1' = (x1).toInt) (e_x2 : x2' = (x2).toInt) (e_x3 : x3' = (x3).toInt) (e_x4 : x4' = (x4).toInt) (e_f_p0_mate : f_p0_mate' = (t32 f_p0_mate)) (e_f_p0_states : f_p0_states' = (t32 f_p0_states)) : Ok (fun r => (t32 r.1, t32 r.2)) (m_Ss_splitAs fl ks i_p0_crossings x1 x2 x3 x4 f_p0_mate f_p0_states) (LM_Ss_splitAs fl ks' i_p0_crossings' x1' x2' x3' x4' f_p0_mate' f_p0_states') := by
  unfold m_Ss_splitAs LM_Ss_splitAs
  exact (hB_Ss_splitAs_0 fl k_ks e_i_p0_crossings e_x1 e_x2 e_x3 e_x4 e_f_p0_mate e_f_p0_states)
def LB_Ss_mostCircles_27 (fl : Nat) (f_p0_states' : (Nat → Int)) (kb_4' : (Int → Int → Option (Int))) (x1' : Int) (x2' : Int) : Option (Int) := (if (-2147483648 ≤ (x2' + (1 : Int)) ∧ (x2' + (1 : Int)) < 2147483648) then (kb_4' x1' (x2' + (1 : Int))) else none)
theorem hB_Ss_mostCircles_27 {f_p0_states : (Nat → Int32)} {f_p0_states' : (Nat → Int)} {kb_4 : (Int32 → Int32 → Option (Int32))} {kb_4' : (Int → Int → Option (Int))} {x1 : Int32} {x1' : Int} {x2 : Int32} {x2' : Int} (fl : Nat) (e_f_p0_states : f_p0_states' = (t32 f_p0_states)) (k_kb_4 : ∀ {z0 : Int32} {z0' : Int} {z1 : Int32} {z1' : Int} (e0 : z0' = (z0).toInt) (e1 : z1' = (z1).toInt), Ok Int32.toInt (kb_4 z0 z1) (kb_4' z0' z1')) (e_x1 : x1' = (x1).toInt) (e_x2 : x2' = (x2).toInt) : Ok Int32.toInt (B_Ss_mostCircles_27 fl f_p0_states kb_4 x1 x2) (LB_Ss_mostCircles_27 fl f_p0_states' kb_4' x1' x2') := by
  unfold B_Ss_mostCircles_27 LB_Ss_mostCircles_27
  refine lf_guard (fun gg => ?_)
  have g1 := gg
  exact (k_kb_4 e_x1 (q_add e_x2 k32_1 g1))
def LB_Ss_mostCircles_4 (fl : Nat) (f_p0_states' : (Nat → Int)) : Nat → Int → Int → Option (Int)
  | 0, _, _ => none
  | nn + 1, x1', x2' => (if (630 : Int) ≤ x2' then (some (x1')) else (if (0 ≤ x2' ∧ x2' < 630) then (if (f_p0_states' (Int.toNat x2')) = (0 : Int) then (LB_Ss_mostCircles_27 fl f_p0_states' (LB_Ss_mostCircles_4 fl f_p0_states' nn) x1' x2') else (if ¬ ((21 : Int) = (0 : Int)) then (if (-2147483648 ≤ (Int.tdiv x2' (21 : Int)) ∧ (Int.tdiv x2' (21 : Int)) < 2147483648) then (LB_Ss_mostCircles_27 fl f_p0_states' (LB_Ss_mostCircles_4 fl f_p0_states' nn) (Int.tdiv x2' (21 : Int)) x2') else none) else none)) else none))
theorem hB_Ss_mostCircles_4 {f_p0_states : (Nat → Int32)} {f_p0_states' : (Nat → Int)} (fl : Nat) (e_f_p0_states : f_p0_states' = (t32 f_p0_states)) : ∀ (nn : Nat) {x1 : Int32} {x1' : Int} {x2 : Int32} {x2' : Int} (e_x1 : x1' = (x1).toInt) (e_x2 : x2' = (x2).toInt), Ok Int32.toInt (B_Ss_mostCircles_4 fl f_p0_states nn x1 x2) (LB_Ss_mostCircles_4 fl f_p0_states' nn x1' x2') := by
  intro nn
  induction nn with
  | zero => intro x1 x1' x2 x2' e_x1 e_x2; exact lf_none
  | succ nn ih =>
    intro x1 x1' x2 x2' e_x1 e_x2
    rw [B_Ss_mostCircles_4, LB_Ss_mostCircles_4]
    refine lf_if (c_le k32_630 e_x2) ?_ ?_
    · exact lf_some e_x1
    · refine lf_gd (fun h1 => ⟨(c_idx (n := 630) (n' := 630) rfl e_x2).1 h1, ?_⟩)
      refine lf_if (c_eq (q_get e_f_p0_states (q_clamp e_x2)) k32_0) ?_ ?_
      · exact (hB_Ss_mostCircles_27 fl e_f_p0_states ih e_x1 e_x2)
      · refine lf_gd (fun h2 => ⟨(not_congr (c_eq k32_21 k32_0)).1 h2, ?_⟩)
        refine lf_guard (fun gg => ?_)
        have g3 := gg
        exact (hB_Ss_mostCircles_27 fl e_f_p0_states ih (q_div e_x2 k32_21 g3) e_x2)
def LB_Ss_mostCircles_0 (fl : Nat) (f_p0_states' : (Nat → Int)) : Option (Int) := (LB_Ss_mostCircles_4 fl f_p0_states' fl (0 : Int) (0 : Int))
theorem hB_Ss_mostCircles_0 {f_p0_states : (Nat → Int32)} {f_p0_states' : (Nat → Int)} (fl : Nat) (e_f_p0_states : f_p0_states' = (t32 f_p0_states)) : Ok Int32.toInt (B_Ss_mostCircles_0 fl f_p0_states) (LB_Ss_mostCircles_0 fl f_p0_states') := by
  unfold B_Ss_mostCircles_0 LB_Ss_mostCircles_0
  exact (hB_Ss_mostCircles_4 fl e_f_p0_states fl k32_0 k32_0)
def LM_Ss_mostCircles (fl : Nat) (f_p0_states' : (Nat → Int)) : Option (Int) := (LB_Ss_mostCircles_0 fl f_p0_states')
theorem hm_Ss_mostCircles {f_p0_states : (Nat → Int32)} {f_p0_states' : (Nat → Int)} (fl : Nat) (e_f_p0_states : f_p0_states' = (t32 f_p0_states)) : Ok Int32.toInt (m_Ss_mostCircles fl f_p0_states) (LM_Ss_mostCircles fl f_p0_states') := by
  unfold m_Ss_mostCircles LM_Ss_mostCircles
  exact (hB_Ss_mostCircles_0 fl e_f_p0_states)
def LB_Po_timesCircle_8 (fl : Nat) : Nat → Int → Int → Int → (Nat → Int) → Option ((Nat → Int))
  | 0, _, _, _, _ => none
  | nn + 1, x1', x2', x4', f_p0_term' => (if (-2147483648 ≤ (x1' + (2 : Int)) ∧ (x1' + (2 : Int)) < 2147483648) then (if (x1' + (2 : Int)) < x4' then (some (f_p0_term')) else (if (-2147483648 ≤ (x1' + (4 : Int)) ∧ (x1' + (4 : Int)) < 2147483648) then (if (80 : Int) < (x1' + (4 : Int)) then (some (f_p0_term')) else (if (0 ≤ (x4' + (80 : Int)) ∧ (x4' + (80 : Int)) < 161) then (if (-2147483648 ≤ (x4' + (2 : Int)) ∧ (x4' + (2 : Int)) < 2147483648) then (if (0 ≤ ((x4' + (2 : Int)) + (80 : Int)) ∧ ((x4' + (2 : Int)) + (80 : Int)) < 161) then (if (-9223372036854775808 ≤ (-x2') ∧ (-x2') < 9223372036854775808) ∧ (-9223372036854775808 ≤ ((-x2') - (f_p0_term' (Int.toNat ((x4' + (2 : Int)) + (80 : Int))))) ∧ ((-x2') - (f_p0_term' (Int.toNat ((x4' + (2 : Int)) + (80 : Int))))) < 9223372036854775808) then (LB_Po_timesCircle_8 fl nn x1' (f_p0_term' (Int.toNat (x4' + (80 : Int)))) (x4' + (2 : Int)) (up f_p0_term' (Int.toNat (x4' + (80 : Int))) ((-x2') - (f_p0_term' (Int.toNat ((x4' + (2 : Int)) + (80 : Int))))))) else none) else none) else none) else none)) else none)) else none)
theorem hB_Po_timesCircle_8  (fl : Nat) : ∀ (nn : Nat) {x1 : Int32} {x1' : Int} {x2 : Int64} {x2' : Int} {x4 : Int32} {x4' : Int} {f_p0_term : (Nat → Int64)} {f_p0_term' : (Nat → Int)} (e_x1 : x1' = (x1).toInt) (e_x2 : x2' = (x2).toInt) (e_x4 : x4' = (x4).toInt) (e_f_p0_term : f_p0_term' = (t64 f_p0_term)), Ok t64 (B_Po_timesCircle_8 fl nn x1 x2 x4 f_p0_term) (LB_Po_timesCircle_8 fl nn x1' x2' x4' f_p0_term') := by
  intro nn
  induction nn with
  | zero => intro x1 x1' x2 x2' x4 x4' f_p0_term f_p0_term' e_x1 e_x2 e_x4 e_f_p0_term; exact lf_none
  | succ nn ih =>
    intro x1 x1' x2 x2' x4 x4' f_p0_term f_p0_term' e_x1 e_x2 e_x4 e_f_p0_term
    rw [B_Po_timesCircle_8, LB_Po_timesCircle_8]
    refine lf_guard (fun gg => ?_)
    have g1 := gg
    refine lf_if (c_lt (q_add e_x1 k32_2 g1) e_x4) ?_ ?_
    · exact lf_some e_f_p0_term
    · refine lf_guard (fun gg => ?_)
      have g2 := gg
      refine lf_if (c_lt k32_80 (q_add e_x1 k32_4 g2)) ?_ ?_
      · exact lf_some e_f_p0_term
      · refine lf_gd (fun h4 => ⟨(c_idx (n := 161) (n' := 161) rfl (q_add e_x4 k32_80 (ri h4 (by decide)))).1 h4, ?_⟩)
        refine lf_guard (fun gg => ?_)
        have g5 := gg
        refine lf_gd (fun h7 => ⟨(c_idx (n := 161) (n' := 161) rfl (q_add (q_add e_x4 k32_2 g5) k32_80 (ri h7 (by decide)))).1 h7, ?_⟩)
        refine lf_pos ((c_idx (n := 161) (n' := 161) rfl (q_add e_x4 k32_80 (ri h4 (by decide)))).1 h4) ?_
        refine lf_guard (fun gg => ?_)
        obtain ⟨g8, g9⟩ := gg
        exact (ih e_x1 (p_get e_f_p0_term (q_clamp (q_add e_x4 k32_80 (ri h4 (by decide))))) (q_add e_x4 k32_2 g5) (p_upd e_f_p0_term (q_clamp (q_add e_x4 k32_80 (ri h4 (by decide)))) (p_sub (p_neg e_x2 g8) (p_get e_f_p0_term (q_clamp (q_add (q_add e_x4 k32_2 g5) k32_80 (ri h7 (by decide))))) g9)))
def LB_Po_timesCircle_0 (fl : Nat) (x1' : Int) (f_p0_term' : (Nat → Int)) : Option ((Nat → Int)) := (if (-2147483648 ≤ (-x1') ∧ (-x1') < 2147483648) ∧ (-2147483648 ≤ ((-x1') - (2 : Int)) ∧ ((-x1') - (2 : Int)) < 2147483648) then (LB_Po_timesCircle_8 fl fl x1' (0 : Int) ((-x1') - (2 : Int)) f_p0_term') else none)
theorem hB_Po_timesCircle_0 {x1 : Int32} {x1' : Int} {f_p0_term : (Nat → Int64)} {f_p0_term' : (Nat → Int)} (fl : Nat) (e_x1 : x1' = (x1).toInt) (e_f_p0_term : f_p0_term' = (t64 f_p0_term)) : Ok t64 (B_Po_timesCircle_0 fl x1 f_p0_term) (LB_Po_timesCircle_0 fl x1' f_p0_term') := by
  unfold B_Po_timesCircle_0 LB_Po_timesCircle_0
  refine lf_guard (fun gg => ?_)
  obtain ⟨g1, g2⟩ := gg
  exact (hB_Po_timesCircle_8 fl fl e_x1 k64_0 (q_sub (q_neg e_x1 g1) k32_2 g2) e_f_p0_term)
def LM_Po_timesCircle (fl : Nat) (x1' : Int) (f_p0_term' : (Nat → Int)) : Option ((Nat → Int)) := (LB_Po_timesCircle_0 fl x1' f_p0_term')
theorem hm_Po_timesCircle {x1 : Int32} {x1' : Int} {f_p0_term : (Nat → Int64)} {f_p0_term' : (Nat → Int)} (fl : Nat) (e_x1 : x1' = (x1).toInt) (e_f_p0_term : f_p0_term' = (t64 f_p0_term)) : Ok t64 (m_Po_timesCircle fl x1 f_p0_term) (LM_Po_timesCircle fl x1' f_p0_term') := by
  unfold m_Po_timesCircle LM_Po_timesCircle
  exact (hB_Po_timesCircle_0 fl e_x1 e_f_p0_term)
def LB_Po_timesFrame_0 (fl : Nat) (x1' : Int) (i_p0_raise' : Int) (i_p0_sign' : Int) : Option (Int × Int) := (if ¬ ((x1' % 2) = (1 : Int)) then (if (-2147483648 ≤ ((3 : Int) * x1') ∧ ((3 : Int) * x1') < 2147483648) ∧ (-2147483648 ≤ (i_p0_raise' + ((3 : Int) * x1')) ∧ (i_p0_raise' + ((3 : Int) * x1')) < 2147483648) then (some ((i_p0_raise' + ((3 : Int) * x1')), i_p0_sign')) else none) else (if (-2147483648 ≤ ((3 : Int) * x1') ∧ ((3 : Int) * x1') < 2147483648) ∧ (-2147483648 ≤ (i_p0_raise' + ((3 : Int) * x1')) ∧ (i_p0_raise' + ((3 : Int) * x1')) < 2147483648) ∧ (-2147483648 ≤ (-i_p0_sign') ∧ (-i_p0_sign') < 2147483648) then (some ((i_p0_raise' + ((3 : Int) * x1')), (-i_p0_sign'))) else none))
theorem hB_Po_timesFrame_0 {x1 : Int32} {x1' : Int} {i_p0_raise : Int32} {i_p0_raise' : Int} {i_p0_sign : Int32} {i_p0_sign' : Int} (fl : Nat) (e_x1 : x1' = (x1).toInt) (e_i_p0_raise : i_p0_raise' = (i_p0_raise).toInt) (e_i_p0_sign : i_p0_sign' = (i_p0_sign).toInt) : Ok (fun r => (r.1.toInt, r.2.toInt)) (B_Po_timesFrame_0 fl x1 i_p0_raise i_p0_sign) (LB_Po_timesFrame_0 fl x1' i_p0_raise' i_p0_sign') := by
  unfold B_Po_timesFrame_0 LB_Po_timesFrame_0
  refine lf_if (not_congr (c_eq (q_mask (k := 1) (by decide) (by decide) e_x1) k32_1)) ?_ ?_
  · refine lf_guard (fun gg => ?_)
    obtain ⟨g1, g2⟩ := gg
    exact lf_some (tup2 (q_add e_i_p0_raise (q_mul k32_3 e_x1 g1) g2) e_i_p0_sign)
  · refine lf_guard (fun gg => ?_)
    obtain ⟨g3, g4, g5⟩ := gg
    exact lf_some (tup2 (q_add e_i_p0_raise (q_mul k32_3 e_x1 g3) g4) (q_neg e_i_p0_sign g5))
def LM_Po_timesFrame (fl : Nat) (x1' : Int) (i_p0_raise' : Int) (i_p0_sign' : Int) : Option (Int × Int) := (LB_Po_timesFrame_0 fl x1' i_p0_raise' i_p0_sign')
theorem hm_Po_timesFrame {x1 : Int32} {x1' : Int} {i_p0_raise : Int32} {i_p0_raise' : Int} {i_p0_sign : Int32} {i_p0_sign' : Int} (fl : Nat) (e_x1 : x1' = (x1).toInt) (e_i_p0_raise : i_p0_raise' = (i_p0_raise).toInt) (e_i_p0_sign : i_p0_sign' = (i_p0_sign).toInt) : Ok (fun r => (r.1.toInt, r.2.toInt)) (m_Po_timesFrame fl x1 i_p0_raise i_p0_sign) (LM_Po_timesFrame fl x1' i_p0_raise' i_p0_sign') := by
  unfold m_Po_timesFrame LM_Po_timesFrame
  exact (hB_Po_timesFrame_0 fl e_x1 e_i_p0_raise e_i_p0_sign)
def LB_Po_lowest_0 (fl : Nat) (i_p0_raise' : Int) : Option (Int) := (if (-2147483648 ≤ (i_p0_raise' - (80 : Int)) ∧ (i_p0_raise' - (80 : Int)) < 2147483648) then (some ((i_p0_raise' - (80 : Int)))) else none)
theorem hB_Po_lowest_0 {i_p0_raise : Int32} {i_p0_raise' : Int} (fl : Nat) (e_i_p0_raise : i_p0_raise' = (i_p0_raise).toInt) : Ok Int32.toInt (B_Po_lowest_0 fl i_p0_raise) (LB_Po_lowest_0 fl i_p0_raise') := by
  unfold B_Po_lowest_0 LB_Po_lowest_0
  refine lf_guard (fun gg => ?_)
  have g1 := gg
  exact lf_some (q_sub e_i_p0_raise k32_80 g1)
def LM_Po_lowest (fl : Nat) (i_p0_raise' : Int) : Option (Int) := (LB_Po_lowest_0 fl i_p0_raise')
theorem hm_Po_lowest {i_p0_raise : Int32} {i_p0_raise' : Int} (fl : Nat) (e_i_p0_raise : i_p0_raise' = (i_p0_raise).toInt) : Ok Int32.toInt (m_Po_lowest fl i_p0_raise) (LM_Po_lowest fl i_p0_raise') := by
  unfold m_Po_lowest LM_Po_lowest
  exact (hB_Po_lowest_0 fl e_i_p0_raise)
def LB_Po_highest_0 (fl : Nat) (i_p0_raise' : Int) : Option (Int) := (if (-2147483648 ≤ (i_p0_raise' + (80 : Int)) ∧ (i_p0_raise' + (80 : Int)) < 2147483648) then (some ((i_p0_raise' + (80 : Int)))) else none)
theorem hB_Po_highest_0 {i_p0_raise : Int32} {i_p0_raise' : Int} (fl : Nat) (e_i_p0_raise : i_p0_raise' = (i_p0_raise).toInt) : Ok Int32.toInt (B_Po_highest_0 fl i_p0_raise) (LB_Po_highest_0 fl i_p0_raise') := by
  unfold B_Po_highest_0 LB_Po_highest_0
  refine lf_guard (fun gg => ?_)
  have g1 := gg
  exact lf_some (q_add e_i_p0_raise k32_80 g1)
def LM_Po_highest (fl : Nat) (i_p0_raise' : Int) : Option (Int) := (LB_Po_highest_0 fl i_p0_raise')
theorem hm_Po_highest {i_p0_raise : Int32} {i_p0_raise' : Int} (fl : Nat) (e_i_p0_raise : i_p0_raise' = (i_p0_raise).toInt) : Ok Int32.toInt (m_Po_highest fl i_p0_raise) (LM_Po_highest fl i_p0_raise') := by
  unfold m_Po_highest LM_Po_highest
  exact (hB_Po_highest_0 fl e_i_p0_raise)
def LB_Po_coefficient_0 (fl : Nat) (i_p0_raise' : Int) (i_p0_sign' : Int) (f_p0_term' : (Nat → Int)) (x1' : Int) : Option (Int) := ((LM_Po_lowest fl i_p0_raise').bind fun o0 => (if x1' < o0 then (some ((0 : Int))) else ((LM_Po_highest fl i_p0_raise').bind fun o1 => (if x1' ≤ o1 then (if (-2147483648 ≤ (x1' - i_p0_raise') ∧ (x1' - i_p0_raise') < 2147483648) then (if (0 ≤ ((x1' - i_p0_raise') + (80 : Int)) ∧ ((x1' - i_p0_raise') + (80 : Int)) < 161) then (if (-9223372036854775808 ≤ (i_p0_sign' * (f_p0_term' (Int.toNat ((x1' - i_p0_raise') + (80 : Int))))) ∧ (i_p0_sign' * (f_p0_term' (Int.toNat ((x1' - i_p0_raise') + (80 : Int))))) < 9223372036854775808) then (some ((i_p0_sign' * (f_p0_term' (Int.toNat ((x1' - i_p0_raise') + (80 : Int))))))) else none) else none) else none) else (some ((0 : Int)))))))
theorem hB_Po_coefficient_0 {i_p0_raise : Int32} {i_p0_raise' : Int} {i_p0_sign : Int32} {i_p0_sign' : Int} {f_p0_term : (Nat → Int64)} {f_p0_term' : (Nat → Int)} {x1 : Int32} {x1' : Int} (fl : Nat) (e_i_p0_raise : i_p0_raise' = (i_p0_raise).toInt) (e_i_p0_sign : i_p0_sign' = (i_p0_sign).toInt) (e_f_p0_term : f_p0_term' = (t64 f_p0_term)) (e_x1 : x1' = (x1).toInt) : Ok Int64.toInt (B_Po_coefficient_0 fl i_p0_raise i_p0_sign f_p0_term x1) (LB_Po_coefficient_0 fl i_p0_raise' i_p0_sign' f_p0_term' x1') := by
  unfold B_Po_coefficient_0 LB_Po_coefficient_0
  refine lf_bind (hm_Po_lowest fl e_i_p0_raise) (fun o0 => ?_)
  refine lf_if (c_lt e_x1 (rfl : (o0).toInt = (o0).toInt)) ?_ ?_
  · exact lf_some k64_0
  · refine lf_bind (hm_Po_highest fl e_i_p0_raise) (fun o1 => ?_)
    refine lf_if (c_le e_x1 (rfl : (o1).toInt = (o1).toInt)) ?_ ?_
    · refine lf_guard (fun gg => ?_)
      have g1 := gg
      refine lf_gd (fun h3 => ⟨(c_idx (n := 161) (n' := 161) rfl (q_add (q_sub e_x1 e_i_p0_raise g1) k32_80 (ri h3 (by decide)))).1 h3, ?_⟩)
      refine lf_guard (fun gg => ?_)
      have g4 := gg
      exact lf_some (p_mul (p_ext e_i_p0_sign) (p_get e_f_p0_term (q_clamp (q_add (q_sub e_x1 e_i_p0_raise g1) k32_80 (ri h3 (by decide))))) g4)
    · exact lf_some k64_0
def LM_Po_coefficient (fl : Nat) (i_p0_raise' : Int) (i_p0_sign' : Int) (f_p0_term' : (Nat → Int)) (x1' : Int) : Option (Int) := (LB_Po_coefficient_0 fl i_p0_raise' i_p0_sign' f_p0_term' x1')
theorem hm_Po_coefficient {i_p0_raise : Int32} {i_p0_raise' : Int} {i_p0_sign : Int32} {i_p0_sign' : Int} {f_p0_term : (Nat → Int64)} {f_p0_term' : (Nat → Int)} {x1 : Int32} {x1' : Int} (fl : Nat) (e_i_p0_raise : i_p0_raise' = (i_p0_raise).toInt) (e_i_p0_sign : i_p0_sign' = (i_p0_sign).toInt) (e_f_p0_term : f_p0_term' = (t64 f_p0_term)) (e_x1 : x1' = (x1).toInt) : Ok Int64.toInt (m_Po_coefficient fl i_p0_raise i_p0_sign f_p0_term x1) (LM_Po_coefficient fl i_p0_raise' i_p0_sign' f_p0_term' x1') := by
  unfold m_Po_coefficient LM_Po_coefficient
  exact (hB_Po_coefficient_0 fl e_i_p0_raise e_i_p0_sign e_f_p0_term e_x1)
def LB_Po_countTerms_30 (fl : Nat) (f_p0_term' : (Nat → Int)) (kb_4' : (Int → Int → Option (Int))) (s0' : Int) (s1' : Int) (x1' : Int) (x2' : Int) : Option (Int) := (if (-2147483648 ≤ (s1' + s0') ∧ (s1' + s0') < 2147483648) ∧ (-2147483648 ≤ (x2' + (1 : Int)) ∧ (x2' + (1 : Int)) < 2147483648) then (kb_4' (s1' + s0') (x2' + (1 : Int))) else none)
theorem hB_Po_countTerms_30 {f_p0_term : (Nat → Int64)} {f_p0_term' : (Nat → Int)} {kb_4 : (Int32 → Int32 → Option (Int32))} {kb_4' : (Int → Int → Option (Int))} {s0 : Int32} {s0' : Int} {s1 : Int32} {s1' : Int} {x1 : Int32} {x1' : Int} {x2 : Int32} {x2' : Int} (fl : Nat) (e_f_p0_term : f_p0_term' = (t64 f_p0_term)) (k_kb_4 : ∀ {z0 : Int32} {z0' : Int} {z1 : Int32} {z1' : Int} (e0 : z0' = (z0).toInt) (e1 : z1' = (z1).toInt), Ok Int32.toInt (kb_4 z0 z1) (kb_4' z0' z1')) (e_s0 : s0' = (s0).toInt) (e_s1 : s1' = (s1).toInt) (e_x1 : x1' = (x1).toInt) (e_x2 : x2' = (x2).toInt) : Ok Int32.toInt (B_Po_countTerms_30 fl f_p0_term kb_4 s0 s1 x1 x2) (LB_Po_countTerms_30 fl f_p0_term' kb_4' s0' s1' x1' x2') := by
  unfold B_Po_countTerms_30 LB_Po_countTerms_30
  refine lf_guard (fun gg => ?_)
  obtain ⟨g1, g2⟩ := gg
  exact (k_kb_4 (q_add e_s1 e_s0 g1) (q_add e_x2 k32_1 g2))
def LB_Po_countTerms_4 (fl : Nat) (f_p0_term' : (Nat → Int)) : Nat → Int → Int → Option (Int)
  | 0, _, _ => none
  | nn + 1, x1', x2' => (if (161 : Int) ≤ x2' then (some (x1')) else (if (0 ≤ x2' ∧ x2' < 161) then (if (f_p0_term' (Int.toNat x2')) = (0 : Int) then (LB_Po_countTerms_30 fl f_p0_term' (LB_Po_countTerms_4 fl f_p0_term' nn) (0 : Int) x1' x1' x2') else (LB_Po_countTerms_30 fl f_p0_term' (LB_Po_countTerms_4 fl f_p0_term' nn) (1 : Int) x1' x1' x2')) else none))
theorem hB_Po_countTerms_4 {f_p0_term : (Nat → Int64)} {f_p0_term' : (Nat → Int)} (fl : Nat) (e_f_p0_term : f_p0_term' = (t64 f_p0_term)) : ∀ (nn : Nat) {x1 : Int32} {x1' : Int} {x2 : Int32} {x2' : Int} (e_x1 : x1' = (x1).toInt) (e_x2 : x2' = (x2).toInt), Ok Int32.toInt (B_Po_countTerms_4 fl f_p0_term nn x1 x2) (LB_Po_countTerms_4 fl f_p0_term' nn x1' x2') := by
  intro nn
  induction nn with
  | zero => intro x1 x1' x2 x2' e_x1 e_x2; exact lf_none
  | succ nn ih =>
    intro x1 x1' x2 x2' e_x1 e_x2
    rw [B_Po_countTerms_4, LB_Po_countTerms_4]
    refine lf_if (c_le k32_161 e_x2) ?_ ?_
    · exact lf_some e_x1
    · refine lf_gd (fun h1 => ⟨(c_idx (n := 161) (n' := 161) rfl e_x2).1 h1, ?_⟩)
      refine lf_if (g_eq0 (p_get e_f_p0_term (q_clamp e_x2)) k64_0) ?_ ?_
      · exact (hB_Po_countTerms_30 fl e_f_p0_term ih k32_0 e_x1 e_x1 e_x2)
      · exact (hB_Po_countTerms_30 fl e_f_p0_term ih k32_1 e_x1 e_x1 e_x2)
def LB_Po_countTerms_0 (fl : Nat) (f_p0_term' : (Nat → Int)) : Option (Int) := (LB_Po_countTerms_4 fl f_p0_term' fl (0 : Int) (0 : Int))
theorem hB_Po_countTerms_0 {f_p0_term : (Nat → Int64)} {f_p0_term' : (Nat → Int)} (fl : Nat) (e_f_p0_term : f_p0_term' = (t64 f_p0_term)) : Ok Int32.toInt (B_Po_countTerms_0 fl f_p0_term) (LB_Po_countTerms_0 fl f_p0_term') := by
  unfold B_Po_countTerms_0 LB_Po_countTerms_0
  exact (hB_Po_countTerms_4 fl e_f_p0_term fl k32_0 k32_0)
def LM_Po_countTerms (fl : Nat) (f_p0_term' : (Nat → Int)) : Option (Int) := (LB_Po_countTerms_0 fl f_p0_term')
theorem hm_Po_countTerms {f_p0_term : (Nat → Int64)} {f_p0_term' : (Nat → Int)} (fl : Nat) (e_f_p0_term : f_p0_term' = (t64 f_p0_term)) : Ok Int32.toInt (m_Po_countTerms fl f_p0_term) (LM_Po_countTerms fl f_p0_term') := by
  unfold m_Po_countTerms LM_Po_countTerms
  exact (hB_Po_countTerms_0 fl e_f_p0_term)
def LB_Mo_slideEdge_0 (fl : Nat) (f_p1_edgeAt' : (Nat → Int)) (f_p1_from' : (Nat → Int)) (f_p1_name' : (Nat → Int)) (f_p1_to' : (Nat → Int)) (x3' : Int) (f_p2_label' : (Nat → Int)) : Option ((Nat → Int)) := (if (0 ≤ x3' ∧ x3' < 40) then (if (0 ≤ (ixor (f_p1_from' (Int.toNat x3')) (2 : Int)) ∧ (ixor (f_p1_from' (Int.toNat x3')) (2 : Int)) < 80) then (if (0 ≤ (f_p1_edgeAt' (Int.toNat (ixor (f_p1_from' (Int.toNat x3')) (2 : Int)))) ∧ (f_p1_edgeAt' (Int.toNat (ixor (f_p1_from' (Int.toNat x3')) (2 : Int)))) < 40) then (if (0 ≤ (ixor (f_p1_to' (Int.toNat x3')) (2 : Int)) ∧ (ixor (f_p1_to' (Int.toNat x3')) (2 : Int)) < 80) then (if (0 ≤ (f_p1_edgeAt' (Int.toNat (ixor (f_p1_to' (Int.toNat x3')) (2 : Int)))) ∧ (f_p1_edgeAt' (Int.toNat (ixor (f_p1_to' (Int.toNat x3')) (2 : Int)))) < 40) then (if (0 ≤ (f_p1_from' (Int.toNat x3')) ∧ (f_p1_from' (Int.toNat x3')) < 80) then (if (0 ≤ (f_p1_to' (Int.toNat x3')) ∧ (f_p1_to' (Int.toNat x3')) < 80) then (some ((up (up (up (up f_p2_label' (Int.toNat (ixor (f_p1_from' (Int.toNat x3')) (2 : Int))) (f_p1_name' (Int.toNat x3'))) (Int.toNat (f_p1_from' (Int.toNat x3'))) (f_p1_name' (Int.toNat (f_p1_edgeAt' (Int.toNat (ixor (f_p1_to' (Int.toNat x3')) (2 : Int))))))) (Int.toNat (f_p1_to' (Int.toNat x3'))) (f_p1_name' (Int.toNat (f_p1_edgeAt' (Int.toNat (ixor (f_p1_from' (Int.toNat x3')) (2 : Int))))))) (Int.toNat (ixor (f_p1_to' (Int.toNat x3')) (2 : Int))) (f_p1_name' (Int.toNat x3'))))) else none) else none) else none) else none) else none) else none) else none)
theorem hB_Mo_slideEdge_0 {f_p1_edgeAt : (Nat → Int32)} {f_p1_edgeAt' : (Nat → Int)} {f_p1_from : (Nat → Int32)} {f_p1_from' : (Nat → Int)} {f_p1_name : (Nat → Int32)} {f_p1_name' : (Nat → Int)} {f_p1_to : (Nat → Int32)} {f_p1_to' : (Nat → Int)} {x3 : Int32} {x3' : Int} {f_p2_label : (Nat → Int32)} {f_p2_label' : (Nat → Int)} (fl : Nat) (e_f_p1_edgeAt : f_p1_edgeAt' = (t32 f_p1_edgeAt)) (e_f_p1_from : f_p1_from' = (t32 f_p1_from)) (e_f_p1_name : f_p1_name' = (t32 f_p1_name)) (e_f_p1_to : f_p1_to' = (t32 f_p1_to)) (e_x3 : x3' = (x3).toInt) (e_f_p2_label : f_p2_label' = (t32 f_p2_label)) : Ok t32 (B_Mo_slideEdge_0 fl f_p1_edgeAt f_p1_from f_p1_name f_p1_to x3 f_p2_label) (LB_Mo_slideEdge_0 fl f_p1_edgeAt' f_p1_from' f_p1_name' f_p1_to' x3' f_p2_label') := by
  unfold B_Mo_slideEdge_0 LB_Mo_slideEdge_0
  refine lf_gd (fun h1 => ⟨(c_idx (n := 40) (n' := 40) rfl e_x3).1 h1, ?_⟩)
  refine lf_pos ((c_idx (n := 40) (n' := 40) rfl e_x3).1 h1) ?_
  refine lf_gd (fun h2 => ⟨(c_idx (n := 80) (n' := 80) rfl (q_xor (q_get e_f_p1_from (q_clamp e_x3)) k32_2)).1 h2, ?_⟩)
  refine lf_gd (fun h3 => ⟨(c_idx (n := 40) (n' := 40) rfl (q_get e_f_p1_edgeAt (q_clamp (q_xor (q_get e_f_p1_from (q_clamp e_x3)) k32_2)))).1 h3, ?_⟩)
  refine lf_gd (fun h4 => ⟨(c_idx (n := 80) (n' := 80) rfl (q_xor (q_get e_f_p1_to (q_clamp e_x3)) k32_2)).1 h4, ?_⟩)
  refine lf_gd (fun h5 => ⟨(c_idx (n := 40) (n' := 40) rfl (q_get e_f_p1_edgeAt (q_clamp (q_xor (q_get e_f_p1_to (q_clamp e_x3)) k32_2)))).1 h5, ?_⟩)
  refine lf_pos ((c_idx (n := 40) (n' := 40) rfl e_x3).1 h1) ?_
  refine lf_pos ((c_idx (n := 80) (n' := 80) rfl (q_xor (q_get e_f_p1_from (q_clamp e_x3)) k32_2)).1 h2) ?_
  refine lf_gd (fun h6 => ⟨(c_idx (n := 80) (n' := 80) rfl (q_get e_f_p1_from (q_clamp e_x3))).1 h6, ?_⟩)
  refine lf_gd (fun h7 => ⟨(c_idx (n := 80) (n' := 80) rfl (q_get e_f_p1_to (q_clamp e_x3))).1 h7, ?_⟩)
  refine lf_pos ((c_idx (n := 40) (n' := 40) rfl e_x3).1 h1) ?_
  refine lf_pos ((c_idx (n := 80) (n' := 80) rfl (q_xor (q_get e_f_p1_to (q_clamp e_x3)) k32_2)).1 h4) ?_
  exact lf_some (q_upd (q_upd (q_upd (q_upd e_f_p2_label (q_clamp (q_xor (q_get e_f_p1_from (q_clamp e_x3)) k32_2)) (q_get e_f_p1_name (q_clamp e_x3))) (q_clamp (q_get e_f_p1_from (q_clamp e_x3))) (q_get e_f_p1_name (q_clamp (q_get e_f_p1_edgeAt (q_clamp (q_xor (q_get e_f_p1_to (q_clamp e_x3)) k32_2)))))) (q_clamp (q_get e_f_p1_to (q_clamp e_x3))) (q_get e_f_p1_name (q_clamp (q_get e_f_p1_edgeAt (q_clamp (q_xor (q_get e_f_p1_from (q_clamp e_x3)) k32_2)))))) (q_clamp (q_xor (q_get e_f_p1_to (q_clamp e_x3)) k32_2)) (q_get e_f_p1_name (q_clamp e_x3)))
def LM_Mo_slideEdge (fl : Nat) (f_p1_edgeAt' : (Nat → Int)) (f_p1_from' : (Nat → Int)) (f_p1_name' : (Nat → Int)) (f_p1_to' : (Nat → Int)) (x3' : Int) (f_p2_label' : (Nat → Int)) : Option ((Nat → Int)) := (LB_Mo_slideEdge_0 fl f_p1_edgeAt' f_p1_from' f_p1_name' f_p1_to' x3' f_p2_label')
theorem hm_Mo_slideEdge {f_p1_edgeAt : (Nat → Int32)} {f_p1_edgeAt' : (Nat → Int)} {f_p1_from : (Nat → Int32)} {f_p1_from' : (Nat → Int)} {f_p1_name : (Nat → Int32)} {f_p1_name' : (Nat → Int)} {f_p1_to : (Nat → Int32)} {f_p1_to' : (Nat → Int)} {x3 : Int32} {x3' : Int} {f_p2_label : (Nat → Int32)} {f_p2_label' : (Nat → Int)} (fl : Nat) (e_f_p1_edgeAt : f_p1_edgeAt' = (t32 f_p1_edgeAt)) (e_f_p1_from : f_p1_from' = (t32 f_p1_from)) (e_f_p1_name : f_p1_name' = (t32 f_p1_name)) (e_f_p1_to : f_p1_to' = (t32 f_p1_to)) (e_x3 : x3' = (x3).toInt) (e_f_p2_label : f_p2_label' = (t32 f_p2_label)) : Ok t32 (m_Mo_slideEdge fl f_p1_edgeAt f_p1_from f_p1_name f_p1_to x3 f_p2_label) (LM_Mo_slideEdge fl f_p1_edgeAt' f_p1_from' f_p1_name' f_p1_to' x3' f_p2_label') := by
  unfold m_Mo_slideEdge LM_Mo_slideEdge
  exact (hB_Mo_slideEdge_0 fl e_f_p1_edgeAt e_f_p1_from e_f_p1_name e_f_p1_to e_x3 e_f_p2_label)
def LB_Sh_findFree_56 (fl : Nat) (i_p0_edges' : Int) (f_p0_name' : (Nat → Int)) (kb_7' : (Int → Int → Int → (Nat → Int) → Option ((Nat → Int)))) (x2' : Int) (x3' : Int) (x4' : Int) (f_p1' : (Nat → Int)) : Option ((Nat → Int)) := (if (-2147483648 ≤ (x4' + (1 : Int)) ∧ (x4' + (1 : Int)) < 2147483648) then (kb_7' x2' x3' (x4' + (1 : Int)) f_p1') else none)
theorem hB_Sh_findFree_56 {i_p0_edges : Int32} {i_p0_edges' : Int} {f_p0_name : (Nat → Int32)} {f_p0_name' : (Nat → Int)} {kb_7 : (Int32 → Int32 → Int32 → (Nat → Int32) → Option ((Nat → Int32)))} {kb_7' : (Int → Int → Int → (Nat → Int) → Option ((Nat → Int)))} {x2 : Int32} {x2' : Int} {x3 : Int32} {x3' : Int} {x4 : Int32} {x4' : Int} {f_p1 : (Nat → Int32)} {f_p1' : (Nat → Int)} (fl : Nat) (e_i_p0_edges : i_p0_edges' = (i_p0_edges).toInt) (e_f_p0_name : f_p0_name' = (t32 f_p0_name)) (k_kb_7 : ∀ {z0 : Int32} {z0' : Int} {z1 : Int32} {z1' : Int} {z2 : Int32} {z2' : Int} {z3 : (Nat → Int32)} {z3' : (Nat → Int)} (e0 : z0' = (z0).toInt) (e1 : z1' = (z1).toInt) (e2 : z2' = (z2).toInt) (e3 : z3' = (t32 z3)), Ok t32 (kb_7 z0 z1 z2 z3) (kb_7' z0' z1' z2' z3')) (e_x2 : x2' = (x2).toInt) (e_x3 : x3' = (x3).toInt) (e_x4 : x4' = (x4).toInt) (e_f_p1 : f_p1' = (t32 f_p1)) : Ok t32 (B_Sh_findFree_56 fl i_p0_edges f_p0_name kb_7 x2 x3 x4 f_p1) (LB_Sh_findFree_56 fl i_p0_edges' f_p0_name' kb_7' x2' x3' x4' f_p1') := by
  unfold B_Sh_findFree_56 LB_Sh_findFree_56
  refine lf_guard (fun gg => ?_)
  have g1 := gg
  exact (k_kb_7 e_x2 e_x3 (q_add e_x4 k32_1 g1) e_f_p1)
def LB_Sh_findFree_48 (fl : Nat) (i_p0_edges' : Int) (f_p0_name' : (Nat → Int)) (kb_7' : (Int → Int → Int → (Nat → Int) → Option ((Nat → Int)))) (x2' : Int) (x3' : Int) (x4' : Int) (f_p1' : (Nat → Int)) : Option ((Nat → Int)) := (if (0 ≤ x3' ∧ x3' < 4) then (if (-2147483648 ≤ (x3' + (1 : Int)) ∧ (x3' + (1 : Int)) < 2147483648) then (LB_Sh_findFree_56 fl i_p0_edges' f_p0_name' kb_7' x2' (x3' + (1 : Int)) x4' (up f_p1' (Int.toNat x3') x4')) else none) else none)
theorem hB_Sh_findFree_48 {i_p0_edges : Int32} {i_p0_edges' : Int} {f_p0_name : (Nat → Int32)} {f_p0_name' : (Nat → Int)} {kb_7 : (Int32 → Int32 → Int32 → (Nat → Int32) → Option ((Nat → Int32)))} {kb_7' : (Int → Int → Int → (Nat → Int) → Option ((Nat → Int)))} {x2 : Int32} {x2' : Int} {x3 : Int32} {x3' : Int} {x4 : Int32} {x4' : Int} {f_p1 : (Nat → Int32)} {f_p1' : (Nat → Int)} (fl : Nat) (e_i_p0_edges : i_p0_edges' = (i_p0_edges).toInt) (e_f_p0_name : f_p0_name' = (t32 f_p0_name)) (k_kb_7 : ∀ {z0 : Int32} {z0' : Int} {z1 : Int32} {z1' : Int} {z2 : Int32} {z2' : Int} {z3 : (Nat → Int32)} {z3' : (Nat → Int)} (e0 : z0' = (z0).toInt) (e1 : z1' = (z1).toInt) (e2 : z2' = (z2).toInt) (e3 : z3' = (t32 z3)), Ok t32 (kb_7 z0 z1 z2 z3) (kb_7' z0' z1' z2' z3')) (e_x2 : x2' = (x2).toInt) (e_x3 : x3' = (x3).toInt) (e_x4 : x4' = (x4).toInt) (e_f_p1 : f_p1' = (t32 f_p1)) : Ok t32 (B_Sh_findFree_48 fl i_p0_edges f_p0_name kb_7 x2 x3 x4 f_p1) (LB_Sh_findFree_48 fl i_p0_edges' f_p0_name' kb_7' x2' x3' x4' f_p1') := by
  unfold B_Sh_findFree_48 LB_Sh_findFree_48
  refine lf_gd (fun h1 => ⟨(c_idx (n := 4) (n' := 4) rfl e_x3).1 h1, ?_⟩)
  refine lf_guard (fun gg => ?_)
  have g2 := gg
  exact (hB_Sh_findFree_56 fl e_i_p0_edges e_f_p0_name k_kb_7 e_x2 (q_add e_x3 k32_1 g2) e_x4 (q_upd e_f_p1 (q_clamp e_x3) e_x4))
def LB_Sh_findFree_7 (fl : Nat) (i_p0_edges' : Int) (f_p0_name' : (Nat → Int)) : Nat → Int → Int → Int → (Nat → Int) → Option ((Nat → Int))
  | 0, _, _, _, _ => none
  | nn + 1, x2', x3', x4', f_p1' => (if (4 : Int) ≤ x3' then (some (f_p1')) else (if (-2147483648 ≤ ((40 : Int) + (4 : Int)) ∧ ((40 : Int) + (4 : Int)) < 2147483648) then (if ((40 : Int) + (4 : Int)) < x4' then (some (f_p1')) else (if i_p0_edges' ≤ x2' then (LB_Sh_findFree_48 fl i_p0_edges' f_p0_name' (LB_Sh_findFree_7 fl i_p0_edges' f_p0_name' nn) x2' x3' x4' f_p1') else (if (0 ≤ x2' ∧ x2' < 40) then (if ¬ ((f_p0_name' (Int.toNat x2')) = x4') then (LB_Sh_findFree_48 fl i_p0_edges' f_p0_name' (LB_Sh_findFree_7 fl i_p0_edges' f_p0_name' nn) x2' x3' x4' f_p1') else (if (-2147483648 ≤ (x2' + (1 : Int)) ∧ (x2' + (1 : Int)) < 2147483648) then (LB_Sh_findFree_56 fl i_p0_edges' f_p0_name' (LB_Sh_findFree_7 fl i_p0_edges' f_p0_name' nn) (x2' + (1 : Int)) x3' x4' f_p1') else none)) else none))) else none))
theorem hB_Sh_findFree_7 {i_p0_edges : Int32} {i_p0_edges' : Int} {f_p0_name : (Nat → Int32)} {f_p0_name' : (Nat → Int)} (fl : Nat) (e_i_p0_edges : i_p0_edges' = (i_p0_edges).toInt) (e_f_p0_name : f_p0_name' = (t32 f_p0_name)) : ∀ (nn : Nat) {x2 : Int32} {x2' : Int} {x3 : Int32} {x3' : Int} {x4 : Int32} {x4' : Int} {f_p1 : (Nat → Int32)} {f_p1' : (Nat → Int)} (e_x2 : x2' = (x2).toInt) (e_x3 : x3' = (x3).toInt) (e_x4 : x4' = (x4).toInt) (e_f_p1 : f_p1' = (t32 f_p1)), Ok t32 (B_Sh_findFree_7 fl i_p0_edges f_p0_name nn x2 x3 x4 f_p1) (LB_Sh_findFree_7 fl i_p0_edges' f_p0_name' nn x2' x3' x4' f_p1') := by
  intro nn
  induction nn with
  | zero => intro x2 x2' x3 x3' x4 x4' f_p1 f_p1' e_x2 e_x3 e_x4 e_f_p1; exact lf_none
  | succ nn ih =>
    intro x2 x2' x3 x3' x4 x4' f_p1 f_p1' e_x2 e_x3 e_x4 e_f_p1
    rw [B_Sh_findFree_7, LB_Sh_findFree_7]
    refine lf_if (c_le k32_4 e_x3) ?_ ?_
    · exact lf_some e_f_p1
    · refine lf_guard (fun gg => ?_)
      have g1 := gg
      refine lf_if (c_lt (q_add k32_40 k32_4 g1) e_x4) ?_ ?_
      · exact lf_some e_f_p1
      · refine lf_if (c_le e_i_p0_edges e_x2) ?_ ?_
        · exact (hB_Sh_findFree_48 fl e_i_p0_edges e_f_p0_name ih e_x2 e_x3 e_x4 e_f_p1)
        · refine lf_gd (fun h2 => ⟨(c_idx (n := 40) (n' := 40) rfl e_x2).1 h2, ?_⟩)
          refine lf_if (not_congr (c_eq (q_get e_f_p0_name (q_clamp e_x2)) e_x4)) ?_ ?_
          · exact (hB_Sh_findFree_48 fl e_i_p0_edges e_f_p0_name ih e_x2 e_x3 e_x4 e_f_p1)
          · refine lf_guard (fun gg => ?_)
            have g3 := gg
            exact (hB_Sh_findFree_56 fl e_i_p0_edges e_f_p0_name ih (q_add e_x2 k32_1 g3) e_x3 e_x4 e_f_p1)
def LB_Sh_findFree_0 (fl : Nat) (i_p0_edges' : Int) (f_p0_name' : (Nat → Int)) (f_p1' : (Nat → Int)) : Option ((Nat → Int)) := (LB_Sh_findFree_7 fl i_p0_edges' f_p0_name' fl (0 : Int) (0 : Int) (1 : Int) f_p1')
theorem hB_Sh_findFree_0 {i_p0_edges : Int32} {i_p0_edges' : Int} {f_p0_name : (Nat → Int32)} {f_p0_name' : (Nat → Int)} {f_p1 : (Nat → Int32)} {f_p1' : (Nat → Int)} (fl : Nat) (e_i_p0_edges : i_p0_edges' = (i_p0_edges).toInt) (e_f_p0_name : f_p0_name' = (t32 f_p0_name)) (e_f_p1 : f_p1' = (t32 f_p1)) : Ok t32 (B_Sh_findFree_0 fl i_p0_edges f_p0_name f_p1) (LB_Sh_findFree_0 fl i_p0_edges' f_p0_name' f_p1') := by
  unfold B_Sh_findFree_0 LB_Sh_findFree_0
  exact (hB_Sh_findFree_7 fl e_i_p0_edges e_f_p0_name fl k32_0 k32_0 k32_1 e_f_p1)
def LM_Sh_findFree (fl : Nat) (i_p0_edges' : Int) (f_p0_name' : (Nat → Int)) (f_p1' : (Nat → Int)) : Option ((Nat → Int)) := (LB_Sh_findFree_0 fl i_p0_edges' f_p0_name' f_p1')
theorem hm_Sh_findFree {i_p0_edges : Int32} {i_p0_edges' : Int} {f_p0_name : (Nat → Int32)} {f_p0_name' : (Nat → Int)} {f_p1 : (Nat → Int32)} {f_p1' : (Nat → Int)} (fl : Nat) (e_i_p0_edges : i_p0_edges' = (i_p0_edges).toInt) (e_f_p0_name : f_p0_name' = (t32 f_p0_name)) (e_f_p1 : f_p1' = (t32 f_p1)) : Ok t32 (m_Sh_findFree fl i_p0_edges f_p0_name f_p1) (LM_Sh_findFree fl i_p0_edges' f_p0_name' f_p1') := by
  unfold m_Sh_findFree LM_Sh_findFree
  exact (hB_Sh_findFree_0 fl e_i_p0_edges e_f_p0_name e_f_p1)
def LB_Sh_edgeNamed_2 (fl : Nat) (i_p0_edges' : Int) (f_p0_name' : (Nat → Int)) : Nat → Int → Int → Option (Int)
  | 0, _, _ => none
  | nn + 1, x1', x2' => (if i_p0_edges' ≤ x2' then (some ((-1 : Int))) else (if (0 ≤ x2' ∧ x2' < 40) then (if ¬ ((f_p0_name' (Int.toNat x2')) = x1') then (if (-2147483648 ≤ (x2' + (1 : Int)) ∧ (x2' + (1 : Int)) < 2147483648) then (LB_Sh_edgeNamed_2 fl i_p0_edges' f_p0_name' nn x1' (x2' + (1 : Int))) else none) else (some (x2'))) else none))
theorem hB_Sh_edgeNamed_2 {i_p0_edges : Int32} {i_p0_edges' : Int} {f_p0_name : (Nat → Int32)} {f_p0_name' : (Nat → Int)} (fl : Nat) (e_i_p0_edges : i_p0_edges' = (i_p0_edges).toInt) (e_f_p0_name : f_p0_name' = (t32 f_p0_name)) : ∀ (nn : Nat) {x1 : Int32} {x1' : Int} {x2 : Int32} {x2' : Int} (e_x1 : x1' = (x1).toInt) (e_x2 : x2' = (x2).toInt), Ok Int32.toInt (B_Sh_edgeNamed_2 fl i_p0_edges f_p0_name nn x1 x2) (LB_Sh_edgeNamed_2 fl i_p0_edges' f_p0_name' nn x1' x2') := by
  intro nn
  induction nn with
  | zero => intro x1 x1' x2 x2' e_x1 e_x2; exact lf_none
  | succ nn ih =>
    intro x1 x1' x2 x2' e_x1 e_x2
    rw [B_Sh_edgeNamed_2, LB_Sh_edgeNamed_2]
    refine lf_if (c_le e_i_p0_edges e_x2) ?_ ?_
    · exact lf_some k32_n1
    · refine lf_gd (fun h1 => ⟨(c_idx (n := 40) (n' := 40) rfl e_x2).1 h1, ?_⟩)
      refine lf_if (not_congr (c_eq (q_get e_f_p0_name (q_clamp e_x2)) e_x1)) ?_ ?_
      · refine lf_guard (fun gg => ?_)
        have g2 := gg
        exact (ih e_x1 (q_add e_x2 k32_1 g2))
      · exact lf_some e_x2
def LB_Sh_edgeNamed_0 (fl : Nat) (i_p0_edges' : Int) (f_p0_name' : (Nat → Int)) (x1' : Int) : Option (Int) := (LB_Sh_edgeNamed_2 fl i_p0_edges' f_p0_name' fl x1' (0 : Int))
theorem hB_Sh_edgeNamed_0 {i_p0_edges : Int32} {i_p0_edges' : Int} {f_p0_name : (Nat → Int32)} {f_p0_name' : (Nat → Int)} {x1 : Int32} {x1' : Int} (fl : Nat) (e_i_p0_edges : i_p0_edges' = (i_p0_edges).toInt) (e_f_p0_name : f_p0_name' = (t32 f_p0_name)) (e_x1 : x1' = (x1).toInt) : Ok Int32.toInt (B_Sh_edgeNamed_0 fl i_p0_edges f_p0_name x1) (LB_Sh_edgeNamed_0 fl i_p0_edges' f_p0_name' x1') := by
  unfold B_Sh_edgeNamed_0 LB_Sh_edgeNamed_0
  exact (hB_Sh_edgeNamed_2 fl e_i_p0_edges e_f_p0_name fl e_x1 k32_0)
def LM_Sh_edgeNamed (fl : Nat) (i_p0_edges' : Int) (f_p0_name' : (Nat → Int)) (x1' : Int) : Option (Int) := (LB_Sh_edgeNamed_0 fl i_p0_edges' f_p0_name' x1')
theorem hm_Sh_edgeNamed {i_p0_edges : Int32} {i_p0_edges' : Int} {f_p0_name : (Nat → Int32)} {f_p0_name' : (Nat → Int)} {x1 : Int32} {x1' : Int} (fl : Nat) (e_i_p0_edges : i_p0_edges' = (i_p0_edges).toInt) (e_f_p0_name : f_p0_name' = (t32 f_p0_name)) (e_x1 : x1' = (x1).toInt) : Ok Int32.toInt (m_Sh_edgeNamed fl i_p0_edges f_p0_name x1) (LM_Sh_edgeNamed fl i_p0_edges' f_p0_name' x1') := by
  unfold m_Sh_edgeNamed LM_Sh_edgeNamed
  exact (hB_Sh_edgeNamed_0 fl e_i_p0_edges e_f_p0_name e_x1)
def LB_Mo_canMeet_80 (fl : Nat) (f_p1_faceOf' : (Nat → Int)) (f_p1_from' : (Nat → Int)) (f_p1_pieceOf' : (Nat → Int)) (x2' : Int) (x3' : Int) (x4' : Int) (x5' : Int) (x6' : Int) (x7' : Int) : Option (Int) := (some ((1 : Int)))
theorem hB_Mo_canMeet_80 {f_p1_faceOf : (Nat → Int32)} {f_p1_faceOf' : (Nat → Int)} {f_p1_from : (Nat → Int32)} {f_p1_from' : (Nat → Int)} {f_p1_pieceOf : (Nat → Int32)} {f_p1_pieceOf' : (Nat → Int)} {x2 : Int32} {x2' : Int} {x3 : Int32} {x3' : Int} {x4 : Int32} {x4' : Int} {x5 : Int32} {x5' : Int} {x6 : Int32} {x6' : Int} {x7 : Int32} {x7' : Int} (fl : Nat) (e_f_p1_faceOf : f_p1_faceOf' = (t32 f_p1_faceOf)) (e_f_p1_from : f_p1_from' = (t32 f_p1_from)) (e_f_p1_pieceOf : f_p1_pieceOf' = (t32 f_p1_pieceOf)) (e_x2 : x2' = (x2).toInt) (e_x3 : x3' = (x3).toInt) (e_x4 : x4' = (x4).toInt) (e_x5 : x5' = (x5).toInt) (e_x6 : x6' = (x6).toInt) (e_x7 : x7' = (x7).toInt) : Ok Int32.toInt (B_Mo_canMeet_80 fl f_p1_faceOf f_p1_from f_p1_pieceOf x2 x3 x4 x5 x6 x7) (LB_Mo_canMeet_80 fl f_p1_faceOf' f_p1_from' f_p1_pieceOf' x2' x3' x4' x5' x6' x7') := by
  unfold B_Mo_canMeet_80 LB_Mo_canMeet_80
  exact lf_some k32_1
def LB_Mo_canMeet_55 (fl : Nat) (f_p1_faceOf' : (Nat → Int)) (f_p1_from' : (Nat → Int)) (f_p1_pieceOf' : (Nat → Int)) (s0' : Int) (s1' : Int) (x2' : Int) (x3' : Int) (x4' : Int) (x5' : Int) (x6' : Int) : Option (Int) := (if (0 ≤ (s1' + s0') ∧ (s1' + s0') < 80) then (if x6' = (f_p1_faceOf' (Int.toNat (s1' + s0'))) then (LB_Mo_canMeet_80 fl f_p1_faceOf' f_p1_from' f_p1_pieceOf' x2' x3' x4' x5' x6' (f_p1_faceOf' (Int.toNat (s1' + s0')))) else ((LM_Sh_pieceOfEdge fl f_p1_from' f_p1_pieceOf' x2').bind fun o0 => ((LM_Sh_pieceOfEdge fl f_p1_from' f_p1_pieceOf' x4').bind fun o1 => (if o0 = o1 then (some ((0 : Int))) else (LB_Mo_canMeet_80 fl f_p1_faceOf' f_p1_from' f_p1_pieceOf' x2' x3' x4' x5' x6' (f_p1_faceOf' (Int.toNat (s1' + s0')))))))) else none)
theorem hB_Mo_canMeet_55 {f_p1_faceOf : (Nat → Int32)} {f_p1_faceOf' : (Nat → Int)} {f_p1_from : (Nat → Int32)} {f_p1_from' : (Nat → Int)} {f_p1_pieceOf : (Nat → Int32)} {f_p1_pieceOf' : (Nat → Int)} {s0 : Int32} {s0' : Int} {s1 : Int32} {s1' : Int} {x2 : Int32} {x2' : Int} {x3 : Int32} {x3' : Int} {x4 : Int32} {x4' : Int} {x5 : Int32} {x5' : Int} {x6 : Int32} {x6' : Int} (fl : Nat) (e_f_p1_faceOf : f_p1_faceOf' = (t32 f_p1_faceOf)) (e_f_p1_from : f_p1_from' = (t32 f_p1_from)) (e_f_p1_pieceOf : f_p1_pieceOf' = (t32 f_p1_pieceOf)) (e_s0 : s0' = (s0).toInt) (e_s1 : s1' = (s1).toInt) (e_x2 : x2' = (x2).toInt) (e_x3 : x3' = (x3).toInt) (e_x4 : x4' = (x4).toInt) (e_x5 : x5' = (x5).toInt) (e_x6 : x6' = (x6).toInt) : Ok Int32.toInt (B_Mo_canMeet_55 fl f_p1_faceOf f_p1_from f_p1_pieceOf s0 s1 x2 x3 x4 x5 x6) (LB_Mo_canMeet_55 fl f_p1_faceOf' f_p1_from' f_p1_pieceOf' s0' s1' x2' x3' x4' x5' x6') := by
  unfold B_Mo_canMeet_55 LB_Mo_canMeet_55
  refine lf_gd (fun h2 => ⟨(c_idx (n := 80) (n' := 80) rfl (q_add e_s1 e_s0 (ri h2 (by decide)))).1 h2, ?_⟩)
  refine lf_if (c_eq e_x6 (q_get e_f_p1_faceOf (q_clamp (q_add e_s1 e_s0 (ri h2 (by decide)))))) ?_ ?_
  · exact (hB_Mo_canMeet_80 fl e_f_p1_faceOf e_f_p1_from e_f_p1_pieceOf e_x2 e_x3 e_x4 e_x5 e_x6 (q_get e_f_p1_faceOf (q_clamp (q_add e_s1 e_s0 (ri h2 (by decide))))))
  · refine lf_bind (hm_Sh_pieceOfEdge fl e_f_p1_from e_f_p1_pieceOf e_x2) (fun o0 => ?_)
    refine lf_bind (hm_Sh_pieceOfEdge fl e_f_p1_from e_f_p1_pieceOf e_x4) (fun o1 => ?_)
    refine lf_if (c_eq (rfl : (o0).toInt = (o0).toInt) (rfl : (o1).toInt = (o1).toInt)) ?_ ?_
    · exact lf_some k32_0
    · exact (hB_Mo_canMeet_80 fl e_f_p1_faceOf e_f_p1_from e_f_p1_pieceOf e_x2 e_x3 e_x4 e_x5 e_x6 (q_get e_f_p1_faceOf (q_clamp (q_add e_s1 e_s0 (ri h2 (by decide))))))
def LB_Mo_canMeet_33 (fl : Nat) (f_p1_faceOf' : (Nat → Int)) (f_p1_from' : (Nat → Int)) (f_p1_pieceOf' : (Nat → Int)) (s0' : Int) (s1' : Int) (x2' : Int) (x3' : Int) (x4' : Int) (x5' : Int) : Option (Int) := (if (0 ≤ (s1' + s0') ∧ (s1' + s0') < 80) then (if x5' = (0 : Int) then (if (-2147483648 ≤ ((2 : Int) * x4') ∧ ((2 : Int) * x4') < 2147483648) then (LB_Mo_canMeet_55 fl f_p1_faceOf' f_p1_from' f_p1_pieceOf' (0 : Int) ((2 : Int) * x4') x2' x3' x4' x5' (f_p1_faceOf' (Int.toNat (s1' + s0')))) else none) else (if (-2147483648 ≤ ((2 : Int) * x4') ∧ ((2 : Int) * x4') < 2147483648) then (LB_Mo_canMeet_55 fl f_p1_faceOf' f_p1_from' f_p1_pieceOf' (1 : Int) ((2 : Int) * x4') x2' x3' x4' x5' (f_p1_faceOf' (Int.toNat (s1' + s0')))) else none)) else none)
theorem hB_Mo_canMeet_33 {f_p1_faceOf : (Nat → Int32)} {f_p1_faceOf' : (Nat → Int)} {f_p1_from : (Nat → Int32)} {f_p1_from' : (Nat → Int)} {f_p1_pieceOf : (Nat → Int32)} {f_p1_pieceOf' : (Nat → Int)} {s0 : Int32} {s0' : Int} {s1 : Int32} {s1' : Int} {x2 : Int32} {x2' : Int} {x3 : Int32} {x3' : Int} {x4 : Int32} {x4' : Int} {x5 : Int32} {x5' : Int} (fl : Nat) (e_f_p1_faceOf : f_p1_faceOf' = (t32 f_p1_faceOf)) (e_f_p1_from : f_p1_from' = (t32 f_p1_from)) (e_f_p1_pieceOf : f_p1_pieceOf' = (t32 f_p1_pieceOf)) (e_s0 : s0' = (s0).toInt) (e_s1 : s1' = (s1).toInt) (e_x2 : x2' = (x2).toInt) (e_x3 : x3' = (x3).toInt) (e_x4 : x4' = (x4).toInt) (e_x5 : x5' = (x5).toInt) : Ok Int32.toInt (B_Mo_canMeet_33 fl f_p1_faceOf f_p1_from f_p1_pieceOf s0 s1 x2 x3 x4 x5) (LB_Mo_canMeet_33 fl f_p1_faceOf' f_p1_from' f_p1_pieceOf' s0' s1' x2' x3' x4' x5') := by
  unfold B_Mo_canMeet_33 LB_Mo_canMeet_33
  refine lf_gd (fun h2 => ⟨(c_idx (n := 80) (n' := 80) rfl (q_add e_s1 e_s0 (ri h2 (by decide)))).1 h2, ?_⟩)
  refine lf_if (c_eq e_x5 k32_0) ?_ ?_
  · refine lf_guard (fun gg => ?_)
    have g3 := gg
    exact (hB_Mo_canMeet_55 fl e_f_p1_faceOf e_f_p1_from e_f_p1_pieceOf k32_0 (q_mul k32_2 e_x4 g3) e_x2 e_x3 e_x4 e_x5 (q_get e_f_p1_faceOf (q_clamp (q_add e_s1 e_s0 (ri h2 (by decide))))))
  · refine lf_guard (fun gg => ?_)
    have g4 := gg
    exact (hB_Mo_canMeet_55 fl e_f_p1_faceOf e_f_p1_from e_f_p1_pieceOf k32_1 (q_mul k32_2 e_x4 g4) e_x2 e_x3 e_x4 e_x5 (q_get e_f_p1_faceOf (q_clamp (q_add e_s1 e_s0 (ri h2 (by decide))))))
def LB_Mo_canMeet_0 (fl : Nat) (f_p1_faceOf' : (Nat → Int)) (f_p1_from' : (Nat → Int)) (f_p1_pieceOf' : (Nat → Int)) (x2' : Int) (x3' : Int) (x4' : Int) (x5' : Int) : Option (Int) := (if x2' < (0 : Int) then (some ((0 : Int))) else (if x4' < (0 : Int) then (some ((0 : Int))) else (if ¬ (x2' = x4') then (if x3' = (0 : Int) then (if (-2147483648 ≤ ((2 : Int) * x2') ∧ ((2 : Int) * x2') < 2147483648) then (LB_Mo_canMeet_33 fl f_p1_faceOf' f_p1_from' f_p1_pieceOf' (0 : Int) ((2 : Int) * x2') x2' x3' x4' x5') else none) else (if (-2147483648 ≤ ((2 : Int) * x2') ∧ ((2 : Int) * x2') < 2147483648) then (LB_Mo_canMeet_33 fl f_p1_faceOf' f_p1_from' f_p1_pieceOf' (1 : Int) ((2 : Int) * x2') x2' x3' x4' x5') else none)) else (some ((0 : Int))))))
theorem hB_Mo_canMeet_0 {f_p1_faceOf : (Nat → Int32)} {f_p1_faceOf' : (Nat → Int)} {f_p1_from : (Nat → Int32)} {f_p1_from' : (Nat → Int)} {f_p1_pieceOf : (Nat → Int32)} {f_p1_pieceOf' : (Nat → Int)} {x2 : Int32} {x2' : Int} {x3 : Int32} {x3' : Int} {x4 : Int32} {x4' : Int} {x5 : Int32} {x5' : Int} (fl : Nat) (e_f_p1_faceOf : f_p1_faceOf' = (t32 f_p1_faceOf)) (e_f_p1_from : f_p1_from' = (t32 f_p1_from)) (e_f_p1_pieceOf : f_p1_pieceOf' = (t32 f_p1_pieceOf)) (e_x2 : x2' = (x2).toInt) (e_x3 : x3' = (x3).toInt) (e_x4 : x4' = (x4).toInt) (e_x5 : x5' = (x5).toInt) : Ok Int32.toInt (B_Mo_canMeet_0 fl f_p1_faceOf f_p1_from f_p1_pieceOf x2 x3 x4 x5) (LB_Mo_canMeet_0 fl f_p1_faceOf' f_p1_from' f_p1_pieceOf' x2' x3' x4' x5') := by
  unfold B_Mo_canMeet_0 LB_Mo_canMeet_0
  refine lf_if (c_lt e_x2 k32_0) ?_ ?_
  · exact lf_some k32_0
  · refine lf_if (c_lt e_x4 k32_0) ?_ ?_
    · exact lf_some k32_0
    · refine lf_if (not_congr (c_eq e_x2 e_x4)) ?_ ?_
      · refine lf_if (c_eq e_x3 k32_0) ?_ ?_
        · refine lf_guard (fun gg => ?_)
          have g1 := gg
          exact (hB_Mo_canMeet_33 fl e_f_p1_faceOf e_f_p1_from e_f_p1_pieceOf k32_0 (q_mul k32_2 e_x2 g1) e_x2 e_x3 e_x4 e_x5)
        · refine lf_guard (fun gg => ?_)
          have g2 := gg
          exact (hB_Mo_canMeet_33 fl e_f_p1_faceOf e_f_p1_from e_f_p1_pieceOf k32_1 (q_mul k32_2 e_x2 g2) e_x2 e_x3 e_x4 e_x5)
      · exact lf_some k32_0
def LM_Mo_canMeet (fl : Nat) (f_p1_faceOf' : (Nat → Int)) (f_p1_from' : (Nat → Int)) (f_p1_pieceOf' : (Nat → Int)) (x2' : Int) (x3' : Int) (x4' : Int) (x5' : Int) : Option (Int) := (LB_Mo_canMeet_0 fl f_p1_faceOf' f_p1_from' f_p1_pieceOf' x2' x3' x4' x5')
theorem hm_Mo_canMeet {f_p1_faceOf : (Nat → Int32)} {f_p1_faceOf' : (Nat → Int)} {f_p1_from : (Nat → Int32)} {f_p1_from' : (Nat → Int)} {f_p1_pieceOf : (Nat → Int32)} {f_p1_pieceOf' : (Nat → Int)} {x2 : Int32} {x2' : Int} {x3 : Int32} {x3' : Int} {x4 : Int32} {x4' : Int} {x5 : Int32} {x5' : Int} (fl : Nat) (e_f_p1_faceOf : f_p1_faceOf' = (t32 f_p1_faceOf)) (e_f_p1_from : f_p1_from' = (t32 f_p1_from)) (e_f_p1_pieceOf : f_p1_pieceOf' = (t32 f_p1_pieceOf)) (e_x2 : x2' = (x2).toInt) (e_x3 : x3' = (x3).toInt) (e_x4 : x4' = (x4).toInt) (e_x5 : x5' = (x5).toInt) : Ok Int32.toInt (m_Mo_canMeet fl f_p1_faceOf f_p1_from f_p1_pieceOf x2 x3 x4 x5) (LM_Mo_canMeet fl f_p1_faceOf' f_p1_from' f_p1_pieceOf' x2' x3' x4' x5') := by
  unfold m_Mo_canMeet LM_Mo_canMeet
  exact (hB_Mo_canMeet_0 fl e_f_p1_faceOf e_f_p1_from e_f_p1_pieceOf e_x2 e_x3 e_x4 e_x5)
def LB_Di_turnPlaces_7 (fl : Nat) : Nat → Int → Int → Int → Int → (Nat → Int) → Option (Int × (Nat → Int))
  | 0, _, _, _, _, _ => none
  | nn + 1, x1', x2', x3', i_p0_shapeIsKnown', f_p0_label' => (if x2' ≤ x3' then (some (i_p0_shapeIsKnown', f_p0_label')) else (if (4 : Int) ≤ x3' then (some (i_p0_shapeIsKnown', f_p0_label')) else (if (0 ≤ ((4 : Int) * x1') ∧ ((4 : Int) * x1') < 80) then (if (0 ≤ (((4 : Int) * x1') + (1 : Int)) ∧ (((4 : Int) * x1') + (1 : Int)) < 80) then (if (0 ≤ (((4 : Int) * x1') + (2 : Int)) ∧ (((4 : Int) * x1') + (2 : Int)) < 80) then (if (0 ≤ (((4 : Int) * x1') + (3 : Int)) ∧ (((4 : Int) * x1') + (3 : Int)) < 80) then (if (-2147483648 ≤ (x3' + (1 : Int)) ∧ (x3' + (1 : Int)) < 2147483648) then (LB_Di_turnPlaces_7 fl nn x1' x2' (x3' + (1 : Int)) i_p0_shapeIsKnown' (up (up (up (up f_p0_label' (Int.toNat ((4 : Int) * x1')) (f_p0_label' (Int.toNat (((4 : Int) * x1') + (1 : Int))))) (Int.toNat (((4 : Int) * x1') + (1 : Int))) ((up f_p0_label' (Int.toNat ((4 : Int) * x1')) (f_p0_label' (Int.toNat (((4 : Int) * x1') + (1 : Int))))) (Int.toNat (((4 : Int) * x1') + (2 : Int))))) (Int.toNat (((4 : Int) * x1') + (2 : Int))) ((up (up f_p0_label' (Int.toNat ((4 : Int) * x1')) (f_p0_label' (Int.toNat (((4 : Int) * x1') + (1 : Int))))) (Int.toNat (((4 : Int) * x1') + (1 : Int))) ((up f_p0_label' (Int.toNat ((4 : Int) * x1')) (f_p0_label' (Int.toNat (((4 : Int) * x1') + (1 : Int))))) (Int.toNat (((4 : Int) * x1') + (2 : Int))))) (Int.toNat (((4 : Int) * x1') + (3 : Int))))) (Int.toNat (((4 : Int) * x1') + (3 : Int))) (f_p0_label' (Int.toNat ((4 : Int) * x1'))))) else none) else none) else none) else none) else none)))
theorem hB_Di_turnPlaces_7  (fl : Nat) : ∀ (nn : Nat) {x1 : Int32} {x1' : Int} {x2 : Int32} {x2' : Int} {x3 : Int32} {x3' : Int} {i_p0_shapeIsKnown : Int32} {i_p0_shapeIsKnown' : Int} {f_p0_label : (Nat → Int32)} {f_p0_label' : (Nat → Int)} (e_x1 : x1' = (x1).toInt) (e_x2 : x2' = (x2).toInt) (e_x3 : x3' = (x3).toInt) (e_i_p0_shapeIsKnown : i_p0_shapeIsKnown' = (i_p0_shapeIsKnown).toInt) (e_f_p0_label : f_p0_label' = (t32 f_p0_label)), Ok (fun r => (r.1.toInt, t32 r.2)) (B_Di_turnPlaces_7 fl nn x1 x2 x3 i_p0_shapeIsKnown f_p0_label) (LB_Di_turnPlaces_7 fl nn x1' x2' x3' i_p0_shapeIsKnown' f_p0_label') := by
  intro nn
  induction nn with
  | zero => intro x1 x1' x2 x2' x3 x3' i_p0_shapeIsKnown i_p0_shapeIsKnown' f_p0_label f_p0_label' e_x1 e_x2 e_x3 e_i_p0_shapeIsKnown e_f_p0_label; exact lf_none
  | succ nn ih =>
    intro x1 x1' x2 x2' x3 x3' i_p0_shapeIsKnown i_p0_shapeIsKnown' f_p0_label f_p0_label' e_x1 e_x2 e_x3 e_i_p0_shapeIsKnown e_f_p0_label
    rw [B_Di_turnPlaces_7, LB_Di_turnPlaces_7]
    refine lf_if (c_le e_x2 e_x3) ?_ ?_
    · exact lf_some (tup2 e_i_p0_shapeIsKnown e_f_p0_label)
    · refine lf_if (c_le k32_4 e_x3) ?_ ?_
      · exact lf_some (tup2 e_i_p0_shapeIsKnown e_f_p0_label)
      · refine lf_gd (fun h2 => ⟨(c_idx (n := 80) (n' := 80) rfl (q_mul k32_4 e_x1 (ri h2 (by decide)))).1 h2, ?_⟩)
        refine lf_gd (fun h4 => ⟨(c_idx (n := 80) (n' := 80) rfl (q_add (q_mul k32_4 e_x1 (ri h2 (by decide))) k32_1 (ri h4 (by decide)))).1 h4, ?_⟩)
        refine lf_pos ((c_idx (n := 80) (n' := 80) rfl (q_mul k32_4 e_x1 (ri h2 (by decide)))).1 h2) ?_
        refine lf_gd (fun h6 => ⟨(c_idx (n := 80) (n' := 80) rfl (q_add (q_mul k32_4 e_x1 (ri h2 (by decide))) k32_2 (ri h6 (by decide)))).1 h6, ?_⟩)
        refine lf_pos ((c_idx (n := 80) (n' := 80) rfl (q_add (q_mul k32_4 e_x1 (ri h2 (by decide))) k32_1 (ri h4 (by decide)))).1 h4) ?_
        refine lf_gd (fun h8 => ⟨(c_idx (n := 80) (n' := 80) rfl (q_add (q_mul k32_4 e_x1 (ri h2 (by decide))) k32_3 (ri h8 (by decide)))).1 h8, ?_⟩)
        refine lf_pos ((c_idx (n := 80) (n' := 80) rfl (q_add (q_mul k32_4 e_x1 (ri h2 (by decide))) k32_2 (ri h6 (by decide)))).1 h6) ?_
        refine lf_pos ((c_idx (n := 80) (n' := 80) rfl (q_add (q_mul k32_4 e_x1 (ri h2 (by decide))) k32_3 (ri h8 (by decide)))).1 h8) ?_
        refine lf_guard (fun gg => ?_)
        have g9 := gg
        exact (ih e_x1 e_x2 (q_add e_x3 k32_1 g9) e_i_p0_shapeIsKnown (q_upd (q_upd (q_upd (q_upd e_f_p0_label (q_clamp (q_mul k32_4 e_x1 (ri h2 (by decide)))) (q_get e_f_p0_label (q_clamp (q_add (q_mul k32_4 e_x1 (ri h2 (by decide))) k32_1 (ri h4 (by decide)))))) (q_clamp (q_add (q_mul k32_4 e_x1 (ri h2 (by decide))) k32_1 (ri h4 (by decide)))) (q_get (q_upd e_f_p0_label (q_clamp (q_mul k32_4 e_x1 (ri h2 (by decide)))) (q_get e_f_p0_label (q_clamp (q_add (q_mul k32_4 e_x1 (ri h2 (by decide))) k32_1 (ri h4 (by decide)))))) (q_clamp (q_add (q_mul k32_4 e_x1 (ri h2 (by decide))) k32_2 (ri h6 (by decide)))))) (q_clamp (q_add (q_mul k32_4 e_x1 (ri h2 (by decide))) k32_2 (ri h6 (by decide)))) (q_get (q_upd (q_upd e_f_p0_label (q_clamp (q_mul k32_4 e_x1 (ri h2 (by decide)))) (q_get e_f_p0_label (q_clamp (q_add (q_mul k32_4 e_x1 (ri h2 (by decide))) k32_1 (ri h4 (by decide)))))) (q_clamp (q_add (q_mul k32_4 e_x1 (ri h2 (by decide))) k32_1 (ri h4 (by decide)))) (q_get (q_upd e_f_p0_label (q_clamp (q_mul k32_4 e_x1 (ri h2 (by decide)))) (q_get e_f_p0_label (q_clamp (q_add (q_mul k32_4 e_x1 (ri h2 (by decide))) k32_1 (ri h4 (by decide)))))) (q_clamp (q_add (q_mul k32_4 e_x1 (ri h2 (by decide))) k32_2 (ri h6 (by decide)))))) (q_clamp (q_add (q_mul k32_4 e_x1 (ri h2 (by decide))) k32_3 (ri h8 (by decide)))))) (q_clamp (q_add (q_mul k32_4 e_x1 (ri h2 (by decide))) k32_3 (ri h8 (by decide)))) (q_get e_f_p0_label (q_clamp (q_mul k32_4 e_x1 (ri h2 (by decide)))))))
def LB_Di_turnPlaces_0 (fl : Nat) (x1' : Int) (x2' : Int) (i_p0_shapeIsKnown' : Int) (f_p0_label' : (Nat → Int)) : Option (Int × (Nat → Int)) := (LB_Di_turnPlaces_7 fl fl x1' x2' (0 : Int) (0 : Int) f_p0_label')
theorem hB_Di_turnPlaces_0 {x1 : Int32} {x1' : Int} {x2 : Int32} {x2' : Int} {i_p0_shapeIsKnown : Int32} {i_p0_shapeIsKnown' : Int} {f_p0_label : (Nat → Int32)} {f_p0_label' : (Nat → Int)} (fl : Nat) (e_x1 : x1' = (x1).toInt) (e_x2 : x2' = (x2).toInt) (e_i_p0_shapeIsKnown : i_p0_shapeIsKnown' = (i_p0_shapeIsKnown).toInt) (e_f_p0_label : f_p0_label' = (t32 f_p0_label)) : Ok (fun r => (r.1.toInt, t32 r.2)) (B_Di_turnPlaces_0 fl x1 x2 i_p0_shapeIsKnown f_p0_label) (LB_Di_turnPlaces_0 fl x1' x2' i_p0_shapeIsKnown' f_p0_label') := by
  unfold B_Di_turnPlaces_0 LB_Di_turnPlaces_0
  exact (hB_Di_turnPlaces_7 fl fl e_x1 e_x2 k32_0 k32_0 e_f_p0_label)
def LM_Di_turnPlaces (fl : Nat) (x1' : Int) (x2' : Int) (i_p0_shapeIsKnown' : Int) (f_p0_label' : (Nat → Int)) : Option (Int × (Nat → Int)) := (LB_Di_turnPlaces_0 fl x1' x2' i_p0_shapeIsKnown' f_p0_label')
theorem hm_Di_turnPlaces {x1 : Int32} {x1' : Int} {x2 : Int32} {x2' : Int} {i_p0_shapeIsKnown : Int32} {i_p0_shapeIsKnown' : Int} {f_p0_label : (Nat → Int32)} {f_p0_label' : (Nat → Int)} (fl : Nat) (e_x1 : x1' = (x1).toInt) (e_x2 : x2' = (x2).toInt) (e_i_p0_shapeIsKnown : i_p0_shapeIsKnown' = (i_p0_shapeIsKnown).toInt) (e_f_p0_label : f_p0_label' = (t32 f_p0_label)) : Ok (fun r => (r.1.toInt, t32 r.2)) (m_Di_turnPlaces fl x1 x2 i_p0_shapeIsKnown f_p0_label) (LM_Di_turnPlaces fl x1' x2' i_p0_shapeIsKnown' f_p0_label') := by
  unfold m_Di_turnPlaces LM_Di_turnPlaces
  exact (hB_Di_turnPlaces_0 fl e_x1 e_x2 e_i_p0_shapeIsKnown e_f_p0_label)
def LB_Mo_reverse_117 (fl : Nat) (i_p1_components' : Int) (f_p1_componentOf' : (Nat → Int)) (f_p1_edgeAt' : (Nat → Int)) (i_p2_count' : Int) (i_p2_circles' : Int) (kb_22' : (Int → Int → Int → (Nat → Int) → (Nat → Int) → Option (Int × Int × (Nat → Int) × (Nat → Int)))) (x3' : Int) (x4' : Int) (x5' : Int) (x6' : Int) (i_p2_shapeIsKnown' : Int) (f_p2_label' : (Nat → Int)) (f_p2_sign' : (Nat → Int)) : Option (Int × Int × (Nat → Int) × (Nat → Int)) := (if (-2147483648 ≤ (x4' + (1 : Int)) ∧ (x4' + (1 : Int)) < 2147483648) then (kb_22' x3' (x4' + (1 : Int)) i_p2_shapeIsKnown' f_p2_label' f_p2_sign') else none)
theorem hB_Mo_reverse_117 {i_p1_components : Int32} {i_p1_components' : Int} {f_p1_componentOf : (Nat → Int32)} {f_p1_componentOf' : (Nat → Int)} {f_p1_edgeAt : (Nat → Int32)} {f_p1_edgeAt' : (Nat → Int)} {i_p2_count : Int32} {i_p2_count' : Int} {i_p2_circles : Int32} {i_p2_circles' : Int} {kb_22 : (Int32 → Int32 → Int32 → (Nat → Int32) → (Nat → Int32) → Option (Int32 × Int32 × (Nat → Int32) × (Nat → Int32)))} {kb_22' : (Int → Int → Int → (Nat → Int) → (Nat → Int) → Option (Int × Int × (Nat → Int) × (Nat → Int)))} {x3 : Int32} {x3' : Int} {x4 : Int32} {x4' : Int} {x5 : Int32} {x5' : Int} {x6 : Int32} {x6' : Int} {i_p2_shapeIsKnown : Int32} {i_p2_shapeIsKnown' : Int} {f_p2_label : (Nat → Int32)} {f_p2_label' : (Nat → Int)} {f_p2_sign : (Nat → Int32)} {f_p2_sign' : (Nat → Int)} (fl : Nat) (e_i_p1_components : i_p1_components' = (i_p1_components).toInt) (e_f_p1_componentOf : f_p1_componentOf' = (t32 f_p1_componentOf)) (e_f_p1_edgeAt : f_p1_edgeAt' = (t32 f_p1_edgeAt)) (e_i_p2_count : i_p2_count' = (i_p2_count).toInt) (e_i_p2_circles : i_p2_circles' = (i_p2_circles).toInt) (k_kb_22 : ∀ {z0 : Int32} {z0' : Int} {z1 : Int32} {z1' : Int} {z2 : Int32} {z2' : Int} {z3 : (Nat → Int32)} {z3' : (Nat → Int)} {z4 : (Nat → Int32)} {z4' : (Nat → Int)} (e0 : z0' = (z0).toInt) (e1 : z1' = (z1).toInt) (e2 : z2' = (z2).toInt) (e3 : z3' = (t32 z3)) (e4 : z4' = (t32 z4)), Ok (fun r => (r.1.toInt, r.2.1.toInt, t32 r.2.2.1, t32 r.2.2.2)) (kb_22 z0 z1 z2 z3 z4) (kb_22' z0' z1' z2' z3' z4')) (e_x3 : x3' = (x3).toInt) (e_x4 : x4' = (x4).toInt) (e_x5 : x5' = (x5).toInt) (e_x6 : x6' = (x6).toInt) (e_i_p2_shapeIsKnown : i_p2_shapeIsKnown' = (i_p2_shapeIsKnown).toInt) (e_f_p2_label : f_p2_label' = (t32 f_p2_label)) (e_f_p2_sign : f_p2_sign' = (t32 f_p2_sign)) : Ok (fun r => (r.1.toInt, r.2.1.toInt, t32 r.2.2.1, t32 r.2.2.2)) (B_Mo_reverse_117 fl i_p1_components f_p1_componentOf f_p1_edgeAt i_p2_count i_p2_circles kb_22 x3 x4 x5 x6 i_p2_shapeIsKnown f_p2_label f_p2_sign) (LB_Mo_reverse_117 fl i_p1_components' f_p1_componentOf' f_p1_edgeAt' i_p2_count' i_p2_circles' kb_22' x3' x4' x5' x6' i_p2_shapeIsKnown' f_p2_label' f_p2_sign') := by
  unfold B_Mo_reverse_117 LB_Mo_reverse_117
  refine lf_guard (fun gg => ?_)
  have g1 := gg
  exact (k_kb_22 e_x3 (q_add e_x4 k32_1 g1) e_i_p2_shapeIsKnown e_f_p2_label e_f_p2_sign)
def LB_Mo_reverse_95 (fl : Nat) (i_p1_components' : Int) (f_p1_componentOf' : (Nat → Int)) (f_p1_edgeAt' : (Nat → Int)) (i_p2_count' : Int) (i_p2_circles' : Int) (kb_22' : (Int → Int → Int → (Nat → Int) → (Nat → Int) → Option (Int × Int × (Nat → Int) × (Nat → Int)))) (x3' : Int) (x4' : Int) (x5' : Int) (x6' : Int) (i_p2_shapeIsKnown' : Int) (f_p2_label' : (Nat → Int)) (f_p2_sign' : (Nat → Int)) : Option (Int × Int × (Nat → Int) × (Nat → Int)) := (if x5' = x6' then (LB_Mo_reverse_117 fl i_p1_components' f_p1_componentOf' f_p1_edgeAt' i_p2_count' i_p2_circles' kb_22' x3' x4' x5' x6' i_p2_shapeIsKnown' f_p2_label' f_p2_sign') else (if (0 ≤ x4' ∧ x4' < 20) then (if (-2147483648 ≤ (-(f_p2_sign' (Int.toNat x4'))) ∧ (-(f_p2_sign' (Int.toNat x4'))) < 2147483648) then (LB_Mo_reverse_117 fl i_p1_components' f_p1_componentOf' f_p1_edgeAt' i_p2_count' i_p2_circles' kb_22' x3' x4' x5' x6' i_p2_shapeIsKnown' f_p2_label' (up f_p2_sign' (Int.toNat x4') (-(f_p2_sign' (Int.toNat x4'))))) else none) else none))
theorem hB_Mo_reverse_95 {i_p1_components : Int32} {i_p1_components' : Int} {f_p1_componentOf : (Nat → Int32)} {f_p1_componentOf' : (Nat → Int)} {f_p1_edgeAt : (Nat → Int32)} {f_p1_edgeAt' : (Nat → Int)} {i_p2_count : Int32} {i_p2_count' : Int} {i_p2_circles : Int32} {i_p2_circles' : Int} {kb_22 : (Int32 → Int32 → Int32 → (Nat → Int32) → (Nat → Int32) → Option (Int32 × Int32 × (Nat → Int32) × (Nat → Int32)))} {kb_22' : (Int → Int → Int → (Nat → Int) → (Nat → Int) → Option (Int × Int × (Nat → Int) × (Nat → Int)))} {x3 : Int32} {x3' : Int} {x4 : Int32} {x4' : Int} {x5 : Int32} {x5' : Int} {x6 : Int32} {x6' : Int} {i_p2_shapeIsKnown : Int32} {i_p2_shapeIsKnown' : Int} {f_p2_label : (Nat → Int32)} {f_p2_label' : (Nat → Int)} {f_p2_sign : (Nat → Int32)} {f_p2_sign' : (Nat → Int)} (fl : Nat) (e_i_p1_components : i_p1_components' = (i_p1_components).toInt) (e_f_p1_componentOf : f_p1_componentOf' = (t32 f_p1_componentOf)) (e_f_p1_edgeAt : f_p1_edgeAt' = (t32 f_p1_edgeAt)) (e_i_p2_count : i_p2_count' = (i_p2_count).toInt) (e_i_p2_circles : i_p2_circles' = (i_p2_circles).toInt) (k_kb_22 : ∀ {z0 : Int32} {z0' : Int} {z1 : Int32} {z1' : Int} {z2 : Int32} {z2' : Int} {z3 : (Nat → Int32)} {z3' : (Nat → Int)} {z4 : (Nat → Int32)} {z4' : (Nat → Int)} (e0 : z0' = (z0).toInt) (e1 : z1' = (z1).toInt) (e2 : z2' = (z2).toInt) (e3 : z3' = (t32 z3)) (e4 : z4' = (t32 z4)), Ok (fun r => (r.1.toInt, r.2.1.toInt, t32 r.2.2.1, t32 r.2.2.2)) (kb_22 z0 z1 z2 z3 z4) (kb_22' z0' z1' z2' z3' z4')) (e_x3 : x3' = (x3).toInt) (e_x4 : x4' = (x4).toInt) (e_x5 : x5' = (x5).toInt) (e_x6 : x6' = (x6).toInt) (e_i_p2_shapeIsKnown : i_p2_shapeIsKnown' = (i_p2_shapeIsKnown).toInt) (e_f_p2_label : f_p2_label' = (t32 f_p2_label)) (e_f_p2_sign : f_p2_sign' = (t32 f_p2_sign)) : Ok (fun r => (r.1.toInt, r.2.1.toInt, t32 r.2.2.1, t32 r.2.2.2)) (B_Mo_reverse_95 fl i_p1_components f_p1_componentOf f_p1_edgeAt i_p2_count i_p2_circles kb_22 x3 x4 x5 x6 i_p2_shapeIsKnown f_p2_label f_p2_sign) (LB_Mo_reverse_95 fl i_p1_components' f_p1_componentOf' f_p1_edgeAt' i_p2_count' i_p2_circles' kb_22' x3' x4' x5' x6' i_p2_shapeIsKnown' f_p2_label' f_p2_sign') := by
  unfold B_Mo_reverse_95 LB_Mo_reverse_95
  refine lf_if (c_eq e_x5 e_x6) ?_ ?_
  · exact (hB_Mo_reverse_117 fl e_i_p1_components e_f_p1_componentOf e_f_p1_edgeAt e_i_p2_count e_i_p2_circles k_kb_22 e_x3 e_x4 e_x5 e_x6 e_i_p2_shapeIsKnown e_f_p2_label e_f_p2_sign)
  · refine lf_gd (fun h1 => ⟨(c_idx (n := 20) (n' := 20) rfl e_x4).1 h1, ?_⟩)
    refine lf_pos ((c_idx (n := 20) (n' := 20) rfl e_x4).1 h1) ?_
    refine lf_guard (fun gg => ?_)
    have g2 := gg
    exact (hB_Mo_reverse_117 fl e_i_p1_components e_f_p1_componentOf e_f_p1_edgeAt e_i_p2_count e_i_p2_circles k_kb_22 e_x3 e_x4 e_x5 e_x6 e_i_p2_shapeIsKnown e_f_p2_label (q_upd e_f_p2_sign (q_clamp e_x4) (q_neg (q_get e_f_p2_sign (q_clamp e_x4)) g2)))
def LB_Mo_reverse_81 (fl : Nat) (i_p1_components' : Int) (f_p1_componentOf' : (Nat → Int)) (f_p1_edgeAt' : (Nat → Int)) (i_p2_count' : Int) (i_p2_circles' : Int) (kb_22' : (Int → Int → Int → (Nat → Int) → (Nat → Int) → Option (Int × Int × (Nat → Int) × (Nat → Int)))) (s0' : Int) (x3' : Int) (x4' : Int) (x5' : Int) (i_p2_shapeIsKnown' : Int) (f_p2_label' : (Nat → Int)) (f_p2_sign' : (Nat → Int)) : Option (Int × Int × (Nat → Int) × (Nat → Int)) := (if x5' = (0 : Int) then (LB_Mo_reverse_95 fl i_p1_components' f_p1_componentOf' f_p1_edgeAt' i_p2_count' i_p2_circles' kb_22' x3' x4' x5' s0' i_p2_shapeIsKnown' f_p2_label' f_p2_sign') else ((LM_Di_turnPlaces fl x4' (2 : Int) i_p2_shapeIsKnown' f_p2_label').bind fun o0 => (LB_Mo_reverse_95 fl i_p1_components' f_p1_componentOf' f_p1_edgeAt' i_p2_count' i_p2_circles' kb_22' x3' x4' x5' s0' o0.1 o0.2 f_p2_sign')))
theorem hB_Mo_reverse_81 {i_p1_components : Int32} {i_p1_components' : Int} {f_p1_componentOf : (Nat → Int32)} {f_p1_componentOf' : (Nat → Int)} {f_p1_edgeAt : (Nat → Int32)} {f_p1_edgeAt' : (Nat → Int)} {i_p2_count : Int32} {i_p2_count' : Int} {i_p2_circles : Int32} {i_p2_circles' : Int} {kb_22 : (Int32 → Int32 → Int32 → (Nat → Int32) → (Nat → Int32) → Option (Int32 × Int32 × (Nat → Int32) × (Nat → Int32)))} {kb_22' : (Int → Int → Int → (Nat → Int) → (Nat → Int) → Option (Int × Int × (Nat → Int) × (Nat → Int)))} {s0 : Int32} {s0' : Int} {x3 : Int32} {x3' : Int} {x4 : Int32} {x4' : Int} {x5 : Int32} {x5' : Int} {i_p2_shapeIsKnown : Int32} {i_p2_shapeIsKnown' : Int} {f_p2_label : (Nat → Int32)} {f_p2_label' : (Nat → Int)} {f_p2_sign : (Nat → Int32)} {f_p2_sign' : (Nat → Int)} (fl : Nat) (e_i_p1_components : i_p1_components' = (i_p1_components).toInt) (e_f_p1_componentOf : f_p1_componentOf' = (t32 f_p1_componentOf)) (e_f_p1_edgeAt : f_p1_edgeAt' = (t32 f_p1_edgeAt)) (e_i_p2_count : i_p2_count' = (i_p2_count).toInt) (e_i_p2_circles : i_p2_circles' = (i_p2_circles).toInt) (k_kb_22 : ∀ {z0 : Int32} {z0' : Int} {z1 : Int32} {z1' : Int} {z2 : Int32} {z2' : Int} {z3 : (Nat → Int32)} {z3' : (Nat → Int)} {z4 : (Nat → Int32)} {z4' : (Nat → Int)} (e0 : z0' = (z0).toInt) (e1 : z1' = (z1).toInt) (e2 : z2' = (z2).toInt) (e3 : z3' = (t32 z3)) (e4 : z4' = (t32 z4)), Ok (fun r => (r.1.toInt, r.2.1.toInt, t32 r.2.2.1, t32 r.2.2.2)) (kb_22 z0 z1 z2 z3 z4) (kb_22' z0' z1' z2' z3' z4')) (e_s0 : s0' = (s0).toInt) (e_x3 : x3' = (x3).toInt) (e_x4 : x4' = (x4).toInt) (e_x5 : x5' = (x5).toInt) (e_i_p2_shapeIsKnown : i_p2_shapeIsKnown' = (i_p2_shapeIsKnown).toInt) (e_f_p2_label : f_p2_label' = (t32 f_p2_label)) (e_f_p2_sign : f_p2_sign' = (t32 f_p2_sign)) : Ok (fun r => (r.1.toInt, r.2.1.toInt, t32 r.2.2.1, t32 r.2.2.2)) (B_Mo_reverse_81 fl i_p1_components f_p1_componentOf f_p1_edgeAt i_p2_count i_p2_circles kb_22 s0 x3 x4 x5 i_p2_shapeIsKnown f_p2_label f_p2_sign) (LB_Mo_reverse_81 fl i_p1_components' f_p1_componentOf' f_p1_edgeAt' i_p2_count' i_p2_circles' kb_22' s0' x3' x4' x5' i_p2_shapeIsKnown' f_p2_label' f_p2_sign') := by
  unfold B_Mo_reverse_81 LB_Mo_reverse_81
  refine lf_if (c_eq e_x5 k32_0) ?_ ?_
  · exact (hB_Mo_reverse_95 fl e_i_p1_components e_f_p1_componentOf e_f_p1_edgeAt e_i_p2_count e_i_p2_circles k_kb_22 e_x3 e_x4 e_x5 e_s0 e_i_p2_shapeIsKnown e_f_p2_label e_f_p2_sign)
  · refine lf_bind (hm_Di_turnPlaces fl e_x4 k32_2 e_i_p2_shapeIsKnown e_f_p2_label) (fun o0 => ?_)
    exact (hB_Mo_reverse_95 fl e_i_p1_components e_f_p1_componentOf e_f_p1_edgeAt e_i_p2_count e_i_p2_circles k_kb_22 e_x3 e_x4 e_x5 e_s0 (rfl : (o0.1).toInt = (o0.1).toInt) (rfl : (t32 o0.2) = (t32 o0.2)) e_f_p2_sign)
def LB_Mo_reverse_54 (fl : Nat) (i_p1_components' : Int) (f_p1_componentOf' : (Nat → Int)) (f_p1_edgeAt' : (Nat → Int)) (i_p2_count' : Int) (i_p2_circles' : Int) (kb_22' : (Int → Int → Int → (Nat → Int) → (Nat → Int) → Option (Int × Int × (Nat → Int) × (Nat → Int)))) (s0' : Int) (x3' : Int) (x4' : Int) (i_p2_shapeIsKnown' : Int) (f_p2_label' : (Nat → Int)) (f_p2_sign' : (Nat → Int)) : Option (Int × Int × (Nat → Int) × (Nat → Int)) := (if (-2147483648 ≤ ((4 : Int) * x4') ∧ ((4 : Int) * x4') < 2147483648) then (if (0 ≤ (((4 : Int) * x4') + (1 : Int)) ∧ (((4 : Int) * x4') + (1 : Int)) < 80) then (if (0 ≤ (f_p1_edgeAt' (Int.toNat (((4 : Int) * x4') + (1 : Int)))) ∧ (f_p1_edgeAt' (Int.toNat (((4 : Int) * x4') + (1 : Int)))) < 40) then (if ¬ ((f_p1_componentOf' (Int.toNat (f_p1_edgeAt' (Int.toNat (((4 : Int) * x4') + (1 : Int)))))) = x3') then (LB_Mo_reverse_81 fl i_p1_components' f_p1_componentOf' f_p1_edgeAt' i_p2_count' i_p2_circles' kb_22' (0 : Int) x3' x4' s0' i_p2_shapeIsKnown' f_p2_label' f_p2_sign') else (LB_Mo_reverse_81 fl i_p1_components' f_p1_componentOf' f_p1_edgeAt' i_p2_count' i_p2_circles' kb_22' (1 : Int) x3' x4' s0' i_p2_shapeIsKnown' f_p2_label' f_p2_sign')) else none) else none) else none)
theorem hB_Mo_reverse_54 {i_p1_components : Int32} {i_p1_components' : Int} {f_p1_componentOf : (Nat → Int32)} {f_p1_componentOf' : (Nat → Int)} {f_p1_edgeAt : (Nat → Int32)} {f_p1_edgeAt' : (Nat → Int)} {i_p2_count : Int32} {i_p2_count' : Int} {i_p2_circles : Int32} {i_p2_circles' : Int} {kb_22 : (Int32 → Int32 → Int32 → (Nat → Int32) → (Nat → Int32) → Option (Int32 × Int32 × (Nat → Int32) × (Nat → Int32)))} {kb_22' : (Int → Int → Int → (Nat → Int) → (Nat → Int) → Option (Int × Int × (Nat → Int) × (Nat → Int)))} {s0 : Int32} {s0' : Int} {x3 : Int32} {x3' : Int} {x4 : Int32} {x4' : Int} {i_p2_shapeIsKnown : Int32} {i_p2_shapeIsKnown' : Int} {f_p2_label : (Nat → Int32)} {f_p2_label' : (Nat → Int)} {f_p2_sign : (Nat → Int32)} {f_p2_sign' : (Nat → Int)} (fl : Nat) (e_i_p1_components : i_p1_components' = (i_p1_components).toInt) (e_f_p1_componentOf : f_p1_componentOf' = (t32 f_p1_componentOf)) (e_f_p1_edgeAt : f_p1_edgeAt' = (t32 f_p1_edgeAt)) (e_i_p2_count : i_p2_count' = (i_p2_count).toInt) (e_i_p2_circles : i_p2_circles' = (i_p2_circles).toInt) (k_kb_22 : ∀ {z0 : Int32} {z0' : Int} {z1 : Int32} {z1' : Int} {z2 : Int32} {z2' : Int} {z3 : (Nat → Int32)} {z3' : (Nat → Int)} {z4 : (Nat → Int32)} {z4' : (Nat → Int)} (e0 : z0' = (z0).toInt) (e1 : z1' = (z1).toInt) (e2 : z2' = (z2).toInt) (e3 : z3' = (t32 z3)) (e4 : z4' = (t32 z4)), Ok (fun r => (r.1.toInt, r.2.1.toInt, t32 r.2.2.1, t32 r.2.2.2)) (kb_22 z0 z1 z2 z3 z4) (kb_22' z0' z1' z2' z3' z4')) (e_s0 : s0' = (s0).toInt) (e_x3 : x3' = (x3).toInt) (e_x4 : x4' = (x4).toInt) (e_i_p2_shapeIsKnown : i_p2_shapeIsKnown' = (i_p2_shapeIsKnown).toInt) (e_f_p2_label : f_p2_label' = (t32 f_p2_label)) (e_f_p2_sign : f_p2_sign' = (t32 f_p2_sign)) : Ok (fun r => (r.1.toInt, r.2.1.toInt, t32 r.2.2.1, t32 r.2.2.2)) (B_Mo_reverse_54 fl i_p1_components f_p1_componentOf f_p1_edgeAt i_p2_count i_p2_circles kb_22 s0 x3 x4 i_p2_shapeIsKnown f_p2_label f_p2_sign) (LB_Mo_reverse_54 fl i_p1_components' f_p1_componentOf' f_p1_edgeAt' i_p2_count' i_p2_circles' kb_22' s0' x3' x4' i_p2_shapeIsKnown' f_p2_label' f_p2_sign') := by
  unfold B_Mo_reverse_54 LB_Mo_reverse_54
  refine lf_guard (fun gg => ?_)
  have g1 := gg
  refine lf_gd (fun h3 => ⟨(c_idx (n := 80) (n' := 80) rfl (q_add (q_mul k32_4 e_x4 g1) k32_1 (ri h3 (by decide)))).1 h3, ?_⟩)
  refine lf_gd (fun h4 => ⟨(c_idx (n := 40) (n' := 40) rfl (q_get e_f_p1_edgeAt (q_clamp (q_add (q_mul k32_4 e_x4 g1) k32_1 (ri h3 (by decide)))))).1 h4, ?_⟩)
  refine lf_if (not_congr (c_eq (q_get e_f_p1_componentOf (q_clamp (q_get e_f_p1_edgeAt (q_clamp (q_add (q_mul k32_4 e_x4 g1) k32_1 (ri h3 (by decide))))))) e_x3)) ?_ ?_
  · exact (hB_Mo_reverse_81 fl e_i_p1_components e_f_p1_componentOf e_f_p1_edgeAt e_i_p2_count e_i_p2_circles k_kb_22 k32_0 e_x3 e_x4 e_s0 e_i_p2_shapeIsKnown e_f_p2_label e_f_p2_sign)
  · exact (hB_Mo_reverse_81 fl e_i_p1_components e_f_p1_componentOf e_f_p1_edgeAt e_i_p2_count e_i_p2_circles k_kb_22 k32_1 e_x3 e_x4 e_s0 e_i_p2_shapeIsKnown e_f_p2_label e_f_p2_sign)
def LB_Mo_reverse_22 (fl : Nat) (i_p1_components' : Int) (f_p1_componentOf' : (Nat → Int)) (f_p1_edgeAt' : (Nat → Int)) (i_p2_count' : Int) (i_p2_circles' : Int) : Nat → Int → Int → Int → (Nat → Int) → (Nat → Int) → Option (Int × Int × (Nat → Int) × (Nat → Int))
  | 0, _, _, _, _, _ => none
  | nn + 1, x3', x4', i_p2_shapeIsKnown', f_p2_label', f_p2_sign' => (if i_p2_count' ≤ x4' then (some ((1 : Int), i_p2_shapeIsKnown', f_p2_label', f_p2_sign')) else (if (0 ≤ ((4 : Int) * x4') ∧ ((4 : Int) * x4') < 80) then (if (0 ≤ (f_p1_edgeAt' (Int.toNat ((4 : Int) * x4'))) ∧ (f_p1_edgeAt' (Int.toNat ((4 : Int) * x4'))) < 40) then (if ¬ ((f_p1_componentOf' (Int.toNat (f_p1_edgeAt' (Int.toNat ((4 : Int) * x4'))))) = x3') then (LB_Mo_reverse_54 fl i_p1_components' f_p1_componentOf' f_p1_edgeAt' i_p2_count' i_p2_circles' (LB_Mo_reverse_22 fl i_p1_components' f_p1_componentOf' f_p1_edgeAt' i_p2_count' i_p2_circles' nn) (0 : Int) x3' x4' i_p2_shapeIsKnown' f_p2_label' f_p2_sign') else (LB_Mo_reverse_54 fl i_p1_components' f_p1_componentOf' f_p1_edgeAt' i_p2_count' i_p2_circles' (LB_Mo_reverse_22 fl i_p1_components' f_p1_componentOf' f_p1_edgeAt' i_p2_count' i_p2_circles' nn) (1 : Int) x3' x4' i_p2_shapeIsKnown' f_p2_label' f_p2_sign')) else none) else none))
theorem hB_Mo_reverse_22 {i_p1_components : Int32} {i_p1_components' : Int} {f_p1_componentOf : (Nat → Int32)} {f_p1_componentOf' : (Nat → Int)} {f_p1_edgeAt : (Nat → Int32)} {f_p1_edgeAt' : (Nat → Int)} {i_p2_count : Int32} {i_p2_count' : Int} {i_p2_circles : Int32} {i_p2_circles' : Int} (fl : Nat) (e_i_p1_components : i_p1_components' = (i_p1_components).toInt) (e_f_p1_componentOf : f_p1_componentOf' = (t32 f_p1_componentOf)) (e_f_p1_edgeAt : f_p1_edgeAt' = (t32 f_p1_edgeAt)) (e_i_p2_count : i_p2_count' = (i_p2_count).toInt) (e_i_p2_circles : i_p2_circles' = (i_p2_circles).toInt) : ∀ (nn : Nat) {x3 : Int32} {x3' : Int} {x4 : Int32} {x4' : Int} {i_p2_shapeIsKnown : Int32} {i_p2_shapeIsKnown' : Int} {f_p2_label : (Nat → Int32)} {f_p2_label' : (Nat → Int)} {f_p2_sign : (Nat → Int32)} {f_p2_sign' : (Nat → Int)} (e_x3 : x3' = (x3).toInt) (e_x4 : x4' = (x4).toInt) (e_i_p2_shapeIsKnown : i_p2_shapeIsKnown' = (i_p2_shapeIsKnown).toInt) (e_f_p2_label : f_p2_label' = (t32 f_p2_label)) (e_f_p2_sign : f_p2_sign' = (t32 f_p2_sign)), Ok (fun r => (r.1.toInt, r.2.1.toInt, t32 r.2.2.1, t32 r.2.2.2)) (B_Mo_reverse_22 fl i_p1_components f_p1_componentOf f_p1_edgeAt i_p2_count i_p2_circles nn x3 x4 i_p2_shapeIsKnown f_p2_label f_p2_sign) (LB_Mo_reverse_22 fl i_p1_components' f_p1_componentOf' f_p1_edgeAt' i_p2_count' i_p2_circles' nn x3' x4' i_p2_shapeIsKnown' f_p2_label' f_p2_sign') := by
  intro nn
  induction nn with
  | zero => intro x3 x3' x4 x4' i_p2_shapeIsKnown i_p2_shapeIsKnown' f_p2_label f_p2_label' f_p2_sign f_p2_sign' e_x3 e_x4 e_i_p2_shapeIsKnown e_f_p2_label e_f_p2_sign; exact lf_none
  | succ nn ih =>
    intro x3 x3' x4 x4' i_p2_shapeIsKnown i_p2_shapeIsKnown' f_p2_label f_p2_label' f_p2_sign f_p2_sign' e_x3 e_x4 e_i_p2_shapeIsKnown e_f_p2_label e_f_p2_sign
    rw [B_Mo_reverse_22, LB_Mo_reverse_22]
    refine lf_if (c_le e_i_p2_count e_x4) ?_ ?_
    · exact lf_some (tup4 k32_1 e_i_p2_shapeIsKnown e_f_p2_label e_f_p2_sign)
    · refine lf_gd (fun h2 => ⟨(c_idx (n := 80) (n' := 80) rfl (q_mul k32_4 e_x4 (ri h2 (by decide)))).1 h2, ?_⟩)
      refine lf_gd (fun h3 => ⟨(c_idx (n := 40) (n' := 40) rfl (q_get e_f_p1_edgeAt (q_clamp (q_mul k32_4 e_x4 (ri h2 (by decide)))))).1 h3, ?_⟩)
      refine lf_if (not_congr (c_eq (q_get e_f_p1_componentOf (q_clamp (q_get e_f_p1_edgeAt (q_clamp (q_mul k32_4 e_x4 (ri h2 (by decide))))))) e_x3)) ?_ ?_
      · exact (hB_Mo_reverse_54 fl e_i_p1_components e_f_p1_componentOf e_f_p1_edgeAt e_i_p2_count e_i_p2_circles ih k32_0 e_x3 e_x4 e_i_p2_shapeIsKnown e_f_p2_label e_f_p2_sign)
      · exact (hB_Mo_reverse_54 fl e_i_p1_components e_f_p1_componentOf e_f_p1_edgeAt e_i_p2_count e_i_p2_circles ih k32_1 e_x3 e_x4 e_i_p2_shapeIsKnown e_f_p2_label e_f_p2_sign)
def LB_Mo_reverse_0 (fl : Nat) (i_p1_components' : Int) (f_p1_componentOf' : (Nat → Int)) (f_p1_edgeAt' : (Nat → Int)) (i_p2_count' : Int) (i_p2_circles' : Int) (x3' : Int) (i_p2_shapeIsKnown' : Int) (f_p2_label' : (Nat → Int)) (f_p2_sign' : (Nat → Int)) : Option (Int × Int × (Nat → Int) × (Nat → Int)) := (if x3' < (0 : Int) then (some ((0 : Int), i_p2_shapeIsKnown', f_p2_label', f_p2_sign')) else (if (-2147483648 ≤ (i_p1_components' + i_p2_circles') ∧ (i_p1_components' + i_p2_circles') < 2147483648) then (if x3' < (i_p1_components' + i_p2_circles') then (LB_Mo_reverse_22 fl i_p1_components' f_p1_componentOf' f_p1_edgeAt' i_p2_count' i_p2_circles' fl x3' (0 : Int) i_p2_shapeIsKnown' f_p2_label' f_p2_sign') else (some ((0 : Int), i_p2_shapeIsKnown', f_p2_label', f_p2_sign'))) else none))
theorem hB_Mo_reverse_0 {i_p1_components : Int32} {i_p1_components' : Int} {f_p1_componentOf : (Nat → Int32)} {f_p1_componentOf' : (Nat → Int)} {f_p1_edgeAt : (Nat → Int32)} {f_p1_edgeAt' : (Nat → Int)} {i_p2_count : Int32} {i_p2_count' : Int} {i_p2_circles : Int32} {i_p2_circles' : Int} {x3 : Int32} {x3' : Int} {i_p2_shapeIsKnown : Int32} {i_p2_shapeIsKnown' : Int} {f_p2_label : (Nat → Int32)} {f_p2_label' : (Nat → Int)} {f_p2_sign : (Nat → Int32)} {f_p2_sign' : (Nat → Int)} (fl : Nat) (e_i_p1_components : i_p1_components' = (i_p1_components).toInt) (e_f_p1_componentOf : f_p1_componentOf' = (t32 f_p1_componentOf)) (e_f_p1_edgeAt : f_p1_edgeAt' = (t32 f_p1_edgeAt)) (e_i_p2_count : i_p2_count' = (i_p2_count).toInt) (e_i_p2_circles : i_p2_circles' = (i_p2_circles).toInt) (e_x3 : x3' = (x3).toInt) (e_i_p2_shapeIsKnown : i_p2_shapeIsKnown' = (i_p2_shapeIsKnown).toInt) (e_f_p2_label : f_p2_label' = (t32 f_p2_label)) (e_f_p2_sign : f_p2_sign' = (t32 f_p2_sign)) : Ok (fun r => (r.1.toInt, r.2.1.toInt, t32 r.2.2.1, t32 r.2.2.2)) (B_Mo_reverse_0 fl i_p1_components f_p1_componentOf f_p1_edgeAt i_p2_count i_p2_circles x3 i_p2_shapeIsKnown f_p2_label f_p2_sign) (LB_Mo_reverse_0 fl i_p1_components' f_p1_componentOf' f_p1_edgeAt' i_p2_count' i_p2_circles' x3' i_p2_shapeIsKnown' f_p2_label' f_p2_sign') := by
  unfold B_Mo_reverse_0 LB_Mo_reverse_0
  refine lf_if (c_lt e_x3 k32_0) ?_ ?_
  · exact lf_some (tup4 k32_0 e_i_p2_shapeIsKnown e_f_p2_label e_f_p2_sign)
  · refine lf_guard (fun gg => ?_)
    have g1 := gg
    refine lf_if (c_lt e_x3 (q_add e_i_p1_components e_i_p2_circles g1)) ?_ ?_
    · exact (hB_Mo_reverse_22 fl e_i_p1_components e_f_p1_componentOf e_f_p1_edgeAt e_i_p2_count e_i_p2_circles fl e_x3 k32_0 e_i_p2_shapeIsKnown e_f_p2_label e_f_p2_sign)
    · exact lf_some (tup4 k32_0 e_i_p2_shapeIsKnown e_f_p2_label e_f_p2_sign)
def LM_Mo_reverse (fl : Nat) (i_p1_components' : Int) (f_p1_componentOf' : (Nat → Int)) (f_p1_edgeAt' : (Nat → Int)) (i_p2_count' : Int) (i_p2_circles' : Int) (x3' : Int) (i_p2_shapeIsKnown' : Int) (f_p2_label' : (Nat → Int)) (f_p2_sign' : (Nat → Int)) : Option (Int × Int × (Nat → Int) × (Nat → Int)) := (LB_Mo_reverse_0 fl i_p1_components' f_p1_componentOf' f_p1_edgeAt' i_p2_count' i_p2_circles' x3' i_p2_shapeIsKnown' f_p2_label' f_p2_sign')
theorem hm_Mo_reverse {i_p1_components : Int32} {i_p1_components' : Int} {f_p1_componentOf : (Nat → Int32)} {f_p1_componentOf' : (Nat → Int)} {f_p1_edgeAt : (Nat → Int32)} {f_p1_edgeAt' : (Nat → Int)} {i_p2_count : Int32} {i_p2_count' : Int} {i_p2_circles : Int32} {i_p2_circles' : Int} {x3 : Int32} {x3' : Int} {i_p2_shapeIsKnown : Int32} {i_p2_shapeIsKnown' : Int} {f_p2_label : (Nat → Int32)} {f_p2_label' : (Nat → Int)} {f_p2_sign : (Nat → Int32)} {f_p2_sign' : (Nat → Int)} (fl : Nat) (e_i_p1_components : i_p1_components' = (i_p1_components).toInt) (e_f_p1_componentOf : f_p1_componentOf' = (t32 f_p1_componentOf)) (e_f_p1_edgeAt : f_p1_edgeAt' = (t32 f_p1_edgeAt)) (e_i_p2_count : i_p2_count' = (i_p2_count).toInt) (e_i_p2_circles : i_p2_circles' = (i_p2_circles).toInt) (e_x3 : x3' = (x3).toInt) (e_i_p2_shapeIsKnown : i_p2_shapeIsKnown' = (i_p2_shapeIsKnown).toInt) (e_f_p2_label : f_p2_label' = (t32 f_p2_label)) (e_f_p2_sign : f_p2_sign' = (t32 f_p2_sign)) : Ok (fun r => (r.1.toInt, r.2.1.toInt, t32 r.2.2.1, t32 r.2.2.2)) (m_Mo_reverse fl i_p1_components f_p1_componentOf f_p1_edgeAt i_p2_count i_p2_circles x3 i_p2_shapeIsKnown f_p2_label f_p2_sign) (LM_Mo_reverse fl i_p1_components' f_p1_componentOf' f_p1_edgeAt' i_p2_count' i_p2_circles' x3' i_p2_shapeIsKnown' f_p2_label' f_p2_sign') := by
  unfold m_Mo_reverse LM_Mo_reverse
  exact (hB_Mo_reverse_0 fl e_i_p1_components e_f_p1_componentOf e_f_p1_edgeAt e_i_p2_count e_i_p2_circles e_x3 e_i_p2_shapeIsKnown e_f_p2_label e_f_p2_sign)
def LB_Di_smooth_0 (fl : Nat) (x1' : Int) (i_p0_count' : Int) (i_p0_circles' : Int) (i_p0_shapeIsKnown' : Int) (f_p0_label' : (Nat → Int)) (f_p0_sign' : (Nat → Int)) : Option (Int × Int × Int × Int × (Nat → Int) × (Nat → Int)) := (if x1' < (0 : Int) then (some ((0 : Int), i_p0_count', i_p0_circles', i_p0_shapeIsKnown', f_p0_label', f_p0_sign')) else (if x1' < i_p0_count' then ((LM_Di_moveToEnd fl i_p0_count' x1' i_p0_shapeIsKnown' f_p0_label' f_p0_sign').bind fun o0 => ((LM_Di_upperOut fl o0.2.2.2 o0.1).bind fun o1 => (if (-2147483648 ≤ ((4 : Int) * o0.1) ∧ ((4 : Int) * o0.1) < 2147483648) then ((LM_Di_joinAt fl i_p0_count' ((4 : Int) * o0.1) o1 i_p0_circles' o0.2.1 o0.2.2.1).bind fun o2 => ((LM_Di_upperIn fl o0.2.2.2 o0.1).bind fun o3 => (if (-2147483648 ≤ (((4 : Int) * o0.1) + (2 : Int)) ∧ (((4 : Int) * o0.1) + (2 : Int)) < 2147483648) then ((LM_Di_joinAt fl i_p0_count' o3 (((4 : Int) * o0.1) + (2 : Int)) o2.1 o2.2.1 o2.2.2).bind fun o4 => (if (20 : Int) < o4.1 then (if (-2147483648 ≤ (i_p0_count' - (1 : Int)) ∧ (i_p0_count' - (1 : Int)) < 2147483648) then (some ((0 : Int), (i_p0_count' - (1 : Int)), o4.1, o4.2.1, o4.2.2, o0.2.2.2)) else none) else (if (-2147483648 ≤ (i_p0_count' - (1 : Int)) ∧ (i_p0_count' - (1 : Int)) < 2147483648) then (some ((1 : Int), (i_p0_count' - (1 : Int)), o4.1, o4.2.1, o4.2.2, o0.2.2.2)) else none))) else none))) else none))) else (some ((0 : Int), i_p0_count', i_p0_circles', i_p0_shapeIsKnown', f_p0_label', f_p0_sign'))))
theorem hB_Di_smooth_0 {x1 : Int32} {x1' : Int} {i_p0_count : Int32} {i_p0_count' : Int} {i_p0_circles : Int32} {i_p0_circles' : Int} {i_p0_shapeIsKnown : Int32} {i_p0_shapeIsKnown' : Int} {f_p0_label : (Nat → Int32)} {f_p0_label' : (Nat → Int)} {f_p0_sign : (Nat → Int32)} {f_p0_sign' : (Nat → Int)} (fl : Nat) (e_x1 : x1' = (x1).toInt) (e_i_p0_count : i_p0_count' = (i_p0_count).toInt) (e_i_p0_circles : i_p0_circles' = (i_p0_circles).toInt) (e_i_p0_shapeIsKnown : i_p0_shapeIsKnown' = (i_p0_shapeIsKnown).toInt) (e_f_p0_label : f_p0_label' = (t32 f_p0_label)) (e_f_p0_sign : f_p0_sign' = (t32 f_p0_sign)) : Ok (fun r => (r.1.toInt, r.2.1.toInt, r.2.2.1.toInt, r.2.2.2.1.toInt, t32 r.2.2.2.2.1, t32 r.2.2.2.2.2)) (B_Di_smooth_0 fl x1 i_p0_count i_p0_circles i_p0_shapeIsKnown f_p0_label f_p0_sign) (LB_Di_smooth_0 fl x1' i_p0_count' i_p0_circles' i_p0_shapeIsKnown' f_p0_label' f_p0_sign') := by
  unfold B_Di_smooth_0 LB_Di_smooth_0
  refine lf_if (c_lt e_x1 k32_0) ?_ ?_
  · exact lf_some (tup6 k32_0 e_i_p0_count e_i_p0_circles e_i_p0_shapeIsKnown e_f_p0_label e_f_p0_sign)
  · refine lf_if (c_lt e_x1 e_i_p0_count) ?_ ?_
    · refine lf_bind (hm_Di_moveToEnd fl e_i_p0_count e_x1 e_i_p0_shapeIsKnown e_f_p0_label e_f_p0_sign) (fun o0 => ?_)
      refine lf_bind (hm_Di_upperOut fl (rfl : (t32 o0.2.2.2) = (t32 o0.2.2.2)) (rfl : (o0.1).toInt = (o0.1).toInt)) (fun o1 => ?_)
      refine lf_guard (fun gg => ?_)
      have g1 := gg
      refine lf_bind (hm_Di_joinAt fl e_i_p0_count (q_mul k32_4 (rfl : (o0.1).toInt = (o0.1).toInt) g1) (rfl : (o1).toInt = (o1).toInt) e_i_p0_circles (rfl : (o0.2.1).toInt = (o0.2.1).toInt) (rfl : (t32 o0.2.2.1) = (t32 o0.2.2.1))) (fun o2 => ?_)
      refine lf_bind (hm_Di_upperIn fl (rfl : (t32 o0.2.2.2) = (t32 o0.2.2.2)) (rfl : (o0.1).toInt = (o0.1).toInt)) (fun o3 => ?_)
      refine lf_guard (fun gg => ?_)
      have g2 := gg
      refine lf_bind (hm_Di_joinAt fl e_i_p0_count (rfl : (o3).toInt = (o3).toInt) (q_add (q_mul k32_4 (rfl : (o0.1).toInt = (o0.1).toInt) g1) k32_2 g2) (rfl : (o2.1).toInt = (o2.1).toInt) (rfl : (o2.2.1).toInt = (o2.2.1).toInt) (rfl : (t32 o2.2.2) = (t32 o2.2.2))) (fun o4 => ?_)
      refine lf_if (c_lt k32_20 (rfl : (o4.1).toInt = (o4.1).toInt)) ?_ ?_
      · refine lf_guard (fun gg => ?_)
        have g3 := gg
        exact lf_some (tup6 k32_0 (q_sub e_i_p0_count k32_1 g3) (rfl : (o4.1).toInt = (o4.1).toInt) (rfl : (o4.2.1).toInt = (o4.2.1).toInt) (rfl : (t32 o4.2.2) = (t32 o4.2.2)) (rfl : (t32 o0.2.2.2) = (t32 o0.2.2.2)))
      · refine lf_guard (fun gg => ?_)
        have g4 := gg
        exact lf_some (tup6 k32_1 (q_sub e_i_p0_count k32_1 g4) (rfl : (o4.1).toInt = (o4.1).toInt) (rfl : (o4.2.1).toInt = (o4.2.1).toInt) (rfl : (t32 o4.2.2) = (t32 o4.2.2)) (rfl : (t32 o0.2.2.2) = (t32 o0.2.2.2)))
    · exact lf_some (tup6 k32_0 e_i_p0_count e_i_p0_circles e_i_p0_shapeIsKnown e_f_p0_label e_f_p0_sign)
def LM_Di_smooth (fl : Nat) (x1' : Int) (i_p0_count' : Int) (i_p0_circles' : Int) (i_p0_shapeIsKnown' : Int) (f_p0_label' : (Nat → Int)) (f_p0_sign' : (Nat → Int)) : Option (Int × Int × Int × Int × (Nat → Int) × (Nat → Int)) := (LB_Di_smooth_0 fl x1' i_p0_count' i_p0_circles' i_p0_shapeIsKnown' f_p0_label' f_p0_sign')
theorem hm_Di_smooth {x1 : Int32} {x1' : Int} {i_p0_count : Int32} {i_p0_count' : Int} {i_p0_circles : Int32} {i_p0_circles' : Int} {i_p0_shapeIsKnown : Int32} {i_p0_shapeIsKnown' : Int} {f_p0_label : (Nat → Int32)} {f_p0_label' : (Nat → Int)} {f_p0_sign : (Nat → Int32)} {f_p0_sign' : (Nat → Int)} (fl : Nat) (e_x1 : x1' = (x1).toInt) (e_i_p0_count : i_p0_count' = (i_p0_count).toInt) (e_i_p0_circles : i_p0_circles' = (i_p0_circles).toInt) (e_i_p0_shapeIsKnown : i_p0_shapeIsKnown' = (i_p0_shapeIsKnown).toInt) (e_f_p0_label : f_p0_label' = (t32 f_p0_label)) (e_f_p0_sign : f_p0_sign' = (t32 f_p0_sign)) : Ok (fun r => (r.1.toInt, r.2.1.toInt, r.2.2.1.toInt, r.2.2.2.1.toInt, t32 r.2.2.2.2.1, t32 r.2.2.2.2.2)) (m_Di_smooth fl x1 i_p0_count i_p0_circles i_p0_shapeIsKnown f_p0_label f_p0_sign) (LM_Di_smooth fl x1' i_p0_count' i_p0_circles' i_p0_shapeIsKnown' f_p0_label' f_p0_sign') := by
  unfold m_Di_smooth LM_Di_smooth
  exact (hB_Di_smooth_0 fl e_x1 e_i_p0_count e_i_p0_circles e_i_p0_shapeIsKnown e_f_p0_label e_f_p0_sign)
def LB_Mo_renumber_103 (fl : Nat) (i_p1_edges' : Int) (f_p1_componentOf' : (Nat → Int)) (f_p1_edgeAt' : (Nat → Int)) (f_p1_from' : (Nat → Int)) (f_p1_to' : (Nat → Int)) (kb_8' : (Int → Int → Int → (Nat → Int) → Option (Int × (Nat → Int)))) (x3' : Int) (x4' : Int) (x5' : Int) (f_p2_label' : (Nat → Int)) : Option (Int × (Nat → Int)) := (if (-2147483648 ≤ (x5' + (1 : Int)) ∧ (x5' + (1 : Int)) < 2147483648) then (kb_8' x3' x4' (x5' + (1 : Int)) f_p2_label') else none)
theorem hB_Mo_renumber_103 {i_p1_edges : Int32} {i_p1_edges' : Int} {f_p1_componentOf : (Nat → Int32)} {f_p1_componentOf' : (Nat → Int)} {f_p1_edgeAt : (Nat → Int32)} {f_p1_edgeAt' : (Nat → Int)} {f_p1_from : (Nat → Int32)} {f_p1_from' : (Nat → Int)} {f_p1_to : (Nat → Int32)} {f_p1_to' : (Nat → Int)} {kb_8 : (Int32 → Int32 → Int32 → (Nat → Int32) → Option (Int32 × (Nat → Int32)))} {kb_8' : (Int → Int → Int → (Nat → Int) → Option (Int × (Nat → Int)))} {x3 : Int32} {x3' : Int} {x4 : Int32} {x4' : Int} {x5 : Int32} {x5' : Int} {f_p2_label : (Nat → Int32)} {f_p2_label' : (Nat → Int)} (fl : Nat) (e_i_p1_edges : i_p1_edges' = (i_p1_edges).toInt) (e_f_p1_componentOf : f_p1_componentOf' = (t32 f_p1_componentOf)) (e_f_p1_edgeAt : f_p1_edgeAt' = (t32 f_p1_edgeAt)) (e_f_p1_from : f_p1_from' = (t32 f_p1_from)) (e_f_p1_to : f_p1_to' = (t32 f_p1_to)) (k_kb_8 : ∀ {z0 : Int32} {z0' : Int} {z1 : Int32} {z1' : Int} {z2 : Int32} {z2' : Int} {z3 : (Nat → Int32)} {z3' : (Nat → Int)} (e0 : z0' = (z0).toInt) (e1 : z1' = (z1).toInt) (e2 : z2' = (z2).toInt) (e3 : z3' = (t32 z3)), Ok (fun r => (r.1.toInt, t32 r.2)) (kb_8 z0 z1 z2 z3) (kb_8' z0' z1' z2' z3')) (e_x3 : x3' = (x3).toInt) (e_x4 : x4' = (x4).toInt) (e_x5 : x5' = (x5).toInt) (e_f_p2_label : f_p2_label' = (t32 f_p2_label)) : Ok (fun r => (r.1.toInt, t32 r.2)) (B_Mo_renumber_103 fl i_p1_edges f_p1_componentOf f_p1_edgeAt f_p1_from f_p1_to kb_8 x3 x4 x5 f_p2_label) (LB_Mo_renumber_103 fl i_p1_edges' f_p1_componentOf' f_p1_edgeAt' f_p1_from' f_p1_to' kb_8' x3' x4' x5' f_p2_label') := by
  unfold B_Mo_renumber_103 LB_Mo_renumber_103
  refine lf_guard (fun gg => ?_)
  have g1 := gg
  exact (k_kb_8 e_x3 e_x4 (q_add e_x5 k32_1 g1) e_f_p2_label)
def LB_Mo_renumber_100 (fl : Nat) (i_p1_edges' : Int) (f_p1_componentOf' : (Nat → Int)) (f_p1_edgeAt' : (Nat → Int)) (f_p1_from' : (Nat → Int)) (f_p1_to' : (Nat → Int)) (kb_8' : (Int → Int → Int → (Nat → Int) → Option (Int × (Nat → Int)))) (x3' : Int) (x4' : Int) (x5' : Int) (x6' : Int) (x7' : Int) (f_p2_label' : (Nat → Int)) : Option (Int × (Nat → Int)) := (if (-2147483648 ≤ (x4' + (1 : Int)) ∧ (x4' + (1 : Int)) < 2147483648) then (LB_Mo_renumber_103 fl i_p1_edges' f_p1_componentOf' f_p1_edgeAt' f_p1_from' f_p1_to' kb_8' x3' (x4' + (1 : Int)) x5' f_p2_label') else none)
theorem hB_Mo_renumber_100 {i_p1_edges : Int32} {i_p1_edges' : Int} {f_p1_componentOf : (Nat → Int32)} {f_p1_componentOf' : (Nat → Int)} {f_p1_edgeAt : (Nat → Int32)} {f_p1_edgeAt' : (Nat → Int)} {f_p1_from : (Nat → Int32)} {f_p1_from' : (Nat → Int)} {f_p1_to : (Nat → Int32)} {f_p1_to' : (Nat → Int)} {kb_8 : (Int32 → Int32 → Int32 → (Nat → Int32) → Option (Int32 × (Nat → Int32)))} {kb_8' : (Int → Int → Int → (Nat → Int) → Option (Int × (Nat → Int)))} {x3 : Int32} {x3' : Int} {x4 : Int32} {x4' : Int} {x5 : Int32} {x5' : Int} {x6 : Int32} {x6' : Int} {x7 : Int32} {x7' : Int} {f_p2_label : (Nat → Int32)} {f_p2_label' : (Nat → Int)} (fl : Nat) (e_i_p1_edges : i_p1_edges' = (i_p1_edges).toInt) (e_f_p1_componentOf : f_p1_componentOf' = (t32 f_p1_componentOf)) (e_f_p1_edgeAt : f_p1_edgeAt' = (t32 f_p1_edgeAt)) (e_f_p1_from : f_p1_from' = (t32 f_p1_from)) (e_f_p1_to : f_p1_to' = (t32 f_p1_to)) (k_kb_8 : ∀ {z0 : Int32} {z0' : Int} {z1 : Int32} {z1' : Int} {z2 : Int32} {z2' : Int} {z3 : (Nat → Int32)} {z3' : (Nat → Int)} (e0 : z0' = (z0).toInt) (e1 : z1' = (z1).toInt) (e2 : z2' = (z2).toInt) (e3 : z3' = (t32 z3)), Ok (fun r => (r.1.toInt, t32 r.2)) (kb_8 z0 z1 z2 z3) (kb_8' z0' z1' z2' z3')) (e_x3 : x3' = (x3).toInt) (e_x4 : x4' = (x4).toInt) (e_x5 : x5' = (x5).toInt) (e_x6 : x6' = (x6).toInt) (e_x7 : x7' = (x7).toInt) (e_f_p2_label : f_p2_label' = (t32 f_p2_label)) : Ok (fun r => (r.1.toInt, t32 r.2)) (B_Mo_renumber_100 fl i_p1_edges f_p1_componentOf f_p1_edgeAt f_p1_from f_p1_to kb_8 x3 x4 x5 x6 x7 f_p2_label) (LB_Mo_renumber_100 fl i_p1_edges' f_p1_componentOf' f_p1_edgeAt' f_p1_from' f_p1_to' kb_8' x3' x4' x5' x6' x7' f_p2_label') := by
  unfold B_Mo_renumber_100 LB_Mo_renumber_100
  refine lf_guard (fun gg => ?_)
  have g1 := gg
  exact (hB_Mo_renumber_103 fl e_i_p1_edges e_f_p1_componentOf e_f_p1_edgeAt e_f_p1_from e_f_p1_to k_kb_8 e_x3 (q_add e_x4 k32_1 g1) e_x5 e_f_p2_label)
def LB_Mo_renumber_57 (fl : Nat) (i_p1_edges' : Int) (f_p1_componentOf' : (Nat → Int)) (f_p1_edgeAt' : (Nat → Int)) (f_p1_from' : (Nat → Int)) (f_p1_to' : (Nat → Int)) (kb_8' : (Int → Int → Int → (Nat → Int) → Option (Int × (Nat → Int)))) (kb_36' : (Int → Int → Int → Int → Int → (Nat → Int) → Option (Int × (Nat → Int)))) (x3' : Int) (x4' : Int) (x5' : Int) (x6' : Int) (x7' : Int) (f_p2_label' : (Nat → Int)) : Option (Int × (Nat → Int)) := (if (0 ≤ x6' ∧ x6' < 40) then (if (0 ≤ (f_p1_from' (Int.toNat x6')) ∧ (f_p1_from' (Int.toNat x6')) < 80) then (if (0 ≤ (f_p1_to' (Int.toNat x6')) ∧ (f_p1_to' (Int.toNat x6')) < 80) then ((LM_Sh_nextEdge fl f_p1_edgeAt' f_p1_to' x6').bind fun o0 => (if (-2147483648 ≤ (x3' + (1 : Int)) ∧ (x3' + (1 : Int)) < 2147483648) ∧ (-2147483648 ≤ (x7' + (1 : Int)) ∧ (x7' + (1 : Int)) < 2147483648) then (kb_36' (x3' + (1 : Int)) x4' x5' o0 (x7' + (1 : Int)) (up (up f_p2_label' (Int.toNat (f_p1_from' (Int.toNat x6'))) x3') (Int.toNat (f_p1_to' (Int.toNat x6'))) x3')) else none)) else none) else none) else none)
theorem hB_Mo_renumber_57 {i_p1_edges : Int32} {i_p1_edges' : Int} {f_p1_componentOf : (Nat → Int32)} {f_p1_componentOf' : (Nat → Int)} {f_p1_edgeAt : (Nat → Int32)} {f_p1_edgeAt' : (Nat → Int)} {f_p1_from : (Nat → Int32)} {f_p1_from' : (Nat → Int)} {f_p1_to : (Nat → Int32)} {f_p1_to' : (Nat → Int)} {kb_8 : (Int32 → Int32 → Int32 → (Nat → Int32) → Option (Int32 × (Nat → Int32)))} {kb_8' : (Int → Int → Int → (Nat → Int) → Option (Int × (Nat → Int)))} {kb_36 : (Int32 → Int32 → Int32 → Int32 → Int32 → (Nat → Int32) → Option (Int32 × (Nat → Int32)))} {kb_36' : (Int → Int → Int → Int → Int → (Nat → Int) → Option (Int × (Nat → Int)))} {x3 : Int32} {x3' : Int} {x4 : Int32} {x4' : Int} {x5 : Int32} {x5' : Int} {x6 : Int32} {x6' : Int} {x7 : Int32} {x7' : Int} {f_p2_label : (Nat → Int32)} {f_p2_label' : (Nat → Int)} (fl : Nat) (e_i_p1_edges : i_p1_edges' = (i_p1_edges).toInt) (e_f_p1_componentOf : f_p1_componentOf' = (t32 f_p1_componentOf)) (e_f_p1_edgeAt : f_p1_edgeAt' = (t32 f_p1_edgeAt)) (e_f_p1_from : f_p1_from' = (t32 f_p1_from)) (e_f_p1_to : f_p1_to' = (t32 f_p1_to)) (k_kb_8 : ∀ {z0 : Int32} {z0' : Int} {z1 : Int32} {z1' : Int} {z2 : Int32} {z2' : Int} {z3 : (Nat → Int32)} {z3' : (Nat → Int)} (e0 : z0' = (z0).toInt) (e1 : z1' = (z1).toInt) (e2 : z2' = (z2).toInt) (e3 : z3' = (t32 z3)), Ok (fun r => (r.1.toInt, t32 r.2)) (kb_8 z0 z1 z2 z3) (kb_8' z0' z1' z2' z3')) (k_kb_36 : ∀ {z0 : Int32} {z0' : Int} {z1 : Int32} {z1' : Int} {z2 : Int32} {z2' : Int} {z3 : Int32} {z3' : Int} {z4 : Int32} {z4' : Int} {z5 : (Nat → Int32)} {z5' : (Nat → Int)} (e0 : z0' = (z0).toInt) (e1 : z1' = (z1).toInt) (e2 : z2' = (z2).toInt) (e3 : z3' = (z3).toInt) (e4 : z4' = (z4).toInt) (e5 : z5' = (t32 z5)), Ok (fun r => (r.1.toInt, t32 r.2)) (kb_36 z0 z1 z2 z3 z4 z5) (kb_36' z0' z1' z2' z3' z4' z5')) (e_x3 : x3' = (x3).toInt) (e_x4 : x4' = (x4).toInt) (e_x5 : x5' = (x5).toInt) (e_x6 : x6' = (x6).toInt) (e_x7 : x7' = (x7).toInt) (e_f_p2_label : f_p2_label' = (t32 f_p2_label)) : Ok (fun r => (r.1.toInt, t32 r.2)) (B_Mo_renumber_57 fl i_p1_edges f_p1_componentOf f_p1_edgeAt f_p1_from f_p1_to kb_8 kb_36 x3 x4 x5 x6 x7 f_p2_label) (LB_Mo_renumber_57 fl i_p1_edges' f_p1_componentOf' f_p1_edgeAt' f_p1_from' f_p1_to' kb_8' kb_36' x3' x4' x5' x6' x7' f_p2_label') := by
  unfold B_Mo_renumber_57 LB_Mo_renumber_57
  refine lf_gd (fun h1 => ⟨(c_idx (n := 40) (n' := 40) rfl e_x6).1 h1, ?_⟩)
  refine lf_gd (fun h2 => ⟨(c_idx (n := 80) (n' := 80) rfl (q_get e_f_p1_from (q_clamp e_x6))).1 h2, ?_⟩)
  refine lf_pos ((c_idx (n := 40) (n' := 40) rfl e_x6).1 h1) ?_
  refine lf_gd (fun h3 => ⟨(c_idx (n := 80) (n' := 80) rfl (q_get e_f_p1_to (q_clamp e_x6))).1 h3, ?_⟩)
  refine lf_bind (hm_Sh_nextEdge fl e_f_p1_edgeAt e_f_p1_to e_x6) (fun o0 => ?_)
  refine lf_guard (fun gg => ?_)
  obtain ⟨g4, g5⟩ := gg
  exact (k_kb_36 (q_add e_x3 k32_1 g4) e_x4 e_x5 (rfl : (o0).toInt = (o0).toInt) (q_add e_x7 k32_1 g5) (q_upd (q_upd e_f_p2_label (q_clamp (q_get e_f_p1_from (q_clamp e_x6))) e_x3) (q_clamp (q_get e_f_p1_to (q_clamp e_x6))) e_x3))
def LB_Mo_renumber_36 (fl : Nat) (i_p1_edges' : Int) (f_p1_componentOf' : (Nat → Int)) (f_p1_edgeAt' : (Nat → Int)) (f_p1_from' : (Nat → Int)) (f_p1_to' : (Nat → Int)) (kb_8' : (Int → Int → Int → (Nat → Int) → Option (Int × (Nat → Int)))) : Nat → Int → Int → Int → Int → Int → (Nat → Int) → Option (Int × (Nat → Int))
  | 0, _, _, _, _, _, _ => none
  | nn + 1, x3', x4', x5', x6', x7', f_p2_label' => (if i_p1_edges' ≤ x7' then (LB_Mo_renumber_100 fl i_p1_edges' f_p1_componentOf' f_p1_edgeAt' f_p1_from' f_p1_to' kb_8' x3' x4' x5' x6' x7' f_p2_label') else (if x7' = (0 : Int) then (LB_Mo_renumber_57 fl i_p1_edges' f_p1_componentOf' f_p1_edgeAt' f_p1_from' f_p1_to' kb_8' (LB_Mo_renumber_36 fl i_p1_edges' f_p1_componentOf' f_p1_edgeAt' f_p1_from' f_p1_to' kb_8' nn) x3' x4' x5' x6' x7' f_p2_label') else (if x6' = x5' then (LB_Mo_renumber_100 fl i_p1_edges' f_p1_componentOf' f_p1_edgeAt' f_p1_from' f_p1_to' kb_8' x3' x4' x5' x6' x7' f_p2_label') else (LB_Mo_renumber_57 fl i_p1_edges' f_p1_componentOf' f_p1_edgeAt' f_p1_from' f_p1_to' kb_8' (LB_Mo_renumber_36 fl i_p1_edges' f_p1_componentOf' f_p1_edgeAt' f_p1_from' f_p1_to' kb_8' nn) x3' x4' x5' x6' x7' f_p2_label'))))
theorem hB_Mo_renumber_36 {i_p1_edges : Int32} {i_p1_edges' : Int} {f_p1_componentOf : (Nat → Int32)} {f_p1_componentOf' : (Nat → Int)} {f_p1_edgeAt : (Nat → Int32)} {f_p1_edgeAt' : (Nat → Int)} {f_p1_from : (Nat → Int32)} {f_p1_from' : (Nat → Int)} {f_p1_to : (Nat → Int32)} {f_p1_to' : (Nat → Int)} {kb_8 : (Int32 → Int32 → Int32 → (Nat → Int32) → Option (Int32 × (Nat → Int32)))} {kb_8' : (Int → Int → Int → (Nat → Int) → Option (Int × (Nat → Int)))} (fl : Nat) (e_i_p1_edges : i_p1_edges' = (i_p1_edges).toInt) (e_f_p1_componentOf : f_p1_componentOf' = (t32 f_p1_componentOf)) (e_f_p1_edgeAt : f_p1_edgeAt' = (t32 f_p1_edgeAt)) (e_f_p1_from : f_p1_from' = (t32 f_p1_from)) (e_f_p1_to : f_p1_to' = (t32 f_p1_to)) (k_kb_8 : ∀ {z0 : Int32} {z0' : Int} {z1 : Int32} {z1' : Int} {z2 : Int32} {z2' : Int} {z3 : (Nat → Int32)} {z3' : (Nat → Int)} (e0 : z0' = (z0).toInt) (e1 : z1' = (z1).toInt) (e2 : z2' = (z2).toInt) (e3 : z3' = (t32 z3)), Ok (fun r => (r.1.toInt, t32 r.2)) (kb_8 z0 z1 z2 z3) (kb_8' z0' z1' z2' z3')) : ∀ (nn : Nat) {x3 : Int32} {x3' : Int} {x4 : Int32} {x4' : Int} {x5 : Int32} {x5' : Int} {x6 : Int32} {x6' : Int} {x7 : Int32} {x7' : Int} {f_p2_label : (Nat → Int32)} {f_p2_label' : (Nat → Int)} (e_x3 : x3' = (x3).toInt) (e_x4 : x4' = (x4).toInt) (e_x5 : x5' = (x5).toInt) (e_x6 : x6' = (x6).toInt) (e_x7 : x7' = (x7).toInt) (e_f_p2_label : f_p2_label' = (t32 f_p2_label)), Ok (fun r => (r.1.toInt, t32 r.2)) (B_Mo_renumber_36 fl i_p1_edges f_p1_componentOf f_p1_edgeAt f_p1_from f_p1_to kb_8 nn x3 x4 x5 x6 x7 f_p2_label) (LB_Mo_renumber_36 fl i_p1_edges' f_p1_componentOf' f_p1_edgeAt' f_p1_from' f_p1_to' kb_8' nn x3' x4' x5' x6' x7' f_p2_label') := by
  intro nn
  induction nn with
  | zero => intro x3 x3' x4 x4' x5 x5' x6 x6' x7 x7' f_p2_label f_p2_label' e_x3 e_x4 e_x5 e_x6 e_x7 e_f_p2_label; exact lf_none
  | succ nn ih =>
    intro x3 x3' x4 x4' x5 x5' x6 x6' x7 x7' f_p2_label f_p2_label' e_x3 e_x4 e_x5 e_x6 e_x7 e_f_p2_label
    rw [B_Mo_renumber_36, LB_Mo_renumber_36]
    refine lf_if (c_le e_i_p1_edges e_x7) ?_ ?_
    · exact (hB_Mo_renumber_100 fl e_i_p1_edges e_f_p1_componentOf e_f_p1_edgeAt e_f_p1_from e_f_p1_to k_kb_8 e_x3 e_x4 e_x5 e_x6 e_x7 e_f_p2_label)
    · refine lf_if (c_eq e_x7 k32_0) ?_ ?_
      · exact (hB_Mo_renumber_57 fl e_i_p1_edges e_f_p1_componentOf e_f_p1_edgeAt e_f_p1_from e_f_p1_to k_kb_8 ih e_x3 e_x4 e_x5 e_x6 e_x7 e_f_p2_label)
      · refine lf_if (c_eq e_x6 e_x5) ?_ ?_
        · exact (hB_Mo_renumber_100 fl e_i_p1_edges e_f_p1_componentOf e_f_p1_edgeAt e_f_p1_from e_f_p1_to k_kb_8 e_x3 e_x4 e_x5 e_x6 e_x7 e_f_p2_label)
        · exact (hB_Mo_renumber_57 fl e_i_p1_edges e_f_p1_componentOf e_f_p1_edgeAt e_f_p1_from e_f_p1_to k_kb_8 ih e_x3 e_x4 e_x5 e_x6 e_x7 e_f_p2_label)
def LB_Mo_renumber_8 (fl : Nat) (i_p1_edges' : Int) (f_p1_componentOf' : (Nat → Int)) (f_p1_edgeAt' : (Nat → Int)) (f_p1_from' : (Nat → Int)) (f_p1_to' : (Nat → Int)) : Nat → Int → Int → Int → (Nat → Int) → Option (Int × (Nat → Int))
  | 0, _, _, _, _ => none
  | nn + 1, x3', x4', x5', f_p2_label' => (if i_p1_edges' ≤ x5' then (some ((1 : Int), f_p2_label')) else (if (0 ≤ x5' ∧ x5' < 40) then (if ¬ ((f_p1_componentOf' (Int.toNat x5')) = x4') then (LB_Mo_renumber_103 fl i_p1_edges' f_p1_componentOf' f_p1_edgeAt' f_p1_from' f_p1_to' (LB_Mo_renumber_8 fl i_p1_edges' f_p1_componentOf' f_p1_edgeAt' f_p1_from' f_p1_to' nn) x3' x4' x5' f_p2_label') else (LB_Mo_renumber_36 fl i_p1_edges' f_p1_componentOf' f_p1_edgeAt' f_p1_from' f_p1_to' (LB_Mo_renumber_8 fl i_p1_edges' f_p1_componentOf' f_p1_edgeAt' f_p1_from' f_p1_to' nn) fl x3' x4' x5' x5' (0 : Int) f_p2_label')) else none))
theorem hB_Mo_renumber_8 {i_p1_edges : Int32} {i_p1_edges' : Int} {f_p1_componentOf : (Nat → Int32)} {f_p1_componentOf' : (Nat → Int)} {f_p1_edgeAt : (Nat → Int32)} {f_p1_edgeAt' : (Nat → Int)} {f_p1_from : (Nat → Int32)} {f_p1_from' : (Nat → Int)} {f_p1_to : (Nat → Int32)} {f_p1_to' : (Nat → Int)} (fl : Nat) (e_i_p1_edges : i_p1_edges' = (i_p1_edges).toInt) (e_f_p1_componentOf : f_p1_componentOf' = (t32 f_p1_componentOf)) (e_f_p1_edgeAt : f_p1_edgeAt' = (t32 f_p1_edgeAt)) (e_f_p1_from : f_p1_from' = (t32 f_p1_from)) (e_f_p1_to : f_p1_to' = (t32 f_p1_to)) : ∀ (nn : Nat) {x3 : Int32} {x3' : Int} {x4 : Int32} {x4' : Int} {x5 : Int32} {x5' : Int} {f_p2_label : (Nat → Int32)} {f_p2_label' : (Nat → Int)} (e_x3 : x3' = (x3).toInt) (e_x4 : x4' = (x4).toInt) (e_x5 : x5' = (x5).toInt) (e_f_p2_label : f_p2_label' = (t32 f_p2_label)), Ok (fun r => (r.1.toInt, t32 r.2)) (B_Mo_renumber_8 fl i_p1_edges f_p1_componentOf f_p1_edgeAt f_p1_from f_p1_to nn x3 x4 x5 f_p2_label) (LB_Mo_renumber_8 fl i_p1_edges' f_p1_componentOf' f_p1_edgeAt' f_p1_from' f_p1_to' nn x3' x4' x5' f_p2_label') := by
  intro nn
  induction nn with
  | zero => intro x3 x3' x4 x4' x5 x5' f_p2_label f_p2_label' e_x3 e_x4 e_x5 e_f_p2_label; exact lf_none
  | succ nn ih =>
    intro x3 x3' x4 x4' x5 x5' f_p2_label f_p2_label' e_x3 e_x4 e_x5 e_f_p2_label
    rw [B_Mo_renumber_8, LB_Mo_renumber_8]
    refine lf_if (c_le e_i_p1_edges e_x5) ?_ ?_
    · exact lf_some (tup2 k32_1 e_f_p2_label)
    · refine lf_gd (fun h1 => ⟨(c_idx (n := 40) (n' := 40) rfl e_x5).1 h1, ?_⟩)
      refine lf_if (not_congr (c_eq (q_get e_f_p1_componentOf (q_clamp e_x5)) e_x4)) ?_ ?_
      · exact (hB_Mo_renumber_103 fl e_i_p1_edges e_f_p1_componentOf e_f_p1_edgeAt e_f_p1_from e_f_p1_to ih e_x3 e_x4 e_x5 e_f_p2_label)
      · exact (hB_Mo_renumber_36 fl e_i_p1_edges e_f_p1_componentOf e_f_p1_edgeAt e_f_p1_from e_f_p1_to ih fl e_x3 e_x4 e_x5 e_x5 k32_0 e_f_p2_label)
def LB_Mo_renumber_0 (fl : Nat) (i_p1_edges' : Int) (f_p1_componentOf' : (Nat → Int)) (f_p1_edgeAt' : (Nat → Int)) (f_p1_from' : (Nat → Int)) (f_p1_to' : (Nat → Int)) (f_p2_label' : (Nat → Int)) : Option (Int × (Nat → Int)) := (LB_Mo_renumber_8 fl i_p1_edges' f_p1_componentOf' f_p1_edgeAt' f_p1_from' f_p1_to' fl (1 : Int) (0 : Int) (0 : Int) f_p2_label')
theorem hB_Mo_renumber_0 {i_p1_edges : Int32} {i_p1_edges' : Int} {f_p1_componentOf : (Nat → Int32)} {f_p1_componentOf' : (Nat → Int)} {f_p1_edgeAt : (Nat → Int32)} {f_p1_edgeAt' : (Nat → Int)} {f_p1_from : (Nat → Int32)} {f_p1_from' : (Nat → Int)} {f_p1_to : (Nat → Int32)} {f_p1_to' : (Nat → Int)} {f_p2_label : (Nat → Int32)} {f_p2_label' : (Nat → Int)} (fl : Nat) (e_i_p1_edges : i_p1_edges' = (i_p1_edges).toInt) (e_f_p1_componentOf : f_p1_componentOf' = (t32 f_p1_componentOf)) (e_f_p1_edgeAt : f_p1_edgeAt' = (t32 f_p1_edgeAt)) (e_f_p1_from : f_p1_from' = (t32 f_p1_from)) (e_f_p1_to : f_p1_to' = (t32 f_p1_to)) (e_f_p2_label : f_p2_label' = (t32 f_p2_label)) : Ok (fun r => (r.1.toInt, t32 r.2)) (B_Mo_renumber_0 fl i_p1_edges f_p1_componentOf f_p1_edgeAt f_p1_from f_p1_to f_p2_label) (LB_Mo_renumber_0 fl i_p1_edges' f_p1_componentOf' f_p1_edgeAt' f_p1_from' f_p1_to' f_p2_label') := by
  unfold B_Mo_renumber_0 LB_Mo_renumber_0
  exact (hB_Mo_renumber_8 fl e_i_p1_edges e_f_p1_componentOf e_f_p1_edgeAt e_f_p1_from e_f_p1_to fl k32_1 k32_0 k32_0 e_f_p2_label)
def LM_Mo_renumber (fl : Nat) (i_p1_edges' : Int) (f_p1_componentOf' : (Nat → Int)) (f_p1_edgeAt' : (Nat → Int)) (f_p1_from' : (Nat → Int)) (f_p1_to' : (Nat → Int)) (f_p2_label' : (Nat → Int)) : Option (Int × (Nat → Int)) := (LB_Mo_renumber_0 fl i_p1_edges' f_p1_componentOf' f_p1_edgeAt' f_p1_from' f_p1_to' f_p2_label')
theorem hm_Mo_renumber {i_p1_edges : Int32} {i_p1_edges' : Int} {f_p1_componentOf : (Nat → Int32)} {f_p1_componentOf' : (Nat → Int)} {f_p1_edgeAt : (Nat → Int32)} {f_p1_edgeAt' : (Nat → Int)} {f_p1_from : (Nat → Int32)} {f_p1_from' : (Nat → Int)} {f_p1_to : (Nat → Int32)} {f_p1_to' : (Nat → Int)} {f_p2_label : (Nat → Int32)} {f_p2_label' : (Nat → Int)} (fl : Nat) (e_i_p1_edges : i_p1_edges' = (i_p1_edges).toInt) (e_f_p1_componentOf : f_p1_componentOf' = (t32 f_p1_componentOf)) (e_f_p1_edgeAt : f_p1_edgeAt' = (t32 f_p1_edgeAt)) (e_f_p1_from : f_p1_from' = (t32 f_p1_from)) (e_f_p1_to : f_p1_to' = (t32 f_p1_to)) (e_f_p2_label : f_p2_label' = (t32 f_p2_label)) : Ok (fun r => (r.1.toInt, t32 r.2)) (m_Mo_renumber fl i_p1_edges f_p1_componentOf f_p1_edgeAt f_p1_from f_p1_to f_p2_label) (LM_Mo_renumber fl i_p1_edges' f_p1_componentOf' f_p1_edgeAt' f_p1_from' f_p1_to' f_p2_label') := by
  unfold m_Mo_renumber LM_Mo_renumber
  exact (hB_Mo_renumber_0 fl e_i_p1_edges e_f_p1_componentOf e_f_p1_edgeAt e_f_p1_from e_f_p1_to e_f_p2_label)
def LB_Pa_shrink_0 (fl : Nat) (x1' : Int) (i_p0_size' : Int) (i_p0_overflown' : Int) : Option (Int × Int) := (some (x1', (0 : Int)))
theorem hB_Pa_shrink_0 {x1 : Int32} {x1' : Int} {i_p0_size : Int32} {i_p0_size' : Int} {i_p0_overflown : Int32} {i_p0_overflown' : Int} (fl : Nat) (e_x1 : x1' = (x1).toInt) (e_i_p0_size : i_p0_size' = (i_p0_size).toInt) (e_i_p0_overflown : i_p0_overflown' = (i_p0_overflown).toInt) : Ok (fun r => (r.1.toInt, r.2.toInt)) (B_Pa_shrink_0 fl x1 i_p0_size i_p0_overflown) (LB_Pa_shrink_0 fl x1' i_p0_size' i_p0_overflown') := by
  unfold B_Pa_shrink_0 LB_Pa_shrink_0
  exact lf_some (tup2 e_x1 k32_0)
def LM_Pa_shrink (fl : Nat) (x1' : Int) (i_p0_size' : Int) (i_p0_overflown' : Int) : Option (Int × Int) := (LB_Pa_shrink_0 fl x1' i_p0_size' i_p0_overflown')
theorem hm_Pa_shrink {x1 : Int32} {x1' : Int} {i_p0_size : Int32} {i_p0_size' : Int} {i_p0_overflown : Int32} {i_p0_overflown' : Int} (fl : Nat) (e_x1 : x1' = (x1).toInt) (e_i_p0_size : i_p0_size' = (i_p0_size).toInt) (e_i_p0_overflown : i_p0_overflown' = (i_p0_overflown).toInt) : Ok (fun r => (r.1.toInt, r.2.toInt)) (m_Pa_shrink fl x1 i_p0_size i_p0_overflown) (LM_Pa_shrink fl x1' i_p0_size' i_p0_overflown') := by
  unfold m_Pa_shrink LM_Pa_shrink
  exact (hB_Pa_shrink_0 fl e_x1 e_i_p0_size e_i_p0_overflown)
def LB_Li_leaveNext_0 (fl : Nat) (i_p0_count' : Int) (i_p0_done' : Int) : Option (Int) := (if i_p0_count' ≤ i_p0_done' then (some (i_p0_done')) else (if (-2147483648 ≤ (i_p0_done' + (1 : Int)) ∧ (i_p0_done' + (1 : Int)) < 2147483648) then (some ((i_p0_done' + (1 : Int)))) else none))
theorem hB_Li_leaveNext_0 {i_p0_count : Int32} {i_p0_count' : Int} {i_p0_done : Int32} {i_p0_done' : Int} (fl : Nat) (e_i_p0_count : i_p0_count' = (i_p0_count).toInt) (e_i_p0_done : i_p0_done' = (i_p0_done).toInt) : Ok Int32.toInt (B_Li_leaveNext_0 fl i_p0_count i_p0_done) (LB_Li_leaveNext_0 fl i_p0_count' i_p0_done') := by
  unfold B_Li_leaveNext_0 LB_Li_leaveNext_0
  refine lf_if (c_le e_i_p0_count e_i_p0_done) ?_ ?_
  · exact lf_some e_i_p0_done
  · refine lf_guard (fun gg => ?_)
    have g1 := gg
    exact lf_some (q_add e_i_p0_done k32_1 g1)
def LM_Li_leaveNext (fl : Nat) (i_p0_count' : Int) (i_p0_done' : Int) : Option (Int) := (LB_Li_leaveNext_0 fl i_p0_count' i_p0_done')
theorem hm_Li_leaveNext {i_p0_count : Int32} {i_p0_count' : Int} {i_p0_done : Int32} {i_p0_done' : Int} (fl : Nat) (e_i_p0_count : i_p0_count' = (i_p0_count).toInt) (e_i_p0_done : i_p0_done' = (i_p0_done).toInt) : Ok Int32.toInt (m_Li_leaveNext fl i_p0_count i_p0_done) (LM_Li_leaveNext fl i_p0_count' i_p0_done') := by
  unfold m_Li_leaveNext LM_Li_leaveNext
  exact (hB_Li_leaveNext_0 fl e_i_p0_count e_i_p0_done)
def LB_En_crossing_0 (fl : Nat) (i_p0_now_count' : Int) (f_p0_now_label' : (Nat → Int)) (f_p0_now_sign' : (Nat → Int)) (x1' : Int) (x2' : Int) : Option (Int) := (if x1' < (0 : Int) then (some ((0 : Int))) else (if i_p0_now_count' ≤ x1' then (some ((0 : Int))) else (if x2' < (0 : Int) then (some ((0 : Int))) else (if x2' ≤ (4 : Int) then (if ¬ (x2' = (4 : Int)) then (if (-2147483648 ≤ ((4 : Int) * x1') ∧ ((4 : Int) * x1') < 2147483648) then (if (0 ≤ (((4 : Int) * x1') + x2') ∧ (((4 : Int) * x1') + x2') < 80) then (some ((f_p0_now_label' (Int.toNat (((4 : Int) * x1') + x2'))))) else none) else none) else (if (0 ≤ x1' ∧ x1' < 20) then (some ((f_p0_now_sign' (Int.toNat x1')))) else none)) else (some ((0 : Int)))))))
theorem hB_En_crossing_0 {i_p0_now_count : Int32} {i_p0_now_count' : Int} {f_p0_now_label : (Nat → Int32)} {f_p0_now_label' : (Nat → Int)} {f_p0_now_sign : (Nat → Int32)} {f_p0_now_sign' : (Nat → Int)} {x1 : Int32} {x1' : Int} {x2 : Int32} {x2' : Int} (fl : Nat) (e_i_p0_now_count : i_p0_now_count' = (i_p0_now_count).toInt) (e_f_p0_now_label : f_p0_now_label' = (t32 f_p0_now_label)) (e_f_p0_now_sign : f_p0_now_sign' = (t32 f_p0_now_sign)) (e_x1 : x1' = (x1).toInt) (e_x2 : x2' = (x2).toInt) : Ok Int32.toInt (B_En_crossing_0 fl i_p0_now_count f_p0_now_label f_p0_now_sign x1 x2) (LB_En_crossing_0 fl i_p0_now_count' f_p0_now_label' f_p0_now_sign' x1' x2') := by
  unfold B_En_crossing_0 LB_En_crossing_0
  refine lf_if (c_lt e_x1 k32_0) ?_ ?_
  · exact lf_some k32_0
  · refine lf_if (c_le e_i_p0_now_count e_x1) ?_ ?_
    · exact lf_some k32_0
    · refine lf_if (c_lt e_x2 k32_0) ?_ ?_
      · exact lf_some k32_0
      · refine lf_if (c_le e_x2 k32_4) ?_ ?_
        · refine lf_if (not_congr (c_eq e_x2 k32_4)) ?_ ?_
          · refine lf_guard (fun gg => ?_)
            have g1 := gg
            refine lf_gd (fun h3 => ⟨(c_idx (n := 80) (n' := 80) rfl (q_add (q_mul k32_4 e_x1 g1) e_x2 (ri h3 (by decide)))).1 h3, ?_⟩)
            exact lf_some (q_get e_f_p0_now_label (q_clamp (q_add (q_mul k32_4 e_x1 g1) e_x2 (ri h3 (by decide)))))
          · refine lf_gd (fun h4 => ⟨(c_idx (n := 20) (n' := 20) rfl e_x1).1 h4, ?_⟩)
            exact lf_some (q_get e_f_p0_now_sign (q_clamp e_x1))
        · exact lf_some k32_0
def LM_En_crossing (fl : Nat) (i_p0_now_count' : Int) (f_p0_now_label' : (Nat → Int)) (f_p0_now_sign' : (Nat → Int)) (x1' : Int) (x2' : Int) : Option (Int) := (LB_En_crossing_0 fl i_p0_now_count' f_p0_now_label' f_p0_now_sign' x1' x2')
theorem hm_En_crossing {i_p0_now_count : Int32} {i_p0_now_count' : Int} {f_p0_now_label : (Nat → Int32)} {f_p0_now_label' : (Nat → Int)} {f_p0_now_sign : (Nat → Int32)} {f_p0_now_sign' : (Nat → Int)} {x1 : Int32} {x1' : Int} {x2 : Int32} {x2' : Int} (fl : Nat) (e_i_p0_now_count : i_p0_now_count' = (i_p0_now_count).toInt) (e_f_p0_now_label : f_p0_now_label' = (t32 f_p0_now_label)) (e_f_p0_now_sign : f_p0_now_sign' = (t32 f_p0_now_sign)) (e_x1 : x1' = (x1).toInt) (e_x2 : x2' = (x2).toInt) : Ok Int32.toInt (m_En_crossing fl i_p0_now_count f_p0_now_label f_p0_now_sign x1 x2) (LM_En_crossing fl i_p0_now_count' f_p0_now_label' f_p0_now_sign' x1' x2') := by
  unfold m_En_crossing LM_En_crossing
  exact (hB_En_crossing_0 fl e_i_p0_now_count e_f_p0_now_label e_f_p0_now_sign e_x1 e_x2)
def LB_En_printed_0 (fl : Nat) (i_p0_paper_size' : Int) (f_p0_paper_bytes' : (Nat → Int)) (x1' : Int) : Option (Int) := (if x1' < (0 : Int) then (some ((-1 : Int))) else (if i_p0_paper_size' ≤ x1' then (some ((-1 : Int))) else (if (0 ≤ x1' ∧ x1' < 4000) then (some ((f_p0_paper_bytes' (Int.toNat x1')))) else none)))
theorem hB_En_printed_0 {i_p0_paper_size : Int32} {i_p0_paper_size' : Int} {f_p0_paper_bytes : (Nat → Int32)} {f_p0_paper_bytes' : (Nat → Int)} {x1 : Int32} {x1' : Int} (fl : Nat) (e_i_p0_paper_size : i_p0_paper_size' = (i_p0_paper_size).toInt) (e_f_p0_paper_bytes : f_p0_paper_bytes' = (t32 f_p0_paper_bytes)) (e_x1 : x1' = (x1).toInt) : Ok Int32.toInt (B_En_printed_0 fl i_p0_paper_size f_p0_paper_bytes x1) (LB_En_printed_0 fl i_p0_paper_size' f_p0_paper_bytes' x1') := by
  unfold B_En_printed_0 LB_En_printed_0
  refine lf_if (c_lt e_x1 k32_0) ?_ ?_
  · exact lf_some k32_n1
  · refine lf_if (c_le e_i_p0_paper_size e_x1) ?_ ?_
    · exact lf_some k32_n1
    · refine lf_gd (fun h1 => ⟨(c_idx (n := 4000) (n' := 4000) rfl e_x1).1 h1, ?_⟩)
      exact lf_some (q_get e_f_p0_paper_bytes (q_clamp e_x1))
def LM_En_printed (fl : Nat) (i_p0_paper_size' : Int) (f_p0_paper_bytes' : (Nat → Int)) (x1' : Int) : Option (Int) := (LB_En_printed_0 fl i_p0_paper_size' f_p0_paper_bytes' x1')
theorem hm_En_printed {i_p0_paper_size : Int32} {i_p0_paper_size' : Int} {f_p0_paper_bytes : (Nat → Int32)} {f_p0_paper_bytes' : (Nat → Int)} {x1 : Int32} {x1' : Int} (fl : Nat) (e_i_p0_paper_size : i_p0_paper_size' = (i_p0_paper_size).toInt) (e_f_p0_paper_bytes : f_p0_paper_bytes' = (t32 f_p0_paper_bytes)) (e_x1 : x1' = (x1).toInt) : Ok Int32.toInt (m_En_printed fl i_p0_paper_size f_p0_paper_bytes x1) (LM_En_printed fl i_p0_paper_size' f_p0_paper_bytes' x1') := by
  unfold m_En_printed LM_En_printed
  exact (hB_En_printed_0 fl e_i_p0_paper_size e_f_p0_paper_bytes e_x1)
def LB_En_wipe_34 (fl : Nat) (f_p0_paper_bytes' : (Nat → Int)) (x1' : Int) (x2' : Int) (i_p0_onTape' : Int) (i_p0_paper_size' : Int) (f_p0_reader_text' : (Nat → Int)) : Option (Int × Int × Int × (Nat → Int)) := (some (x2', i_p0_onTape', (0 : Int), f_p0_reader_text'))
theorem hB_En_wipe_34 {f_p0_paper_bytes : (Nat → Int32)} {f_p0_paper_bytes' : (Nat → Int)} {x1 : Int32} {x1' : Int} {x2 : Int32} {x2' : Int} {i_p0_onTape : Int32} {i_p0_onTape' : Int} {i_p0_paper_size : Int32} {i_p0_paper_size' : Int} {f_p0_reader_text : (Nat → Int32)} {f_p0_reader_text' : (Nat → Int)} (fl : Nat) (e_f_p0_paper_bytes : f_p0_paper_bytes' = (t32 f_p0_paper_bytes)) (e_x1 : x1' = (x1).toInt) (e_x2 : x2' = (x2).toInt) (e_i_p0_onTape : i_p0_onTape' = (i_p0_onTape).toInt) (e_i_p0_paper_size : i_p0_paper_size' = (i_p0_paper_size).toInt) (e_f_p0_reader_text : f_p0_reader_text' = (t32 f_p0_reader_text)) : Ok (fun r => (r.1.toInt, r.2.1.toInt, r.2.2.1.toInt, t32 r.2.2.2)) (B_En_wipe_34 fl f_p0_paper_bytes x1 x2 i_p0_onTape i_p0_paper_size f_p0_reader_text) (LB_En_wipe_34 fl f_p0_paper_bytes' x1' x2' i_p0_onTape' i_p0_paper_size' f_p0_reader_text') := by
  unfold B_En_wipe_34 LB_En_wipe_34
  exact lf_some (tup4 e_x2 e_i_p0_onTape k32_0 e_f_p0_reader_text)
def LB_En_wipe_0 (fl : Nat) (f_p0_paper_bytes' : (Nat → Int)) (x1' : Int) (i_p0_onTape' : Int) (i_p0_paper_size' : Int) (f_p0_reader_text' : (Nat → Int)) : Option (Int × Int × Int × (Nat → Int)) := (if x1' = (0 : Int) then (LB_En_wipe_34 fl f_p0_paper_bytes' x1' i_p0_paper_size' i_p0_onTape' i_p0_paper_size' f_p0_reader_text') else (if (¬ ((0 : Int) < (0 : Int))) ∧ ((¬ ((0 : Int) < (0 : Int))) ∧ ((¬ (i_p0_paper_size' < (0 : Int))) ∧ ((((Int.toNat (0 : Int)) + (Int.toNat i_p0_paper_size')) ≤ 4000) ∧ (((Int.toNat (0 : Int)) + (Int.toNat i_p0_paper_size')) ≤ 4000)))) then (LB_En_wipe_34 fl f_p0_paper_bytes' x1' i_p0_paper_size' i_p0_paper_size' i_p0_paper_size' (cpI f_p0_paper_bytes' f_p0_reader_text' (Int.toNat (0 : Int)) (Int.toNat (0 : Int)) (Int.toNat i_p0_paper_size'))) else none))
theorem hB_En_wipe_0 {f_p0_paper_bytes : (Nat → Int32)} {f_p0_paper_bytes' : (Nat → Int)} {x1 : Int32} {x1' : Int} {i_p0_onTape : Int32} {i_p0_onTape' : Int} {i_p0_paper_size : Int32} {i_p0_paper_size' : Int} {f_p0_reader_text : (Nat → Int32)} {f_p0_reader_text' : (Nat → Int)} (fl : Nat) (e_f_p0_paper_bytes : f_p0_paper_bytes' = (t32 f_p0_paper_bytes)) (e_x1 : x1' = (x1).toInt) (e_i_p0_onTape : i_p0_onTape' = (i_p0_onTape).toInt) (e_i_p0_paper_size : i_p0_paper_size' = (i_p0_paper_size).toInt) (e_f_p0_reader_text : f_p0_reader_text' = (t32 f_p0_reader_text)) : Ok (fun r => (r.1.toInt, r.2.1.toInt, r.2.2.1.toInt, t32 r.2.2.2)) (B_En_wipe_0 fl f_p0_paper_bytes x1 i_p0_onTape i_p0_paper_size f_p0_reader_text) (LB_En_wipe_0 fl f_p0_paper_bytes' x1' i_p0_onTape' i_p0_paper_size' f_p0_reader_text') := by
  unfold B_En_wipe_0 LB_En_wipe_0
  refine lf_if (c_eq e_x1 k32_0) ?_ ?_
  · exact (hB_En_wipe_34 fl e_f_p0_paper_bytes e_x1 e_i_p0_paper_size e_i_p0_onTape e_i_p0_paper_size e_f_p0_reader_text)
  · refine lf_gd (fun h1 => ⟨(and_congr (not_congr (c_lt k32_0 k32_0)) (and_congr (not_congr (c_lt k32_0 k32_0)) (and_congr (not_congr (c_lt e_i_p0_paper_size k32_0)) (and_congr (c_nidx (n_add (q_clamp k32_0) (q_clamp e_i_p0_paper_size)) rfl) (c_nidx (n_add (q_clamp k32_0) (q_clamp e_i_p0_paper_size)) rfl))))).1 h1, ?_⟩)
    exact (hB_En_wipe_34 fl e_f_p0_paper_bytes e_x1 e_i_p0_paper_size e_i_p0_paper_size e_i_p0_paper_size (q_cpy e_f_p0_paper_bytes e_f_p0_reader_text (q_clamp k32_0) (q_clamp k32_0) (q_clamp e_i_p0_paper_size)))
def LM_En_wipe (fl : Nat) (f_p0_paper_bytes' : (Nat → Int)) (x1' : Int) (i_p0_onTape' : Int) (i_p0_paper_size' : Int) (f_p0_reader_text' : (Nat → Int)) : Option (Int × Int × Int × (Nat → Int)) := (LB_En_wipe_0 fl f_p0_paper_bytes' x1' i_p0_onTape' i_p0_paper_size' f_p0_reader_text')
theorem hm_En_wipe {f_p0_paper_bytes : (Nat → Int32)} {f_p0_paper_bytes' : (Nat → Int)} {x1 : Int32} {x1' : Int} {i_p0_onTape : Int32} {i_p0_onTape' : Int} {i_p0_paper_size : Int32} {i_p0_paper_size' : Int} {f_p0_reader_text : (Nat → Int32)} {f_p0_reader_text' : (Nat → Int)} (fl : Nat) (e_f_p0_paper_bytes : f_p0_paper_bytes' = (t32 f_p0_paper_bytes)) (e_x1 : x1' = (x1).toInt) (e_i_p0_onTape : i_p0_onTape' = (i_p0_onTape).toInt) (e_i_p0_paper_size : i_p0_paper_size' = (i_p0_paper_size).toInt) (e_f_p0_reader_text : f_p0_reader_text' = (t32 f_p0_reader_text)) : Ok (fun r => (r.1.toInt, r.2.1.toInt, r.2.2.1.toInt, t32 r.2.2.2)) (m_En_wipe fl f_p0_paper_bytes x1 i_p0_onTape i_p0_paper_size f_p0_reader_text) (LM_En_wipe fl f_p0_paper_bytes' x1' i_p0_onTape' i_p0_paper_size' f_p0_reader_text') := by
  unfold m_En_wipe LM_En_wipe
  exact (hB_En_wipe_0 fl e_f_p0_paper_bytes e_x1 e_i_p0_onTape e_i_p0_paper_size e_f_p0_reader_text)
def LB_Br_appendSwap_10 (fl : Nat) (i_p0_strands' : Int) : Nat → Int → Int → Int → Int → (Nat → Int) → Option (Int × (Nat → Int))
  | 0, _, _, _, _, _ => none
  | nn + 1, x1', x2', x3', i_p0_factors', f_p0_image' => (if i_p0_strands' ≤ x3' then (if (0 ≤ (x2' + x1') ∧ (x2' + x1') < 168) then (if (0 ≤ ((x2' + x1') + (1 : Int)) ∧ ((x2' + x1') + (1 : Int)) < 168) then (if (-2147483648 ≤ (i_p0_factors' + (1 : Int)) ∧ (i_p0_factors' + (1 : Int)) < 2147483648) ∧ (-2147483648 ≤ (x1' + (1 : Int)) ∧ (x1' + (1 : Int)) < 2147483648) then (some ((i_p0_factors' + (1 : Int)), (up (up f_p0_image' (Int.toNat (x2' + x1')) (x1' + (1 : Int))) (Int.toNat ((x2' + x1') + (1 : Int))) x1'))) else none) else none) else none) else (if (0 ≤ (x2' + x3') ∧ (x2' + x3') < 168) then (if (-2147483648 ≤ (x3' + (1 : Int)) ∧ (x3' + (1 : Int)) < 2147483648) then (LB_Br_appendSwap_10 fl i_p0_strands' nn x1' x2' (x3' + (1 : Int)) i_p0_factors' (up f_p0_image' (Int.toNat (x2' + x3')) x3')) else none) else none))
theorem hB_Br_appendSwap_10 {i_p0_strands : Int32} {i_p0_strands' : Int} (fl : Nat) (e_i_p0_strands : i_p0_strands' = (i_p0_strands).toInt) : ∀ (nn : Nat) {x1 : Int32} {x1' : Int} {x2 : Int32} {x2' : Int} {x3 : Int32} {x3' : Int} {i_p0_factors : Int32} {i_p0_factors' : Int} {f_p0_image : (Nat → Int32)} {f_p0_image' : (Nat → Int)} (e_x1 : x1' = (x1).toInt) (e_x2 : x2' = (x2).toInt) (e_x3 : x3' = (x3).toInt) (e_i_p0_factors : i_p0_factors' = (i_p0_factors).toInt) (e_f_p0_image : f_p0_image' = (t32 f_p0_image)), Ok (fun r => (r.1.toInt, t32 r.2)) (B_Br_appendSwap_10 fl i_p0_strands nn x1 x2 x3 i_p0_factors f_p0_image) (LB_Br_appendSwap_10 fl i_p0_strands' nn x1' x2' x3' i_p0_factors' f_p0_image') := by
  intro nn
  induction nn with
  | zero => intro x1 x1' x2 x2' x3 x3' i_p0_factors i_p0_factors' f_p0_image f_p0_image' e_x1 e_x2 e_x3 e_i_p0_factors e_f_p0_image; exact lf_none
  | succ nn ih =>
    intro x1 x1' x2 x2' x3 x3' i_p0_factors i_p0_factors' f_p0_image f_p0_image' e_x1 e_x2 e_x3 e_i_p0_factors e_f_p0_image
    rw [B_Br_appendSwap_10, LB_Br_appendSwap_10]
    refine lf_if (c_le e_i_p0_strands e_x3) ?_ ?_
    · refine lf_gd (fun h2 => ⟨(c_idx (n := 168) (n' := 168) rfl (q_add e_x2 e_x1 (ri h2 (by decide)))).1 h2, ?_⟩)
      refine lf_gd (fun h4 => ⟨(c_idx (n := 168) (n' := 168) rfl (q_add (q_add e_x2 e_x1 (ri h2 (by decide))) k32_1 (ri h4 (by decide)))).1 h4, ?_⟩)
      refine lf_guard (fun gg => ?_)
      obtain ⟨g5, g6⟩ := gg
      exact lf_some (tup2 (q_add e_i_p0_factors k32_1 g5) (q_upd (q_upd e_f_p0_image (q_clamp (q_add e_x2 e_x1 (ri h2 (by decide)))) (q_add e_x1 k32_1 g6)) (q_clamp (q_add (q_add e_x2 e_x1 (ri h2 (by decide))) k32_1 (ri h4 (by decide)))) e_x1))
    · refine lf_gd (fun h8 => ⟨(c_idx (n := 168) (n' := 168) rfl (q_add e_x2 e_x3 (ri h8 (by decide)))).1 h8, ?_⟩)
      refine lf_guard (fun gg => ?_)
      have g9 := gg
      exact (ih e_x1 e_x2 (q_add e_x3 k32_1 g9) e_i_p0_factors (q_upd e_f_p0_image (q_clamp (q_add e_x2 e_x3 (ri h8 (by decide)))) e_x3))
def LB_Br_appendSwap_0 (fl : Nat) (i_p0_strands' : Int) (x1' : Int) (i_p0_factors' : Int) (f_p0_image' : (Nat → Int)) : Option (Int × (Nat → Int)) := (if (-2147483648 ≤ (i_p0_factors' * (8 : Int)) ∧ (i_p0_factors' * (8 : Int)) < 2147483648) then (LB_Br_appendSwap_10 fl i_p0_strands' fl x1' (i_p0_factors' * (8 : Int)) (0 : Int) i_p0_factors' f_p0_image') else none)
theorem hB_Br_appendSwap_0 {i_p0_strands : Int32} {i_p0_strands' : Int} {x1 : Int32} {x1' : Int} {i_p0_factors : Int32} {i_p0_factors' : Int} {f_p0_image : (Nat → Int32)} {f_p0_image' : (Nat → Int)} (fl : Nat) (e_i_p0_strands : i_p0_strands' = (i_p0_strands).toInt) (e_x1 : x1' = (x1).toInt) (e_i_p0_factors : i_p0_factors' = (i_p0_factors).toInt) (e_f_p0_image : f_p0_image' = (t32 f_p0_image)) : Ok (fun r => (r.1.toInt, t32 r.2)) (B_Br_appendSwap_0 fl i_p0_strands x1 i_p0_factors f_p0_image) (LB_Br_appendSwap_0 fl i_p0_strands' x1' i_p0_factors' f_p0_image') := by
  unfold B_Br_appendSwap_0 LB_Br_appendSwap_0
  refine lf_guard (fun gg => ?_)
  have g1 := gg
  exact (hB_Br_appendSwap_10 fl e_i_p0_strands fl e_x1 (q_mul e_i_p0_factors k32_8 g1) k32_0 e_i_p0_factors e_f_p0_image)
def LM_Br_appendSwap (fl : Nat) (i_p0_strands' : Int) (x1' : Int) (i_p0_factors' : Int) (f_p0_image' : (Nat → Int)) : Option (Int × (Nat → Int)) := (LB_Br_appendSwap_0 fl i_p0_strands' x1' i_p0_factors' f_p0_image')
theorem hm_Br_appendSwap {i_p0_strands : Int32} {i_p0_strands' : Int} {x1 : Int32} {x1' : Int} {i_p0_factors : Int32} {i_p0_factors' : Int} {f_p0_image : (Nat → Int32)} {f_p0_image' : (Nat → Int)} (fl : Nat) (e_i_p0_strands : i_p0_strands' = (i_p0_strands).toInt) (e_x1 : x1' = (x1).toInt) (e_i_p0_factors : i_p0_factors' = (i_p0_factors).toInt) (e_f_p0_image : f_p0_image' = (t32 f_p0_image)) : Ok (fun r => (r.1.toInt, t32 r.2)) (m_Br_appendSwap fl i_p0_strands x1 i_p0_factors f_p0_image) (LM_Br_appendSwap fl i_p0_strands' x1' i_p0_factors' f_p0_image') := by
  unfold m_Br_appendSwap LM_Br_appendSwap
  exact (hB_Br_appendSwap_0 fl e_i_p0_strands e_x1 e_i_p0_factors e_f_p0_image)
