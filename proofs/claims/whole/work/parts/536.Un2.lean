/-- UNDO at a face: how many crossings go (0: none), and what is left -/
def undoS (d : Dg) (fr to at_ : Nat → Int) (s k : Nat) : Nat × Dg :=
  if deedS fr to at_ s k = 1 then
    (if (liftD (arrz fr to s / 4) d).2.1 ≤ 20 then (1, liftD (arrz fr to s / 4) d) else (0, d))
  else if deedS fr to at_ s k = 2 then
    (if (liftD (max (arrz fr to s / 4) (arrz fr to (tnz fr to at_ s) / 4) - 1) (liftD (min (arrz fr to s / 4) (arrz fr to (tnz fr to at_ s) / 4)) d)).2.1 ≤ 20 then (2, liftD (max (arrz fr to s / 4) (arrz fr to (tnz fr to at_ s) / 4) - 1) (liftD (min (arrz fr to s / 4) (arrz fr to (tnz fr to at_ s) / 4)) d)) else (0, d))
  else (0, d)
theorem undoS_1 {d : Dg} {fr to at_ : Nat → Int} {s k : Nat} (h : deedS fr to at_ s k = 1) : undoS d fr to at_ s k = (if (liftD (arrz fr to s / 4) d).2.1 ≤ 20 then (1, liftD (arrz fr to s / 4) d) else (0, d)) := by unfold undoS; rw [if_pos h]
theorem undoS_2 {d : Dg} {fr to at_ : Nat → Int} {s k : Nat} (h : deedS fr to at_ s k = 2) : undoS d fr to at_ s k = (if (liftD (max (arrz fr to s / 4) (arrz fr to (tnz fr to at_ s) / 4) - 1) (liftD (min (arrz fr to s / 4) (arrz fr to (tnz fr to at_ s) / 4)) d)).2.1 ≤ 20 then (2, liftD (max (arrz fr to s / 4) (arrz fr to (tnz fr to at_ s) / 4) - 1) (liftD (min (arrz fr to s / 4) (arrz fr to (tnz fr to at_ s) / 4)) d)) else (0, d)) := by unfold undoS; rw [if_neg (by omega), if_pos h]
theorem undoS_0 {d : Dg} {fr to at_ : Nat → Int} {s k : Nat} (h : ¬ deedS fr to at_ s k = 1) (h2 : ¬ deedS fr to at_ s k = 2) : undoS d fr to at_ s k = (0, d) := by unfold undoS; rw [if_neg h, if_neg h2]
theorem deed_1 {fr to at_ : Nat → Int} {s k : Nat} (hk : 1 ≤ k) : deedS fr to at_ s k = 1 → k = 1 := by
  unfold deedS
  intro h
  by_cases k1 : k = 1
  · exact k1
  · rw [if_neg k1] at h
    exfalso
    split at h
    · omega
    · split at h
      · split at h <;> omega
      · split at h <;> omega
theorem deed_2 {fr to at_ : Nat → Int} {s k : Nat} : deedS fr to at_ s k = 2 → k = 2 ∧ arrz fr to s / 4 ≠ arrz fr to (tnz fr to at_ s) / 4 ∧ (upp fr to (s / 2) = 2 ∧ upp fr to (tnz fr to at_ s / 2) = 0 ∨ upp fr to (s / 2) = 0 ∧ upp fr to (tnz fr to at_ s / 2) = 2) := by
  unfold deedS
  intro h
  split at h
  · omega
  · split at h
    · omega
    · split at h
      · rename_i k2
        split at h
        · rename_i w; exact ⟨k2, w⟩
        · omega
      · split at h <;> omega
section
variable {nm fr to at_ : Nat → Int}
theorem C_undo (fl : Nat) (hfl : 200 ≤ fl) {d : Dg} (h : okD d) (hE : EdgA d.1 d.2.2.2 d.2.2.1 nm fr to at_) {n ci : Int} {A S : Nat → Int} (hD : DA d n ci A S) (F : Nat) (hF : F ≤ 80) (sz st : Nat → Int) {f s k : Nat} (hf : f < F) (hs : st f = (s : Int)) (hz : sz f = (k : Int)) (hs4 : s < 4 * d.1) (hk : 1 ≤ k) (hk1 : k = 1 → tnz fr to at_ s = s) (n3 c3 k3 : Int) (A3 S3 : Nat → Int) :
    ∃ n' ci' kn' A' S', LM_Mo_undo fl (F : Int) at_ sz st fr to n ci A S (f : Int) n3 c3 k3 A3 S3 = some (((undoS d fr to at_ s k).1 : Int), n', ci', kn', A', S') ∧ ((undoS d fr to at_ s k).1 ≠ 0 → DA (undoS d fr to at_ s k).2 n' ci' A' S' ∧ kn' = 0) := by
  have ax := (arr_ok hE hs4).1
  have hy := (tn_closed hE).1 s hs4
  have ay := (arr_ok hE hy).1
  have hci := h.2.1
  have hn20 := h.1
  unfold LM_Mo_undo LB_Mo_undo_0
  rw [if_neg (by omega), if_neg (by omega), C_deed fl hfl h.1 hE sz st (show f < 80 by omega) hs hz hs4 hk, Option.bind_some]
  unfold LB_Mo_undo_24
  by_cases d1 : deedS fr to at_ s k = 1
  · have ek := hk1 (deed_1 hk d1)
    rw [if_pos d1, undoS_1 d1]
    unfold LB_Mo_undo_40 LB_Mo_undo_108
    rw [if_pos (by omega), Int.toNat_natCast, hs, C_arrival fl h.1 hE hs4, Option.bind_some, C_nextDart fl h.1 hE hs4, Option.bind_some, C_arrival fl h.1 hE hy, Option.bind_some, ek]
    obtain ⟨A1, S1, g1, g2⟩ := C_copy fl h.1 hD n3 c3 k3 A3 S3
    rw [g1, Option.bind_some, if_neg (by omega), show (((arrz fr to s : Nat) : Int) / 4) = ((arrz fr to s / 4 : Nat) : Int) by omega]
    obtain ⟨n2, c2, A2, S2, g3, g4⟩ := C_liftD fl hfl (okD_C h) (by omega) (show arrz fr to s / 4 < d.1 by omega) g2 0
    rw [g3, Option.bind_some, if_pos (by omega)]
    dsimp only
    have ec := g4.2.1
    by_cases w : (liftD (arrz fr to s / 4) d).2.1 ≤ 20
    · rw [if_neg (by omega), if_pos w, d1]
      exact ⟨n2, c2, 0, A2, S2, rfl, fun _ => ⟨g4, rfl⟩⟩
    · rw [if_pos (by omega), if_neg w]
      exact ⟨n2, c2, 0, A2, S2, rfl, fun w2 => absurd rfl w2⟩
  · rw [if_neg d1]
    by_cases d2 : deedS fr to at_ s k = 2
    · obtain ⟨_, dn, _⟩ := deed_2 d2
      rw [if_pos d2, undoS_2 d2]
      unfold LB_Mo_undo_40 LB_Mo_undo_108
      rw [if_pos (by omega), Int.toNat_natCast, hs, C_arrival fl h.1 hE hs4, Option.bind_some, C_nextDart fl h.1 hE hs4, Option.bind_some, C_arrival fl h.1 hE hy, Option.bind_some]
      obtain ⟨A1, S1, g1, g2⟩ := C_copy fl h.1 hD n3 c3 k3 A3 S3
      rw [g1, Option.bind_some, show (((arrz fr to s : Nat) : Int) / 4) = ((arrz fr to s / 4 : Nat) : Int) by omega, show (((arrz fr to (tnz fr to at_ s) : Nat) : Int) / 4) = ((arrz fr to (tnz fr to at_ s) / 4 : Nat) : Int) by omega]
      generalize hxa : arrz fr to s / 4 = xa at *
      generalize hya : arrz fr to (tnz fr to at_ s) / 4 = ya at *
      have emin : (if (ya : Int) < (xa : Int) then (ya : Int) else (xa : Int)) = ((min xa ya : Nat) : Int) := by split <;> omega
      have emax : (if (xa : Int) < (ya : Int) then (ya : Int) else (xa : Int)) = ((max xa ya : Nat) : Int) := by split <;> omega
      rw [emin, emax]
      obtain ⟨n2, c2, A2, S2, g3, g4⟩ := C_liftD fl hfl (okD_C h) (by omega) (show min xa ya < d.1 by omega) g2 0
      have hb1 := goC_b d.2.2.1 (4 * min xa ya) (4 * min xa ya + 2) (upI d.2.2.2 (min xa ya)) (upO d.2.2.2 (min xa ya)) d.2.1
      have hb1 : (liftD (min xa ya) d).2.1 ≤ 90 := by show goC _ _ _ _ _ _ ≤ 90; omega
      have ok1 := okC_lift (okD_C h) (by omega) (show min xa ya < d.1 by omega)
      rw [g3, Option.bind_some, if_neg (fun w => w d2)]
      dsimp only
      rw [if_pos (by omega), show (((max xa ya : Nat) : Int) - 1) = ((max xa ya - 1 : Nat) : Int) by omega]
      obtain ⟨n4, c4, A4, S4, g5, g6⟩ := C_liftD fl hfl ok1 hb1 (show max xa ya - 1 < (liftD (min xa ya) d).1 by show max xa ya - 1 < d.1 - 1; omega) g4 0
      rw [g5, Option.bind_some]
      dsimp only
      have ec := g6.2.1
      by_cases w : (liftD (max xa ya - 1) (liftD (min xa ya) d)).2.1 ≤ 20
      · rw [if_neg (by omega), if_pos w, d2]
        exact ⟨n4, c4, 0, A4, S4, rfl, fun _ => ⟨g6, rfl⟩⟩
      · rw [if_pos (by omega), if_neg w]
        exact ⟨n4, c4, 0, A4, S4, rfl, fun w2 => absurd rfl w2⟩
    · rw [if_neg d2, undoS_0 d1 d2]
      exact ⟨n3, c3, k3, A3, S3, rfl, fun w => absurd rfl w⟩
theorem M_stands (fl : Nat) (hfl : 200 ≤ fl) {d e : Dg} (hd : d.1 ≤ 20) {n ci n0 c0 : Int} {A S A0 S0 : Nat → Int} (hD : DA e n ci A S) (hO : DA d n0 c0 A0 S0) :
    ∃ n' ci' A' S', LM_Md_stands fl n0 c0 A0 S0 n ci A S = some (if e.2.1 ≤ 20 then 1 else 0, n', ci', A', S') ∧ DA (if e.2.1 ≤ 20 then e else d) n' ci' A' S' := by
  unfold LM_Md_stands LB_Md_stands_0
  have ec := hD.2.1
  by_cases w : e.2.1 ≤ 20
  · rw [if_neg (by omega), if_pos w, if_pos w]
    exact ⟨_, _, _, _, rfl, hD⟩
  · rw [if_pos (by omega), if_neg w, if_neg w]
    obtain ⟨A', S', g1, g2⟩ := M_become fl hfl hd hO n ci A S
    rw [g1, Option.bind_some]
    exact ⟨_, _, _, _, rfl, g2⟩
theorem M_undo (fl : Nat) (hfl : 200 ≤ fl) {d : Dg} (h : okD d) (hE : EdgA d.1 d.2.2.2 d.2.2.1 nm fr to at_) {n ci : Int} {A S : Nat → Int} (hD : DA d n ci A S) (st : Nat → Int) {f s k : Nat} (hf : f < 96) (hs : st f = (s : Int)) (hs4 : s < 4 * d.1) (hk1 : k = 1 → tnz fr to at_ s = s) (hdd : deedS fr to at_ s k = 1 ∨ deedS fr to at_ s k = 2) (hk : 1 ≤ k) (n0 c0 : Int) (A0 S0 : Nat → Int) :
    ∃ n' ci' A' S' n0' c0' A0' S0', LM_Md_undo fl fr to st at_ (f : Int) (deedS fr to at_ s k) n ci A S n0 c0 A0 S0 = some (if (undoS d fr to at_ s k).1 = 0 then 0 else 1, n', ci', A', S', n0', c0', A0', S0') ∧ DA (undoS d fr to at_ s k).2 n' ci' A' S' := by
  have ax := (arr_ok hE hs4).1
  have hy := (tn_closed hE).1 s hs4
  have ay := (arr_ok hE hy).1
  have hci := h.2.1
  have hn20 := h.1
  unfold LM_Md_undo LB_Md_undo_0
  obtain ⟨Ao, So, o1, o2⟩ := M_become fl hfl h.1 hD n0 c0 A0 S0
  rw [o1, Option.bind_some, if_pos (by omega), Int.toNat_natCast, hs, M_arrives fl h.1 hE hs4, Option.bind_some, M_turn fl h.1 hE hs4, Option.bind_some, M_arrives fl h.1 hE hy, Option.bind_some]
  unfold LB_Md_undo_69 LB_Md_undo_91 LB_Md_undo_94
  rcases hdd with d1 | d2
  · rw [undoS_1 d1, d1, if_neg (by decide), show (((arrz fr to s : Nat) : Int) / 4) = ((arrz fr to s / 4 : Nat) : Int) by omega]
    obtain ⟨n2, c2, A2, S2, g3, g4⟩ := M_liftD fl hfl (okD_C h) (by omega) (show arrz fr to s / 4 < d.1 by omega) hD
    rw [g3, Option.bind_some]
    dsimp only
    obtain ⟨n', ci', A', S', g5, g6⟩ := M_stands fl hfl h.1 g4 o2
    rw [g5, Option.bind_some]
    dsimp only
    by_cases w : (liftD (arrz fr to s / 4) d).2.1 ≤ 20
    · rw [if_pos w] at g6
      rw [if_pos w, if_pos (Or.inr rfl), if_pos w]
      exact ⟨_, _, _, _, _, _, _, _, rfl, g6⟩
    · rw [if_neg w] at g6
      rw [if_neg w, if_pos (Or.inl rfl), if_neg w]
      exact ⟨_, _, _, _, _, _, _, _, rfl, g6⟩
  · obtain ⟨_, dn, _⟩ := deed_2 d2
    rw [undoS_2 d2, d2, if_pos (by decide), show (((arrz fr to s : Nat) : Int) / 4) = ((arrz fr to s / 4 : Nat) : Int) by omega, show (((arrz fr to (tnz fr to at_ s) : Nat) : Int) / 4) = ((arrz fr to (tnz fr to at_ s) / 4 : Nat) : Int) by omega]
    generalize hxa : arrz fr to s / 4 = xa at *
    generalize hya : arrz fr to (tnz fr to at_ s) / 4 = ya at *
    have hb1 := goC_b d.2.2.1 (4 * min xa ya) (4 * min xa ya + 2) (upI d.2.2.2 (min xa ya)) (upO d.2.2.2 (min xa ya)) d.2.1
    have hb1 : (liftD (min xa ya) d).2.1 ≤ 90 := by show goC _ _ _ _ _ _ ≤ 90; omega
    have ok1 := okC_lift (okD_C h) (by omega) (show min xa ya < d.1 by omega)
    obtain ⟨n2, c2, A2, S2, g3, g4⟩ := M_liftD fl hfl (okD_C h) (by omega) (show min xa ya < d.1 by omega) hD
    obtain ⟨n4, c4, A4, S4, g5, g6⟩ := M_liftD fl hfl ok1 hb1 (show max xa ya - 1 < (liftD (min xa ya) d).1 by show max xa ya - 1 < d.1 - 1; omega) g4
    obtain ⟨n', ci', A', S', g7, g8⟩ := M_stands fl hfl h.1 g6 o2
    have fin : ∃ n' ci' A' S' n0' c0' A0' S0', ((LM_Md_stands fl n ci Ao So n4 c4 A4 S4).bind fun o0 => (if (o0.1 = (0 : Int)) ∨ (o0.1 = (1 : Int)) then (some (o0.1, o0.2.1, o0.2.2.1, o0.2.2.2.1, o0.2.2.2.2, n, ci, Ao, So)) else none)) = some (if (if (liftD (max xa ya - 1) (liftD (min xa ya) d)).2.1 ≤ 20 then (2, liftD (max xa ya - 1) (liftD (min xa ya) d)) else (0, d)).1 = 0 then 0 else 1, n', ci', A', S', n0', c0', A0', S0') ∧ DA (if (liftD (max xa ya - 1) (liftD (min xa ya) d)).2.1 ≤ 20 then (2, liftD (max xa ya - 1) (liftD (min xa ya) d)) else (0, d)).2 n' ci' A' S' := by
      rw [g7, Option.bind_some]
      by_cases w : (liftD (max xa ya - 1) (liftD (min xa ya) d)).2.1 ≤ 20
      · rw [if_pos w] at g8
        rw [if_pos w, if_pos (Or.inr rfl), if_pos w]
        exact ⟨_, _, _, _, _, _, _, _, rfl, g8⟩
      · rw [if_neg w] at g8
        rw [if_neg w, if_pos (Or.inl rfl), if_neg w]
        exact ⟨_, _, _, _, _, _, _, _, rfl, g8⟩
    by_cases c1 : ya ≤ xa
    · have em : min xa ya = ya := by omega
      have ex : max xa ya - 1 = xa - 1 := by omega
      rw [em, ex] at fin
      rw [em] at g3
      rw [ex] at g5
      rw [if_pos (by omega), g3, Option.bind_some, if_pos (by omega), if_pos (by omega), show ((xa : Int) - 1) = ((xa - 1 : Nat) : Int) by omega]
      dsimp only
      rw [g5, Option.bind_some, em, ex]
      exact fin
    · have em : min xa ya = xa := by omega
      have ex : max xa ya - 1 = ya - 1 := by omega
      rw [em, ex] at fin
      rw [em] at g3
      rw [ex] at g5
      rw [if_neg (by omega), g3, Option.bind_some, if_neg (by omega), if_pos (by omega), show ((ya : Int) - 1) = ((ya - 1 : Nat) : Int) by omega]
      dsimp only
      rw [g5, Option.bind_some, em, ex]
      exact fin
theorem undo_ok {d : Dg} (h : okD d) (hE : EdgA d.1 d.2.2.2 d.2.2.1 nm fr to at_) {s k : Nat} (hs4 : s < 4 * d.1) : okD (undoS d fr to at_ s k).2 ∧ (undoS d fr to at_ s k).2.1 + (undoS d fr to at_ s k).1 = d.1 ∧ (undoS d fr to at_ s k).1 ≤ 2 := by
  have ax := (arr_ok hE hs4).1
  have hy := (tn_closed hE).1 s hs4
  have ay := (arr_ok hE hy).1
  have hci := h.2.1
  have hn20 := h.1
  by_cases d1 : deedS fr to at_ s k = 1
  · rw [undoS_1 d1]
    by_cases w : (liftD (arrz fr to s / 4) d).2.1 ≤ 20
    · rw [if_pos w]
      exact ⟨okC_D (okC_lift (okD_C h) (by omega) (by omega)) w, by show d.1 - 1 + 1 = d.1; omega, by show 1 ≤ 2; omega⟩
    · rw [if_neg w]; exact ⟨h, rfl, by show 0 ≤ 2; omega⟩
  · by_cases d2 : deedS fr to at_ s k = 2
    · obtain ⟨_, dn, _⟩ := deed_2 d2
      rw [undoS_2 d2]
      generalize hxa : arrz fr to s / 4 = xa at *
      generalize hya : arrz fr to (tnz fr to at_ s) / 4 = ya at *
      have hb1 := goC_b d.2.2.1 (4 * min xa ya) (4 * min xa ya + 2) (upI d.2.2.2 (min xa ya)) (upO d.2.2.2 (min xa ya)) d.2.1
      have hb1 : (liftD (min xa ya) d).2.1 ≤ 90 := by show goC _ _ _ _ _ _ ≤ 90; omega
      have ok1 := okC_lift (okD_C h) (by omega) (show min xa ya < d.1 by omega)
      by_cases w : (liftD (max xa ya - 1) (liftD (min xa ya) d)).2.1 ≤ 20
      · rw [if_pos w]
        exact ⟨okC_D (okC_lift ok1 hb1 (by show max xa ya - 1 < d.1 - 1; omega)) w, by show d.1 - 1 - 1 + 2 = d.1; omega, by show 2 ≤ 2; omega⟩
      · rw [if_neg w]; exact ⟨h, rfl, by show 0 ≤ 2; omega⟩
    · rw [undoS_0 d1 d2]; exact ⟨h, rfl, by show 0 ≤ 2; omega⟩
end
