/-- where a dart arrives; where the next one leaves; the next dart; the next edge -/
def arrz (fr to : Nat → Int) (d : Nat) : Nat := if d % 2 = 0 then (to (d / 2)).toNat else (fr (d / 2)).toNat
def lv (q : Nat) : Nat := 4 * (q / 4) + (q + 3) % 4
def lvd (fr at_ : Nat → Int) (r : Nat) : Nat := if fr (at_ r).toNat = (r : Int) then 2 * (at_ r).toNat else 2 * (at_ r).toNat + 1
def tnz (fr to at_ : Nat → Int) (d : Nat) : Nat := lvd fr at_ (lv (arrz fr to d))
def nx (to at_ : Nat → Int) (e : Nat) : Nat := (at_ (opp (to e).toNat)).toNat
theorem lv_bits : ∀ q : Nat, q < 96 → ior (iand (q : Int) (-4)) (((q : Int) + 3) % 4) = ((lv q : Nat) : Int) := by decide +kernel
theorem lv_ltz {q n : Nat} (h : q < 4 * n) : lv q < 4 * n := by unfold lv; omega
theorem lv_inj {p q : Nat} (h : lv p = lv q) : p = q := by unfold lv at h; omega
section
variable {n : Nat} {sg lb nm fr to at_ : Nat → Int}
theorem Edg_fr (h : EdgA n sg lb nm fr to at_) {e : Nat} (he : e < 2 * n) : ∃ p q : Nat, p < 4 * n ∧ q < 4 * n ∧ fr e = (p : Int) ∧ to e = (q : Int) ∧ outQ sg p = true ∧ outQ sg q = false ∧ at_ p = (e : Int) ∧ at_ q = (e : Int) ∧ lb p = nm e ∧ lb q = nm e := by
  obtain ⟨p, q, a1, a2, a3, a4, a5, a6, a7, a8⟩ := h.1 e he
  obtain ⟨f, hf, b1, b2, _⟩ := Edg_at h a1
  obtain ⟨g, hg, c1, c2, _⟩ := Edg_at h a2
  have ef := Edg_nm h hf he (by rw [← b2, a7])
  have eg := Edg_nm h hg he (by rw [← c2, a8])
  subst ef; subst eg
  exact ⟨p, q, a1, a2, a3, a4, a5, a6, b1, c1, a7, a8⟩
theorem arr_ok (h : EdgA n sg lb nm fr to at_) {d : Nat} (hd : d < 4 * n) : arrz fr to d < 4 * n ∧ at_ (arrz fr to d) = ((d / 2 : Nat) : Int) ∧ outQ sg (arrz fr to d) = decide (d % 2 = 1) ∧ lb (arrz fr to d) = nm (d / 2) := by
  obtain ⟨p, q, a1, a2, a3, a4, a5, a6, a7, a8, a9, a10⟩ := Edg_fr h (show d / 2 < 2 * n by omega)
  unfold arrz
  by_cases c : d % 2 = 0
  · rw [if_pos c, a4, Int.toNat_natCast]
    exact ⟨a2, a8, by rw [a6]; simp [c], a10⟩
  · rw [if_neg c, a3, Int.toNat_natCast]
    exact ⟨a1, a7, by rw [a5]; simp; omega, a9⟩
theorem arr_inj (h : EdgA n sg lb nm fr to at_) {d f : Nat} (hd : d < 4 * n) (hf : f < 4 * n) (e : arrz fr to d = arrz fr to f) : d = f := by
  obtain ⟨_, a2, a3, _⟩ := arr_ok h hd
  obtain ⟨_, b2, b3, _⟩ := arr_ok h hf
  rw [e] at a2 a3
  rw [a2] at b2
  rw [a3] at b3
  have : (d % 2 = 1) ↔ (f % 2 = 1) := by simpa using b3
  omega
theorem lvd_ok (h : EdgA n sg lb nm fr to at_) {r : Nat} (hr : r < 4 * n) : lvd fr at_ r < 4 * n ∧ at_ r = ((lvd fr at_ r / 2 : Nat) : Int) ∧ outQ sg r = decide (lvd fr at_ r % 2 = 0) := by
  obtain ⟨e, he, a1, a2, a3, a4⟩ := Edg_at h hr
  obtain ⟨p, q, b1, b2, b3, b4, b5, b6, b7, b8, b9, b10⟩ := Edg_fr h he
  unfold lvd
  rw [a1, Int.toNat_natCast]
  by_cases c : fr e = (r : Int)
  · rw [if_pos c]
    have : p = r := by omega
    subst this
    exact ⟨by omega, by omega, by rw [b5]; simp⟩
  · rw [if_neg c]
    have o : outQ sg r = false := by
      cases o : outQ sg r
      · rfl
      · exact absurd (a3 o) c
    exact ⟨by omega, by omega, by rw [o]; simp <;> omega⟩
theorem lvd_inj (h : EdgA n sg lb nm fr to at_) {r s : Nat} (hr : r < 4 * n) (hs : s < 4 * n) (e : lvd fr at_ r = lvd fr at_ s) : r = s := by
  obtain ⟨_, a2, a3⟩ := lvd_ok h hr
  obtain ⟨_, b2, b3⟩ := lvd_ok h hs
  obtain ⟨f, hf, c1, c2, c3, c4⟩ := Edg_at h hr
  obtain ⟨g, hg, d1, d2, d3, d4⟩ := Edg_at h hs
  rw [e] at a2 a3
  have : f = g := by omega
  subst this
  exact Edg_inj h hr hs (by rw [c2, d2]) (by rw [a3, b3])
theorem tn_closed (h : EdgA n sg lb nm fr to at_) : closedz (tnz fr to at_) (4 * n) := by
  refine ⟨fun d hd => (lvd_ok h (lv_ltz (arr_ok h hd).1)).1, fun d f hd hf e => ?_⟩
  exact arr_inj h hd hf (lv_inj (lvd_inj h (lv_ltz (arr_ok h hd).1) (lv_ltz (arr_ok h hf).1) e))
theorem nx_ok (h : EdgA n sg lb nm fr to at_) {e : Nat} (he : e < 2 * n) : nx to at_ e < 2 * n ∧ at_ (opp (to e).toNat) = ((nx to at_ e : Nat) : Int) ∧ fr (nx to at_ e) = ((opp (to e).toNat : Nat) : Int) := by
  obtain ⟨p, q, b1, b2, b3, b4, b5, b6, b7, b8, b9, b10⟩ := Edg_fr h he
  unfold nx
  rw [b4, Int.toNat_natCast]
  obtain ⟨f, hf, c1, c2, c3, c4⟩ := Edg_at h (opp_lt b2)
  rw [c1, Int.toNat_natCast]
  exact ⟨hf, rfl, c3 (by rw [opp_out, b6]; rfl)⟩
theorem nx_closed (h : EdgA n sg lb nm fr to at_) : closedz (nx to at_) (2 * n) := by
  refine ⟨fun e he => (nx_ok h he).1, fun e f he hf w => ?_⟩
  obtain ⟨p, q, b1, b2, b3, b4, b5, b6, b7, b8, b9, b10⟩ := Edg_fr h he
  obtain ⟨p', q', c1, c2, c3, c4, c5, c6, c7, c8, c9, c10⟩ := Edg_fr h hf
  have x := (nx_ok h he).2.2
  have y := (nx_ok h hf).2.2
  rw [w, y, b4, c4, Int.toNat_natCast, Int.toNat_natCast] at x
  have : opp q' = opp q := by omega
  have : q' = q := by rw [← opp_opp q', this, opp_opp]
  subst this
  omega
/-- the class's -/
theorem C_arrival (fl : Nat) (hn : n ≤ 20) (h : EdgA n sg lb nm fr to at_) {d : Nat} (hd : d < 4 * n) : LM_Sh_arrival fl fr to (d : Int) = some ((arrz fr to d : Nat) : Int) := by
  unfold LM_Sh_arrival LB_Sh_arrival_0 arrz
  obtain ⟨p, q, b1, b2, b3, b4, _⟩ := Edg_fr h (show d / 2 < 2 * n by omega)
  have e : Int.toNat ((d : Int) / 2) = d / 2 := by omega
  by_cases c : d % 2 = 0
  · rw [if_neg (by omega), if_pos (by omega), if_pos c, e, b4, Int.toNat_natCast]
  · rw [if_pos (by omega), if_pos (by omega), if_neg c, e, b3, Int.toNat_natCast]
theorem C_nextDart (fl : Nat) (hn : n ≤ 20) (h : EdgA n sg lb nm fr to at_) {d : Nat} (hd : d < 4 * n) : LM_Sh_nextDart fl at_ fr to (d : Int) = some ((tnz fr to at_ d : Nat) : Int) := by
  unfold LM_Sh_nextDart LB_Sh_nextDart_0 tnz lvd
  have a := (arr_ok h hd).1
  have b := lv_ltz a
  obtain ⟨e, he, c1, c2, c3, c4⟩ := Edg_at h b
  rw [C_arrival fl hn h hd, Option.bind_some, lv_bits _ (by omega), if_pos (by omega), if_pos (by omega), Int.toNat_natCast, c1, Int.toNat_natCast, if_pos (by omega)]
  by_cases c : fr e = ((lv (arrz fr to d) : Nat) : Int)
  · rw [if_neg (fun w => w c), if_pos (by omega), if_pos c]
    congr 1
  · rw [if_pos c, if_pos (by omega), if_neg c]
    congr 1
theorem C_nextEdge (fl : Nat) (hn : n ≤ 20) (h : EdgA n sg lb nm fr to at_) {e : Nat} (he : e < 2 * n) : LM_Sh_nextEdge fl at_ to (e : Int) = some ((nx to at_ e : Nat) : Int) := by
  unfold LM_Sh_nextEdge LB_Sh_nextEdge_0
  obtain ⟨p, q, b1, b2, b3, b4, _⟩ := Edg_fr h he
  have x := nx_ok h he
  have y := opp_lt b2
  rw [b4, Int.toNat_natCast] at x
  rw [if_pos (by omega), Int.toNat_natCast, b4, ixor2 q (by omega), if_pos (by omega), Int.toNat_natCast, x.2.1]
/-- the reference's -/
theorem M_arrives (fl : Nat) (hn : n ≤ 20) (h : EdgA n sg lb nm fr to at_) {d : Nat} (hd : d < 4 * n) : LM_Md_arrives fl fr to (d : Int) = some ((arrz fr to d : Nat) : Int) := by
  unfold LM_Md_arrives LB_Md_arrives_0 arrz
  obtain ⟨p, q, b1, b2, b3, b4, _⟩ := Edg_fr h (show d / 2 < 2 * n by omega)
  have e : Int.toNat ((d : Int) / 2) = d / 2 := by omega
  by_cases c : d % 2 = 0
  · rw [if_neg (by omega), if_pos (by omega), if_pos c, e, b4, Int.toNat_natCast]
  · rw [if_pos (by omega), if_pos (by omega), if_neg c, e, b3, Int.toNat_natCast]
theorem M_turn (fl : Nat) (hn : n ≤ 20) (h : EdgA n sg lb nm fr to at_) {d : Nat} (hd : d < 4 * n) : LM_Md_turn fl fr to at_ (d : Int) = some ((tnz fr to at_ d : Nat) : Int) := by
  unfold LM_Md_turn LB_Md_turn_0 tnz lvd
  have a := (arr_ok h hd).1
  have b := lv_ltz a
  obtain ⟨e, he, c1, c2, c3, c4⟩ := Edg_at h b
  rw [M_arrives fl hn h hd, Option.bind_some, lv_bits _ (by omega), if_pos (by omega), if_pos (by omega), Int.toNat_natCast, c1, Int.toNat_natCast, if_pos (by omega)]
  by_cases c : fr e = ((lv (arrz fr to d) : Nat) : Int)
  · rw [if_neg (fun w => w c), if_pos (by omega), if_pos c]
    congr 1 <;> omega
  · rw [if_pos c, if_pos (by omega), if_neg c]
    congr 1
end
