/-- what flows out by a place -/
def fo_ (sg om : Nat → Int) (r : Nat) : Int := if outQ sg r = true then om r else -(om r)
theorem lv_4 (c : Nat) : lv (4 * c) = 4 * c + 3 ∧ lv (4 * c + 1) = 4 * c ∧ lv (4 * c + 2) = 4 * c + 1 ∧ lv (4 * c + 3) = 4 * c + 2 := by unfold lv; omega
theorem out_n {sg : Nat → Int} {c : Nat} (h : sg c ≤ 0) : outQ sg (4 * c) = false ∧ outQ sg (4 * c + 1) = false ∧ outQ sg (4 * c + 2) = true ∧ outQ sg (4 * c + 3) = true := by
  have e0 : 4 * c / 4 = c := by omega
  have e1 : (4 * c + 1) / 4 = c := by omega
  have e3 : (4 * c + 3) / 4 = c := by omega
  refine ⟨?_, ?_, ?_, ?_⟩ <;> unfold outQ
  · exact decide_eq_false (by omega)
  · rw [e1]; exact decide_eq_false (by omega)
  · exact decide_eq_true (by omega)
  · rw [e3]; exact decide_eq_true (by omega)
theorem out_p {sg : Nat → Int} {c : Nat} (h : ¬ sg c ≤ 0) : outQ sg (4 * c) = false ∧ outQ sg (4 * c + 1) = true ∧ outQ sg (4 * c + 2) = true ∧ outQ sg (4 * c + 3) = false := by
  have e0 : 4 * c / 4 = c := by omega
  have e1 : (4 * c + 1) / 4 = c := by omega
  have e3 : (4 * c + 3) / 4 = c := by omega
  refine ⟨?_, ?_, ?_, ?_⟩ <;> unfold outQ
  · exact decide_eq_false (by omega)
  · rw [e1]; exact decide_eq_true (by omega)
  · exact decide_eq_true (by omega)
  · rw [e3]; exact decide_eq_false (by omega)
theorem fo_out {sg om : Nat → Int} {r : Nat} (h : outQ sg r = true) : fo_ sg om r = om r := by unfold fo_; rw [if_pos h]
theorem fo_in {sg om : Nat → Int} {r : Nat} (h : outQ sg r = false) : fo_ sg om r = -(om r) := by unfold fo_; rw [h]; rfl
/-- values of corners: left of one who leaves by the place -/
def VR (n : Nat) (sg om P : Nat → Int) : Prop := ∀ r, r < 4 * n → P r - P (lv r) = fo_ sg om r
def KP (n : Nat) (sg om : Nat → Int) : Prop := ∀ c, c < n → fo_ sg om (4 * c) + fo_ sg om (4 * c + 1) + fo_ sg om (4 * c + 2) + fo_ sg om (4 * c + 3) = 0
theorem KF_KP {n : Nat} {sg lb om : Nat → Int} {w : Int → Int} (ho : ∀ q, q < 4 * n → w (lb q) = om q) : (∀ c, c < n → kf sg lb w c) ↔ KP n sg om := by
  have key : ∀ c, c < n → (kf sg lb w c ↔ fo_ sg om (4 * c) + fo_ sg om (4 * c + 1) + fo_ sg om (4 * c + 2) + fo_ sg om (4 * c + 3) = 0) := fun c hc => by
    by_cases q : sg c ≤ 0
    · obtain ⟨a, b, e, f⟩ := out_n q
      rw [kf_n q, fo_in a, fo_in b, fo_out e, fo_out f, ho _ (by omega), ho _ (by omega), ho _ (by omega), ho _ (by omega)]
      omega
    · obtain ⟨a, b, e, f⟩ := out_p q
      rw [kf_p q, fo_in a, fo_out b, fo_out e, fo_in f, ho _ (by omega), ho _ (by omega), ho _ (by omega), ho _ (by omega)]
      omega
  exact ⟨fun h c hc => (key c hc).1 (h c hc), fun h c hc => (key c hc).2 (h c hc)⟩
/-- left of an edge, seen at a place of it -/
def lfz (sg P : Nat → Int) (q : Nat) : Int := if outQ sg q = true then P q else P (lv q)
theorem lf_out {sg P : Nat → Int} {q : Nat} (h : outQ sg q = true) : lfz sg P q = P q := by unfold lfz; rw [if_pos h]
theorem lf_in {sg P : Nat → Int} {q : Nat} (h : outQ sg q = false) : lfz sg P q = P (lv q) := by unfold lfz; rw [h]; rfl
theorem VR_pt {n : Nat} {sg lb om P : Nat → Int} {w L : Int → Int} (hv : VR n sg om P) (ho : ∀ q, q < 4 * n → w (lb q) = om q) (hl : ∀ q, q < 4 * n → L (lb q) = lfz sg P q) : ∀ c, c < n → pt sg lb w L c := fun c hc => by
  obtain ⟨l0, l1, l2, l3⟩ := lv_4 c
  have v0 := hv (4 * c) (by omega)
  have v1 := hv (4 * c + 1) (by omega)
  have v2 := hv (4 * c + 2) (by omega)
  have v3 := hv (4 * c + 3) (by omega)
  rw [l0] at v0
  rw [l1] at v1
  rw [l2] at v2
  rw [l3] at v3
  by_cases q : sg c ≤ 0
  · obtain ⟨a, b, e, f⟩ := out_n q
    rw [fo_in a] at v0
    rw [fo_in b] at v1
    rw [fo_out e] at v2
    rw [fo_out f] at v3
    rw [pt_n q, hl _ (by omega), hl _ (by omega), hl _ (by omega), hl _ (by omega), ho _ (by omega), ho _ (by omega), lf_in a, lf_in b, lf_out e, lf_out f, l0, l1]
    omega
  · obtain ⟨a, b, e, f⟩ := out_p q
    rw [fo_in a] at v0
    rw [fo_out b] at v1
    rw [fo_out e] at v2
    rw [fo_in f] at v3
    rw [pt_p q, hl _ (by omega), hl _ (by omega), hl _ (by omega), hl _ (by omega), ho _ (by omega), ho _ (by omega), lf_in a, lf_out b, lf_out e, lf_in f, l0, l3]
    omega
/-- the corners' values out of the edges' -/
def cv (sg lb : Nat → Int) (w L : Int → Int) (q : Nat) : Int := if outQ sg q = true then L (lb q) else L (lb q) - w (lb q)
theorem cv_out {sg lb : Nat → Int} {w L : Int → Int} {q : Nat} (h : outQ sg q = true) : cv sg lb w L q = L (lb q) := by unfold cv; rw [if_pos h]
theorem cv_in {sg lb : Nat → Int} {w L : Int → Int} {q : Nat} (h : outQ sg q = false) : cv sg lb w L q = L (lb q) - w (lb q) := by unfold cv; rw [h]; rfl
theorem pt_VR {n : Nat} {sg lb : Nat → Int} {w L : Int → Int} (hk : ∀ c, c < n → kf sg lb w c) (hp : ∀ c, c < n → pt sg lb w L c) : VR n sg (fun q => w (lb q)) (cv sg lb w L) := fun r hr => by
  obtain ⟨l0, l1, l2, l3⟩ := lv_4 (r / 4)
  have k := hk (r / 4) (by omega)
  have p := hp (r / 4) (by omega)
  have h4 : r = 4 * (r / 4) ∨ r = 4 * (r / 4) + 1 ∨ r = 4 * (r / 4) + 2 ∨ r = 4 * (r / 4) + 3 := by omega
  by_cases q : sg (r / 4) ≤ 0
  · obtain ⟨a, b, e, f⟩ := out_n q
    rw [kf_n q] at k
    rw [pt_n q] at p
    rcases h4 with h4 | h4 | h4 | h4 <;> rw [h4]
    · rw [l0, cv_in a, cv_out f, fo_in a]; omega
    · rw [l1, cv_in b, cv_in a, fo_in b]; omega
    · rw [l2, cv_out e, cv_in b, fo_out e]; omega
    · rw [l3, cv_out f, cv_out e, fo_out f]; omega
  · obtain ⟨a, b, e, f⟩ := out_p q
    rw [kf_p q] at k
    rw [pt_p q] at p
    rcases h4 with h4 | h4 | h4 | h4 <;> rw [h4]
    · rw [l0, cv_in a, cv_in f, fo_in a]; omega
    · rw [l1, cv_out b, cv_in a, fo_out b]; omega
    · rw [l2, cv_out e, cv_out b, fo_out e]; omega
    · rw [l3, cv_in f, cv_out e, fo_in f]; omega
section
variable {n : Nat} {sg lb nm fr to at_ : Nat → Int}
theorem dep_ok (h : EdgA n sg lb nm fr to at_) {g : Nat} (hg : g < 4 * n) : dep fr to g < 4 * n ∧ lb (dep fr to g) = nm (g / 2) ∧ outQ sg (dep fr to g) = decide (g % 2 = 0) := by
  obtain ⟨p, q, b1, b2, b3, b4, b5, b6, b7, b8, b9, b10⟩ := Edg_fr h (show g / 2 < 2 * n by omega)
  unfold dep
  by_cases c : g % 2 = 0
  · rw [if_pos c, b3, Int.toNat_natCast]; exact ⟨b1, b9, by rw [b5]; simp [c]⟩
  · rw [if_neg c, b4, Int.toNat_natCast]; exact ⟨b2, b10, by rw [b6]; simp [c]⟩
theorem dep_inj (h : EdgA n sg lb nm fr to at_) {g k : Nat} (hg : g < 4 * n) (hk : k < 4 * n) (e : dep fr to g = dep fr to k) : g = k := by
  obtain ⟨a1, a2, a3⟩ := dep_ok h hg
  obtain ⟨b1, b2, b3⟩ := dep_ok h hk
  rw [e] at a2 a3
  have h1 := Edg_nm h (show g / 2 < 2 * n by omega) (show k / 2 < 2 * n by omega) (by rw [← a2, ← b2])
  have h2 : decide (g % 2 = 0) = decide (k % 2 = 0) := by rw [← a3, ← b3]
  have h3 : g % 2 = 0 ↔ k % 2 = 0 := by simpa using h2
  omega
theorem dep_sur (h : EdgA n sg lb nm fr to at_) {q : Nat} (hq : q < 4 * n) : ∃ g, g < 4 * n ∧ dep fr to g = q := by
  obtain ⟨e, he, a1, a2, a3, a4⟩ := Edg_at h hq
  by_cases o : outQ sg q = true
  · refine ⟨2 * e, by omega, ?_⟩
    unfold dep; rw [if_pos (by omega), show 2 * e / 2 = e by omega, a3 o, Int.toNat_natCast]
  · refine ⟨2 * e + 1, by omega, ?_⟩
    unfold dep; rw [if_neg (by omega), show (2 * e + 1) / 2 = e by omega, a4 (by simpa using o), Int.toNat_natCast]
/-- along a face the corners' value stands -/
theorem cv_tn (h : EdgA n sg lb nm fr to at_) {w L : Int → Int} (hv : VR n sg (fun q => w (lb q)) (cv sg lb w L)) {g : Nat} (hg : g < 4 * n) : cv sg lb w L (dep fr to (tnz fr to at_ g)) = cv sg lb w L (dep fr to g) := by
  obtain ⟨a1, a2, a3, a4⟩ := arr_ok h hg
  obtain ⟨b1, b2, b3⟩ := dep_ok h hg
  rw [dep_tn h hg]
  have v := hv _ a1
  by_cases c : g % 2 = 0
  · have oa : outQ sg (arrz fr to g) = false := by rw [a3]; simp; omega
    have ob : outQ sg (dep fr to g) = true := by rw [b3]; simp [c]
    rw [cv_out ob, b2]
    rw [cv_in oa, fo_in oa, a4] at v
    omega
  · have oa : outQ sg (arrz fr to g) = true := by rw [a3]; simp; omega
    have ob : outQ sg (dep fr to g) = false := by rw [b3]; simp [c]
    rw [cv_in ob, b2]
    rw [cv_out oa, fo_out oa, a4] at v
    omega
theorem orb_eq {f : Nat → Nat} {N : Nat} (hf : closedz f N) {P : Nat → Int} (hP : ∀ y, y < N → P (f y) = P y) {x y : Nat} (hx : x < N) (hy : y < N) (e : (rndz f N N).1 x = (rndz f N N).1 y) : P x = P y := by
  obtain ⟨r1, r2, r3, r4, r5, r6⟩ := rnd_ok hf N (Nat.le_refl _)
  have p0 := r3 x hx
  have p1 := r2 x hx
  obtain ⟨c, hc⟩ : ∃ c : Nat, (rndz f N N).1 x = (c : Int) := ⟨((rndz f N N).1 x).toNat, by omega⟩
  have hcl : c < (rndz f N N).2.1 := by omega
  obtain ⟨s1, s2, s3, s4, s5, s6⟩ := r5 c hcl
  have ip : ∀ t, P (it f t ((rndz f N N).2.2.1 c)) = P ((rndz f N N).2.2.1 c) := fun t => by
    induction t with
    | zero => rfl
    | succ t ih => rw [it_s, hP _ (it_lt hf s1 t), ih]
  obtain ⟨_, j, _, hj⟩ := s6 x hx hc
  obtain ⟨_, k, _, hk⟩ := s6 y hy (by rw [← e]; exact hc)
  rw [← hj, ← hk, ip, ip]
end
