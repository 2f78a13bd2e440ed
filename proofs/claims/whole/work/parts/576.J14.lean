theorem four_pl {x q : Nat} (hq : q / 4 = x / 4) : q = x ∨ q = lv x ∨ q = opp x ∨ q = opp (lv x) := by
  unfold opp lv; (repeat' split) <;> omega
theorem sum_4 (f : Nat → Int) (a : Nat) : f (4 * (a / 4)) + f (4 * (a / 4) + 1) + f (4 * (a / 4) + 2) + f (4 * (a / 4) + 3) = f a + f (lv a) + f (opp a) + f (opp (lv a)) := by
  obtain ⟨c, k, hk, e⟩ : ∃ c k, k < 4 ∧ a = 4 * c + k := ⟨a / 4, a % 4, by omega, by omega⟩
  subst e
  obtain ⟨l0, l1, l2, l3⟩ := lv_4 c
  have o : opp (4 * c) = 4 * c + 2 ∧ opp (4 * c + 1) = 4 * c + 3 ∧ opp (4 * c + 2) = 4 * c ∧ opp (4 * c + 3) = 4 * c + 1 := by
    unfold opp; refine ⟨?_, ?_, ?_, ?_⟩ <;> (split <;> omega)
  obtain ⟨o0, o1, o2, o3⟩ := o
  have c4 : (4 * c + k) / 4 = c := by omega
  rw [c4]
  have : k = 0 ∨ k = 1 ∨ k = 2 ∨ k = 3 := by omega
  rcases this with e | e | e | e <;> subst e
  · rw [show 4 * c + 0 = 4 * c from rfl, l0, o0, o3]; omega
  · rw [l1, o1, o0]; omega
  · rw [l2, o2, o1]; omega
  · rw [l3, o3, o2]; omega
/-- an edge of the triangle: its endsz, and what stands there behind the slide -/
def TriP (n : Nat) (sg lb lb' : Nat → Int) (m : Int) (A D : Nat) : Prop :=
  A < 4 * n ∧ D < 4 * n ∧ lb A = m ∧ lb D = m ∧ outQ sg D = !outQ sg A ∧ lb' (opp D) = m ∧ lb' (opp A) = m ∧ lb' D = lb (opp A) ∧ lb' A = lb (opp D)
def TriW (lb : Nat → Int) (w w0 : Int → Int) (m : Int) (A D : Nat) : Prop :=
  w0 m = w (lb (opp D)) + w (lb (opp A)) - w m ∧ w0 (lb (opp D)) = w (lb (opp D)) ∧ w0 (lb (opp A)) = w (lb (opp A))
theorem op_o (sg : Nat → Int) (q : Nat) : outQ sg (opp q) = !outQ sg q := opp_out sg q
section
variable {n : Nat} {sg lb lb' : Nat → Int} {w w0 : Int → Int}
/-- the sum over a crossing is the same -/
theorem tri_fo {m : Int} {A D : Nat} (h : TriP n sg lb lb' m A D) (hw : TriW lb w w0 m A D) :
    fo_ sg (fun q => w (lb' q)) A + fo_ sg (fun q => w (lb' q)) (opp A) = fo_ sg (fun q => w0 (lb q)) A + fo_ sg (fun q => w0 (lb q)) (opp A) ∧
    fo_ sg (fun q => w (lb' q)) D + fo_ sg (fun q => w (lb' q)) (opp D) = fo_ sg (fun q => w0 (lb q)) D + fo_ sg (fun q => w0 (lb q)) (opp D) ∧
    fo_ sg (fun q => w (lb' q)) A = fo_ sg (fun q => w0 (lb q)) (opp D) ∧ fo_ sg (fun q => w (lb' q)) D = fo_ sg (fun q => w0 (lb q)) (opp A) ∧ fo_ sg (fun q => w0 (lb q)) A = - fo_ sg (fun q => w0 (lb q)) D := by
  obtain ⟨h1, h2, h3, h4, h5, h6, h7, h8, h9⟩ := h
  obtain ⟨w1, w2, w3⟩ := hw
  unfold fo_
  rw [op_o, op_o, h5]
  show (if _ then w (lb' A) else -(w (lb' A))) + (if _ then w (lb' (opp A)) else -(w (lb' (opp A)))) = (if _ then w0 (lb A) else -(w0 (lb A))) + (if _ then w0 (lb (opp A)) else -(w0 (lb (opp A)))) ∧
    (if _ then w (lb' D) else -(w (lb' D))) + (if _ then w (lb' (opp D)) else -(w (lb' (opp D)))) = (if _ then w0 (lb D) else -(w0 (lb D))) + (if _ then w0 (lb (opp D)) else -(w0 (lb (opp D)))) ∧
    (if _ then w (lb' A) else -(w (lb' A))) = (if _ then w0 (lb (opp D)) else -(w0 (lb (opp D)))) ∧ (if _ then w (lb' D) else -(w (lb' D))) = (if _ then w0 (lb (opp A)) else -(w0 (lb (opp A)))) ∧ (if _ then w0 (lb A) else -(w0 (lb A))) = -(if _ then w0 (lb D) else -(w0 (lb D)))
  rw [h3, h4, h6, h7, h8, h9, w1, w2, w3]
  cases outQ sg A
  · simp; omega
  · simp; omega
/-- one corner of the triangle: arrives A, leaves E, E = lv A -/
theorem tri_kp {mA mE : Int} {A D B E : Nat} (hA : TriP n sg lb lb' mA A D) (hE : TriP n sg lb lb' mE B E) (wA : TriW lb w w0 mA A D) (wE : TriW lb w w0 mE B E) (hl : E = lv A) :
    fo_ sg (fun q => w (lb' q)) A + fo_ sg (fun q => w (lb' q)) (lv A) + fo_ sg (fun q => w (lb' q)) (opp A) + fo_ sg (fun q => w (lb' q)) (opp (lv A)) =
    fo_ sg (fun q => w0 (lb q)) A + fo_ sg (fun q => w0 (lb q)) (lv A) + fo_ sg (fun q => w0 (lb q)) (opp A) + fo_ sg (fun q => w0 (lb q)) (opp (lv A)) := by
  subst hl
  have a := tri_fo hA wA
  have b := tri_fo hE wE
  omega
/-- the values behind the slide, at one corner -/
theorem tri_vr {L L0 : Int → Int} {m1 m2 m3 : Int} {A1 D1 A2 D2 A3 D3 : Nat} (h1 : TriP n sg lb lb' m1 A1 D1) (h2 : TriP n sg lb lb' m2 A2 D2) (h3 : TriP n sg lb lb' m3 A3 D3)
    (w1 : TriW lb w w0 m1 A1 D1) (w2 : TriW lb w w0 m2 A2 D2) (w3 : TriW lb w w0 m3 A3 D3) (e2 : D2 = lv A1) (e3 : D3 = lv A2) (e1 : D1 = lv A3)
    (hv : VR n sg (fun q => w0 (lb q)) (cv sg lb w0 L0)) (t : cv sg lb w0 L0 D1 = cv sg lb w0 L0 D3)
    (hk : fo_ sg (fun q => w (lb' q)) A1 + fo_ sg (fun q => w (lb' q)) (lv A1) + fo_ sg (fun q => w (lb' q)) (opp A1) + fo_ sg (fun q => w (lb' q)) (opp (lv A1)) = 0)
    (x1 : L m1 = cv sg lb w0 L0 (opp D3) + (if outQ sg D1 = true then 0 else w m1)) (x2 : L m2 = cv sg lb w0 L0 (opp D1) + (if outQ sg D2 = true then 0 else w m2))
    (y1 : L (lb (opp D1)) = L0 (lb (opp D1))) (y2 : L (lb (opp A2)) = L0 (lb (opp A2))) :
    ∀ r, r / 4 = A1 / 4 → cv sg lb' w L r - cv sg lb' w L (lv r) = fo_ sg (fun q => w (lb' q)) r := by
  obtain ⟨a1, a2, a3, a4, a5, a6, a7, a8, a9⟩ := h1
  obtain ⟨b1, b2, b3, b4, b5, b6, b7, b8, b9⟩ := h2
  obtain ⟨g1, g2, g3, g4, g5, g6, g7, g8, g9⟩ := h3
  have f1 := tri_fo ⟨a1, a2, a3, a4, a5, a6, a7, a8, a9⟩ w1
  have f2 := tri_fo ⟨b1, b2, b3, b4, b5, b6, b7, b8, b9⟩ w2
  have f3 := tri_fo ⟨g1, g2, g3, g4, g5, g6, g7, g8, g9⟩ w3
  -- the four values
  have v1 : cv sg lb' w L A1 = cv sg lb w0 L0 (opp D1) := by
    unfold cv; rw [op_o, a9, y1, w1.2.1, a5]; simp
  have v2 : cv sg lb' w L D2 = cv sg lb w0 L0 (opp A2) := by
    unfold cv; rw [op_o, b8, y2, w2.2.2, b5]
  have v3 : cv sg lb' w L (opp A1) = cv sg lb w0 L0 (opp D3) := by
    rw [show cv sg lb' w L (opp A1) = if outQ sg (opp A1) = true then L (lb' (opp A1)) else L (lb' (opp A1)) - w (lb' (opp A1)) from rfl, a7, op_o, x1, a5]
    cases outQ sg A1 <;> simp
  have v4 : cv sg lb' w L (opp D2) = cv sg lb w0 L0 (opp D1) + fo_ sg (fun q => w (lb' q)) (opp D2) := by
    rw [show cv sg lb' w L (opp D2) = if outQ sg (opp D2) = true then L (lb' (opp D2)) else L (lb' (opp D2)) - w (lb' (opp D2)) from rfl]
    unfold fo_
    show _ = _ + (if _ then w (lb' (opp D2)) else -(w (lb' (opp D2))))
    rw [b6, op_o, x2]
    cases outQ sg D2 <;> simp; omega
  obtain ⟨q1, q2, q3⟩ := lv_opp A1
  obtain ⟨s1, s2, s3⟩ := lv_opp A2
  obtain ⟨t1, t2, t3⟩ := lv_opp A3
  -- old equations
  have o2 := hv D3 g2
  have o3 := hv A3 g1
  have o4 := hv (opp A2) (opp_lt b1)
  have lod : lv (opp D1) = A3 := by rw [e1]; exact t3
  have o1 := hv (opp D1) (opp_lt a2)
  rw [lod] at o1
  rw [e3, s1, ← e3] at o2
  rw [← e1] at o3
  rw [s2, ← e3] at o4
  rw [← e2] at hk q1 q2 q3
  intro r hr
  rcases four_pl hr with e | e | e | e
  · rw [e, ← e2, v1, v2]; omega
  · rw [e, ← e2, q1, v2, v3]; omega
  · rw [e, q2, v3, v4]; omega
  · rw [e, ← e2, q3, v4, v1]; omega
end
