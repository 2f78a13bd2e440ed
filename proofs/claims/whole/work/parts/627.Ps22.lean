theorem e169 (fl : Nat) (hfl : 5000 ≤ fl) {tx ty : Nat → Int} {sz : Nat} (hs : sz ≤ 4000) (ht : TXT tx ty sz) {nu0 nu : Nat → Int} {b q : Nat} {l : List Int} {at_ tm fr fa pl pa : Int} (h : AtM tx sz q at_ tm fr fa pl) (hn : NM nu0 b nu pa l) (hl : b + l.length ≤ 4010) (x1 : Int) : RM tx sz nu0 b l 4020 (sEnd tx sz q) (LB_Md_readLine_169 fl (sz : Int) ty x1 at_ tm fr fa pl pa nu) := by
  have := M169 fl hfl hs ht (RM_nil 4020 h hn) (fun q1 l1 e => by have := inl_nil e; omega) x1
  rw [sq_nil, Option.bind_some] at this
  exact this
theorem f169 (fl : Nat) (hfl : 5000 ≤ fl) {tx ty : Nat → Int} {sz : Nat} (hs : sz ≤ 4000) (ht : TXT tx ty sz) {nu : Nat → Int} {at_ tm fr fa pl pa : Int} (k1 : FaM tx sz at_ tm fr) (k2 : fa ≠ 0) (k3 : 0 ≤ pa) (k4 : pa ≤ ((4020 : Nat) : Int)) (x1 : Int) : FR tx sz fa pl 4020 (LB_Md_readLine_169 fl (sz : Int) ty x1 at_ tm fr fa pl pa nu) := by
  unfold LB_Md_readLine_169
  by_cases c : tm = 0
  · rw [if_pos c]; exact ⟨_, _, _, _, _, rfl, k1, k3, k4⟩
  · rw [if_neg c, FaM_wrong fl hfl hs ht k1 k2, Option.bind_some]; exact ⟨_, _, _, _, _, rfl, k1, k3, k4⟩
theorem M_rbraid (fl : Nat) (hfl : 5000 ≤ fl) {tx ty : Nat → Int} {sz : Nat} (hs : sz ≤ 4000) (ht : TXT tx ty sz) {nu0 nu : Nat → Int} {b q : Nat} {l : List Int} {at_ tm fr fa pl pa : Int} (h : AtM tx sz q at_ tm fr fa pl) (hn : NM nu0 b nu pa l) (hb : b + l.length < q) : RM tx sz nu0 b l 4020 (sq (sNum tx sz 1 q) (sLet tx sz 32)) (LM_Md_readBraid fl (sz : Int) ty at_ tm fr fa pl pa nu) := by
  have hq := h.1
  unfold LM_Md_readBraid LB_Md_readBraid_0
  refine RM_num fl (M_number fl hfl hs ht h) hn (by omega) (G := fun o => LB_Md_readBraid_11 fl (sz : Int) ty fl 0 o.1 o.2.1 o.2.2.1 o.2.2.2.1 o.2.2.2.2.1 o.2.2.2.2.2.1 o.2.2.2.2.2.2) (fun q1 l1 a1 t1 f1 g1 p1 pa1 nu1 e1 h1 n1 => ?_) (fun a1 t1 f1 g1 p1 pa1 nu1 k1 k2 k3 k4 => ?_)
  · have a1' := sNum_p hq e1
    have := M_rlet fl hfl hs ht 32 fl q1 a1 t1 f1 g1 p1 pa1 nu1 (l ++ l1) (by omega) (by omega) h1 n1 (by rw [List.length_append]; omega)
    rw [show (32 - ((32 : Nat) : Int)) = 0 from rfl] at this
    exact this
  · show FR tx sz g1 p1 4020 (LB_Md_readBraid_11 fl (sz : Int) ty fl 0 a1 t1 f1 g1 p1 pa1 nu1)
    obtain ⟨nn, e⟩ : ∃ r, fl = r + 1 := ⟨fl - 1, by omega⟩
    have : LB_Md_readBraid_11 fl (sz : Int) ty (nn + 1) 0 a1 t1 f1 g1 p1 pa1 nu1 = some (a1, t1, f1, g1, p1, pa1, nu1) := by rw [LB_Md_readBraid_11, if_pos k2]
    rw [← e] at this
    rw [this]
    exact ⟨_, _, _, _, _, rfl, k1, k3, by omega⟩
/-- a line with one number -/
theorem M_line1 (fl : Nat) (hfl : 5000 ≤ fl) {tx ty : Nat → Int} {sz : Nat} (hs : sz ≤ 4000) (ht : TXT tx ty sz) {nu0 nu : Nat → Int} {b q : Nat} {l : List Int} {at_ tm fr fa pl pa : Int} (h : AtM tx sz q at_ tm fr fa pl) (hn : NM nu0 b nu pa l) (hb : b + l.length < q) (x1 : Int) : RM tx sz nu0 b l 4020 (sq (sNum tx sz 1 q) (sEnd tx sz)) ((LM_Md_number fl (sz : Int) ty (0 : Int) at_ tm fr fa pl).bind fun o => ((LM_Md_put fl o.1 pa nu).bind fun o1 => (LB_Md_readLine_169 fl (sz : Int) ty x1 o.2.1 o.2.2.1 o.2.2.2.1 o.2.2.2.2.1 o.2.2.2.2.2 o1.1 o1.2))) := by
  have hq := h.1
  refine RM_num fl (M_number fl hfl hs ht h) hn (by omega) (G := fun o => LB_Md_readLine_169 fl (sz : Int) ty x1 o.1 o.2.1 o.2.2.1 o.2.2.2.1 o.2.2.2.2.1 o.2.2.2.2.2.1 o.2.2.2.2.2.2) (fun q1 l1 a1 t1 f1 g1 p1 pa1 nu1 e1 h1 n1 => ?_) (fun a1 t1 f1 g1 p1 pa1 nu1 k1 k2 k3 k4 => ?_)
  · have a1' := sNum_p hq e1
    exact e169 fl hfl hs ht h1 n1 (by rw [List.length_append]; omega) x1
  · exact f169 fl hfl hs ht k1 k2 k3 (by omega) x1
theorem M_line5 (fl : Nat) (hfl : 5000 ≤ fl) {tx ty : Nat → Int} {sz : Nat} (hs : sz ≤ 4000) (ht : TXT tx ty sz) {nu0 nu : Nat → Int} {b q : Nat} {l : List Int} {at_ tm fr fa pl pa : Int} (h : AtM tx sz q at_ tm fr fa pl) (hn : NM nu0 b nu pa l) (hb : b + l.length < q) (x1 : Int) : RM tx sz nu0 b l 4020 (sq (sNum tx sz 1 q) fun q => sq (sSign tx sz q) fun q => sq (sSide tx sz q) (sEnd tx sz)) ((LM_Md_number fl (sz : Int) ty (0 : Int) at_ tm fr fa pl).bind fun o7 => ((LM_Md_put fl o7.1 pa nu).bind fun o8 => ((LM_Md_putSign fl (sz : Int) ty o7.2.1 o7.2.2.1 o7.2.2.2.1 o7.2.2.2.2.1 o7.2.2.2.2.2 o8.1 o8.2).bind fun o9 => ((LM_Md_putOver fl (sz : Int) ty o9.1 o9.2.1 o9.2.2.1 o9.2.2.2.1 o9.2.2.2.2.1 o9.2.2.2.2.2.1 o9.2.2.2.2.2.2).bind fun o10 => (LB_Md_readLine_169 fl (sz : Int) ty x1 o10.1 o10.2.1 o10.2.2.1 o10.2.2.2.1 o10.2.2.2.2.1 o10.2.2.2.2.2.1 o10.2.2.2.2.2.2))))) := by
  have hq := h.1
  refine RM_num fl (M_number fl hfl hs ht h) hn (by omega) (G := fun o => ((LM_Md_putSign fl (sz : Int) ty o.1 o.2.1 o.2.2.1 o.2.2.2.1 o.2.2.2.2.1 o.2.2.2.2.2.1 o.2.2.2.2.2.2).bind fun o9 => ((LM_Md_putOver fl (sz : Int) ty o9.1 o9.2.1 o9.2.2.1 o9.2.2.2.1 o9.2.2.2.2.1 o9.2.2.2.2.2.1 o9.2.2.2.2.2.2).bind fun o10 => (LB_Md_readLine_169 fl (sz : Int) ty x1 o10.1 o10.2.1 o10.2.2.1 o10.2.2.2.1 o10.2.2.2.2.1 o10.2.2.2.2.2.1 o10.2.2.2.2.2.2)))) (fun q1 l1 a1 t1 f1 g1 p1 pa1 nu1 e1 h1 n1 => ?_) (fun a1 t1 f1 g1 p1 pa1 nu1 k1 k2 k3 k4 => ?_)
  · have a1' := sNum_p hq e1
    have hb1 : b + (l ++ l1).length < q1 := by rw [List.length_append]; omega
    have hq1 := h1.1
    refine RM_sq (M_psign fl hfl hs ht h1 n1 hb1) (fun q2 l2 a2 t2 f2 g2 p2 pa2 nu2 e2 h2 n2 => ?_) (fun a2 t2 f2 g2 p2 pa2 nu2 k1 k2 k3 k4 => ?_)
    · have a2' := sSign_p hq1 e2
      have hb2 : b + (l ++ l1 ++ l2).length < q2 := by rw [List.length_append]; omega
      have hq2 := h2.1
      refine RM_sq (M_pover fl hfl hs ht h2 n2 hb2) (fun q3 l3 a3 t3 f3 g3 p3 pa3 nu3 e3 h3 n3 => ?_) (fun a3 t3 f3 g3 p3 pa3 nu3 k1 k2 k3 k4 => ?_)
      · have a3' := sSide_p hq2 e3
        exact e169 fl hfl hs ht h3 n3 (by rw [List.length_append]; omega) x1
      · exact f169 fl hfl hs ht k1 k2 k3 (by omega) x1
    · refine FR_bind (F_pover fl hfl hs ht k1 k2 nu2 ⟨k3, k4, by omega⟩) (fun a3 t3 f3 pa3 nu3 w1 w2 w3 => ?_)
      exact f169 fl hfl hs ht w1 k2 w2 (by omega) x1
  · refine FR_bind (F_psign fl hfl hs ht k1 k2 nu1 ⟨k3, k4, by omega⟩) (fun a2 t2 f2 pa2 nu2 w1 w2 w3 => ?_)
    refine FR_bind (F_pover fl hfl hs ht w1 k2 nu2 ⟨w2, w3, by omega⟩) (fun a3 t3 f3 pa3 nu3 w1 w2 w3 => ?_)
    exact f169 fl hfl hs ht w1 k2 w2 (by omega) x1
