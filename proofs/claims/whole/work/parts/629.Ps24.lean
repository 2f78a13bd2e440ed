theorem M_line (fl : Nat) (hfl : 5000 ≤ fl) {tx ty : Nat → Int} {sz : Nat} (hs : sz ≤ 4000) (ht : TXT tx ty sz) {nu0 nu : Nat → Int} {b q : Nat} {at_ tm fr fa pl pa : Int} (h : AtM tx sz q at_ tm fr fa pl) (hk2 : tkK tx sz q = 2) (hn : NM nu0 b nu pa []) (hb : b ≤ q) {k : Nat} (hk : 1 ≤ k ∧ k ≤ 18) :
    RM tx sz nu0 b [] 4020 (sLine tx sz k (nxt tx sz q)) (LM_Md_readLine fl (sz : Int) ty (k : Int) at_ tm fr fa pl pa nu) := by
  obtain ⟨a1, t1, f1, g1, p1, n1, n2⟩ := M_next fl hfl hs ht h (by omega)
  have hx := nxt_b (tx := tx) h.1
  have hx1 := hx.2.2 (by omega)
  have hx2 := hx.2.1
  have hb1 : b + ([] : List Int).length < nxt tx sz q := by show b + 0 < _; omega
  unfold LM_Md_readLine LB_Md_readLine_0
  rw [n1, Option.bind_some]
  unfold sLine sRest
  have nil : RM tx sz nu0 b [] 4020 (sq (.inl (nxt tx sz q, [])) (sEnd tx sz)) (LB_Md_readLine_169 fl (sz : Int) ty (k : Int) a1 t1 f1 g1 p1 pa nu) := by
    rw [sq_nil]; exact e169 fl hfl hs ht n2 hn (by show b + 0 ≤ 4010; omega) _
  have num := M_line1 fl hfl hs ht n2 hn hb1 (k : Int)
  have hc : k = 1 ∨ k = 2 ∨ k = 3 ∨ k = 4 ∨ k = 5 ∨ k = 6 ∨ k = 7 ∨ k = 8 ∨ k = 9 ∨ k = 10 ∨ k = 11 ∨ k = 12 ∨ k = 13 ∨ k = 14 ∨ k = 15 ∨ k = 16 ∨ k = 17 ∨ k = 18 := by omega
  rcases hc with w | w | w | w | w | w | w | w | w | w | w | w | w | w | w | w | w | w <;> subst w
  · have := M169 fl hfl hs ht (M_rcode fl hfl hs ht 20 fl (nxt tx sz q) a1 t1 f1 g1 p1 pa nu [] (by omega) (by omega) n2 hn hb1) (fun q1 l1 e => by have := sCode_p 20 _ _ _ hx2 e; show b + 0 + l1.length ≤ 4010; omega) ((1 : Nat) : Int)
    exact this
  · have := M169 fl hfl hs ht (M_rbraid fl hfl hs ht n2 hn hb1) (fun q1 l1 e => by have := sq_p (fun q1 l1 e => sNum_p hx2 e) (fun q1 q2 l2 hq1 e => sLet_p 32 q1 q2 l2 hq1 e) e; show b + 0 + l1.length ≤ 4010; omega) ((2 : Nat) : Int)
    exact this
  · exact num
  · exact num
  · have := M_line5 fl hfl hs ht n2 hn hb1 ((5 : Nat) : Int)
    have es : sq (sq (sNum tx sz 1 (nxt tx sz q)) (fun q => sq (sSign tx sz q) (sSide tx sz))) (sEnd tx sz) = (sq (sNum tx sz 1 (nxt tx sz q)) fun q => sq (sSign tx sz q) fun q => sq (sSide tx sz q) (sEnd tx sz)) := by simp only [sq_assoc]
    show RM tx sz nu0 b [] 4020 (sq (sq (sNum tx sz 1 (nxt tx sz q)) (fun q => sq (sSign tx sz q) (sSide tx sz))) (sEnd tx sz)) _
    rw [es]
    exact this
  · have := M_line6 fl hfl hs ht n2 hn hb1 ((6 : Nat) : Int)
    have es : sq (sq (sSgd tx sz (nxt tx sz q)) (fun q => sq (sSide tx sz q) (sSgd tx sz))) (sEnd tx sz) = (sq (sSgd tx sz (nxt tx sz q)) fun q => sq (sSide tx sz q) fun q => sq (sSgd tx sz q) (sEnd tx sz)) := by simp only [sq_assoc]
    show RM tx sz nu0 b [] 4020 (sq (sq (sSgd tx sz (nxt tx sz q)) (fun q => sq (sSide tx sz q) (sSgd tx sz))) (sEnd tx sz)) _
    rw [es]
    exact this
  · exact nil
  · exact nil
  · exact num
  · exact num
  · exact num
  · exact nil
  · exact nil
  · exact nil
  · exact nil
  · exact M_lineP fl hfl hs ht n2 hn hb1 16 (lv := lit 23) rfl
  · exact M_lineP fl hfl hs ht n2 hn hb1 17 (lv := lit 23) rfl
  · exact M_lineP fl hfl hs ht n2 hn hb1 18 (lv := lit 22) rfl
