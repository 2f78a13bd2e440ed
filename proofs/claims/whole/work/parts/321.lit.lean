theorem vz_one {args : Array Value} {s : State} {t : Term} {len : Nat} {byt : List Int32} {A : Nat → Prop} (hN : len < 2 ^ 31) (hex : (Cond.exactly t "java/lang/String").before args s = true) (hco : (Cond.eq (.field t "java/lang/String" "coder" "B") (.int 0)).before args s = true) (har : (Cond.arrayOf (.field t "java/lang/String" "value" "[B") .byte).before args s = true) (hle : (Cond.eq (.length (.field t "java/lang/String" "value" "[B")) (.int (Int32.ofNat len))).before args s = true)
    (hel : ∀ j : Nat, j < len → (Cond.eq (.elem (.field t "java/lang/String" "value" "[B") (.int (Int32.ofNat j))) (.int (byt.getD j 0))).before args s = true) (hA : ∀ a : Nat, a < s.heap.size → ¬ A a) :
    ∃ q : Nat × Nat, t.eval args s none [] s = some (.ref q.1) ∧ va_O "java/lang/String" q.1 A s s.heap ∧ va_OF "java/lang/String" "coder" "B" (.int 0) q.1 A s s.heap ∧ va_OF "java/lang/String" "value" "[B" (.ref q.2) q.1 A s s.heap ∧ va_T .byte q.2 len (fun j => .int (byt.getD j 0)) A s s.heap := by
  obtain ⟨a, c, cA, kA, q1, q2, q3, q4, q5, q6, -⟩ := Cond.exactly_spec (args := args) (first := s) (o := none) (s := s) (idx := []) (t := t) (cls := "java/lang/String") hex
  obtain ⟨u, hu, hT⟩ := va_Tof (f := fun j => .int (byt.getD j 0)) (A := A) hN har (va_eqt hle) (fun j hj => va_eqt (hel j hj)) hA
  exact ⟨(a, u), q1, ⟨cA, q3, q5, by rw [q6]; exact q2, hA a (Array.getElem?_eq_some_iff.mp q3).1⟩, vk_OFof q1 (va_eqt hco) hA, vk_OFof q1 hu hA, hT⟩
def vz_Ps (args : Array Value) (s : State) (A : Nat → Prop) (i : Nat) (q : Nat × Nat) : Prop :=
  (Term.string (strE.getD i ("", 0, "")).1 (strE.getD i ("", 0, "")).2.1).eval args s none [] s = some (.ref q.1) ∧ va_O "java/lang/String" q.1 A s s.heap ∧ va_OF "java/lang/String" "coder" "B" (.int 0) q.1 A s s.heap ∧ va_OF "java/lang/String" "value" "[B" (.ref q.2) q.1 A s s.heap ∧ va_T .byte q.2 (strL.getD i 0) (fun j => .int ((strB.getD i []).getD j 0)) A s s.heap
def lc_0 : List Cond := [.exactly (.string "LinkEngine" 375) "java/lang/String", .eq (.field (.string "LinkEngine" 375) "java/lang/String" "coder" "B") (.int 0), .arrayOf (.field (.string "LinkEngine" 375) "java/lang/String" "value" "[B") .byte, .eq (.length (.field (.string "LinkEngine" 375) "java/lang/String" "value" "[B")) (.int 4), .eq (.elem (.field (.string "LinkEngine" 375) "java/lang/String" "value" "[B") (.int 0)) (.int 99), .eq (.elem (.field (.string "LinkEngine" 375) "java/lang/String" "value" "[B") (.int 1)) (.int 111), .eq (.elem (.field (.string "LinkEngine" 375) "java/lang/String" "value" "[B") (.int 2)) (.int 100), .eq (.elem (.field (.string "LinkEngine" 375) "java/lang/String" "value" "[B") (.int 3)) (.int 101)]
theorem lc_0_in : ∀ c ∈ lc_0, c ∈ flatC (Jvm.Cond.and given_1 narrow_1) := by decide +kernel
theorem ls_0 {args : Array Value} {s : State} {A : Nat → Prop} (hs : ∀ c ∈ flatC (Jvm.Cond.and given_1 narrow_1), c.before args s = true) (hA : ∀ a : Nat, a < s.heap.size → ¬ A a) : ∃ q, vz_Ps args s A 0 q :=
  vz_one (t := .string "LinkEngine" 375) (len := 4) (byt := [99, 111, 100, 101]) (by decide) (hs _ (lc_0_in _ (List.mem_of_getElem? (i := 0) rfl))) (hs _ (lc_0_in _ (List.mem_of_getElem? (i := 1) rfl))) (hs _ (lc_0_in _ (List.mem_of_getElem? (i := 2) rfl))) (hs _ (lc_0_in _ (List.mem_of_getElem? (i := 3) rfl))) (fun j hj => by
  rcases (show j = 0 ∨ j = 1 ∨ j = 2 ∨ j = 3 by omega) with rfl | rfl | rfl | rfl
  · exact hs _ (lc_0_in _ (List.mem_of_getElem? (i := 4) rfl))
  · exact hs _ (lc_0_in _ (List.mem_of_getElem? (i := 5) rfl))
  · exact hs _ (lc_0_in _ (List.mem_of_getElem? (i := 6) rfl))
  · exact hs _ (lc_0_in _ (List.mem_of_getElem? (i := 7) rfl))) hA
def lc_1 : List Cond := [.exactly (.string "LinkEngine" 377) "java/lang/String", .eq (.field (.string "LinkEngine" 377) "java/lang/String" "coder" "B") (.int 0), .arrayOf (.field (.string "LinkEngine" 377) "java/lang/String" "value" "[B") .byte, .eq (.length (.field (.string "LinkEngine" 377) "java/lang/String" "value" "[B")) (.int 5), .eq (.elem (.field (.string "LinkEngine" 377) "java/lang/String" "value" "[B") (.int 0)) (.int 98), .eq (.elem (.field (.string "LinkEngine" 377) "java/lang/String" "value" "[B") (.int 1)) (.int 114), .eq (.elem (.field (.string "LinkEngine" 377) "java/lang/String" "value" "[B") (.int 2)) (.int 97), .eq (.elem (.field (.string "LinkEngine" 377) "java/lang/String" "value" "[B") (.int 3)) (.int 105), .eq (.elem (.field (.string "LinkEngine" 377) "java/lang/String" "value" "[B") (.int 4)) (.int 100)]
theorem lc_1_in : ∀ c ∈ lc_1, c ∈ flatC (Jvm.Cond.and given_1 narrow_1) := by decide +kernel
theorem ls_1 {args : Array Value} {s : State} {A : Nat → Prop} (hs : ∀ c ∈ flatC (Jvm.Cond.and given_1 narrow_1), c.before args s = true) (hA : ∀ a : Nat, a < s.heap.size → ¬ A a) : ∃ q, vz_Ps args s A 1 q :=
  vz_one (t := .string "LinkEngine" 377) (len := 5) (byt := [98, 114, 97, 105, 100]) (by decide) (hs _ (lc_1_in _ (List.mem_of_getElem? (i := 0) rfl))) (hs _ (lc_1_in _ (List.mem_of_getElem? (i := 1) rfl))) (hs _ (lc_1_in _ (List.mem_of_getElem? (i := 2) rfl))) (hs _ (lc_1_in _ (List.mem_of_getElem? (i := 3) rfl))) (fun j hj => by
  rcases (show j = 0 ∨ j = 1 ∨ j = 2 ∨ j = 3 ∨ j = 4 by omega) with rfl | rfl | rfl | rfl | rfl
  · exact hs _ (lc_1_in _ (List.mem_of_getElem? (i := 4) rfl))
  · exact hs _ (lc_1_in _ (List.mem_of_getElem? (i := 5) rfl))
  · exact hs _ (lc_1_in _ (List.mem_of_getElem? (i := 6) rfl))
  · exact hs _ (lc_1_in _ (List.mem_of_getElem? (i := 7) rfl))
  · exact hs _ (lc_1_in _ (List.mem_of_getElem? (i := 8) rfl))) hA
def lc_2 : List Cond := [.exactly (.string "LinkEngine" 379) "java/lang/String", .eq (.field (.string "LinkEngine" 379) "java/lang/String" "coder" "B") (.int 0), .arrayOf (.field (.string "LinkEngine" 379) "java/lang/String" "value" "[B") .byte, .eq (.length (.field (.string "LinkEngine" 379) "java/lang/String" "value" "[B")) (.int 4), .eq (.elem (.field (.string "LinkEngine" 379) "java/lang/String" "value" "[B") (.int 0)) (.int 117), .eq (.elem (.field (.string "LinkEngine" 379) "java/lang/String" "value" "[B") (.int 1)) (.int 110), .eq (.elem (.field (.string "LinkEngine" 379) "java/lang/String" "value" "[B") (.int 2)) (.int 100), .eq (.elem (.field (.string "LinkEngine" 379) "java/lang/String" "value" "[B") (.int 3)) (.int 111)]
theorem lc_2_in : ∀ c ∈ lc_2, c ∈ flatC (Jvm.Cond.and given_1 narrow_1) := by decide +kernel
theorem ls_2 {args : Array Value} {s : State} {A : Nat → Prop} (hs : ∀ c ∈ flatC (Jvm.Cond.and given_1 narrow_1), c.before args s = true) (hA : ∀ a : Nat, a < s.heap.size → ¬ A a) : ∃ q, vz_Ps args s A 2 q :=
  vz_one (t := .string "LinkEngine" 379) (len := 4) (byt := [117, 110, 100, 111]) (by decide) (hs _ (lc_2_in _ (List.mem_of_getElem? (i := 0) rfl))) (hs _ (lc_2_in _ (List.mem_of_getElem? (i := 1) rfl))) (hs _ (lc_2_in _ (List.mem_of_getElem? (i := 2) rfl))) (hs _ (lc_2_in _ (List.mem_of_getElem? (i := 3) rfl))) (fun j hj => by
  rcases (show j = 0 ∨ j = 1 ∨ j = 2 ∨ j = 3 by omega) with rfl | rfl | rfl | rfl
  · exact hs _ (lc_2_in _ (List.mem_of_getElem? (i := 4) rfl))
  · exact hs _ (lc_2_in _ (List.mem_of_getElem? (i := 5) rfl))
  · exact hs _ (lc_2_in _ (List.mem_of_getElem? (i := 6) rfl))
  · exact hs _ (lc_2_in _ (List.mem_of_getElem? (i := 7) rfl))) hA
def lc_3 : List Cond := [.exactly (.string "LinkEngine" 380) "java/lang/String", .eq (.field (.string "LinkEngine" 380) "java/lang/String" "coder" "B") (.int 0), .arrayOf (.field (.string "LinkEngine" 380) "java/lang/String" "value" "[B") .byte, .eq (.length (.field (.string "LinkEngine" 380) "java/lang/String" "value" "[B")) (.int 5), .eq (.elem (.field (.string "LinkEngine" 380) "java/lang/String" "value" "[B") (.int 0)) (.int 115), .eq (.elem (.field (.string "LinkEngine" 380) "java/lang/String" "value" "[B") (.int 1)) (.int 108), .eq (.elem (.field (.string "LinkEngine" 380) "java/lang/String" "value" "[B") (.int 2)) (.int 105), .eq (.elem (.field (.string "LinkEngine" 380) "java/lang/String" "value" "[B") (.int 3)) (.int 100), .eq (.elem (.field (.string "LinkEngine" 380) "java/lang/String" "value" "[B") (.int 4)) (.int 101)]
theorem lc_3_in : ∀ c ∈ lc_3, c ∈ flatC (Jvm.Cond.and given_1 narrow_1) := by decide +kernel
theorem ls_3 {args : Array Value} {s : State} {A : Nat → Prop} (hs : ∀ c ∈ flatC (Jvm.Cond.and given_1 narrow_1), c.before args s = true) (hA : ∀ a : Nat, a < s.heap.size → ¬ A a) : ∃ q, vz_Ps args s A 3 q :=
  vz_one (t := .string "LinkEngine" 380) (len := 5) (byt := [115, 108, 105, 100, 101]) (by decide) (hs _ (lc_3_in _ (List.mem_of_getElem? (i := 0) rfl))) (hs _ (lc_3_in _ (List.mem_of_getElem? (i := 1) rfl))) (hs _ (lc_3_in _ (List.mem_of_getElem? (i := 2) rfl))) (hs _ (lc_3_in _ (List.mem_of_getElem? (i := 3) rfl))) (fun j hj => by
  rcases (show j = 0 ∨ j = 1 ∨ j = 2 ∨ j = 3 ∨ j = 4 by omega) with rfl | rfl | rfl | rfl | rfl
  · exact hs _ (lc_3_in _ (List.mem_of_getElem? (i := 4) rfl))
  · exact hs _ (lc_3_in _ (List.mem_of_getElem? (i := 5) rfl))
  · exact hs _ (lc_3_in _ (List.mem_of_getElem? (i := 6) rfl))
  · exact hs _ (lc_3_in _ (List.mem_of_getElem? (i := 7) rfl))
  · exact hs _ (lc_3_in _ (List.mem_of_getElem? (i := 8) rfl))) hA
def lc_4 : List Cond := [.exactly (.string "LinkEngine" 381) "java/lang/String", .eq (.field (.string "LinkEngine" 381) "java/lang/String" "coder" "B") (.int 0), .arrayOf (.field (.string "LinkEngine" 381) "java/lang/String" "value" "[B") .byte, .eq (.length (.field (.string "LinkEngine" 381) "java/lang/String" "value" "[B")) (.int 5), .eq (.elem (.field (.string "LinkEngine" 381) "java/lang/String" "value" "[B") (.int 0)) (.int 116), .eq (.elem (.field (.string "LinkEngine" 381) "java/lang/String" "value" "[B") (.int 1)) (.int 119), .eq (.elem (.field (.string "LinkEngine" 381) "java/lang/String" "value" "[B") (.int 2)) (.int 105), .eq (.elem (.field (.string "LinkEngine" 381) "java/lang/String" "value" "[B") (.int 3)) (.int 115), .eq (.elem (.field (.string "LinkEngine" 381) "java/lang/String" "value" "[B") (.int 4)) (.int 116)]
theorem lc_4_in : ∀ c ∈ lc_4, c ∈ flatC (Jvm.Cond.and given_1 narrow_1) := by decide +kernel
theorem ls_4 {args : Array Value} {s : State} {A : Nat → Prop} (hs : ∀ c ∈ flatC (Jvm.Cond.and given_1 narrow_1), c.before args s = true) (hA : ∀ a : Nat, a < s.heap.size → ¬ A a) : ∃ q, vz_Ps args s A 4 q :=
  vz_one (t := .string "LinkEngine" 381) (len := 5) (byt := [116, 119, 105, 115, 116]) (by decide) (hs _ (lc_4_in _ (List.mem_of_getElem? (i := 0) rfl))) (hs _ (lc_4_in _ (List.mem_of_getElem? (i := 1) rfl))) (hs _ (lc_4_in _ (List.mem_of_getElem? (i := 2) rfl))) (hs _ (lc_4_in _ (List.mem_of_getElem? (i := 3) rfl))) (fun j hj => by
  rcases (show j = 0 ∨ j = 1 ∨ j = 2 ∨ j = 3 ∨ j = 4 by omega) with rfl | rfl | rfl | rfl | rfl
  · exact hs _ (lc_4_in _ (List.mem_of_getElem? (i := 4) rfl))
  · exact hs _ (lc_4_in _ (List.mem_of_getElem? (i := 5) rfl))
  · exact hs _ (lc_4_in _ (List.mem_of_getElem? (i := 6) rfl))
  · exact hs _ (lc_4_in _ (List.mem_of_getElem? (i := 7) rfl))
  · exact hs _ (lc_4_in _ (List.mem_of_getElem? (i := 8) rfl))) hA
def lc_5 : List Cond := [.exactly (.string "LinkEngine" 382) "java/lang/String", .eq (.field (.string "LinkEngine" 382) "java/lang/String" "coder" "B") (.int 0), .arrayOf (.field (.string "LinkEngine" 382) "java/lang/String" "value" "[B") .byte, .eq (.length (.field (.string "LinkEngine" 382) "java/lang/String" "value" "[B")) (.int 4), .eq (.elem (.field (.string "LinkEngine" 382) "java/lang/String" "value" "[B") (.int 0)) (.int 112), .eq (.elem (.field (.string "LinkEngine" 382) "java/lang/String" "value" "[B") (.int 1)) (.int 117), .eq (.elem (.field (.string "LinkEngine" 382) "java/lang/String" "value" "[B") (.int 2)) (.int 115), .eq (.elem (.field (.string "LinkEngine" 382) "java/lang/String" "value" "[B") (.int 3)) (.int 104)]
theorem lc_5_in : ∀ c ∈ lc_5, c ∈ flatC (Jvm.Cond.and given_1 narrow_1) := by decide +kernel
theorem ls_5 {args : Array Value} {s : State} {A : Nat → Prop} (hs : ∀ c ∈ flatC (Jvm.Cond.and given_1 narrow_1), c.before args s = true) (hA : ∀ a : Nat, a < s.heap.size → ¬ A a) : ∃ q, vz_Ps args s A 5 q :=
  vz_one (t := .string "LinkEngine" 382) (len := 4) (byt := [112, 117, 115, 104]) (by decide) (hs _ (lc_5_in _ (List.mem_of_getElem? (i := 0) rfl))) (hs _ (lc_5_in _ (List.mem_of_getElem? (i := 1) rfl))) (hs _ (lc_5_in _ (List.mem_of_getElem? (i := 2) rfl))) (hs _ (lc_5_in _ (List.mem_of_getElem? (i := 3) rfl))) (fun j hj => by
  rcases (show j = 0 ∨ j = 1 ∨ j = 2 ∨ j = 3 by omega) with rfl | rfl | rfl | rfl
  · exact hs _ (lc_5_in _ (List.mem_of_getElem? (i := 4) rfl))
  · exact hs _ (lc_5_in _ (List.mem_of_getElem? (i := 5) rfl))
  · exact hs _ (lc_5_in _ (List.mem_of_getElem? (i := 6) rfl))
  · exact hs _ (lc_5_in _ (List.mem_of_getElem? (i := 7) rfl))) hA
def lc_6 : List Cond := [.exactly (.string "LinkEngine" 383) "java/lang/String", .eq (.field (.string "LinkEngine" 383) "java/lang/String" "coder" "B") (.int 0), .arrayOf (.field (.string "LinkEngine" 383) "java/lang/String" "value" "[B") .byte, .eq (.length (.field (.string "LinkEngine" 383) "java/lang/String" "value" "[B")) (.int 8), .eq (.elem (.field (.string "LinkEngine" 383) "java/lang/String" "value" "[B") (.int 0)) (.int 115), .eq (.elem (.field (.string "LinkEngine" 383) "java/lang/String" "value" "[B") (.int 1)) (.int 105), .eq (.elem (.field (.string "LinkEngine" 383) "java/lang/String" "value" "[B") (.int 2)) (.int 109), .eq (.elem (.field (.string "LinkEngine" 383) "java/lang/String" "value" "[B") (.int 3)) (.int 112), .eq (.elem (.field (.string "LinkEngine" 383) "java/lang/String" "value" "[B") (.int 4)) (.int 108), .eq (.elem (.field (.string "LinkEngine" 383) "java/lang/String" "value" "[B") (.int 5)) (.int 105), .eq (.elem (.field (.string "LinkEngine" 383) "java/lang/String" "value" "[B") (.int 6)) (.int 102), .eq (.elem (.field (.string "LinkEngine" 383) "java/lang/String" "value" "[B") (.int 7)) (.int 121)]
theorem lc_6_in : ∀ c ∈ lc_6, c ∈ flatC (Jvm.Cond.and given_1 narrow_1) := by decide +kernel
theorem ls_6 {args : Array Value} {s : State} {A : Nat → Prop} (hs : ∀ c ∈ flatC (Jvm.Cond.and given_1 narrow_1), c.before args s = true) (hA : ∀ a : Nat, a < s.heap.size → ¬ A a) : ∃ q, vz_Ps args s A 6 q :=
  vz_one (t := .string "LinkEngine" 383) (len := 8) (byt := [115, 105, 109, 112, 108, 105, 102, 121]) (by decide) (hs _ (lc_6_in _ (List.mem_of_getElem? (i := 0) rfl))) (hs _ (lc_6_in _ (List.mem_of_getElem? (i := 1) rfl))) (hs _ (lc_6_in _ (List.mem_of_getElem? (i := 2) rfl))) (hs _ (lc_6_in _ (List.mem_of_getElem? (i := 3) rfl))) (fun j hj => by
  rcases (show j = 0 ∨ j = 1 ∨ j = 2 ∨ j = 3 ∨ j = 4 ∨ j = 5 ∨ j = 6 ∨ j = 7 by omega) with rfl | rfl | rfl | rfl | rfl | rfl | rfl | rfl
  · exact hs _ (lc_6_in _ (List.mem_of_getElem? (i := 4) rfl))
  · exact hs _ (lc_6_in _ (List.mem_of_getElem? (i := 5) rfl))
  · exact hs _ (lc_6_in _ (List.mem_of_getElem? (i := 6) rfl))
  · exact hs _ (lc_6_in _ (List.mem_of_getElem? (i := 7) rfl))
  · exact hs _ (lc_6_in _ (List.mem_of_getElem? (i := 8) rfl))
  · exact hs _ (lc_6_in _ (List.mem_of_getElem? (i := 9) rfl))
  · exact hs _ (lc_6_in _ (List.mem_of_getElem? (i := 10) rfl))
  · exact hs _ (lc_6_in _ (List.mem_of_getElem? (i := 11) rfl))) hA
def lc_7 : List Cond := [.exactly (.string "LinkEngine" 384) "java/lang/String", .eq (.field (.string "LinkEngine" 384) "java/lang/String" "coder" "B") (.int 0), .arrayOf (.field (.string "LinkEngine" 384) "java/lang/String" "value" "[B") .byte, .eq (.length (.field (.string "LinkEngine" 384) "java/lang/String" "value" "[B")) (.int 6), .eq (.elem (.field (.string "LinkEngine" 384) "java/lang/String" "value" "[B") (.int 0)) (.int 109), .eq (.elem (.field (.string "LinkEngine" 384) "java/lang/String" "value" "[B") (.int 1)) (.int 105), .eq (.elem (.field (.string "LinkEngine" 384) "java/lang/String" "value" "[B") (.int 2)) (.int 114), .eq (.elem (.field (.string "LinkEngine" 384) "java/lang/String" "value" "[B") (.int 3)) (.int 114), .eq (.elem (.field (.string "LinkEngine" 384) "java/lang/String" "value" "[B") (.int 4)) (.int 111), .eq (.elem (.field (.string "LinkEngine" 384) "java/lang/String" "value" "[B") (.int 5)) (.int 114)]
theorem lc_7_in : ∀ c ∈ lc_7, c ∈ flatC (Jvm.Cond.and given_1 narrow_1) := by decide +kernel
theorem ls_7 {args : Array Value} {s : State} {A : Nat → Prop} (hs : ∀ c ∈ flatC (Jvm.Cond.and given_1 narrow_1), c.before args s = true) (hA : ∀ a : Nat, a < s.heap.size → ¬ A a) : ∃ q, vz_Ps args s A 7 q :=
  vz_one (t := .string "LinkEngine" 384) (len := 6) (byt := [109, 105, 114, 114, 111, 114]) (by decide) (hs _ (lc_7_in _ (List.mem_of_getElem? (i := 0) rfl))) (hs _ (lc_7_in _ (List.mem_of_getElem? (i := 1) rfl))) (hs _ (lc_7_in _ (List.mem_of_getElem? (i := 2) rfl))) (hs _ (lc_7_in _ (List.mem_of_getElem? (i := 3) rfl))) (fun j hj => by
  rcases (show j = 0 ∨ j = 1 ∨ j = 2 ∨ j = 3 ∨ j = 4 ∨ j = 5 by omega) with rfl | rfl | rfl | rfl | rfl | rfl
  · exact hs _ (lc_7_in _ (List.mem_of_getElem? (i := 4) rfl))
  · exact hs _ (lc_7_in _ (List.mem_of_getElem? (i := 5) rfl))
  · exact hs _ (lc_7_in _ (List.mem_of_getElem? (i := 6) rfl))
  · exact hs _ (lc_7_in _ (List.mem_of_getElem? (i := 7) rfl))
  · exact hs _ (lc_7_in _ (List.mem_of_getElem? (i := 8) rfl))
  · exact hs _ (lc_7_in _ (List.mem_of_getElem? (i := 9) rfl))) hA
def lc_8 : List Cond := [.exactly (.string "LinkEngine" 385) "java/lang/String", .eq (.field (.string "LinkEngine" 385) "java/lang/String" "coder" "B") (.int 0), .arrayOf (.field (.string "LinkEngine" 385) "java/lang/String" "value" "[B") .byte, .eq (.length (.field (.string "LinkEngine" 385) "java/lang/String" "value" "[B")) (.int 7), .eq (.elem (.field (.string "LinkEngine" 385) "java/lang/String" "value" "[B") (.int 0)) (.int 114), .eq (.elem (.field (.string "LinkEngine" 385) "java/lang/String" "value" "[B") (.int 1)) (.int 101), .eq (.elem (.field (.string "LinkEngine" 385) "java/lang/String" "value" "[B") (.int 2)) (.int 118), .eq (.elem (.field (.string "LinkEngine" 385) "java/lang/String" "value" "[B") (.int 3)) (.int 101), .eq (.elem (.field (.string "LinkEngine" 385) "java/lang/String" "value" "[B") (.int 4)) (.int 114), .eq (.elem (.field (.string "LinkEngine" 385) "java/lang/String" "value" "[B") (.int 5)) (.int 115), .eq (.elem (.field (.string "LinkEngine" 385) "java/lang/String" "value" "[B") (.int 6)) (.int 101)]
theorem lc_8_in : ∀ c ∈ lc_8, c ∈ flatC (Jvm.Cond.and given_1 narrow_1) := by decide +kernel
theorem ls_8 {args : Array Value} {s : State} {A : Nat → Prop} (hs : ∀ c ∈ flatC (Jvm.Cond.and given_1 narrow_1), c.before args s = true) (hA : ∀ a : Nat, a < s.heap.size → ¬ A a) : ∃ q, vz_Ps args s A 8 q :=
  vz_one (t := .string "LinkEngine" 385) (len := 7) (byt := [114, 101, 118, 101, 114, 115, 101]) (by decide) (hs _ (lc_8_in _ (List.mem_of_getElem? (i := 0) rfl))) (hs _ (lc_8_in _ (List.mem_of_getElem? (i := 1) rfl))) (hs _ (lc_8_in _ (List.mem_of_getElem? (i := 2) rfl))) (hs _ (lc_8_in _ (List.mem_of_getElem? (i := 3) rfl))) (fun j hj => by
  rcases (show j = 0 ∨ j = 1 ∨ j = 2 ∨ j = 3 ∨ j = 4 ∨ j = 5 ∨ j = 6 by omega) with rfl | rfl | rfl | rfl | rfl | rfl | rfl
  · exact hs _ (lc_8_in _ (List.mem_of_getElem? (i := 4) rfl))
  · exact hs _ (lc_8_in _ (List.mem_of_getElem? (i := 5) rfl))
  · exact hs _ (lc_8_in _ (List.mem_of_getElem? (i := 6) rfl))
  · exact hs _ (lc_8_in _ (List.mem_of_getElem? (i := 7) rfl))
  · exact hs _ (lc_8_in _ (List.mem_of_getElem? (i := 8) rfl))
  · exact hs _ (lc_8_in _ (List.mem_of_getElem? (i := 9) rfl))
  · exact hs _ (lc_8_in _ (List.mem_of_getElem? (i := 10) rfl))) hA
def lc_9 : List Cond := [.exactly (.string "LinkEngine" 386) "java/lang/String", .eq (.field (.string "LinkEngine" 386) "java/lang/String" "coder" "B") (.int 0), .arrayOf (.field (.string "LinkEngine" 386) "java/lang/String" "value" "[B") .byte, .eq (.length (.field (.string "LinkEngine" 386) "java/lang/String" "value" "[B")) (.int 6), .eq (.elem (.field (.string "LinkEngine" 386) "java/lang/String" "value" "[B") (.int 0)) (.int 99), .eq (.elem (.field (.string "LinkEngine" 386) "java/lang/String" "value" "[B") (.int 1)) (.int 104), .eq (.elem (.field (.string "LinkEngine" 386) "java/lang/String" "value" "[B") (.int 2)) (.int 97), .eq (.elem (.field (.string "LinkEngine" 386) "java/lang/String" "value" "[B") (.int 3)) (.int 110), .eq (.elem (.field (.string "LinkEngine" 386) "java/lang/String" "value" "[B") (.int 4)) (.int 103), .eq (.elem (.field (.string "LinkEngine" 386) "java/lang/String" "value" "[B") (.int 5)) (.int 101)]
theorem lc_9_in : ∀ c ∈ lc_9, c ∈ flatC (Jvm.Cond.and given_1 narrow_1) := by decide +kernel
theorem ls_9 {args : Array Value} {s : State} {A : Nat → Prop} (hs : ∀ c ∈ flatC (Jvm.Cond.and given_1 narrow_1), c.before args s = true) (hA : ∀ a : Nat, a < s.heap.size → ¬ A a) : ∃ q, vz_Ps args s A 9 q :=
  vz_one (t := .string "LinkEngine" 386) (len := 6) (byt := [99, 104, 97, 110, 103, 101]) (by decide) (hs _ (lc_9_in _ (List.mem_of_getElem? (i := 0) rfl))) (hs _ (lc_9_in _ (List.mem_of_getElem? (i := 1) rfl))) (hs _ (lc_9_in _ (List.mem_of_getElem? (i := 2) rfl))) (hs _ (lc_9_in _ (List.mem_of_getElem? (i := 3) rfl))) (fun j hj => by
  rcases (show j = 0 ∨ j = 1 ∨ j = 2 ∨ j = 3 ∨ j = 4 ∨ j = 5 by omega) with rfl | rfl | rfl | rfl | rfl | rfl
  · exact hs _ (lc_9_in _ (List.mem_of_getElem? (i := 4) rfl))
  · exact hs _ (lc_9_in _ (List.mem_of_getElem? (i := 5) rfl))
  · exact hs _ (lc_9_in _ (List.mem_of_getElem? (i := 6) rfl))
  · exact hs _ (lc_9_in _ (List.mem_of_getElem? (i := 7) rfl))
  · exact hs _ (lc_9_in _ (List.mem_of_getElem? (i := 8) rfl))
  · exact hs _ (lc_9_in _ (List.mem_of_getElem? (i := 9) rfl))) hA
def lc_10 : List Cond := [.exactly (.string "LinkEngine" 387) "java/lang/String", .eq (.field (.string "LinkEngine" 387) "java/lang/String" "coder" "B") (.int 0), .arrayOf (.field (.string "LinkEngine" 387) "java/lang/String" "value" "[B") .byte, .eq (.length (.field (.string "LinkEngine" 387) "java/lang/String" "value" "[B")) (.int 6), .eq (.elem (.field (.string "LinkEngine" 387) "java/lang/String" "value" "[B") (.int 0)) (.int 115), .eq (.elem (.field (.string "LinkEngine" 387) "java/lang/String" "value" "[B") (.int 1)) (.int 109), .eq (.elem (.field (.string "LinkEngine" 387) "java/lang/String" "value" "[B") (.int 2)) (.int 111), .eq (.elem (.field (.string "LinkEngine" 387) "java/lang/String" "value" "[B") (.int 3)) (.int 111), .eq (.elem (.field (.string "LinkEngine" 387) "java/lang/String" "value" "[B") (.int 4)) (.int 116), .eq (.elem (.field (.string "LinkEngine" 387) "java/lang/String" "value" "[B") (.int 5)) (.int 104)]
theorem lc_10_in : ∀ c ∈ lc_10, c ∈ flatC (Jvm.Cond.and given_1 narrow_1) := by decide +kernel
theorem ls_10 {args : Array Value} {s : State} {A : Nat → Prop} (hs : ∀ c ∈ flatC (Jvm.Cond.and given_1 narrow_1), c.before args s = true) (hA : ∀ a : Nat, a < s.heap.size → ¬ A a) : ∃ q, vz_Ps args s A 10 q :=
  vz_one (t := .string "LinkEngine" 387) (len := 6) (byt := [115, 109, 111, 111, 116, 104]) (by decide) (hs _ (lc_10_in _ (List.mem_of_getElem? (i := 0) rfl))) (hs _ (lc_10_in _ (List.mem_of_getElem? (i := 1) rfl))) (hs _ (lc_10_in _ (List.mem_of_getElem? (i := 2) rfl))) (hs _ (lc_10_in _ (List.mem_of_getElem? (i := 3) rfl))) (fun j hj => by
  rcases (show j = 0 ∨ j = 1 ∨ j = 2 ∨ j = 3 ∨ j = 4 ∨ j = 5 by omega) with rfl | rfl | rfl | rfl | rfl | rfl
  · exact hs _ (lc_10_in _ (List.mem_of_getElem? (i := 4) rfl))
  · exact hs _ (lc_10_in _ (List.mem_of_getElem? (i := 5) rfl))
  · exact hs _ (lc_10_in _ (List.mem_of_getElem? (i := 6) rfl))
  · exact hs _ (lc_10_in _ (List.mem_of_getElem? (i := 7) rfl))
  · exact hs _ (lc_10_in _ (List.mem_of_getElem? (i := 8) rfl))
  · exact hs _ (lc_10_in _ (List.mem_of_getElem? (i := 9) rfl))) hA
def lc_11 : List Cond := [.exactly (.string "LinkEngine" 388) "java/lang/String", .eq (.field (.string "LinkEngine" 388) "java/lang/String" "coder" "B") (.int 0), .arrayOf (.field (.string "LinkEngine" 388) "java/lang/String" "value" "[B") .byte, .eq (.length (.field (.string "LinkEngine" 388) "java/lang/String" "value" "[B")) (.int 6), .eq (.elem (.field (.string "LinkEngine" 388) "java/lang/String" "value" "[B") (.int 0)) (.int 110), .eq (.elem (.field (.string "LinkEngine" 388) "java/lang/String" "value" "[B") (.int 1)) (.int 117), .eq (.elem (.field (.string "LinkEngine" 388) "java/lang/String" "value" "[B") (.int 2)) (.int 109), .eq (.elem (.field (.string "LinkEngine" 388) "java/lang/String" "value" "[B") (.int 3)) (.int 98), .eq (.elem (.field (.string "LinkEngine" 388) "java/lang/String" "value" "[B") (.int 4)) (.int 101), .eq (.elem (.field (.string "LinkEngine" 388) "java/lang/String" "value" "[B") (.int 5)) (.int 114)]
theorem lc_11_in : ∀ c ∈ lc_11, c ∈ flatC (Jvm.Cond.and given_1 narrow_1) := by decide +kernel
theorem ls_11 {args : Array Value} {s : State} {A : Nat → Prop} (hs : ∀ c ∈ flatC (Jvm.Cond.and given_1 narrow_1), c.before args s = true) (hA : ∀ a : Nat, a < s.heap.size → ¬ A a) : ∃ q, vz_Ps args s A 11 q :=
  vz_one (t := .string "LinkEngine" 388) (len := 6) (byt := [110, 117, 109, 98, 101, 114]) (by decide) (hs _ (lc_11_in _ (List.mem_of_getElem? (i := 0) rfl))) (hs _ (lc_11_in _ (List.mem_of_getElem? (i := 1) rfl))) (hs _ (lc_11_in _ (List.mem_of_getElem? (i := 2) rfl))) (hs _ (lc_11_in _ (List.mem_of_getElem? (i := 3) rfl))) (fun j hj => by
  rcases (show j = 0 ∨ j = 1 ∨ j = 2 ∨ j = 3 ∨ j = 4 ∨ j = 5 by omega) with rfl | rfl | rfl | rfl | rfl | rfl
  · exact hs _ (lc_11_in _ (List.mem_of_getElem? (i := 4) rfl))
  · exact hs _ (lc_11_in _ (List.mem_of_getElem? (i := 5) rfl))
  · exact hs _ (lc_11_in _ (List.mem_of_getElem? (i := 6) rfl))
  · exact hs _ (lc_11_in _ (List.mem_of_getElem? (i := 7) rfl))
  · exact hs _ (lc_11_in _ (List.mem_of_getElem? (i := 8) rfl))
  · exact hs _ (lc_11_in _ (List.mem_of_getElem? (i := 9) rfl))) hA
def lc_12 : List Cond := [.exactly (.string "LinkEngine" 389) "java/lang/String", .eq (.field (.string "LinkEngine" 389) "java/lang/String" "coder" "B") (.int 0), .arrayOf (.field (.string "LinkEngine" 389) "java/lang/String" "value" "[B") .byte, .eq (.length (.field (.string "LinkEngine" 389) "java/lang/String" "value" "[B")) (.int 4), .eq (.elem (.field (.string "LinkEngine" 389) "java/lang/String" "value" "[B") (.int 0)) (.int 115), .eq (.elem (.field (.string "LinkEngine" 389) "java/lang/String" "value" "[B") (.int 1)) (.int 104), .eq (.elem (.field (.string "LinkEngine" 389) "java/lang/String" "value" "[B") (.int 2)) (.int 111), .eq (.elem (.field (.string "LinkEngine" 389) "java/lang/String" "value" "[B") (.int 3)) (.int 119)]
theorem lc_12_in : ∀ c ∈ lc_12, c ∈ flatC (Jvm.Cond.and given_1 narrow_1) := by decide +kernel
theorem ls_12 {args : Array Value} {s : State} {A : Nat → Prop} (hs : ∀ c ∈ flatC (Jvm.Cond.and given_1 narrow_1), c.before args s = true) (hA : ∀ a : Nat, a < s.heap.size → ¬ A a) : ∃ q, vz_Ps args s A 12 q :=
  vz_one (t := .string "LinkEngine" 389) (len := 4) (byt := [115, 104, 111, 119]) (by decide) (hs _ (lc_12_in _ (List.mem_of_getElem? (i := 0) rfl))) (hs _ (lc_12_in _ (List.mem_of_getElem? (i := 1) rfl))) (hs _ (lc_12_in _ (List.mem_of_getElem? (i := 2) rfl))) (hs _ (lc_12_in _ (List.mem_of_getElem? (i := 3) rfl))) (fun j hj => by
  rcases (show j = 0 ∨ j = 1 ∨ j = 2 ∨ j = 3 by omega) with rfl | rfl | rfl | rfl
  · exact hs _ (lc_12_in _ (List.mem_of_getElem? (i := 4) rfl))
  · exact hs _ (lc_12_in _ (List.mem_of_getElem? (i := 5) rfl))
  · exact hs _ (lc_12_in _ (List.mem_of_getElem? (i := 6) rfl))
  · exact hs _ (lc_12_in _ (List.mem_of_getElem? (i := 7) rfl))) hA
def lc_13 : List Cond := [.exactly (.string "LinkEngine" 391) "java/lang/String", .eq (.field (.string "LinkEngine" 391) "java/lang/String" "coder" "B") (.int 0), .arrayOf (.field (.string "LinkEngine" 391) "java/lang/String" "value" "[B") .byte, .eq (.length (.field (.string "LinkEngine" 391) "java/lang/String" "value" "[B")) (.int 5), .eq (.elem (.field (.string "LinkEngine" 391) "java/lang/String" "value" "[B") (.int 0)) (.int 99), .eq (.elem (.field (.string "LinkEngine" 391) "java/lang/String" "value" "[B") (.int 1)) (.int 111), .eq (.elem (.field (.string "LinkEngine" 391) "java/lang/String" "value" "[B") (.int 2)) (.int 117), .eq (.elem (.field (.string "LinkEngine" 391) "java/lang/String" "value" "[B") (.int 3)) (.int 110), .eq (.elem (.field (.string "LinkEngine" 391) "java/lang/String" "value" "[B") (.int 4)) (.int 116)]
theorem lc_13_in : ∀ c ∈ lc_13, c ∈ flatC (Jvm.Cond.and given_1 narrow_1) := by decide +kernel
theorem ls_13 {args : Array Value} {s : State} {A : Nat → Prop} (hs : ∀ c ∈ flatC (Jvm.Cond.and given_1 narrow_1), c.before args s = true) (hA : ∀ a : Nat, a < s.heap.size → ¬ A a) : ∃ q, vz_Ps args s A 13 q :=
  vz_one (t := .string "LinkEngine" 391) (len := 5) (byt := [99, 111, 117, 110, 116]) (by decide) (hs _ (lc_13_in _ (List.mem_of_getElem? (i := 0) rfl))) (hs _ (lc_13_in _ (List.mem_of_getElem? (i := 1) rfl))) (hs _ (lc_13_in _ (List.mem_of_getElem? (i := 2) rfl))) (hs _ (lc_13_in _ (List.mem_of_getElem? (i := 3) rfl))) (fun j hj => by
  rcases (show j = 0 ∨ j = 1 ∨ j = 2 ∨ j = 3 ∨ j = 4 by omega) with rfl | rfl | rfl | rfl | rfl
  · exact hs _ (lc_13_in _ (List.mem_of_getElem? (i := 4) rfl))
  · exact hs _ (lc_13_in _ (List.mem_of_getElem? (i := 5) rfl))
  · exact hs _ (lc_13_in _ (List.mem_of_getElem? (i := 6) rfl))
  · exact hs _ (lc_13_in _ (List.mem_of_getElem? (i := 7) rfl))
  · exact hs _ (lc_13_in _ (List.mem_of_getElem? (i := 8) rfl))) hA
def lc_14 : List Cond := [.exactly (.string "LinkEngine" 392) "java/lang/String", .eq (.field (.string "LinkEngine" 392) "java/lang/String" "coder" "B") (.int 0), .arrayOf (.field (.string "LinkEngine" 392) "java/lang/String" "value" "[B") .byte, .eq (.length (.field (.string "LinkEngine" 392) "java/lang/String" "value" "[B")) (.int 5), .eq (.elem (.field (.string "LinkEngine" 392) "java/lang/String" "value" "[B") (.int 0)) (.int 102), .eq (.elem (.field (.string "LinkEngine" 392) "java/lang/String" "value" "[B") (.int 1)) (.int 97), .eq (.elem (.field (.string "LinkEngine" 392) "java/lang/String" "value" "[B") (.int 2)) (.int 99), .eq (.elem (.field (.string "LinkEngine" 392) "java/lang/String" "value" "[B") (.int 3)) (.int 101), .eq (.elem (.field (.string "LinkEngine" 392) "java/lang/String" "value" "[B") (.int 4)) (.int 115)]
theorem lc_14_in : ∀ c ∈ lc_14, c ∈ flatC (Jvm.Cond.and given_1 narrow_1) := by decide +kernel
theorem ls_14 {args : Array Value} {s : State} {A : Nat → Prop} (hs : ∀ c ∈ flatC (Jvm.Cond.and given_1 narrow_1), c.before args s = true) (hA : ∀ a : Nat, a < s.heap.size → ¬ A a) : ∃ q, vz_Ps args s A 14 q :=
  vz_one (t := .string "LinkEngine" 392) (len := 5) (byt := [102, 97, 99, 101, 115]) (by decide) (hs _ (lc_14_in _ (List.mem_of_getElem? (i := 0) rfl))) (hs _ (lc_14_in _ (List.mem_of_getElem? (i := 1) rfl))) (hs _ (lc_14_in _ (List.mem_of_getElem? (i := 2) rfl))) (hs _ (lc_14_in _ (List.mem_of_getElem? (i := 3) rfl))) (fun j hj => by
  rcases (show j = 0 ∨ j = 1 ∨ j = 2 ∨ j = 3 ∨ j = 4 by omega) with rfl | rfl | rfl | rfl | rfl
  · exact hs _ (lc_14_in _ (List.mem_of_getElem? (i := 4) rfl))
  · exact hs _ (lc_14_in _ (List.mem_of_getElem? (i := 5) rfl))
  · exact hs _ (lc_14_in _ (List.mem_of_getElem? (i := 6) rfl))
  · exact hs _ (lc_14_in _ (List.mem_of_getElem? (i := 7) rfl))
  · exact hs _ (lc_14_in _ (List.mem_of_getElem? (i := 8) rfl))) hA
def lc_15 : List Cond := [.exactly (.string "LinkEngine" 393) "java/lang/String", .eq (.field (.string "LinkEngine" 393) "java/lang/String" "coder" "B") (.int 0), .arrayOf (.field (.string "LinkEngine" 393) "java/lang/String" "value" "[B") .byte, .eq (.length (.field (.string "LinkEngine" 393) "java/lang/String" "value" "[B")) (.int 7), .eq (.elem (.field (.string "LinkEngine" 393) "java/lang/String" "value" "[B") (.int 0)) (.int 98), .eq (.elem (.field (.string "LinkEngine" 393) "java/lang/String" "value" "[B") (.int 1)) (.int 114), .eq (.elem (.field (.string "LinkEngine" 393) "java/lang/String" "value" "[B") (.int 2)) (.int 97), .eq (.elem (.field (.string "LinkEngine" 393) "java/lang/String" "value" "[B") (.int 3)) (.int 99), .eq (.elem (.field (.string "LinkEngine" 393) "java/lang/String" "value" "[B") (.int 4)) (.int 107), .eq (.elem (.field (.string "LinkEngine" 393) "java/lang/String" "value" "[B") (.int 5)) (.int 101), .eq (.elem (.field (.string "LinkEngine" 393) "java/lang/String" "value" "[B") (.int 6)) (.int 116)]
theorem lc_15_in : ∀ c ∈ lc_15, c ∈ flatC (Jvm.Cond.and given_1 narrow_1) := by decide +kernel
theorem ls_15 {args : Array Value} {s : State} {A : Nat → Prop} (hs : ∀ c ∈ flatC (Jvm.Cond.and given_1 narrow_1), c.before args s = true) (hA : ∀ a : Nat, a < s.heap.size → ¬ A a) : ∃ q, vz_Ps args s A 15 q :=
  vz_one (t := .string "LinkEngine" 393) (len := 7) (byt := [98, 114, 97, 99, 107, 101, 116]) (by decide) (hs _ (lc_15_in _ (List.mem_of_getElem? (i := 0) rfl))) (hs _ (lc_15_in _ (List.mem_of_getElem? (i := 1) rfl))) (hs _ (lc_15_in _ (List.mem_of_getElem? (i := 2) rfl))) (hs _ (lc_15_in _ (List.mem_of_getElem? (i := 3) rfl))) (fun j hj => by
  rcases (show j = 0 ∨ j = 1 ∨ j = 2 ∨ j = 3 ∨ j = 4 ∨ j = 5 ∨ j = 6 by omega) with rfl | rfl | rfl | rfl | rfl | rfl | rfl
  · exact hs _ (lc_15_in _ (List.mem_of_getElem? (i := 4) rfl))
  · exact hs _ (lc_15_in _ (List.mem_of_getElem? (i := 5) rfl))
  · exact hs _ (lc_15_in _ (List.mem_of_getElem? (i := 6) rfl))
  · exact hs _ (lc_15_in _ (List.mem_of_getElem? (i := 7) rfl))
  · exact hs _ (lc_15_in _ (List.mem_of_getElem? (i := 8) rfl))
  · exact hs _ (lc_15_in _ (List.mem_of_getElem? (i := 9) rfl))
  · exact hs _ (lc_15_in _ (List.mem_of_getElem? (i := 10) rfl))) hA
def lc_16 : List Cond := [.exactly (.string "LinkEngine" 394) "java/lang/String", .eq (.field (.string "LinkEngine" 394) "java/lang/String" "coder" "B") (.int 0), .arrayOf (.field (.string "LinkEngine" 394) "java/lang/String" "value" "[B") .byte, .eq (.length (.field (.string "LinkEngine" 394) "java/lang/String" "value" "[B")) (.int 5), .eq (.elem (.field (.string "LinkEngine" 394) "java/lang/String" "value" "[B") (.int 0)) (.int 106), .eq (.elem (.field (.string "LinkEngine" 394) "java/lang/String" "value" "[B") (.int 1)) (.int 111), .eq (.elem (.field (.string "LinkEngine" 394) "java/lang/String" "value" "[B") (.int 2)) (.int 110), .eq (.elem (.field (.string "LinkEngine" 394) "java/lang/String" "value" "[B") (.int 3)) (.int 101), .eq (.elem (.field (.string "LinkEngine" 394) "java/lang/String" "value" "[B") (.int 4)) (.int 115)]
theorem lc_16_in : ∀ c ∈ lc_16, c ∈ flatC (Jvm.Cond.and given_1 narrow_1) := by decide +kernel
theorem ls_16 {args : Array Value} {s : State} {A : Nat → Prop} (hs : ∀ c ∈ flatC (Jvm.Cond.and given_1 narrow_1), c.before args s = true) (hA : ∀ a : Nat, a < s.heap.size → ¬ A a) : ∃ q, vz_Ps args s A 16 q :=
  vz_one (t := .string "LinkEngine" 394) (len := 5) (byt := [106, 111, 110, 101, 115]) (by decide) (hs _ (lc_16_in _ (List.mem_of_getElem? (i := 0) rfl))) (hs _ (lc_16_in _ (List.mem_of_getElem? (i := 1) rfl))) (hs _ (lc_16_in _ (List.mem_of_getElem? (i := 2) rfl))) (hs _ (lc_16_in _ (List.mem_of_getElem? (i := 3) rfl))) (fun j hj => by
  rcases (show j = 0 ∨ j = 1 ∨ j = 2 ∨ j = 3 ∨ j = 4 by omega) with rfl | rfl | rfl | rfl | rfl
  · exact hs _ (lc_16_in _ (List.mem_of_getElem? (i := 4) rfl))
  · exact hs _ (lc_16_in _ (List.mem_of_getElem? (i := 5) rfl))
  · exact hs _ (lc_16_in _ (List.mem_of_getElem? (i := 6) rfl))
  · exact hs _ (lc_16_in _ (List.mem_of_getElem? (i := 7) rfl))
  · exact hs _ (lc_16_in _ (List.mem_of_getElem? (i := 8) rfl))) hA
def lc_17 : List Cond := [.exactly (.string "LinkEngine" 396) "java/lang/String", .eq (.field (.string "LinkEngine" 396) "java/lang/String" "coder" "B") (.int 0), .arrayOf (.field (.string "LinkEngine" 396) "java/lang/String" "value" "[B") .byte, .eq (.length (.field (.string "LinkEngine" 396) "java/lang/String" "value" "[B")) (.int 9), .eq (.elem (.field (.string "LinkEngine" 396) "java/lang/String" "value" "[B") (.int 0)) (.int 97), .eq (.elem (.field (.string "LinkEngine" 396) "java/lang/String" "value" "[B") (.int 1)) (.int 108), .eq (.elem (.field (.string "LinkEngine" 396) "java/lang/String" "value" "[B") (.int 2)) (.int 101), .eq (.elem (.field (.string "LinkEngine" 396) "java/lang/String" "value" "[B") (.int 3)) (.int 120), .eq (.elem (.field (.string "LinkEngine" 396) "java/lang/String" "value" "[B") (.int 4)) (.int 97), .eq (.elem (.field (.string "LinkEngine" 396) "java/lang/String" "value" "[B") (.int 5)) (.int 110), .eq (.elem (.field (.string "LinkEngine" 396) "java/lang/String" "value" "[B") (.int 6)) (.int 100), .eq (.elem (.field (.string "LinkEngine" 396) "java/lang/String" "value" "[B") (.int 7)) (.int 101), .eq (.elem (.field (.string "LinkEngine" 396) "java/lang/String" "value" "[B") (.int 8)) (.int 114)]
theorem lc_17_in : ∀ c ∈ lc_17, c ∈ flatC (Jvm.Cond.and given_1 narrow_1) := by decide +kernel
theorem ls_17 {args : Array Value} {s : State} {A : Nat → Prop} (hs : ∀ c ∈ flatC (Jvm.Cond.and given_1 narrow_1), c.before args s = true) (hA : ∀ a : Nat, a < s.heap.size → ¬ A a) : ∃ q, vz_Ps args s A 17 q :=
  vz_one (t := .string "LinkEngine" 396) (len := 9) (byt := [97, 108, 101, 120, 97, 110, 100, 101, 114]) (by decide) (hs _ (lc_17_in _ (List.mem_of_getElem? (i := 0) rfl))) (hs _ (lc_17_in _ (List.mem_of_getElem? (i := 1) rfl))) (hs _ (lc_17_in _ (List.mem_of_getElem? (i := 2) rfl))) (hs _ (lc_17_in _ (List.mem_of_getElem? (i := 3) rfl))) (fun j hj => by
  rcases (show j = 0 ∨ j = 1 ∨ j = 2 ∨ j = 3 ∨ j = 4 ∨ j = 5 ∨ j = 6 ∨ j = 7 ∨ j = 8 by omega) with rfl | rfl | rfl | rfl | rfl | rfl | rfl | rfl | rfl
  · exact hs _ (lc_17_in _ (List.mem_of_getElem? (i := 4) rfl))
  · exact hs _ (lc_17_in _ (List.mem_of_getElem? (i := 5) rfl))
  · exact hs _ (lc_17_in _ (List.mem_of_getElem? (i := 6) rfl))
  · exact hs _ (lc_17_in _ (List.mem_of_getElem? (i := 7) rfl))
  · exact hs _ (lc_17_in _ (List.mem_of_getElem? (i := 8) rfl))
  · exact hs _ (lc_17_in _ (List.mem_of_getElem? (i := 9) rfl))
  · exact hs _ (lc_17_in _ (List.mem_of_getElem? (i := 10) rfl))
  · exact hs _ (lc_17_in _ (List.mem_of_getElem? (i := 11) rfl))
  · exact hs _ (lc_17_in _ (List.mem_of_getElem? (i := 12) rfl))) hA
def lc_18 : List Cond := [.exactly (.string "LinkEngine" 397) "java/lang/String", .eq (.field (.string "LinkEngine" 397) "java/lang/String" "coder" "B") (.int 0), .arrayOf (.field (.string "LinkEngine" 397) "java/lang/String" "value" "[B") .byte, .eq (.length (.field (.string "LinkEngine" 397) "java/lang/String" "value" "[B")) (.int 0)]
theorem lc_18_in : ∀ c ∈ lc_18, c ∈ flatC (Jvm.Cond.and given_1 narrow_1) := by decide +kernel
theorem ls_18 {args : Array Value} {s : State} {A : Nat → Prop} (hs : ∀ c ∈ flatC (Jvm.Cond.and given_1 narrow_1), c.before args s = true) (hA : ∀ a : Nat, a < s.heap.size → ¬ A a) : ∃ q, vz_Ps args s A 18 q :=
  vz_one (t := .string "LinkEngine" 397) (len := 0) (byt := []) (by decide) (hs _ (lc_18_in _ (List.mem_of_getElem? (i := 0) rfl))) (hs _ (lc_18_in _ (List.mem_of_getElem? (i := 1) rfl))) (hs _ (lc_18_in _ (List.mem_of_getElem? (i := 2) rfl))) (hs _ (lc_18_in _ (List.mem_of_getElem? (i := 3) rfl))) (fun j hj => absurd hj (Nat.not_lt_zero j)) hA
def lc_19 : List Cond := [.exactly (.string "LinkEngine$Reader" 93) "java/lang/String", .eq (.field (.string "LinkEngine$Reader" 93) "java/lang/String" "coder" "B") (.int 0), .arrayOf (.field (.string "LinkEngine$Reader" 93) "java/lang/String" "value" "[B") .byte, .eq (.length (.field (.string "LinkEngine$Reader" 93) "java/lang/String" "value" "[B")) (.int 1), .eq (.elem (.field (.string "LinkEngine$Reader" 93) "java/lang/String" "value" "[B") (.int 0)) (.int 111)]
theorem lc_19_in : ∀ c ∈ lc_19, c ∈ flatC (Jvm.Cond.and given_1 narrow_1) := by decide +kernel
theorem ls_19 {args : Array Value} {s : State} {A : Nat → Prop} (hs : ∀ c ∈ flatC (Jvm.Cond.and given_1 narrow_1), c.before args s = true) (hA : ∀ a : Nat, a < s.heap.size → ¬ A a) : ∃ q, vz_Ps args s A 19 q :=
  vz_one (t := .string "LinkEngine$Reader" 93) (len := 1) (byt := [111]) (by decide) (hs _ (lc_19_in _ (List.mem_of_getElem? (i := 0) rfl))) (hs _ (lc_19_in _ (List.mem_of_getElem? (i := 1) rfl))) (hs _ (lc_19_in _ (List.mem_of_getElem? (i := 2) rfl))) (hs _ (lc_19_in _ (List.mem_of_getElem? (i := 3) rfl))) (fun j hj => by
  rcases (show j = 0 by omega) with rfl
  · exact hs _ (lc_19_in _ (List.mem_of_getElem? (i := 4) rfl))) hA
def lc_20 : List Cond := [.exactly (.string "LinkEngine$Reader" 125) "java/lang/String", .eq (.field (.string "LinkEngine$Reader" 125) "java/lang/String" "coder" "B") (.int 0), .arrayOf (.field (.string "LinkEngine$Reader" 125) "java/lang/String" "value" "[B") .byte, .eq (.length (.field (.string "LinkEngine$Reader" 125) "java/lang/String" "value" "[B")) (.int 4), .eq (.elem (.field (.string "LinkEngine$Reader" 125) "java/lang/String" "value" "[B") (.int 0)) (.int 111), .eq (.elem (.field (.string "LinkEngine$Reader" 125) "java/lang/String" "value" "[B") (.int 1)) (.int 118), .eq (.elem (.field (.string "LinkEngine$Reader" 125) "java/lang/String" "value" "[B") (.int 2)) (.int 101), .eq (.elem (.field (.string "LinkEngine$Reader" 125) "java/lang/String" "value" "[B") (.int 3)) (.int 114)]
theorem lc_20_in : ∀ c ∈ lc_20, c ∈ flatC (Jvm.Cond.and given_1 narrow_1) := by decide +kernel
theorem ls_20 {args : Array Value} {s : State} {A : Nat → Prop} (hs : ∀ c ∈ flatC (Jvm.Cond.and given_1 narrow_1), c.before args s = true) (hA : ∀ a : Nat, a < s.heap.size → ¬ A a) : ∃ q, vz_Ps args s A 20 q :=
  vz_one (t := .string "LinkEngine$Reader" 125) (len := 4) (byt := [111, 118, 101, 114]) (by decide) (hs _ (lc_20_in _ (List.mem_of_getElem? (i := 0) rfl))) (hs _ (lc_20_in _ (List.mem_of_getElem? (i := 1) rfl))) (hs _ (lc_20_in _ (List.mem_of_getElem? (i := 2) rfl))) (hs _ (lc_20_in _ (List.mem_of_getElem? (i := 3) rfl))) (fun j hj => by
  rcases (show j = 0 ∨ j = 1 ∨ j = 2 ∨ j = 3 by omega) with rfl | rfl | rfl | rfl
  · exact hs _ (lc_20_in _ (List.mem_of_getElem? (i := 4) rfl))
  · exact hs _ (lc_20_in _ (List.mem_of_getElem? (i := 5) rfl))
  · exact hs _ (lc_20_in _ (List.mem_of_getElem? (i := 6) rfl))
  · exact hs _ (lc_20_in _ (List.mem_of_getElem? (i := 7) rfl))) hA
def lc_21 : List Cond := [.exactly (.string "LinkEngine$Reader" 127) "java/lang/String", .eq (.field (.string "LinkEngine$Reader" 127) "java/lang/String" "coder" "B") (.int 0), .arrayOf (.field (.string "LinkEngine$Reader" 127) "java/lang/String" "value" "[B") .byte, .eq (.length (.field (.string "LinkEngine$Reader" 127) "java/lang/String" "value" "[B")) (.int 5), .eq (.elem (.field (.string "LinkEngine$Reader" 127) "java/lang/String" "value" "[B") (.int 0)) (.int 117), .eq (.elem (.field (.string "LinkEngine$Reader" 127) "java/lang/String" "value" "[B") (.int 1)) (.int 110), .eq (.elem (.field (.string "LinkEngine$Reader" 127) "java/lang/String" "value" "[B") (.int 2)) (.int 100), .eq (.elem (.field (.string "LinkEngine$Reader" 127) "java/lang/String" "value" "[B") (.int 3)) (.int 101), .eq (.elem (.field (.string "LinkEngine$Reader" 127) "java/lang/String" "value" "[B") (.int 4)) (.int 114)]
theorem lc_21_in : ∀ c ∈ lc_21, c ∈ flatC (Jvm.Cond.and given_1 narrow_1) := by decide +kernel
theorem ls_21 {args : Array Value} {s : State} {A : Nat → Prop} (hs : ∀ c ∈ flatC (Jvm.Cond.and given_1 narrow_1), c.before args s = true) (hA : ∀ a : Nat, a < s.heap.size → ¬ A a) : ∃ q, vz_Ps args s A 21 q :=
  vz_one (t := .string "LinkEngine$Reader" 127) (len := 5) (byt := [117, 110, 100, 101, 114]) (by decide) (hs _ (lc_21_in _ (List.mem_of_getElem? (i := 0) rfl))) (hs _ (lc_21_in _ (List.mem_of_getElem? (i := 1) rfl))) (hs _ (lc_21_in _ (List.mem_of_getElem? (i := 2) rfl))) (hs _ (lc_21_in _ (List.mem_of_getElem? (i := 3) rfl))) (fun j hj => by
  rcases (show j = 0 ∨ j = 1 ∨ j = 2 ∨ j = 3 ∨ j = 4 by omega) with rfl | rfl | rfl | rfl | rfl
  · exact hs _ (lc_21_in _ (List.mem_of_getElem? (i := 4) rfl))
  · exact hs _ (lc_21_in _ (List.mem_of_getElem? (i := 5) rfl))
  · exact hs _ (lc_21_in _ (List.mem_of_getElem? (i := 6) rfl))
  · exact hs _ (lc_21_in _ (List.mem_of_getElem? (i := 7) rfl))
  · exact hs _ (lc_21_in _ (List.mem_of_getElem? (i := 8) rfl))) hA
def lc_22 : List Cond := [.exactly (.string "LinkEngine" 399) "java/lang/String", .eq (.field (.string "LinkEngine" 399) "java/lang/String" "coder" "B") (.int 0), .arrayOf (.field (.string "LinkEngine" 399) "java/lang/String" "value" "[B") .byte, .eq (.length (.field (.string "LinkEngine" 399) "java/lang/String" "value" "[B")) (.int 1), .eq (.elem (.field (.string "LinkEngine" 399) "java/lang/String" "value" "[B") (.int 0)) (.int 116)]
theorem lc_22_in : ∀ c ∈ lc_22, c ∈ flatC (Jvm.Cond.and given_1 narrow_1) := by decide +kernel
theorem ls_22 {args : Array Value} {s : State} {A : Nat → Prop} (hs : ∀ c ∈ flatC (Jvm.Cond.and given_1 narrow_1), c.before args s = true) (hA : ∀ a : Nat, a < s.heap.size → ¬ A a) : ∃ q, vz_Ps args s A 22 q :=
  vz_one (t := .string "LinkEngine" 399) (len := 1) (byt := [116]) (by decide) (hs _ (lc_22_in _ (List.mem_of_getElem? (i := 0) rfl))) (hs _ (lc_22_in _ (List.mem_of_getElem? (i := 1) rfl))) (hs _ (lc_22_in _ (List.mem_of_getElem? (i := 2) rfl))) (hs _ (lc_22_in _ (List.mem_of_getElem? (i := 3) rfl))) (fun j hj => by
  rcases (show j = 0 by omega) with rfl
  · exact hs _ (lc_22_in _ (List.mem_of_getElem? (i := 4) rfl))) hA
def lc_23 : List Cond := [.exactly (.string "LinkEngine" 401) "java/lang/String", .eq (.field (.string "LinkEngine" 401) "java/lang/String" "coder" "B") (.int 0), .arrayOf (.field (.string "LinkEngine" 401) "java/lang/String" "value" "[B") .byte, .eq (.length (.field (.string "LinkEngine" 401) "java/lang/String" "value" "[B")) (.int 1), .eq (.elem (.field (.string "LinkEngine" 401) "java/lang/String" "value" "[B") (.int 0)) (.int 65)]
theorem lc_23_in : ∀ c ∈ lc_23, c ∈ flatC (Jvm.Cond.and given_1 narrow_1) := by decide +kernel
theorem ls_23 {args : Array Value} {s : State} {A : Nat → Prop} (hs : ∀ c ∈ flatC (Jvm.Cond.and given_1 narrow_1), c.before args s = true) (hA : ∀ a : Nat, a < s.heap.size → ¬ A a) : ∃ q, vz_Ps args s A 23 q :=
  vz_one (t := .string "LinkEngine" 401) (len := 1) (byt := [65]) (by decide) (hs _ (lc_23_in _ (List.mem_of_getElem? (i := 0) rfl))) (hs _ (lc_23_in _ (List.mem_of_getElem? (i := 1) rfl))) (hs _ (lc_23_in _ (List.mem_of_getElem? (i := 2) rfl))) (hs _ (lc_23_in _ (List.mem_of_getElem? (i := 3) rfl))) (fun j hj => by
  rcases (show j = 0 by omega) with rfl
  · exact hs _ (lc_23_in _ (List.mem_of_getElem? (i := 4) rfl))) hA
def lc_24 : List Cond := [.exactly (.string "LinkEngine" 283) "java/lang/String", .eq (.field (.string "LinkEngine" 283) "java/lang/String" "coder" "B") (.int 0), .arrayOf (.field (.string "LinkEngine" 283) "java/lang/String" "value" "[B") .byte, .eq (.length (.field (.string "LinkEngine" 283) "java/lang/String" "value" "[B")) (.int 4), .eq (.elem (.field (.string "LinkEngine" 283) "java/lang/String" "value" "[B") (.int 0)) (.int 110), .eq (.elem (.field (.string "LinkEngine" 283) "java/lang/String" "value" "[B") (.int 1)) (.int 111), .eq (.elem (.field (.string "LinkEngine" 283) "java/lang/String" "value" "[B") (.int 2)) (.int 32), .eq (.elem (.field (.string "LinkEngine" 283) "java/lang/String" "value" "[B") (.int 3)) (.int 48)]
theorem lc_24_in : ∀ c ∈ lc_24, c ∈ flatC (Jvm.Cond.and given_1 narrow_1) := by decide +kernel
theorem ls_24 {args : Array Value} {s : State} {A : Nat → Prop} (hs : ∀ c ∈ flatC (Jvm.Cond.and given_1 narrow_1), c.before args s = true) (hA : ∀ a : Nat, a < s.heap.size → ¬ A a) : ∃ q, vz_Ps args s A 24 q :=
  vz_one (t := .string "LinkEngine" 283) (len := 4) (byt := [110, 111, 32, 48]) (by decide) (hs _ (lc_24_in _ (List.mem_of_getElem? (i := 0) rfl))) (hs _ (lc_24_in _ (List.mem_of_getElem? (i := 1) rfl))) (hs _ (lc_24_in _ (List.mem_of_getElem? (i := 2) rfl))) (hs _ (lc_24_in _ (List.mem_of_getElem? (i := 3) rfl))) (fun j hj => by
  rcases (show j = 0 ∨ j = 1 ∨ j = 2 ∨ j = 3 by omega) with rfl | rfl | rfl | rfl
  · exact hs _ (lc_24_in _ (List.mem_of_getElem? (i := 4) rfl))
  · exact hs _ (lc_24_in _ (List.mem_of_getElem? (i := 5) rfl))
  · exact hs _ (lc_24_in _ (List.mem_of_getElem? (i := 6) rfl))
  · exact hs _ (lc_24_in _ (List.mem_of_getElem? (i := 7) rfl))) hA
def lc_25 : List Cond := [.exactly (.string "LinkEngine$Paper" 40) "java/lang/String", .eq (.field (.string "LinkEngine$Paper" 40) "java/lang/String" "coder" "B") (.int 0), .arrayOf (.field (.string "LinkEngine$Paper" 40) "java/lang/String" "value" "[B") .byte, .eq (.length (.field (.string "LinkEngine$Paper" 40) "java/lang/String" "value" "[B")) (.int 2), .eq (.elem (.field (.string "LinkEngine$Paper" 40) "java/lang/String" "value" "[B") (.int 0)) (.int 35), .eq (.elem (.field (.string "LinkEngine$Paper" 40) "java/lang/String" "value" "[B") (.int 1)) (.int 32)]
theorem lc_25_in : ∀ c ∈ lc_25, c ∈ flatC (Jvm.Cond.and given_1 narrow_1) := by decide +kernel
theorem ls_25 {args : Array Value} {s : State} {A : Nat → Prop} (hs : ∀ c ∈ flatC (Jvm.Cond.and given_1 narrow_1), c.before args s = true) (hA : ∀ a : Nat, a < s.heap.size → ¬ A a) : ∃ q, vz_Ps args s A 25 q :=
  vz_one (t := .string "LinkEngine$Paper" 40) (len := 2) (byt := [35, 32]) (by decide) (hs _ (lc_25_in _ (List.mem_of_getElem? (i := 0) rfl))) (hs _ (lc_25_in _ (List.mem_of_getElem? (i := 1) rfl))) (hs _ (lc_25_in _ (List.mem_of_getElem? (i := 2) rfl))) (hs _ (lc_25_in _ (List.mem_of_getElem? (i := 3) rfl))) (fun j hj => by
  rcases (show j = 0 ∨ j = 1 by omega) with rfl | rfl
  · exact hs _ (lc_25_in _ (List.mem_of_getElem? (i := 4) rfl))
  · exact hs _ (lc_25_in _ (List.mem_of_getElem? (i := 5) rfl))) hA
def lc_26 : List Cond := [.exactly (.string "LinkEngine" 241) "java/lang/String", .eq (.field (.string "LinkEngine" 241) "java/lang/String" "coder" "B") (.int 0), .arrayOf (.field (.string "LinkEngine" 241) "java/lang/String" "value" "[B") .byte, .eq (.length (.field (.string "LinkEngine" 241) "java/lang/String" "value" "[B")) (.int 2), .eq (.elem (.field (.string "LinkEngine" 241) "java/lang/String" "value" "[B") (.int 0)) (.int 111), .eq (.elem (.field (.string "LinkEngine" 241) "java/lang/String" "value" "[B") (.int 1)) (.int 107)]
theorem lc_26_in : ∀ c ∈ lc_26, c ∈ flatC (Jvm.Cond.and given_1 narrow_1) := by decide +kernel
theorem ls_26 {args : Array Value} {s : State} {A : Nat → Prop} (hs : ∀ c ∈ flatC (Jvm.Cond.and given_1 narrow_1), c.before args s = true) (hA : ∀ a : Nat, a < s.heap.size → ¬ A a) : ∃ q, vz_Ps args s A 26 q :=
  vz_one (t := .string "LinkEngine" 241) (len := 2) (byt := [111, 107]) (by decide) (hs _ (lc_26_in _ (List.mem_of_getElem? (i := 0) rfl))) (hs _ (lc_26_in _ (List.mem_of_getElem? (i := 1) rfl))) (hs _ (lc_26_in _ (List.mem_of_getElem? (i := 2) rfl))) (hs _ (lc_26_in _ (List.mem_of_getElem? (i := 3) rfl))) (fun j hj => by
  rcases (show j = 0 ∨ j = 1 by omega) with rfl | rfl
  · exact hs _ (lc_26_in _ (List.mem_of_getElem? (i := 4) rfl))
  · exact hs _ (lc_26_in _ (List.mem_of_getElem? (i := 5) rfl))) hA
def lc_27 : List Cond := [.exactly (.string "LinkEngine" 288) "java/lang/String", .eq (.field (.string "LinkEngine" 288) "java/lang/String" "coder" "B") (.int 0), .arrayOf (.field (.string "LinkEngine" 288) "java/lang/String" "value" "[B") .byte, .eq (.length (.field (.string "LinkEngine" 288) "java/lang/String" "value" "[B")) (.int 4), .eq (.elem (.field (.string "LinkEngine" 288) "java/lang/String" "value" "[B") (.int 0)) (.int 35), .eq (.elem (.field (.string "LinkEngine" 288) "java/lang/String" "value" "[B") (.int 1)) (.int 32), .eq (.elem (.field (.string "LinkEngine" 288) "java/lang/String" "value" "[B") (.int 2)) (.int 110), .eq (.elem (.field (.string "LinkEngine" 288) "java/lang/String" "value" "[B") (.int 3)) (.int 111)]
theorem lc_27_in : ∀ c ∈ lc_27, c ∈ flatC (Jvm.Cond.and given_1 narrow_1) := by decide +kernel
theorem ls_27 {args : Array Value} {s : State} {A : Nat → Prop} (hs : ∀ c ∈ flatC (Jvm.Cond.and given_1 narrow_1), c.before args s = true) (hA : ∀ a : Nat, a < s.heap.size → ¬ A a) : ∃ q, vz_Ps args s A 27 q :=
  vz_one (t := .string "LinkEngine" 288) (len := 4) (byt := [35, 32, 110, 111]) (by decide) (hs _ (lc_27_in _ (List.mem_of_getElem? (i := 0) rfl))) (hs _ (lc_27_in _ (List.mem_of_getElem? (i := 1) rfl))) (hs _ (lc_27_in _ (List.mem_of_getElem? (i := 2) rfl))) (hs _ (lc_27_in _ (List.mem_of_getElem? (i := 3) rfl))) (fun j hj => by
  rcases (show j = 0 ∨ j = 1 ∨ j = 2 ∨ j = 3 by omega) with rfl | rfl | rfl | rfl
  · exact hs _ (lc_27_in _ (List.mem_of_getElem? (i := 4) rfl))
  · exact hs _ (lc_27_in _ (List.mem_of_getElem? (i := 5) rfl))
  · exact hs _ (lc_27_in _ (List.mem_of_getElem? (i := 6) rfl))
  · exact hs _ (lc_27_in _ (List.mem_of_getElem? (i := 7) rfl))) hA
def lc_28 : List Cond := [.exactly (.string "LinkEngine" 243) "java/lang/String", .eq (.field (.string "LinkEngine" 243) "java/lang/String" "coder" "B") (.int 0), .arrayOf (.field (.string "LinkEngine" 243) "java/lang/String" "value" "[B") .byte, .eq (.length (.field (.string "LinkEngine" 243) "java/lang/String" "value" "[B")) (.int 2), .eq (.elem (.field (.string "LinkEngine" 243) "java/lang/String" "value" "[B") (.int 0)) (.int 110), .eq (.elem (.field (.string "LinkEngine" 243) "java/lang/String" "value" "[B") (.int 1)) (.int 111)]
theorem lc_28_in : ∀ c ∈ lc_28, c ∈ flatC (Jvm.Cond.and given_1 narrow_1) := by decide +kernel
theorem ls_28 {args : Array Value} {s : State} {A : Nat → Prop} (hs : ∀ c ∈ flatC (Jvm.Cond.and given_1 narrow_1), c.before args s = true) (hA : ∀ a : Nat, a < s.heap.size → ¬ A a) : ∃ q, vz_Ps args s A 28 q :=
  vz_one (t := .string "LinkEngine" 243) (len := 2) (byt := [110, 111]) (by decide) (hs _ (lc_28_in _ (List.mem_of_getElem? (i := 0) rfl))) (hs _ (lc_28_in _ (List.mem_of_getElem? (i := 1) rfl))) (hs _ (lc_28_in _ (List.mem_of_getElem? (i := 2) rfl))) (hs _ (lc_28_in _ (List.mem_of_getElem? (i := 3) rfl))) (fun j hj => by
  rcases (show j = 0 ∨ j = 1 by omega) with rfl | rfl
  · exact hs _ (lc_28_in _ (List.mem_of_getElem? (i := 4) rfl))
  · exact hs _ (lc_28_in _ (List.mem_of_getElem? (i := 5) rfl))) hA
def lc_29 : List Cond := [.exactly (.string "LinkEngine" 319) "java/lang/String", .eq (.field (.string "LinkEngine" 319) "java/lang/String" "coder" "B") (.int 0), .arrayOf (.field (.string "LinkEngine" 319) "java/lang/String" "value" "[B") .byte, .eq (.length (.field (.string "LinkEngine" 319) "java/lang/String" "value" "[B")) (.int 8), .eq (.elem (.field (.string "LinkEngine" 319) "java/lang/String" "value" "[B") (.int 0)) (.int 35), .eq (.elem (.field (.string "LinkEngine" 319) "java/lang/String" "value" "[B") (.int 1)) (.int 32), .eq (.elem (.field (.string "LinkEngine" 319) "java/lang/String" "value" "[B") (.int 2)) (.int 117), .eq (.elem (.field (.string "LinkEngine" 319) "java/lang/String" "value" "[B") (.int 3)) (.int 110), .eq (.elem (.field (.string "LinkEngine" 319) "java/lang/String" "value" "[B") (.int 4)) (.int 100), .eq (.elem (.field (.string "LinkEngine" 319) "java/lang/String" "value" "[B") (.int 5)) (.int 111), .eq (.elem (.field (.string "LinkEngine" 319) "java/lang/String" "value" "[B") (.int 6)) (.int 110), .eq (.elem (.field (.string "LinkEngine" 319) "java/lang/String" "value" "[B") (.int 7)) (.int 101)]
theorem lc_29_in : ∀ c ∈ lc_29, c ∈ flatC (Jvm.Cond.and given_1 narrow_1) := by decide +kernel
theorem ls_29 {args : Array Value} {s : State} {A : Nat → Prop} (hs : ∀ c ∈ flatC (Jvm.Cond.and given_1 narrow_1), c.before args s = true) (hA : ∀ a : Nat, a < s.heap.size → ¬ A a) : ∃ q, vz_Ps args s A 29 q :=
  vz_one (t := .string "LinkEngine" 319) (len := 8) (byt := [35, 32, 117, 110, 100, 111, 110, 101]) (by decide) (hs _ (lc_29_in _ (List.mem_of_getElem? (i := 0) rfl))) (hs _ (lc_29_in _ (List.mem_of_getElem? (i := 1) rfl))) (hs _ (lc_29_in _ (List.mem_of_getElem? (i := 2) rfl))) (hs _ (lc_29_in _ (List.mem_of_getElem? (i := 3) rfl))) (fun j hj => by
  rcases (show j = 0 ∨ j = 1 ∨ j = 2 ∨ j = 3 ∨ j = 4 ∨ j = 5 ∨ j = 6 ∨ j = 7 by omega) with rfl | rfl | rfl | rfl | rfl | rfl | rfl | rfl
  · exact hs _ (lc_29_in _ (List.mem_of_getElem? (i := 4) rfl))
  · exact hs _ (lc_29_in _ (List.mem_of_getElem? (i := 5) rfl))
  · exact hs _ (lc_29_in _ (List.mem_of_getElem? (i := 6) rfl))
  · exact hs _ (lc_29_in _ (List.mem_of_getElem? (i := 7) rfl))
  · exact hs _ (lc_29_in _ (List.mem_of_getElem? (i := 8) rfl))
  · exact hs _ (lc_29_in _ (List.mem_of_getElem? (i := 9) rfl))
  · exact hs _ (lc_29_in _ (List.mem_of_getElem? (i := 10) rfl))
  · exact hs _ (lc_29_in _ (List.mem_of_getElem? (i := 11) rfl))) hA
def lc_30 : List Cond := [.exactly (.string "LinkEngine$Paper" 73) "java/lang/String", .eq (.field (.string "LinkEngine$Paper" 73) "java/lang/String" "coder" "B") (.int 0), .arrayOf (.field (.string "LinkEngine$Paper" 73) "java/lang/String" "value" "[B") .byte, .eq (.length (.field (.string "LinkEngine$Paper" 73) "java/lang/String" "value" "[B")) (.int 3), .eq (.elem (.field (.string "LinkEngine$Paper" 73) "java/lang/String" "value" "[B") (.int 0)) (.int 32), .eq (.elem (.field (.string "LinkEngine$Paper" 73) "java/lang/String" "value" "[B") (.int 1)) (.int 43), .eq (.elem (.field (.string "LinkEngine$Paper" 73) "java/lang/String" "value" "[B") (.int 2)) (.int 91)]
theorem lc_30_in : ∀ c ∈ lc_30, c ∈ flatC (Jvm.Cond.and given_1 narrow_1) := by decide +kernel
theorem ls_30 {args : Array Value} {s : State} {A : Nat → Prop} (hs : ∀ c ∈ flatC (Jvm.Cond.and given_1 narrow_1), c.before args s = true) (hA : ∀ a : Nat, a < s.heap.size → ¬ A a) : ∃ q, vz_Ps args s A 30 q :=
  vz_one (t := .string "LinkEngine$Paper" 73) (len := 3) (byt := [32, 43, 91]) (by decide) (hs _ (lc_30_in _ (List.mem_of_getElem? (i := 0) rfl))) (hs _ (lc_30_in _ (List.mem_of_getElem? (i := 1) rfl))) (hs _ (lc_30_in _ (List.mem_of_getElem? (i := 2) rfl))) (hs _ (lc_30_in _ (List.mem_of_getElem? (i := 3) rfl))) (fun j hj => by
  rcases (show j = 0 ∨ j = 1 ∨ j = 2 by omega) with rfl | rfl | rfl
  · exact hs _ (lc_30_in _ (List.mem_of_getElem? (i := 4) rfl))
  · exact hs _ (lc_30_in _ (List.mem_of_getElem? (i := 5) rfl))
  · exact hs _ (lc_30_in _ (List.mem_of_getElem? (i := 6) rfl))) hA
def lc_31 : List Cond := [.exactly (.string "LinkEngine$Paper" 75) "java/lang/String", .eq (.field (.string "LinkEngine$Paper" 75) "java/lang/String" "coder" "B") (.int 0), .arrayOf (.field (.string "LinkEngine$Paper" 75) "java/lang/String" "value" "[B") .byte, .eq (.length (.field (.string "LinkEngine$Paper" 75) "java/lang/String" "value" "[B")) (.int 3), .eq (.elem (.field (.string "LinkEngine$Paper" 75) "java/lang/String" "value" "[B") (.int 0)) (.int 32), .eq (.elem (.field (.string "LinkEngine$Paper" 75) "java/lang/String" "value" "[B") (.int 1)) (.int 45), .eq (.elem (.field (.string "LinkEngine$Paper" 75) "java/lang/String" "value" "[B") (.int 2)) (.int 91)]
theorem lc_31_in : ∀ c ∈ lc_31, c ∈ flatC (Jvm.Cond.and given_1 narrow_1) := by decide +kernel
theorem ls_31 {args : Array Value} {s : State} {A : Nat → Prop} (hs : ∀ c ∈ flatC (Jvm.Cond.and given_1 narrow_1), c.before args s = true) (hA : ∀ a : Nat, a < s.heap.size → ¬ A a) : ∃ q, vz_Ps args s A 31 q :=
  vz_one (t := .string "LinkEngine$Paper" 75) (len := 3) (byt := [32, 45, 91]) (by decide) (hs _ (lc_31_in _ (List.mem_of_getElem? (i := 0) rfl))) (hs _ (lc_31_in _ (List.mem_of_getElem? (i := 1) rfl))) (hs _ (lc_31_in _ (List.mem_of_getElem? (i := 2) rfl))) (hs _ (lc_31_in _ (List.mem_of_getElem? (i := 3) rfl))) (fun j hj => by
  rcases (show j = 0 ∨ j = 1 ∨ j = 2 by omega) with rfl | rfl | rfl
  · exact hs _ (lc_31_in _ (List.mem_of_getElem? (i := 4) rfl))
  · exact hs _ (lc_31_in _ (List.mem_of_getElem? (i := 5) rfl))
  · exact hs _ (lc_31_in _ (List.mem_of_getElem? (i := 6) rfl))) hA
def lc_32 : List Cond := [.exactly (.string "LinkEngine$Paper" 77) "java/lang/String", .eq (.field (.string "LinkEngine$Paper" 77) "java/lang/String" "coder" "B") (.int 0), .arrayOf (.field (.string "LinkEngine$Paper" 77) "java/lang/String" "value" "[B") .byte, .eq (.length (.field (.string "LinkEngine$Paper" 77) "java/lang/String" "value" "[B")) (.int 2), .eq (.elem (.field (.string "LinkEngine$Paper" 77) "java/lang/String" "value" "[B") (.int 0)) (.int 44), .eq (.elem (.field (.string "LinkEngine$Paper" 77) "java/lang/String" "value" "[B") (.int 1)) (.int 32)]
theorem lc_32_in : ∀ c ∈ lc_32, c ∈ flatC (Jvm.Cond.and given_1 narrow_1) := by decide +kernel
theorem ls_32 {args : Array Value} {s : State} {A : Nat → Prop} (hs : ∀ c ∈ flatC (Jvm.Cond.and given_1 narrow_1), c.before args s = true) (hA : ∀ a : Nat, a < s.heap.size → ¬ A a) : ∃ q, vz_Ps args s A 32 q :=
  vz_one (t := .string "LinkEngine$Paper" 77) (len := 2) (byt := [44, 32]) (by decide) (hs _ (lc_32_in _ (List.mem_of_getElem? (i := 0) rfl))) (hs _ (lc_32_in _ (List.mem_of_getElem? (i := 1) rfl))) (hs _ (lc_32_in _ (List.mem_of_getElem? (i := 2) rfl))) (hs _ (lc_32_in _ (List.mem_of_getElem? (i := 3) rfl))) (fun j hj => by
  rcases (show j = 0 ∨ j = 1 by omega) with rfl | rfl
  · exact hs _ (lc_32_in _ (List.mem_of_getElem? (i := 4) rfl))
  · exact hs _ (lc_32_in _ (List.mem_of_getElem? (i := 5) rfl))) hA
def lc_33 : List Cond := [.exactly (.string "LinkEngine$Paper" 85) "java/lang/String", .eq (.field (.string "LinkEngine$Paper" 85) "java/lang/String" "coder" "B") (.int 0), .arrayOf (.field (.string "LinkEngine$Paper" 85) "java/lang/String" "value" "[B") .byte, .eq (.length (.field (.string "LinkEngine$Paper" 85) "java/lang/String" "value" "[B")) (.int 2), .eq (.elem (.field (.string "LinkEngine$Paper" 85) "java/lang/String" "value" "[B") (.int 0)) (.int 32), .eq (.elem (.field (.string "LinkEngine$Paper" 85) "java/lang/String" "value" "[B") (.int 1)) (.int 111)]
theorem lc_33_in : ∀ c ∈ lc_33, c ∈ flatC (Jvm.Cond.and given_1 narrow_1) := by decide +kernel
theorem ls_33 {args : Array Value} {s : State} {A : Nat → Prop} (hs : ∀ c ∈ flatC (Jvm.Cond.and given_1 narrow_1), c.before args s = true) (hA : ∀ a : Nat, a < s.heap.size → ¬ A a) : ∃ q, vz_Ps args s A 33 q :=
  vz_one (t := .string "LinkEngine$Paper" 85) (len := 2) (byt := [32, 111]) (by decide) (hs _ (lc_33_in _ (List.mem_of_getElem? (i := 0) rfl))) (hs _ (lc_33_in _ (List.mem_of_getElem? (i := 1) rfl))) (hs _ (lc_33_in _ (List.mem_of_getElem? (i := 2) rfl))) (hs _ (lc_33_in _ (List.mem_of_getElem? (i := 3) rfl))) (fun j hj => by
  rcases (show j = 0 ∨ j = 1 by omega) with rfl | rfl
  · exact hs _ (lc_33_in _ (List.mem_of_getElem? (i := 4) rfl))
  · exact hs _ (lc_33_in _ (List.mem_of_getElem? (i := 5) rfl))) hA
def lc_34 : List Cond := [.exactly (.string "LinkEngine" 321) "java/lang/String", .eq (.field (.string "LinkEngine" 321) "java/lang/String" "coder" "B") (.int 0), .arrayOf (.field (.string "LinkEngine" 321) "java/lang/String" "value" "[B") .byte, .eq (.length (.field (.string "LinkEngine" 321) "java/lang/String" "value" "[B")) (.int 1), .eq (.elem (.field (.string "LinkEngine" 321) "java/lang/String" "value" "[B") (.int 0)) (.int 35)]
theorem lc_34_in : ∀ c ∈ lc_34, c ∈ flatC (Jvm.Cond.and given_1 narrow_1) := by decide +kernel
theorem ls_34 {args : Array Value} {s : State} {A : Nat → Prop} (hs : ∀ c ∈ flatC (Jvm.Cond.and given_1 narrow_1), c.before args s = true) (hA : ∀ a : Nat, a < s.heap.size → ¬ A a) : ∃ q, vz_Ps args s A 34 q :=
  vz_one (t := .string "LinkEngine" 321) (len := 1) (byt := [35]) (by decide) (hs _ (lc_34_in _ (List.mem_of_getElem? (i := 0) rfl))) (hs _ (lc_34_in _ (List.mem_of_getElem? (i := 1) rfl))) (hs _ (lc_34_in _ (List.mem_of_getElem? (i := 2) rfl))) (hs _ (lc_34_in _ (List.mem_of_getElem? (i := 3) rfl))) (fun j hj => by
  rcases (show j = 0 by omega) with rfl
  · exact hs _ (lc_34_in _ (List.mem_of_getElem? (i := 4) rfl))) hA
def lc_35 : List Cond := [.exactly (.string "LinkEngine" 351) "java/lang/String", .eq (.field (.string "LinkEngine" 351) "java/lang/String" "coder" "B") (.int 0), .arrayOf (.field (.string "LinkEngine" 351) "java/lang/String" "value" "[B") .byte, .eq (.length (.field (.string "LinkEngine" 351) "java/lang/String" "value" "[B")) (.int 4), .eq (.elem (.field (.string "LinkEngine" 351) "java/lang/String" "value" "[B") (.int 0)) (.int 109), .eq (.elem (.field (.string "LinkEngine" 351) "java/lang/String" "value" "[B") (.int 1)) (.int 97), .eq (.elem (.field (.string "LinkEngine" 351) "java/lang/String" "value" "[B") (.int 2)) (.int 110), .eq (.elem (.field (.string "LinkEngine" 351) "java/lang/String" "value" "[B") (.int 3)) (.int 121)]
theorem lc_35_in : ∀ c ∈ lc_35, c ∈ flatC (Jvm.Cond.and given_1 narrow_1) := by decide +kernel
theorem ls_35 {args : Array Value} {s : State} {A : Nat → Prop} (hs : ∀ c ∈ flatC (Jvm.Cond.and given_1 narrow_1), c.before args s = true) (hA : ∀ a : Nat, a < s.heap.size → ¬ A a) : ∃ q, vz_Ps args s A 35 q :=
  vz_one (t := .string "LinkEngine" 351) (len := 4) (byt := [109, 97, 110, 121]) (by decide) (hs _ (lc_35_in _ (List.mem_of_getElem? (i := 0) rfl))) (hs _ (lc_35_in _ (List.mem_of_getElem? (i := 1) rfl))) (hs _ (lc_35_in _ (List.mem_of_getElem? (i := 2) rfl))) (hs _ (lc_35_in _ (List.mem_of_getElem? (i := 3) rfl))) (fun j hj => by
  rcases (show j = 0 ∨ j = 1 ∨ j = 2 ∨ j = 3 by omega) with rfl | rfl | rfl | rfl
  · exact hs _ (lc_35_in _ (List.mem_of_getElem? (i := 4) rfl))
  · exact hs _ (lc_35_in _ (List.mem_of_getElem? (i := 5) rfl))
  · exact hs _ (lc_35_in _ (List.mem_of_getElem? (i := 6) rfl))
  · exact hs _ (lc_35_in _ (List.mem_of_getElem? (i := 7) rfl))) hA
def lc_36 : List Cond := [.exactly (.string "LinkEngine$Paper" 90) "java/lang/String", .eq (.field (.string "LinkEngine$Paper" 90) "java/lang/String" "coder" "B") (.int 0), .arrayOf (.field (.string "LinkEngine$Paper" 90) "java/lang/String" "value" "[B") .byte, .eq (.length (.field (.string "LinkEngine$Paper" 90) "java/lang/String" "value" "[B")) (.int 3), .eq (.elem (.field (.string "LinkEngine$Paper" 90) "java/lang/String" "value" "[B") (.int 0)) (.int 32), .eq (.elem (.field (.string "LinkEngine$Paper" 90) "java/lang/String" "value" "[B") (.int 1)) (.int 61), .eq (.elem (.field (.string "LinkEngine$Paper" 90) "java/lang/String" "value" "[B") (.int 2)) (.int 32)]
theorem lc_36_in : ∀ c ∈ lc_36, c ∈ flatC (Jvm.Cond.and given_1 narrow_1) := by decide +kernel
theorem ls_36 {args : Array Value} {s : State} {A : Nat → Prop} (hs : ∀ c ∈ flatC (Jvm.Cond.and given_1 narrow_1), c.before args s = true) (hA : ∀ a : Nat, a < s.heap.size → ¬ A a) : ∃ q, vz_Ps args s A 36 q :=
  vz_one (t := .string "LinkEngine$Paper" 90) (len := 3) (byt := [32, 61, 32]) (by decide) (hs _ (lc_36_in _ (List.mem_of_getElem? (i := 0) rfl))) (hs _ (lc_36_in _ (List.mem_of_getElem? (i := 1) rfl))) (hs _ (lc_36_in _ (List.mem_of_getElem? (i := 2) rfl))) (hs _ (lc_36_in _ (List.mem_of_getElem? (i := 3) rfl))) (fun j hj => by
  rcases (show j = 0 ∨ j = 1 ∨ j = 2 by omega) with rfl | rfl | rfl
  · exact hs _ (lc_36_in _ (List.mem_of_getElem? (i := 4) rfl))
  · exact hs _ (lc_36_in _ (List.mem_of_getElem? (i := 5) rfl))
  · exact hs _ (lc_36_in _ (List.mem_of_getElem? (i := 6) rfl))) hA
def lc_37 : List Cond := [.exactly (.string "LinkEngine$Paper" 115) "java/lang/String", .eq (.field (.string "LinkEngine$Paper" 115) "java/lang/String" "coder" "B") (.int 0), .arrayOf (.field (.string "LinkEngine$Paper" 115) "java/lang/String" "value" "[B") .byte, .eq (.length (.field (.string "LinkEngine$Paper" 115) "java/lang/String" "value" "[B")) (.int 1), .eq (.elem (.field (.string "LinkEngine$Paper" 115) "java/lang/String" "value" "[B") (.int 0)) (.int 45)]
theorem lc_37_in : ∀ c ∈ lc_37, c ∈ flatC (Jvm.Cond.and given_1 narrow_1) := by decide +kernel
theorem ls_37 {args : Array Value} {s : State} {A : Nat → Prop} (hs : ∀ c ∈ flatC (Jvm.Cond.and given_1 narrow_1), c.before args s = true) (hA : ∀ a : Nat, a < s.heap.size → ¬ A a) : ∃ q, vz_Ps args s A 37 q :=
  vz_one (t := .string "LinkEngine$Paper" 115) (len := 1) (byt := [45]) (by decide) (hs _ (lc_37_in _ (List.mem_of_getElem? (i := 0) rfl))) (hs _ (lc_37_in _ (List.mem_of_getElem? (i := 1) rfl))) (hs _ (lc_37_in _ (List.mem_of_getElem? (i := 2) rfl))) (hs _ (lc_37_in _ (List.mem_of_getElem? (i := 3) rfl))) (fun j hj => by
  rcases (show j = 0 by omega) with rfl
  · exact hs _ (lc_37_in _ (List.mem_of_getElem? (i := 4) rfl))) hA
def lc_38 : List Cond := [.exactly (.string "LinkEngine$Paper" 117) "java/lang/String", .eq (.field (.string "LinkEngine$Paper" 117) "java/lang/String" "coder" "B") (.int 0), .arrayOf (.field (.string "LinkEngine$Paper" 117) "java/lang/String" "value" "[B") .byte, .eq (.length (.field (.string "LinkEngine$Paper" 117) "java/lang/String" "value" "[B")) (.int 0)]
theorem lc_38_in : ∀ c ∈ lc_38, c ∈ flatC (Jvm.Cond.and given_1 narrow_1) := by decide +kernel
theorem ls_38 {args : Array Value} {s : State} {A : Nat → Prop} (hs : ∀ c ∈ flatC (Jvm.Cond.and given_1 narrow_1), c.before args s = true) (hA : ∀ a : Nat, a < s.heap.size → ¬ A a) : ∃ q, vz_Ps args s A 38 q :=
  vz_one (t := .string "LinkEngine$Paper" 117) (len := 0) (byt := []) (by decide) (hs _ (lc_38_in _ (List.mem_of_getElem? (i := 0) rfl))) (hs _ (lc_38_in _ (List.mem_of_getElem? (i := 1) rfl))) (hs _ (lc_38_in _ (List.mem_of_getElem? (i := 2) rfl))) (hs _ (lc_38_in _ (List.mem_of_getElem? (i := 3) rfl))) (fun j hj => absurd hj (Nat.not_lt_zero j)) hA
def lc_39 : List Cond := [.exactly (.string "LinkEngine$Paper" 119) "java/lang/String", .eq (.field (.string "LinkEngine$Paper" 119) "java/lang/String" "coder" "B") (.int 0), .arrayOf (.field (.string "LinkEngine$Paper" 119) "java/lang/String" "value" "[B") .byte, .eq (.length (.field (.string "LinkEngine$Paper" 119) "java/lang/String" "value" "[B")) (.int 3), .eq (.elem (.field (.string "LinkEngine$Paper" 119) "java/lang/String" "value" "[B") (.int 0)) (.int 32), .eq (.elem (.field (.string "LinkEngine$Paper" 119) "java/lang/String" "value" "[B") (.int 1)) (.int 45), .eq (.elem (.field (.string "LinkEngine$Paper" 119) "java/lang/String" "value" "[B") (.int 2)) (.int 32)]
theorem lc_39_in : ∀ c ∈ lc_39, c ∈ flatC (Jvm.Cond.and given_1 narrow_1) := by decide +kernel
theorem ls_39 {args : Array Value} {s : State} {A : Nat → Prop} (hs : ∀ c ∈ flatC (Jvm.Cond.and given_1 narrow_1), c.before args s = true) (hA : ∀ a : Nat, a < s.heap.size → ¬ A a) : ∃ q, vz_Ps args s A 39 q :=
  vz_one (t := .string "LinkEngine$Paper" 119) (len := 3) (byt := [32, 45, 32]) (by decide) (hs _ (lc_39_in _ (List.mem_of_getElem? (i := 0) rfl))) (hs _ (lc_39_in _ (List.mem_of_getElem? (i := 1) rfl))) (hs _ (lc_39_in _ (List.mem_of_getElem? (i := 2) rfl))) (hs _ (lc_39_in _ (List.mem_of_getElem? (i := 3) rfl))) (fun j hj => by
  rcases (show j = 0 ∨ j = 1 ∨ j = 2 by omega) with rfl | rfl | rfl
  · exact hs _ (lc_39_in _ (List.mem_of_getElem? (i := 4) rfl))
  · exact hs _ (lc_39_in _ (List.mem_of_getElem? (i := 5) rfl))
  · exact hs _ (lc_39_in _ (List.mem_of_getElem? (i := 6) rfl))) hA
def lc_40 : List Cond := [.exactly (.string "LinkEngine$Paper" 121) "java/lang/String", .eq (.field (.string "LinkEngine$Paper" 121) "java/lang/String" "coder" "B") (.int 0), .arrayOf (.field (.string "LinkEngine$Paper" 121) "java/lang/String" "value" "[B") .byte, .eq (.length (.field (.string "LinkEngine$Paper" 121) "java/lang/String" "value" "[B")) (.int 3), .eq (.elem (.field (.string "LinkEngine$Paper" 121) "java/lang/String" "value" "[B") (.int 0)) (.int 32), .eq (.elem (.field (.string "LinkEngine$Paper" 121) "java/lang/String" "value" "[B") (.int 1)) (.int 43), .eq (.elem (.field (.string "LinkEngine$Paper" 121) "java/lang/String" "value" "[B") (.int 2)) (.int 32)]
theorem lc_40_in : ∀ c ∈ lc_40, c ∈ flatC (Jvm.Cond.and given_1 narrow_1) := by decide +kernel
theorem ls_40 {args : Array Value} {s : State} {A : Nat → Prop} (hs : ∀ c ∈ flatC (Jvm.Cond.and given_1 narrow_1), c.before args s = true) (hA : ∀ a : Nat, a < s.heap.size → ¬ A a) : ∃ q, vz_Ps args s A 40 q :=
  vz_one (t := .string "LinkEngine$Paper" 121) (len := 3) (byt := [32, 43, 32]) (by decide) (hs _ (lc_40_in _ (List.mem_of_getElem? (i := 0) rfl))) (hs _ (lc_40_in _ (List.mem_of_getElem? (i := 1) rfl))) (hs _ (lc_40_in _ (List.mem_of_getElem? (i := 2) rfl))) (hs _ (lc_40_in _ (List.mem_of_getElem? (i := 3) rfl))) (fun j hj => by
  rcases (show j = 0 ∨ j = 1 ∨ j = 2 by omega) with rfl | rfl | rfl
  · exact hs _ (lc_40_in _ (List.mem_of_getElem? (i := 4) rfl))
  · exact hs _ (lc_40_in _ (List.mem_of_getElem? (i := 5) rfl))
  · exact hs _ (lc_40_in _ (List.mem_of_getElem? (i := 6) rfl))) hA
def lc_41 : List Cond := [.exactly (.string "LinkEngine" 373) "java/lang/String", .eq (.field (.string "LinkEngine" 373) "java/lang/String" "coder" "B") (.int 0), .arrayOf (.field (.string "LinkEngine" 373) "java/lang/String" "value" "[B") .byte, .eq (.length (.field (.string "LinkEngine" 373) "java/lang/String" "value" "[B")) (.int 3), .eq (.elem (.field (.string "LinkEngine" 373) "java/lang/String" "value" "[B") (.int 0)) (.int 121), .eq (.elem (.field (.string "LinkEngine" 373) "java/lang/String" "value" "[B") (.int 1)) (.int 101), .eq (.elem (.field (.string "LinkEngine" 373) "java/lang/String" "value" "[B") (.int 2)) (.int 115)]
theorem lc_41_in : ∀ c ∈ lc_41, c ∈ flatC (Jvm.Cond.and given_1 narrow_1) := by decide +kernel
theorem ls_41 {args : Array Value} {s : State} {A : Nat → Prop} (hs : ∀ c ∈ flatC (Jvm.Cond.and given_1 narrow_1), c.before args s = true) (hA : ∀ a : Nat, a < s.heap.size → ¬ A a) : ∃ q, vz_Ps args s A 41 q :=
  vz_one (t := .string "LinkEngine" 373) (len := 3) (byt := [121, 101, 115]) (by decide) (hs _ (lc_41_in _ (List.mem_of_getElem? (i := 0) rfl))) (hs _ (lc_41_in _ (List.mem_of_getElem? (i := 1) rfl))) (hs _ (lc_41_in _ (List.mem_of_getElem? (i := 2) rfl))) (hs _ (lc_41_in _ (List.mem_of_getElem? (i := 3) rfl))) (fun j hj => by
  rcases (show j = 0 ∨ j = 1 ∨ j = 2 by omega) with rfl | rfl | rfl
  · exact hs _ (lc_41_in _ (List.mem_of_getElem? (i := 4) rfl))
  · exact hs _ (lc_41_in _ (List.mem_of_getElem? (i := 5) rfl))
  · exact hs _ (lc_41_in _ (List.mem_of_getElem? (i := 6) rfl))) hA
def lc_42 : List Cond := [.exactly (.string "LinkEngineModel" 210) "java/lang/String", .eq (.field (.string "LinkEngineModel" 210) "java/lang/String" "coder" "B") (.int 0), .arrayOf (.field (.string "LinkEngineModel" 210) "java/lang/String" "value" "[B") .byte, .eq (.length (.field (.string "LinkEngineModel" 210) "java/lang/String" "value" "[B")) (.int 4), .eq (.elem (.field (.string "LinkEngineModel" 210) "java/lang/String" "value" "[B") (.int 0)) (.int 99), .eq (.elem (.field (.string "LinkEngineModel" 210) "java/lang/String" "value" "[B") (.int 1)) (.int 111), .eq (.elem (.field (.string "LinkEngineModel" 210) "java/lang/String" "value" "[B") (.int 2)) (.int 100), .eq (.elem (.field (.string "LinkEngineModel" 210) "java/lang/String" "value" "[B") (.int 3)) (.int 101)]
theorem lc_42_in : ∀ c ∈ lc_42, c ∈ flatC (Jvm.Cond.and given_1 narrow_1) := by decide +kernel
theorem ls_42 {args : Array Value} {s : State} {A : Nat → Prop} (hs : ∀ c ∈ flatC (Jvm.Cond.and given_1 narrow_1), c.before args s = true) (hA : ∀ a : Nat, a < s.heap.size → ¬ A a) : ∃ q, vz_Ps args s A 42 q :=
  vz_one (t := .string "LinkEngineModel" 210) (len := 4) (byt := [99, 111, 100, 101]) (by decide) (hs _ (lc_42_in _ (List.mem_of_getElem? (i := 0) rfl))) (hs _ (lc_42_in _ (List.mem_of_getElem? (i := 1) rfl))) (hs _ (lc_42_in _ (List.mem_of_getElem? (i := 2) rfl))) (hs _ (lc_42_in _ (List.mem_of_getElem? (i := 3) rfl))) (fun j hj => by
  rcases (show j = 0 ∨ j = 1 ∨ j = 2 ∨ j = 3 by omega) with rfl | rfl | rfl | rfl
  · exact hs _ (lc_42_in _ (List.mem_of_getElem? (i := 4) rfl))
  · exact hs _ (lc_42_in _ (List.mem_of_getElem? (i := 5) rfl))
  · exact hs _ (lc_42_in _ (List.mem_of_getElem? (i := 6) rfl))
  · exact hs _ (lc_42_in _ (List.mem_of_getElem? (i := 7) rfl))) hA
def lc_43 : List Cond := [.exactly (.string "LinkEngineModel" 212) "java/lang/String", .eq (.field (.string "LinkEngineModel" 212) "java/lang/String" "coder" "B") (.int 0), .arrayOf (.field (.string "LinkEngineModel" 212) "java/lang/String" "value" "[B") .byte, .eq (.length (.field (.string "LinkEngineModel" 212) "java/lang/String" "value" "[B")) (.int 5), .eq (.elem (.field (.string "LinkEngineModel" 212) "java/lang/String" "value" "[B") (.int 0)) (.int 98), .eq (.elem (.field (.string "LinkEngineModel" 212) "java/lang/String" "value" "[B") (.int 1)) (.int 114), .eq (.elem (.field (.string "LinkEngineModel" 212) "java/lang/String" "value" "[B") (.int 2)) (.int 97), .eq (.elem (.field (.string "LinkEngineModel" 212) "java/lang/String" "value" "[B") (.int 3)) (.int 105), .eq (.elem (.field (.string "LinkEngineModel" 212) "java/lang/String" "value" "[B") (.int 4)) (.int 100)]
theorem lc_43_in : ∀ c ∈ lc_43, c ∈ flatC (Jvm.Cond.and given_1 narrow_1) := by decide +kernel
theorem ls_43 {args : Array Value} {s : State} {A : Nat → Prop} (hs : ∀ c ∈ flatC (Jvm.Cond.and given_1 narrow_1), c.before args s = true) (hA : ∀ a : Nat, a < s.heap.size → ¬ A a) : ∃ q, vz_Ps args s A 43 q :=
  vz_one (t := .string "LinkEngineModel" 212) (len := 5) (byt := [98, 114, 97, 105, 100]) (by decide) (hs _ (lc_43_in _ (List.mem_of_getElem? (i := 0) rfl))) (hs _ (lc_43_in _ (List.mem_of_getElem? (i := 1) rfl))) (hs _ (lc_43_in _ (List.mem_of_getElem? (i := 2) rfl))) (hs _ (lc_43_in _ (List.mem_of_getElem? (i := 3) rfl))) (fun j hj => by
  rcases (show j = 0 ∨ j = 1 ∨ j = 2 ∨ j = 3 ∨ j = 4 by omega) with rfl | rfl | rfl | rfl | rfl
  · exact hs _ (lc_43_in _ (List.mem_of_getElem? (i := 4) rfl))
  · exact hs _ (lc_43_in _ (List.mem_of_getElem? (i := 5) rfl))
  · exact hs _ (lc_43_in _ (List.mem_of_getElem? (i := 6) rfl))
  · exact hs _ (lc_43_in _ (List.mem_of_getElem? (i := 7) rfl))
  · exact hs _ (lc_43_in _ (List.mem_of_getElem? (i := 8) rfl))) hA
def lc_44 : List Cond := [.exactly (.string "LinkEngineModel" 214) "java/lang/String", .eq (.field (.string "LinkEngineModel" 214) "java/lang/String" "coder" "B") (.int 0), .arrayOf (.field (.string "LinkEngineModel" 214) "java/lang/String" "value" "[B") .byte, .eq (.length (.field (.string "LinkEngineModel" 214) "java/lang/String" "value" "[B")) (.int 4), .eq (.elem (.field (.string "LinkEngineModel" 214) "java/lang/String" "value" "[B") (.int 0)) (.int 117), .eq (.elem (.field (.string "LinkEngineModel" 214) "java/lang/String" "value" "[B") (.int 1)) (.int 110), .eq (.elem (.field (.string "LinkEngineModel" 214) "java/lang/String" "value" "[B") (.int 2)) (.int 100), .eq (.elem (.field (.string "LinkEngineModel" 214) "java/lang/String" "value" "[B") (.int 3)) (.int 111)]
theorem lc_44_in : ∀ c ∈ lc_44, c ∈ flatC (Jvm.Cond.and given_1 narrow_1) := by decide +kernel
theorem ls_44 {args : Array Value} {s : State} {A : Nat → Prop} (hs : ∀ c ∈ flatC (Jvm.Cond.and given_1 narrow_1), c.before args s = true) (hA : ∀ a : Nat, a < s.heap.size → ¬ A a) : ∃ q, vz_Ps args s A 44 q :=
  vz_one (t := .string "LinkEngineModel" 214) (len := 4) (byt := [117, 110, 100, 111]) (by decide) (hs _ (lc_44_in _ (List.mem_of_getElem? (i := 0) rfl))) (hs _ (lc_44_in _ (List.mem_of_getElem? (i := 1) rfl))) (hs _ (lc_44_in _ (List.mem_of_getElem? (i := 2) rfl))) (hs _ (lc_44_in _ (List.mem_of_getElem? (i := 3) rfl))) (fun j hj => by
  rcases (show j = 0 ∨ j = 1 ∨ j = 2 ∨ j = 3 by omega) with rfl | rfl | rfl | rfl
  · exact hs _ (lc_44_in _ (List.mem_of_getElem? (i := 4) rfl))
  · exact hs _ (lc_44_in _ (List.mem_of_getElem? (i := 5) rfl))
  · exact hs _ (lc_44_in _ (List.mem_of_getElem? (i := 6) rfl))
  · exact hs _ (lc_44_in _ (List.mem_of_getElem? (i := 7) rfl))) hA
def lc_45 : List Cond := [.exactly (.string "LinkEngineModel" 216) "java/lang/String", .eq (.field (.string "LinkEngineModel" 216) "java/lang/String" "coder" "B") (.int 0), .arrayOf (.field (.string "LinkEngineModel" 216) "java/lang/String" "value" "[B") .byte, .eq (.length (.field (.string "LinkEngineModel" 216) "java/lang/String" "value" "[B")) (.int 5), .eq (.elem (.field (.string "LinkEngineModel" 216) "java/lang/String" "value" "[B") (.int 0)) (.int 115), .eq (.elem (.field (.string "LinkEngineModel" 216) "java/lang/String" "value" "[B") (.int 1)) (.int 108), .eq (.elem (.field (.string "LinkEngineModel" 216) "java/lang/String" "value" "[B") (.int 2)) (.int 105), .eq (.elem (.field (.string "LinkEngineModel" 216) "java/lang/String" "value" "[B") (.int 3)) (.int 100), .eq (.elem (.field (.string "LinkEngineModel" 216) "java/lang/String" "value" "[B") (.int 4)) (.int 101)]
theorem lc_45_in : ∀ c ∈ lc_45, c ∈ flatC (Jvm.Cond.and given_1 narrow_1) := by decide +kernel
theorem ls_45 {args : Array Value} {s : State} {A : Nat → Prop} (hs : ∀ c ∈ flatC (Jvm.Cond.and given_1 narrow_1), c.before args s = true) (hA : ∀ a : Nat, a < s.heap.size → ¬ A a) : ∃ q, vz_Ps args s A 45 q :=
  vz_one (t := .string "LinkEngineModel" 216) (len := 5) (byt := [115, 108, 105, 100, 101]) (by decide) (hs _ (lc_45_in _ (List.mem_of_getElem? (i := 0) rfl))) (hs _ (lc_45_in _ (List.mem_of_getElem? (i := 1) rfl))) (hs _ (lc_45_in _ (List.mem_of_getElem? (i := 2) rfl))) (hs _ (lc_45_in _ (List.mem_of_getElem? (i := 3) rfl))) (fun j hj => by
  rcases (show j = 0 ∨ j = 1 ∨ j = 2 ∨ j = 3 ∨ j = 4 by omega) with rfl | rfl | rfl | rfl | rfl
  · exact hs _ (lc_45_in _ (List.mem_of_getElem? (i := 4) rfl))
  · exact hs _ (lc_45_in _ (List.mem_of_getElem? (i := 5) rfl))
  · exact hs _ (lc_45_in _ (List.mem_of_getElem? (i := 6) rfl))
  · exact hs _ (lc_45_in _ (List.mem_of_getElem? (i := 7) rfl))
  · exact hs _ (lc_45_in _ (List.mem_of_getElem? (i := 8) rfl))) hA
def lc_46 : List Cond := [.exactly (.string "LinkEngineModel" 218) "java/lang/String", .eq (.field (.string "LinkEngineModel" 218) "java/lang/String" "coder" "B") (.int 0), .arrayOf (.field (.string "LinkEngineModel" 218) "java/lang/String" "value" "[B") .byte, .eq (.length (.field (.string "LinkEngineModel" 218) "java/lang/String" "value" "[B")) (.int 5), .eq (.elem (.field (.string "LinkEngineModel" 218) "java/lang/String" "value" "[B") (.int 0)) (.int 116), .eq (.elem (.field (.string "LinkEngineModel" 218) "java/lang/String" "value" "[B") (.int 1)) (.int 119), .eq (.elem (.field (.string "LinkEngineModel" 218) "java/lang/String" "value" "[B") (.int 2)) (.int 105), .eq (.elem (.field (.string "LinkEngineModel" 218) "java/lang/String" "value" "[B") (.int 3)) (.int 115), .eq (.elem (.field (.string "LinkEngineModel" 218) "java/lang/String" "value" "[B") (.int 4)) (.int 116)]
theorem lc_46_in : ∀ c ∈ lc_46, c ∈ flatC (Jvm.Cond.and given_1 narrow_1) := by decide +kernel
theorem ls_46 {args : Array Value} {s : State} {A : Nat → Prop} (hs : ∀ c ∈ flatC (Jvm.Cond.and given_1 narrow_1), c.before args s = true) (hA : ∀ a : Nat, a < s.heap.size → ¬ A a) : ∃ q, vz_Ps args s A 46 q :=
  vz_one (t := .string "LinkEngineModel" 218) (len := 5) (byt := [116, 119, 105, 115, 116]) (by decide) (hs _ (lc_46_in _ (List.mem_of_getElem? (i := 0) rfl))) (hs _ (lc_46_in _ (List.mem_of_getElem? (i := 1) rfl))) (hs _ (lc_46_in _ (List.mem_of_getElem? (i := 2) rfl))) (hs _ (lc_46_in _ (List.mem_of_getElem? (i := 3) rfl))) (fun j hj => by
  rcases (show j = 0 ∨ j = 1 ∨ j = 2 ∨ j = 3 ∨ j = 4 by omega) with rfl | rfl | rfl | rfl | rfl
  · exact hs _ (lc_46_in _ (List.mem_of_getElem? (i := 4) rfl))
  · exact hs _ (lc_46_in _ (List.mem_of_getElem? (i := 5) rfl))
  · exact hs _ (lc_46_in _ (List.mem_of_getElem? (i := 6) rfl))
  · exact hs _ (lc_46_in _ (List.mem_of_getElem? (i := 7) rfl))
  · exact hs _ (lc_46_in _ (List.mem_of_getElem? (i := 8) rfl))) hA
def lc_47 : List Cond := [.exactly (.string "LinkEngineModel" 220) "java/lang/String", .eq (.field (.string "LinkEngineModel" 220) "java/lang/String" "coder" "B") (.int 0), .arrayOf (.field (.string "LinkEngineModel" 220) "java/lang/String" "value" "[B") .byte, .eq (.length (.field (.string "LinkEngineModel" 220) "java/lang/String" "value" "[B")) (.int 4), .eq (.elem (.field (.string "LinkEngineModel" 220) "java/lang/String" "value" "[B") (.int 0)) (.int 112), .eq (.elem (.field (.string "LinkEngineModel" 220) "java/lang/String" "value" "[B") (.int 1)) (.int 117), .eq (.elem (.field (.string "LinkEngineModel" 220) "java/lang/String" "value" "[B") (.int 2)) (.int 115), .eq (.elem (.field (.string "LinkEngineModel" 220) "java/lang/String" "value" "[B") (.int 3)) (.int 104)]
theorem lc_47_in : ∀ c ∈ lc_47, c ∈ flatC (Jvm.Cond.and given_1 narrow_1) := by decide +kernel
theorem ls_47 {args : Array Value} {s : State} {A : Nat → Prop} (hs : ∀ c ∈ flatC (Jvm.Cond.and given_1 narrow_1), c.before args s = true) (hA : ∀ a : Nat, a < s.heap.size → ¬ A a) : ∃ q, vz_Ps args s A 47 q :=
  vz_one (t := .string "LinkEngineModel" 220) (len := 4) (byt := [112, 117, 115, 104]) (by decide) (hs _ (lc_47_in _ (List.mem_of_getElem? (i := 0) rfl))) (hs _ (lc_47_in _ (List.mem_of_getElem? (i := 1) rfl))) (hs _ (lc_47_in _ (List.mem_of_getElem? (i := 2) rfl))) (hs _ (lc_47_in _ (List.mem_of_getElem? (i := 3) rfl))) (fun j hj => by
  rcases (show j = 0 ∨ j = 1 ∨ j = 2 ∨ j = 3 by omega) with rfl | rfl | rfl | rfl
  · exact hs _ (lc_47_in _ (List.mem_of_getElem? (i := 4) rfl))
  · exact hs _ (lc_47_in _ (List.mem_of_getElem? (i := 5) rfl))
  · exact hs _ (lc_47_in _ (List.mem_of_getElem? (i := 6) rfl))
  · exact hs _ (lc_47_in _ (List.mem_of_getElem? (i := 7) rfl))) hA
def lc_48 : List Cond := [.exactly (.string "LinkEngineModel" 222) "java/lang/String", .eq (.field (.string "LinkEngineModel" 222) "java/lang/String" "coder" "B") (.int 0), .arrayOf (.field (.string "LinkEngineModel" 222) "java/lang/String" "value" "[B") .byte, .eq (.length (.field (.string "LinkEngineModel" 222) "java/lang/String" "value" "[B")) (.int 8), .eq (.elem (.field (.string "LinkEngineModel" 222) "java/lang/String" "value" "[B") (.int 0)) (.int 115), .eq (.elem (.field (.string "LinkEngineModel" 222) "java/lang/String" "value" "[B") (.int 1)) (.int 105), .eq (.elem (.field (.string "LinkEngineModel" 222) "java/lang/String" "value" "[B") (.int 2)) (.int 109), .eq (.elem (.field (.string "LinkEngineModel" 222) "java/lang/String" "value" "[B") (.int 3)) (.int 112), .eq (.elem (.field (.string "LinkEngineModel" 222) "java/lang/String" "value" "[B") (.int 4)) (.int 108), .eq (.elem (.field (.string "LinkEngineModel" 222) "java/lang/String" "value" "[B") (.int 5)) (.int 105), .eq (.elem (.field (.string "LinkEngineModel" 222) "java/lang/String" "value" "[B") (.int 6)) (.int 102), .eq (.elem (.field (.string "LinkEngineModel" 222) "java/lang/String" "value" "[B") (.int 7)) (.int 121)]
theorem lc_48_in : ∀ c ∈ lc_48, c ∈ flatC (Jvm.Cond.and given_1 narrow_1) := by decide +kernel
theorem ls_48 {args : Array Value} {s : State} {A : Nat → Prop} (hs : ∀ c ∈ flatC (Jvm.Cond.and given_1 narrow_1), c.before args s = true) (hA : ∀ a : Nat, a < s.heap.size → ¬ A a) : ∃ q, vz_Ps args s A 48 q :=
  vz_one (t := .string "LinkEngineModel" 222) (len := 8) (byt := [115, 105, 109, 112, 108, 105, 102, 121]) (by decide) (hs _ (lc_48_in _ (List.mem_of_getElem? (i := 0) rfl))) (hs _ (lc_48_in _ (List.mem_of_getElem? (i := 1) rfl))) (hs _ (lc_48_in _ (List.mem_of_getElem? (i := 2) rfl))) (hs _ (lc_48_in _ (List.mem_of_getElem? (i := 3) rfl))) (fun j hj => by
  rcases (show j = 0 ∨ j = 1 ∨ j = 2 ∨ j = 3 ∨ j = 4 ∨ j = 5 ∨ j = 6 ∨ j = 7 by omega) with rfl | rfl | rfl | rfl | rfl | rfl | rfl | rfl
  · exact hs _ (lc_48_in _ (List.mem_of_getElem? (i := 4) rfl))
  · exact hs _ (lc_48_in _ (List.mem_of_getElem? (i := 5) rfl))
  · exact hs _ (lc_48_in _ (List.mem_of_getElem? (i := 6) rfl))
  · exact hs _ (lc_48_in _ (List.mem_of_getElem? (i := 7) rfl))
  · exact hs _ (lc_48_in _ (List.mem_of_getElem? (i := 8) rfl))
  · exact hs _ (lc_48_in _ (List.mem_of_getElem? (i := 9) rfl))
  · exact hs _ (lc_48_in _ (List.mem_of_getElem? (i := 10) rfl))
  · exact hs _ (lc_48_in _ (List.mem_of_getElem? (i := 11) rfl))) hA
def lc_49 : List Cond := [.exactly (.string "LinkEngineModel" 224) "java/lang/String", .eq (.field (.string "LinkEngineModel" 224) "java/lang/String" "coder" "B") (.int 0), .arrayOf (.field (.string "LinkEngineModel" 224) "java/lang/String" "value" "[B") .byte, .eq (.length (.field (.string "LinkEngineModel" 224) "java/lang/String" "value" "[B")) (.int 6), .eq (.elem (.field (.string "LinkEngineModel" 224) "java/lang/String" "value" "[B") (.int 0)) (.int 109), .eq (.elem (.field (.string "LinkEngineModel" 224) "java/lang/String" "value" "[B") (.int 1)) (.int 105), .eq (.elem (.field (.string "LinkEngineModel" 224) "java/lang/String" "value" "[B") (.int 2)) (.int 114), .eq (.elem (.field (.string "LinkEngineModel" 224) "java/lang/String" "value" "[B") (.int 3)) (.int 114), .eq (.elem (.field (.string "LinkEngineModel" 224) "java/lang/String" "value" "[B") (.int 4)) (.int 111), .eq (.elem (.field (.string "LinkEngineModel" 224) "java/lang/String" "value" "[B") (.int 5)) (.int 114)]
theorem lc_49_in : ∀ c ∈ lc_49, c ∈ flatC (Jvm.Cond.and given_1 narrow_1) := by decide +kernel
theorem ls_49 {args : Array Value} {s : State} {A : Nat → Prop} (hs : ∀ c ∈ flatC (Jvm.Cond.and given_1 narrow_1), c.before args s = true) (hA : ∀ a : Nat, a < s.heap.size → ¬ A a) : ∃ q, vz_Ps args s A 49 q :=
  vz_one (t := .string "LinkEngineModel" 224) (len := 6) (byt := [109, 105, 114, 114, 111, 114]) (by decide) (hs _ (lc_49_in _ (List.mem_of_getElem? (i := 0) rfl))) (hs _ (lc_49_in _ (List.mem_of_getElem? (i := 1) rfl))) (hs _ (lc_49_in _ (List.mem_of_getElem? (i := 2) rfl))) (hs _ (lc_49_in _ (List.mem_of_getElem? (i := 3) rfl))) (fun j hj => by
  rcases (show j = 0 ∨ j = 1 ∨ j = 2 ∨ j = 3 ∨ j = 4 ∨ j = 5 by omega) with rfl | rfl | rfl | rfl | rfl | rfl
  · exact hs _ (lc_49_in _ (List.mem_of_getElem? (i := 4) rfl))
  · exact hs _ (lc_49_in _ (List.mem_of_getElem? (i := 5) rfl))
  · exact hs _ (lc_49_in _ (List.mem_of_getElem? (i := 6) rfl))
  · exact hs _ (lc_49_in _ (List.mem_of_getElem? (i := 7) rfl))
  · exact hs _ (lc_49_in _ (List.mem_of_getElem? (i := 8) rfl))
  · exact hs _ (lc_49_in _ (List.mem_of_getElem? (i := 9) rfl))) hA
def lc_50 : List Cond := [.exactly (.string "LinkEngineModel" 226) "java/lang/String", .eq (.field (.string "LinkEngineModel" 226) "java/lang/String" "coder" "B") (.int 0), .arrayOf (.field (.string "LinkEngineModel" 226) "java/lang/String" "value" "[B") .byte, .eq (.length (.field (.string "LinkEngineModel" 226) "java/lang/String" "value" "[B")) (.int 7), .eq (.elem (.field (.string "LinkEngineModel" 226) "java/lang/String" "value" "[B") (.int 0)) (.int 114), .eq (.elem (.field (.string "LinkEngineModel" 226) "java/lang/String" "value" "[B") (.int 1)) (.int 101), .eq (.elem (.field (.string "LinkEngineModel" 226) "java/lang/String" "value" "[B") (.int 2)) (.int 118), .eq (.elem (.field (.string "LinkEngineModel" 226) "java/lang/String" "value" "[B") (.int 3)) (.int 101), .eq (.elem (.field (.string "LinkEngineModel" 226) "java/lang/String" "value" "[B") (.int 4)) (.int 114), .eq (.elem (.field (.string "LinkEngineModel" 226) "java/lang/String" "value" "[B") (.int 5)) (.int 115), .eq (.elem (.field (.string "LinkEngineModel" 226) "java/lang/String" "value" "[B") (.int 6)) (.int 101)]
theorem lc_50_in : ∀ c ∈ lc_50, c ∈ flatC (Jvm.Cond.and given_1 narrow_1) := by decide +kernel
theorem ls_50 {args : Array Value} {s : State} {A : Nat → Prop} (hs : ∀ c ∈ flatC (Jvm.Cond.and given_1 narrow_1), c.before args s = true) (hA : ∀ a : Nat, a < s.heap.size → ¬ A a) : ∃ q, vz_Ps args s A 50 q :=
  vz_one (t := .string "LinkEngineModel" 226) (len := 7) (byt := [114, 101, 118, 101, 114, 115, 101]) (by decide) (hs _ (lc_50_in _ (List.mem_of_getElem? (i := 0) rfl))) (hs _ (lc_50_in _ (List.mem_of_getElem? (i := 1) rfl))) (hs _ (lc_50_in _ (List.mem_of_getElem? (i := 2) rfl))) (hs _ (lc_50_in _ (List.mem_of_getElem? (i := 3) rfl))) (fun j hj => by
  rcases (show j = 0 ∨ j = 1 ∨ j = 2 ∨ j = 3 ∨ j = 4 ∨ j = 5 ∨ j = 6 by omega) with rfl | rfl | rfl | rfl | rfl | rfl | rfl
  · exact hs _ (lc_50_in _ (List.mem_of_getElem? (i := 4) rfl))
  · exact hs _ (lc_50_in _ (List.mem_of_getElem? (i := 5) rfl))
  · exact hs _ (lc_50_in _ (List.mem_of_getElem? (i := 6) rfl))
  · exact hs _ (lc_50_in _ (List.mem_of_getElem? (i := 7) rfl))
  · exact hs _ (lc_50_in _ (List.mem_of_getElem? (i := 8) rfl))
  · exact hs _ (lc_50_in _ (List.mem_of_getElem? (i := 9) rfl))
  · exact hs _ (lc_50_in _ (List.mem_of_getElem? (i := 10) rfl))) hA
def lc_51 : List Cond := [.exactly (.string "LinkEngineModel" 228) "java/lang/String", .eq (.field (.string "LinkEngineModel" 228) "java/lang/String" "coder" "B") (.int 0), .arrayOf (.field (.string "LinkEngineModel" 228) "java/lang/String" "value" "[B") .byte, .eq (.length (.field (.string "LinkEngineModel" 228) "java/lang/String" "value" "[B")) (.int 6), .eq (.elem (.field (.string "LinkEngineModel" 228) "java/lang/String" "value" "[B") (.int 0)) (.int 99), .eq (.elem (.field (.string "LinkEngineModel" 228) "java/lang/String" "value" "[B") (.int 1)) (.int 104), .eq (.elem (.field (.string "LinkEngineModel" 228) "java/lang/String" "value" "[B") (.int 2)) (.int 97), .eq (.elem (.field (.string "LinkEngineModel" 228) "java/lang/String" "value" "[B") (.int 3)) (.int 110), .eq (.elem (.field (.string "LinkEngineModel" 228) "java/lang/String" "value" "[B") (.int 4)) (.int 103), .eq (.elem (.field (.string "LinkEngineModel" 228) "java/lang/String" "value" "[B") (.int 5)) (.int 101)]
theorem lc_51_in : ∀ c ∈ lc_51, c ∈ flatC (Jvm.Cond.and given_1 narrow_1) := by decide +kernel
theorem ls_51 {args : Array Value} {s : State} {A : Nat → Prop} (hs : ∀ c ∈ flatC (Jvm.Cond.and given_1 narrow_1), c.before args s = true) (hA : ∀ a : Nat, a < s.heap.size → ¬ A a) : ∃ q, vz_Ps args s A 51 q :=
  vz_one (t := .string "LinkEngineModel" 228) (len := 6) (byt := [99, 104, 97, 110, 103, 101]) (by decide) (hs _ (lc_51_in _ (List.mem_of_getElem? (i := 0) rfl))) (hs _ (lc_51_in _ (List.mem_of_getElem? (i := 1) rfl))) (hs _ (lc_51_in _ (List.mem_of_getElem? (i := 2) rfl))) (hs _ (lc_51_in _ (List.mem_of_getElem? (i := 3) rfl))) (fun j hj => by
  rcases (show j = 0 ∨ j = 1 ∨ j = 2 ∨ j = 3 ∨ j = 4 ∨ j = 5 by omega) with rfl | rfl | rfl | rfl | rfl | rfl
  · exact hs _ (lc_51_in _ (List.mem_of_getElem? (i := 4) rfl))
  · exact hs _ (lc_51_in _ (List.mem_of_getElem? (i := 5) rfl))
  · exact hs _ (lc_51_in _ (List.mem_of_getElem? (i := 6) rfl))
  · exact hs _ (lc_51_in _ (List.mem_of_getElem? (i := 7) rfl))
  · exact hs _ (lc_51_in _ (List.mem_of_getElem? (i := 8) rfl))
  · exact hs _ (lc_51_in _ (List.mem_of_getElem? (i := 9) rfl))) hA
def lc_52 : List Cond := [.exactly (.string "LinkEngineModel" 230) "java/lang/String", .eq (.field (.string "LinkEngineModel" 230) "java/lang/String" "coder" "B") (.int 0), .arrayOf (.field (.string "LinkEngineModel" 230) "java/lang/String" "value" "[B") .byte, .eq (.length (.field (.string "LinkEngineModel" 230) "java/lang/String" "value" "[B")) (.int 6), .eq (.elem (.field (.string "LinkEngineModel" 230) "java/lang/String" "value" "[B") (.int 0)) (.int 115), .eq (.elem (.field (.string "LinkEngineModel" 230) "java/lang/String" "value" "[B") (.int 1)) (.int 109), .eq (.elem (.field (.string "LinkEngineModel" 230) "java/lang/String" "value" "[B") (.int 2)) (.int 111), .eq (.elem (.field (.string "LinkEngineModel" 230) "java/lang/String" "value" "[B") (.int 3)) (.int 111), .eq (.elem (.field (.string "LinkEngineModel" 230) "java/lang/String" "value" "[B") (.int 4)) (.int 116), .eq (.elem (.field (.string "LinkEngineModel" 230) "java/lang/String" "value" "[B") (.int 5)) (.int 104)]
theorem lc_52_in : ∀ c ∈ lc_52, c ∈ flatC (Jvm.Cond.and given_1 narrow_1) := by decide +kernel
theorem ls_52 {args : Array Value} {s : State} {A : Nat → Prop} (hs : ∀ c ∈ flatC (Jvm.Cond.and given_1 narrow_1), c.before args s = true) (hA : ∀ a : Nat, a < s.heap.size → ¬ A a) : ∃ q, vz_Ps args s A 52 q :=
  vz_one (t := .string "LinkEngineModel" 230) (len := 6) (byt := [115, 109, 111, 111, 116, 104]) (by decide) (hs _ (lc_52_in _ (List.mem_of_getElem? (i := 0) rfl))) (hs _ (lc_52_in _ (List.mem_of_getElem? (i := 1) rfl))) (hs _ (lc_52_in _ (List.mem_of_getElem? (i := 2) rfl))) (hs _ (lc_52_in _ (List.mem_of_getElem? (i := 3) rfl))) (fun j hj => by
  rcases (show j = 0 ∨ j = 1 ∨ j = 2 ∨ j = 3 ∨ j = 4 ∨ j = 5 by omega) with rfl | rfl | rfl | rfl | rfl | rfl
  · exact hs _ (lc_52_in _ (List.mem_of_getElem? (i := 4) rfl))
  · exact hs _ (lc_52_in _ (List.mem_of_getElem? (i := 5) rfl))
  · exact hs _ (lc_52_in _ (List.mem_of_getElem? (i := 6) rfl))
  · exact hs _ (lc_52_in _ (List.mem_of_getElem? (i := 7) rfl))
  · exact hs _ (lc_52_in _ (List.mem_of_getElem? (i := 8) rfl))
  · exact hs _ (lc_52_in _ (List.mem_of_getElem? (i := 9) rfl))) hA
def lc_53 : List Cond := [.exactly (.string "LinkEngineModel" 232) "java/lang/String", .eq (.field (.string "LinkEngineModel" 232) "java/lang/String" "coder" "B") (.int 0), .arrayOf (.field (.string "LinkEngineModel" 232) "java/lang/String" "value" "[B") .byte, .eq (.length (.field (.string "LinkEngineModel" 232) "java/lang/String" "value" "[B")) (.int 6), .eq (.elem (.field (.string "LinkEngineModel" 232) "java/lang/String" "value" "[B") (.int 0)) (.int 110), .eq (.elem (.field (.string "LinkEngineModel" 232) "java/lang/String" "value" "[B") (.int 1)) (.int 117), .eq (.elem (.field (.string "LinkEngineModel" 232) "java/lang/String" "value" "[B") (.int 2)) (.int 109), .eq (.elem (.field (.string "LinkEngineModel" 232) "java/lang/String" "value" "[B") (.int 3)) (.int 98), .eq (.elem (.field (.string "LinkEngineModel" 232) "java/lang/String" "value" "[B") (.int 4)) (.int 101), .eq (.elem (.field (.string "LinkEngineModel" 232) "java/lang/String" "value" "[B") (.int 5)) (.int 114)]
theorem lc_53_in : ∀ c ∈ lc_53, c ∈ flatC (Jvm.Cond.and given_1 narrow_1) := by decide +kernel
theorem ls_53 {args : Array Value} {s : State} {A : Nat → Prop} (hs : ∀ c ∈ flatC (Jvm.Cond.and given_1 narrow_1), c.before args s = true) (hA : ∀ a : Nat, a < s.heap.size → ¬ A a) : ∃ q, vz_Ps args s A 53 q :=
  vz_one (t := .string "LinkEngineModel" 232) (len := 6) (byt := [110, 117, 109, 98, 101, 114]) (by decide) (hs _ (lc_53_in _ (List.mem_of_getElem? (i := 0) rfl))) (hs _ (lc_53_in _ (List.mem_of_getElem? (i := 1) rfl))) (hs _ (lc_53_in _ (List.mem_of_getElem? (i := 2) rfl))) (hs _ (lc_53_in _ (List.mem_of_getElem? (i := 3) rfl))) (fun j hj => by
  rcases (show j = 0 ∨ j = 1 ∨ j = 2 ∨ j = 3 ∨ j = 4 ∨ j = 5 by omega) with rfl | rfl | rfl | rfl | rfl | rfl
  · exact hs _ (lc_53_in _ (List.mem_of_getElem? (i := 4) rfl))
  · exact hs _ (lc_53_in _ (List.mem_of_getElem? (i := 5) rfl))
  · exact hs _ (lc_53_in _ (List.mem_of_getElem? (i := 6) rfl))
  · exact hs _ (lc_53_in _ (List.mem_of_getElem? (i := 7) rfl))
  · exact hs _ (lc_53_in _ (List.mem_of_getElem? (i := 8) rfl))
  · exact hs _ (lc_53_in _ (List.mem_of_getElem? (i := 9) rfl))) hA
def lc_54 : List Cond := [.exactly (.string "LinkEngineModel" 233) "java/lang/String", .eq (.field (.string "LinkEngineModel" 233) "java/lang/String" "coder" "B") (.int 0), .arrayOf (.field (.string "LinkEngineModel" 233) "java/lang/String" "value" "[B") .byte, .eq (.length (.field (.string "LinkEngineModel" 233) "java/lang/String" "value" "[B")) (.int 4), .eq (.elem (.field (.string "LinkEngineModel" 233) "java/lang/String" "value" "[B") (.int 0)) (.int 115), .eq (.elem (.field (.string "LinkEngineModel" 233) "java/lang/String" "value" "[B") (.int 1)) (.int 104), .eq (.elem (.field (.string "LinkEngineModel" 233) "java/lang/String" "value" "[B") (.int 2)) (.int 111), .eq (.elem (.field (.string "LinkEngineModel" 233) "java/lang/String" "value" "[B") (.int 3)) (.int 119)]
theorem lc_54_in : ∀ c ∈ lc_54, c ∈ flatC (Jvm.Cond.and given_1 narrow_1) := by decide +kernel
theorem ls_54 {args : Array Value} {s : State} {A : Nat → Prop} (hs : ∀ c ∈ flatC (Jvm.Cond.and given_1 narrow_1), c.before args s = true) (hA : ∀ a : Nat, a < s.heap.size → ¬ A a) : ∃ q, vz_Ps args s A 54 q :=
  vz_one (t := .string "LinkEngineModel" 233) (len := 4) (byt := [115, 104, 111, 119]) (by decide) (hs _ (lc_54_in _ (List.mem_of_getElem? (i := 0) rfl))) (hs _ (lc_54_in _ (List.mem_of_getElem? (i := 1) rfl))) (hs _ (lc_54_in _ (List.mem_of_getElem? (i := 2) rfl))) (hs _ (lc_54_in _ (List.mem_of_getElem? (i := 3) rfl))) (fun j hj => by
  rcases (show j = 0 ∨ j = 1 ∨ j = 2 ∨ j = 3 by omega) with rfl | rfl | rfl | rfl
  · exact hs _ (lc_54_in _ (List.mem_of_getElem? (i := 4) rfl))
  · exact hs _ (lc_54_in _ (List.mem_of_getElem? (i := 5) rfl))
  · exact hs _ (lc_54_in _ (List.mem_of_getElem? (i := 6) rfl))
  · exact hs _ (lc_54_in _ (List.mem_of_getElem? (i := 7) rfl))) hA
def lc_55 : List Cond := [.exactly (.string "LinkEngineModel" 235) "java/lang/String", .eq (.field (.string "LinkEngineModel" 235) "java/lang/String" "coder" "B") (.int 0), .arrayOf (.field (.string "LinkEngineModel" 235) "java/lang/String" "value" "[B") .byte, .eq (.length (.field (.string "LinkEngineModel" 235) "java/lang/String" "value" "[B")) (.int 5), .eq (.elem (.field (.string "LinkEngineModel" 235) "java/lang/String" "value" "[B") (.int 0)) (.int 99), .eq (.elem (.field (.string "LinkEngineModel" 235) "java/lang/String" "value" "[B") (.int 1)) (.int 111), .eq (.elem (.field (.string "LinkEngineModel" 235) "java/lang/String" "value" "[B") (.int 2)) (.int 117), .eq (.elem (.field (.string "LinkEngineModel" 235) "java/lang/String" "value" "[B") (.int 3)) (.int 110), .eq (.elem (.field (.string "LinkEngineModel" 235) "java/lang/String" "value" "[B") (.int 4)) (.int 116)]
theorem lc_55_in : ∀ c ∈ lc_55, c ∈ flatC (Jvm.Cond.and given_1 narrow_1) := by decide +kernel
theorem ls_55 {args : Array Value} {s : State} {A : Nat → Prop} (hs : ∀ c ∈ flatC (Jvm.Cond.and given_1 narrow_1), c.before args s = true) (hA : ∀ a : Nat, a < s.heap.size → ¬ A a) : ∃ q, vz_Ps args s A 55 q :=
  vz_one (t := .string "LinkEngineModel" 235) (len := 5) (byt := [99, 111, 117, 110, 116]) (by decide) (hs _ (lc_55_in _ (List.mem_of_getElem? (i := 0) rfl))) (hs _ (lc_55_in _ (List.mem_of_getElem? (i := 1) rfl))) (hs _ (lc_55_in _ (List.mem_of_getElem? (i := 2) rfl))) (hs _ (lc_55_in _ (List.mem_of_getElem? (i := 3) rfl))) (fun j hj => by
  rcases (show j = 0 ∨ j = 1 ∨ j = 2 ∨ j = 3 ∨ j = 4 by omega) with rfl | rfl | rfl | rfl | rfl
  · exact hs _ (lc_55_in _ (List.mem_of_getElem? (i := 4) rfl))
  · exact hs _ (lc_55_in _ (List.mem_of_getElem? (i := 5) rfl))
  · exact hs _ (lc_55_in _ (List.mem_of_getElem? (i := 6) rfl))
  · exact hs _ (lc_55_in _ (List.mem_of_getElem? (i := 7) rfl))
  · exact hs _ (lc_55_in _ (List.mem_of_getElem? (i := 8) rfl))) hA
def lc_56 : List Cond := [.exactly (.string "LinkEngineModel" 237) "java/lang/String", .eq (.field (.string "LinkEngineModel" 237) "java/lang/String" "coder" "B") (.int 0), .arrayOf (.field (.string "LinkEngineModel" 237) "java/lang/String" "value" "[B") .byte, .eq (.length (.field (.string "LinkEngineModel" 237) "java/lang/String" "value" "[B")) (.int 5), .eq (.elem (.field (.string "LinkEngineModel" 237) "java/lang/String" "value" "[B") (.int 0)) (.int 102), .eq (.elem (.field (.string "LinkEngineModel" 237) "java/lang/String" "value" "[B") (.int 1)) (.int 97), .eq (.elem (.field (.string "LinkEngineModel" 237) "java/lang/String" "value" "[B") (.int 2)) (.int 99), .eq (.elem (.field (.string "LinkEngineModel" 237) "java/lang/String" "value" "[B") (.int 3)) (.int 101), .eq (.elem (.field (.string "LinkEngineModel" 237) "java/lang/String" "value" "[B") (.int 4)) (.int 115)]
theorem lc_56_in : ∀ c ∈ lc_56, c ∈ flatC (Jvm.Cond.and given_1 narrow_1) := by decide +kernel
theorem ls_56 {args : Array Value} {s : State} {A : Nat → Prop} (hs : ∀ c ∈ flatC (Jvm.Cond.and given_1 narrow_1), c.before args s = true) (hA : ∀ a : Nat, a < s.heap.size → ¬ A a) : ∃ q, vz_Ps args s A 56 q :=
  vz_one (t := .string "LinkEngineModel" 237) (len := 5) (byt := [102, 97, 99, 101, 115]) (by decide) (hs _ (lc_56_in _ (List.mem_of_getElem? (i := 0) rfl))) (hs _ (lc_56_in _ (List.mem_of_getElem? (i := 1) rfl))) (hs _ (lc_56_in _ (List.mem_of_getElem? (i := 2) rfl))) (hs _ (lc_56_in _ (List.mem_of_getElem? (i := 3) rfl))) (fun j hj => by
  rcases (show j = 0 ∨ j = 1 ∨ j = 2 ∨ j = 3 ∨ j = 4 by omega) with rfl | rfl | rfl | rfl | rfl
  · exact hs _ (lc_56_in _ (List.mem_of_getElem? (i := 4) rfl))
  · exact hs _ (lc_56_in _ (List.mem_of_getElem? (i := 5) rfl))
  · exact hs _ (lc_56_in _ (List.mem_of_getElem? (i := 6) rfl))
  · exact hs _ (lc_56_in _ (List.mem_of_getElem? (i := 7) rfl))
  · exact hs _ (lc_56_in _ (List.mem_of_getElem? (i := 8) rfl))) hA
def lc_57 : List Cond := [.exactly (.string "LinkEngineModel" 239) "java/lang/String", .eq (.field (.string "LinkEngineModel" 239) "java/lang/String" "coder" "B") (.int 0), .arrayOf (.field (.string "LinkEngineModel" 239) "java/lang/String" "value" "[B") .byte, .eq (.length (.field (.string "LinkEngineModel" 239) "java/lang/String" "value" "[B")) (.int 7), .eq (.elem (.field (.string "LinkEngineModel" 239) "java/lang/String" "value" "[B") (.int 0)) (.int 98), .eq (.elem (.field (.string "LinkEngineModel" 239) "java/lang/String" "value" "[B") (.int 1)) (.int 114), .eq (.elem (.field (.string "LinkEngineModel" 239) "java/lang/String" "value" "[B") (.int 2)) (.int 97), .eq (.elem (.field (.string "LinkEngineModel" 239) "java/lang/String" "value" "[B") (.int 3)) (.int 99), .eq (.elem (.field (.string "LinkEngineModel" 239) "java/lang/String" "value" "[B") (.int 4)) (.int 107), .eq (.elem (.field (.string "LinkEngineModel" 239) "java/lang/String" "value" "[B") (.int 5)) (.int 101), .eq (.elem (.field (.string "LinkEngineModel" 239) "java/lang/String" "value" "[B") (.int 6)) (.int 116)]
theorem lc_57_in : ∀ c ∈ lc_57, c ∈ flatC (Jvm.Cond.and given_1 narrow_1) := by decide +kernel
theorem ls_57 {args : Array Value} {s : State} {A : Nat → Prop} (hs : ∀ c ∈ flatC (Jvm.Cond.and given_1 narrow_1), c.before args s = true) (hA : ∀ a : Nat, a < s.heap.size → ¬ A a) : ∃ q, vz_Ps args s A 57 q :=
  vz_one (t := .string "LinkEngineModel" 239) (len := 7) (byt := [98, 114, 97, 99, 107, 101, 116]) (by decide) (hs _ (lc_57_in _ (List.mem_of_getElem? (i := 0) rfl))) (hs _ (lc_57_in _ (List.mem_of_getElem? (i := 1) rfl))) (hs _ (lc_57_in _ (List.mem_of_getElem? (i := 2) rfl))) (hs _ (lc_57_in _ (List.mem_of_getElem? (i := 3) rfl))) (fun j hj => by
  rcases (show j = 0 ∨ j = 1 ∨ j = 2 ∨ j = 3 ∨ j = 4 ∨ j = 5 ∨ j = 6 by omega) with rfl | rfl | rfl | rfl | rfl | rfl | rfl
  · exact hs _ (lc_57_in _ (List.mem_of_getElem? (i := 4) rfl))
  · exact hs _ (lc_57_in _ (List.mem_of_getElem? (i := 5) rfl))
  · exact hs _ (lc_57_in _ (List.mem_of_getElem? (i := 6) rfl))
  · exact hs _ (lc_57_in _ (List.mem_of_getElem? (i := 7) rfl))
  · exact hs _ (lc_57_in _ (List.mem_of_getElem? (i := 8) rfl))
  · exact hs _ (lc_57_in _ (List.mem_of_getElem? (i := 9) rfl))
  · exact hs _ (lc_57_in _ (List.mem_of_getElem? (i := 10) rfl))) hA
def lc_58 : List Cond := [.exactly (.string "LinkEngineModel" 241) "java/lang/String", .eq (.field (.string "LinkEngineModel" 241) "java/lang/String" "coder" "B") (.int 0), .arrayOf (.field (.string "LinkEngineModel" 241) "java/lang/String" "value" "[B") .byte, .eq (.length (.field (.string "LinkEngineModel" 241) "java/lang/String" "value" "[B")) (.int 5), .eq (.elem (.field (.string "LinkEngineModel" 241) "java/lang/String" "value" "[B") (.int 0)) (.int 106), .eq (.elem (.field (.string "LinkEngineModel" 241) "java/lang/String" "value" "[B") (.int 1)) (.int 111), .eq (.elem (.field (.string "LinkEngineModel" 241) "java/lang/String" "value" "[B") (.int 2)) (.int 110), .eq (.elem (.field (.string "LinkEngineModel" 241) "java/lang/String" "value" "[B") (.int 3)) (.int 101), .eq (.elem (.field (.string "LinkEngineModel" 241) "java/lang/String" "value" "[B") (.int 4)) (.int 115)]
theorem lc_58_in : ∀ c ∈ lc_58, c ∈ flatC (Jvm.Cond.and given_1 narrow_1) := by decide +kernel
theorem ls_58 {args : Array Value} {s : State} {A : Nat → Prop} (hs : ∀ c ∈ flatC (Jvm.Cond.and given_1 narrow_1), c.before args s = true) (hA : ∀ a : Nat, a < s.heap.size → ¬ A a) : ∃ q, vz_Ps args s A 58 q :=
  vz_one (t := .string "LinkEngineModel" 241) (len := 5) (byt := [106, 111, 110, 101, 115]) (by decide) (hs _ (lc_58_in _ (List.mem_of_getElem? (i := 0) rfl))) (hs _ (lc_58_in _ (List.mem_of_getElem? (i := 1) rfl))) (hs _ (lc_58_in _ (List.mem_of_getElem? (i := 2) rfl))) (hs _ (lc_58_in _ (List.mem_of_getElem? (i := 3) rfl))) (fun j hj => by
  rcases (show j = 0 ∨ j = 1 ∨ j = 2 ∨ j = 3 ∨ j = 4 by omega) with rfl | rfl | rfl | rfl | rfl
  · exact hs _ (lc_58_in _ (List.mem_of_getElem? (i := 4) rfl))
  · exact hs _ (lc_58_in _ (List.mem_of_getElem? (i := 5) rfl))
  · exact hs _ (lc_58_in _ (List.mem_of_getElem? (i := 6) rfl))
  · exact hs _ (lc_58_in _ (List.mem_of_getElem? (i := 7) rfl))
  · exact hs _ (lc_58_in _ (List.mem_of_getElem? (i := 8) rfl))) hA
def lc_59 : List Cond := [.exactly (.string "LinkEngineModel" 243) "java/lang/String", .eq (.field (.string "LinkEngineModel" 243) "java/lang/String" "coder" "B") (.int 0), .arrayOf (.field (.string "LinkEngineModel" 243) "java/lang/String" "value" "[B") .byte, .eq (.length (.field (.string "LinkEngineModel" 243) "java/lang/String" "value" "[B")) (.int 9), .eq (.elem (.field (.string "LinkEngineModel" 243) "java/lang/String" "value" "[B") (.int 0)) (.int 97), .eq (.elem (.field (.string "LinkEngineModel" 243) "java/lang/String" "value" "[B") (.int 1)) (.int 108), .eq (.elem (.field (.string "LinkEngineModel" 243) "java/lang/String" "value" "[B") (.int 2)) (.int 101), .eq (.elem (.field (.string "LinkEngineModel" 243) "java/lang/String" "value" "[B") (.int 3)) (.int 120), .eq (.elem (.field (.string "LinkEngineModel" 243) "java/lang/String" "value" "[B") (.int 4)) (.int 97), .eq (.elem (.field (.string "LinkEngineModel" 243) "java/lang/String" "value" "[B") (.int 5)) (.int 110), .eq (.elem (.field (.string "LinkEngineModel" 243) "java/lang/String" "value" "[B") (.int 6)) (.int 100), .eq (.elem (.field (.string "LinkEngineModel" 243) "java/lang/String" "value" "[B") (.int 7)) (.int 101), .eq (.elem (.field (.string "LinkEngineModel" 243) "java/lang/String" "value" "[B") (.int 8)) (.int 114)]
theorem lc_59_in : ∀ c ∈ lc_59, c ∈ flatC (Jvm.Cond.and given_1 narrow_1) := by decide +kernel
theorem ls_59 {args : Array Value} {s : State} {A : Nat → Prop} (hs : ∀ c ∈ flatC (Jvm.Cond.and given_1 narrow_1), c.before args s = true) (hA : ∀ a : Nat, a < s.heap.size → ¬ A a) : ∃ q, vz_Ps args s A 59 q :=
  vz_one (t := .string "LinkEngineModel" 243) (len := 9) (byt := [97, 108, 101, 120, 97, 110, 100, 101, 114]) (by decide) (hs _ (lc_59_in _ (List.mem_of_getElem? (i := 0) rfl))) (hs _ (lc_59_in _ (List.mem_of_getElem? (i := 1) rfl))) (hs _ (lc_59_in _ (List.mem_of_getElem? (i := 2) rfl))) (hs _ (lc_59_in _ (List.mem_of_getElem? (i := 3) rfl))) (fun j hj => by
  rcases (show j = 0 ∨ j = 1 ∨ j = 2 ∨ j = 3 ∨ j = 4 ∨ j = 5 ∨ j = 6 ∨ j = 7 ∨ j = 8 by omega) with rfl | rfl | rfl | rfl | rfl | rfl | rfl | rfl | rfl
  · exact hs _ (lc_59_in _ (List.mem_of_getElem? (i := 4) rfl))
  · exact hs _ (lc_59_in _ (List.mem_of_getElem? (i := 5) rfl))
  · exact hs _ (lc_59_in _ (List.mem_of_getElem? (i := 6) rfl))
  · exact hs _ (lc_59_in _ (List.mem_of_getElem? (i := 7) rfl))
  · exact hs _ (lc_59_in _ (List.mem_of_getElem? (i := 8) rfl))
  · exact hs _ (lc_59_in _ (List.mem_of_getElem? (i := 9) rfl))
  · exact hs _ (lc_59_in _ (List.mem_of_getElem? (i := 10) rfl))
  · exact hs _ (lc_59_in _ (List.mem_of_getElem? (i := 11) rfl))
  · exact hs _ (lc_59_in _ (List.mem_of_getElem? (i := 12) rfl))) hA
def lc_60 : List Cond := [.exactly (.string "LinkEngineModel" 256) "java/lang/String", .eq (.field (.string "LinkEngineModel" 256) "java/lang/String" "coder" "B") (.int 0), .arrayOf (.field (.string "LinkEngineModel" 256) "java/lang/String" "value" "[B") .byte, .eq (.length (.field (.string "LinkEngineModel" 256) "java/lang/String" "value" "[B")) (.int 1), .eq (.elem (.field (.string "LinkEngineModel" 256) "java/lang/String" "value" "[B") (.int 0)) (.int 111)]
theorem lc_60_in : ∀ c ∈ lc_60, c ∈ flatC (Jvm.Cond.and given_1 narrow_1) := by decide +kernel
theorem ls_60 {args : Array Value} {s : State} {A : Nat → Prop} (hs : ∀ c ∈ flatC (Jvm.Cond.and given_1 narrow_1), c.before args s = true) (hA : ∀ a : Nat, a < s.heap.size → ¬ A a) : ∃ q, vz_Ps args s A 60 q :=
  vz_one (t := .string "LinkEngineModel" 256) (len := 1) (byt := [111]) (by decide) (hs _ (lc_60_in _ (List.mem_of_getElem? (i := 0) rfl))) (hs _ (lc_60_in _ (List.mem_of_getElem? (i := 1) rfl))) (hs _ (lc_60_in _ (List.mem_of_getElem? (i := 2) rfl))) (hs _ (lc_60_in _ (List.mem_of_getElem? (i := 3) rfl))) (fun j hj => by
  rcases (show j = 0 by omega) with rfl
  · exact hs _ (lc_60_in _ (List.mem_of_getElem? (i := 4) rfl))) hA
def lc_61 : List Cond := [.exactly (.string "LinkEngineModel" 202) "java/lang/String", .eq (.field (.string "LinkEngineModel" 202) "java/lang/String" "coder" "B") (.int 0), .arrayOf (.field (.string "LinkEngineModel" 202) "java/lang/String" "value" "[B") .byte, .eq (.length (.field (.string "LinkEngineModel" 202) "java/lang/String" "value" "[B")) (.int 4), .eq (.elem (.field (.string "LinkEngineModel" 202) "java/lang/String" "value" "[B") (.int 0)) (.int 111), .eq (.elem (.field (.string "LinkEngineModel" 202) "java/lang/String" "value" "[B") (.int 1)) (.int 118), .eq (.elem (.field (.string "LinkEngineModel" 202) "java/lang/String" "value" "[B") (.int 2)) (.int 101), .eq (.elem (.field (.string "LinkEngineModel" 202) "java/lang/String" "value" "[B") (.int 3)) (.int 114)]
theorem lc_61_in : ∀ c ∈ lc_61, c ∈ flatC (Jvm.Cond.and given_1 narrow_1) := by decide +kernel
theorem ls_61 {args : Array Value} {s : State} {A : Nat → Prop} (hs : ∀ c ∈ flatC (Jvm.Cond.and given_1 narrow_1), c.before args s = true) (hA : ∀ a : Nat, a < s.heap.size → ¬ A a) : ∃ q, vz_Ps args s A 61 q :=
  vz_one (t := .string "LinkEngineModel" 202) (len := 4) (byt := [111, 118, 101, 114]) (by decide) (hs _ (lc_61_in _ (List.mem_of_getElem? (i := 0) rfl))) (hs _ (lc_61_in _ (List.mem_of_getElem? (i := 1) rfl))) (hs _ (lc_61_in _ (List.mem_of_getElem? (i := 2) rfl))) (hs _ (lc_61_in _ (List.mem_of_getElem? (i := 3) rfl))) (fun j hj => by
  rcases (show j = 0 ∨ j = 1 ∨ j = 2 ∨ j = 3 by omega) with rfl | rfl | rfl | rfl
  · exact hs _ (lc_61_in _ (List.mem_of_getElem? (i := 4) rfl))
  · exact hs _ (lc_61_in _ (List.mem_of_getElem? (i := 5) rfl))
  · exact hs _ (lc_61_in _ (List.mem_of_getElem? (i := 6) rfl))
  · exact hs _ (lc_61_in _ (List.mem_of_getElem? (i := 7) rfl))) hA
def lc_62 : List Cond := [.exactly (.string "LinkEngineModel" 208) "java/lang/String", .eq (.field (.string "LinkEngineModel" 208) "java/lang/String" "coder" "B") (.int 0), .arrayOf (.field (.string "LinkEngineModel" 208) "java/lang/String" "value" "[B") .byte, .eq (.length (.field (.string "LinkEngineModel" 208) "java/lang/String" "value" "[B")) (.int 5), .eq (.elem (.field (.string "LinkEngineModel" 208) "java/lang/String" "value" "[B") (.int 0)) (.int 117), .eq (.elem (.field (.string "LinkEngineModel" 208) "java/lang/String" "value" "[B") (.int 1)) (.int 110), .eq (.elem (.field (.string "LinkEngineModel" 208) "java/lang/String" "value" "[B") (.int 2)) (.int 100), .eq (.elem (.field (.string "LinkEngineModel" 208) "java/lang/String" "value" "[B") (.int 3)) (.int 101), .eq (.elem (.field (.string "LinkEngineModel" 208) "java/lang/String" "value" "[B") (.int 4)) (.int 114)]
theorem lc_62_in : ∀ c ∈ lc_62, c ∈ flatC (Jvm.Cond.and given_1 narrow_1) := by decide +kernel
theorem ls_62 {args : Array Value} {s : State} {A : Nat → Prop} (hs : ∀ c ∈ flatC (Jvm.Cond.and given_1 narrow_1), c.before args s = true) (hA : ∀ a : Nat, a < s.heap.size → ¬ A a) : ∃ q, vz_Ps args s A 62 q :=
  vz_one (t := .string "LinkEngineModel" 208) (len := 5) (byt := [117, 110, 100, 101, 114]) (by decide) (hs _ (lc_62_in _ (List.mem_of_getElem? (i := 0) rfl))) (hs _ (lc_62_in _ (List.mem_of_getElem? (i := 1) rfl))) (hs _ (lc_62_in _ (List.mem_of_getElem? (i := 2) rfl))) (hs _ (lc_62_in _ (List.mem_of_getElem? (i := 3) rfl))) (fun j hj => by
  rcases (show j = 0 ∨ j = 1 ∨ j = 2 ∨ j = 3 ∨ j = 4 by omega) with rfl | rfl | rfl | rfl | rfl
  · exact hs _ (lc_62_in _ (List.mem_of_getElem? (i := 4) rfl))
  · exact hs _ (lc_62_in _ (List.mem_of_getElem? (i := 5) rfl))
  · exact hs _ (lc_62_in _ (List.mem_of_getElem? (i := 6) rfl))
  · exact hs _ (lc_62_in _ (List.mem_of_getElem? (i := 7) rfl))
  · exact hs _ (lc_62_in _ (List.mem_of_getElem? (i := 8) rfl))) hA
def lc_63 : List Cond := [.exactly (.string "LinkEngineModel" 261) "java/lang/String", .eq (.field (.string "LinkEngineModel" 261) "java/lang/String" "coder" "B") (.int 0), .arrayOf (.field (.string "LinkEngineModel" 261) "java/lang/String" "value" "[B") .byte, .eq (.length (.field (.string "LinkEngineModel" 261) "java/lang/String" "value" "[B")) (.int 1), .eq (.elem (.field (.string "LinkEngineModel" 261) "java/lang/String" "value" "[B") (.int 0)) (.int 116)]
theorem lc_63_in : ∀ c ∈ lc_63, c ∈ flatC (Jvm.Cond.and given_1 narrow_1) := by decide +kernel
theorem ls_63 {args : Array Value} {s : State} {A : Nat → Prop} (hs : ∀ c ∈ flatC (Jvm.Cond.and given_1 narrow_1), c.before args s = true) (hA : ∀ a : Nat, a < s.heap.size → ¬ A a) : ∃ q, vz_Ps args s A 63 q :=
  vz_one (t := .string "LinkEngineModel" 261) (len := 1) (byt := [116]) (by decide) (hs _ (lc_63_in _ (List.mem_of_getElem? (i := 0) rfl))) (hs _ (lc_63_in _ (List.mem_of_getElem? (i := 1) rfl))) (hs _ (lc_63_in _ (List.mem_of_getElem? (i := 2) rfl))) (hs _ (lc_63_in _ (List.mem_of_getElem? (i := 3) rfl))) (fun j hj => by
  rcases (show j = 0 by omega) with rfl
  · exact hs _ (lc_63_in _ (List.mem_of_getElem? (i := 4) rfl))) hA
def lc_64 : List Cond := [.exactly (.string "LinkEngineModel" 263) "java/lang/String", .eq (.field (.string "LinkEngineModel" 263) "java/lang/String" "coder" "B") (.int 0), .arrayOf (.field (.string "LinkEngineModel" 263) "java/lang/String" "value" "[B") .byte, .eq (.length (.field (.string "LinkEngineModel" 263) "java/lang/String" "value" "[B")) (.int 1), .eq (.elem (.field (.string "LinkEngineModel" 263) "java/lang/String" "value" "[B") (.int 0)) (.int 65)]
theorem lc_64_in : ∀ c ∈ lc_64, c ∈ flatC (Jvm.Cond.and given_1 narrow_1) := by decide +kernel
theorem ls_64 {args : Array Value} {s : State} {A : Nat → Prop} (hs : ∀ c ∈ flatC (Jvm.Cond.and given_1 narrow_1), c.before args s = true) (hA : ∀ a : Nat, a < s.heap.size → ¬ A a) : ∃ q, vz_Ps args s A 64 q :=
  vz_one (t := .string "LinkEngineModel" 263) (len := 1) (byt := [65]) (by decide) (hs _ (lc_64_in _ (List.mem_of_getElem? (i := 0) rfl))) (hs _ (lc_64_in _ (List.mem_of_getElem? (i := 1) rfl))) (hs _ (lc_64_in _ (List.mem_of_getElem? (i := 2) rfl))) (hs _ (lc_64_in _ (List.mem_of_getElem? (i := 3) rfl))) (fun j hj => by
  rcases (show j = 0 by omega) with rfl
  · exact hs _ (lc_64_in _ (List.mem_of_getElem? (i := 4) rfl))) hA
def lc_65 : List Cond := [.exactly (.string "LinkEngineModel" 550) "java/lang/String", .eq (.field (.string "LinkEngineModel" 550) "java/lang/String" "coder" "B") (.int 0), .arrayOf (.field (.string "LinkEngineModel" 550) "java/lang/String" "value" "[B") .byte, .eq (.length (.field (.string "LinkEngineModel" 550) "java/lang/String" "value" "[B")) (.int 4), .eq (.elem (.field (.string "LinkEngineModel" 550) "java/lang/String" "value" "[B") (.int 0)) (.int 110), .eq (.elem (.field (.string "LinkEngineModel" 550) "java/lang/String" "value" "[B") (.int 1)) (.int 111), .eq (.elem (.field (.string "LinkEngineModel" 550) "java/lang/String" "value" "[B") (.int 2)) (.int 32), .eq (.elem (.field (.string "LinkEngineModel" 550) "java/lang/String" "value" "[B") (.int 3)) (.int 48)]
theorem lc_65_in : ∀ c ∈ lc_65, c ∈ flatC (Jvm.Cond.and given_1 narrow_1) := by decide +kernel
theorem ls_65 {args : Array Value} {s : State} {A : Nat → Prop} (hs : ∀ c ∈ flatC (Jvm.Cond.and given_1 narrow_1), c.before args s = true) (hA : ∀ a : Nat, a < s.heap.size → ¬ A a) : ∃ q, vz_Ps args s A 65 q :=
  vz_one (t := .string "LinkEngineModel" 550) (len := 4) (byt := [110, 111, 32, 48]) (by decide) (hs _ (lc_65_in _ (List.mem_of_getElem? (i := 0) rfl))) (hs _ (lc_65_in _ (List.mem_of_getElem? (i := 1) rfl))) (hs _ (lc_65_in _ (List.mem_of_getElem? (i := 2) rfl))) (hs _ (lc_65_in _ (List.mem_of_getElem? (i := 3) rfl))) (fun j hj => by
  rcases (show j = 0 ∨ j = 1 ∨ j = 2 ∨ j = 3 by omega) with rfl | rfl | rfl | rfl
  · exact hs _ (lc_65_in _ (List.mem_of_getElem? (i := 4) rfl))
  · exact hs _ (lc_65_in _ (List.mem_of_getElem? (i := 5) rfl))
  · exact hs _ (lc_65_in _ (List.mem_of_getElem? (i := 6) rfl))
  · exact hs _ (lc_65_in _ (List.mem_of_getElem? (i := 7) rfl))) hA
def lc_66 : List Cond := [.exactly (.string "LinkEngineModel" 517) "java/lang/String", .eq (.field (.string "LinkEngineModel" 517) "java/lang/String" "coder" "B") (.int 0), .arrayOf (.field (.string "LinkEngineModel" 517) "java/lang/String" "value" "[B") .byte, .eq (.length (.field (.string "LinkEngineModel" 517) "java/lang/String" "value" "[B")) (.int 2), .eq (.elem (.field (.string "LinkEngineModel" 517) "java/lang/String" "value" "[B") (.int 0)) (.int 35), .eq (.elem (.field (.string "LinkEngineModel" 517) "java/lang/String" "value" "[B") (.int 1)) (.int 32)]
theorem lc_66_in : ∀ c ∈ lc_66, c ∈ flatC (Jvm.Cond.and given_1 narrow_1) := by decide +kernel
theorem ls_66 {args : Array Value} {s : State} {A : Nat → Prop} (hs : ∀ c ∈ flatC (Jvm.Cond.and given_1 narrow_1), c.before args s = true) (hA : ∀ a : Nat, a < s.heap.size → ¬ A a) : ∃ q, vz_Ps args s A 66 q :=
  vz_one (t := .string "LinkEngineModel" 517) (len := 2) (byt := [35, 32]) (by decide) (hs _ (lc_66_in _ (List.mem_of_getElem? (i := 0) rfl))) (hs _ (lc_66_in _ (List.mem_of_getElem? (i := 1) rfl))) (hs _ (lc_66_in _ (List.mem_of_getElem? (i := 2) rfl))) (hs _ (lc_66_in _ (List.mem_of_getElem? (i := 3) rfl))) (fun j hj => by
  rcases (show j = 0 ∨ j = 1 by omega) with rfl | rfl
  · exact hs _ (lc_66_in _ (List.mem_of_getElem? (i := 4) rfl))
  · exact hs _ (lc_66_in _ (List.mem_of_getElem? (i := 5) rfl))) hA
def lc_67 : List Cond := [.exactly (.string "LinkEngineModel" 523) "java/lang/String", .eq (.field (.string "LinkEngineModel" 523) "java/lang/String" "coder" "B") (.int 0), .arrayOf (.field (.string "LinkEngineModel" 523) "java/lang/String" "value" "[B") .byte, .eq (.length (.field (.string "LinkEngineModel" 523) "java/lang/String" "value" "[B")) (.int 2), .eq (.elem (.field (.string "LinkEngineModel" 523) "java/lang/String" "value" "[B") (.int 0)) (.int 111), .eq (.elem (.field (.string "LinkEngineModel" 523) "java/lang/String" "value" "[B") (.int 1)) (.int 107)]
theorem lc_67_in : ∀ c ∈ lc_67, c ∈ flatC (Jvm.Cond.and given_1 narrow_1) := by decide +kernel
theorem ls_67 {args : Array Value} {s : State} {A : Nat → Prop} (hs : ∀ c ∈ flatC (Jvm.Cond.and given_1 narrow_1), c.before args s = true) (hA : ∀ a : Nat, a < s.heap.size → ¬ A a) : ∃ q, vz_Ps args s A 67 q :=
  vz_one (t := .string "LinkEngineModel" 523) (len := 2) (byt := [111, 107]) (by decide) (hs _ (lc_67_in _ (List.mem_of_getElem? (i := 0) rfl))) (hs _ (lc_67_in _ (List.mem_of_getElem? (i := 1) rfl))) (hs _ (lc_67_in _ (List.mem_of_getElem? (i := 2) rfl))) (hs _ (lc_67_in _ (List.mem_of_getElem? (i := 3) rfl))) (fun j hj => by
  rcases (show j = 0 ∨ j = 1 by omega) with rfl | rfl
  · exact hs _ (lc_67_in _ (List.mem_of_getElem? (i := 4) rfl))
  · exact hs _ (lc_67_in _ (List.mem_of_getElem? (i := 5) rfl))) hA
def lc_68 : List Cond := [.exactly (.string "LinkEngineModel" 564) "java/lang/String", .eq (.field (.string "LinkEngineModel" 564) "java/lang/String" "coder" "B") (.int 0), .arrayOf (.field (.string "LinkEngineModel" 564) "java/lang/String" "value" "[B") .byte, .eq (.length (.field (.string "LinkEngineModel" 564) "java/lang/String" "value" "[B")) (.int 4), .eq (.elem (.field (.string "LinkEngineModel" 564) "java/lang/String" "value" "[B") (.int 0)) (.int 35), .eq (.elem (.field (.string "LinkEngineModel" 564) "java/lang/String" "value" "[B") (.int 1)) (.int 32), .eq (.elem (.field (.string "LinkEngineModel" 564) "java/lang/String" "value" "[B") (.int 2)) (.int 110), .eq (.elem (.field (.string "LinkEngineModel" 564) "java/lang/String" "value" "[B") (.int 3)) (.int 111)]
theorem lc_68_in : ∀ c ∈ lc_68, c ∈ flatC (Jvm.Cond.and given_1 narrow_1) := by decide +kernel
theorem ls_68 {args : Array Value} {s : State} {A : Nat → Prop} (hs : ∀ c ∈ flatC (Jvm.Cond.and given_1 narrow_1), c.before args s = true) (hA : ∀ a : Nat, a < s.heap.size → ¬ A a) : ∃ q, vz_Ps args s A 68 q :=
  vz_one (t := .string "LinkEngineModel" 564) (len := 4) (byt := [35, 32, 110, 111]) (by decide) (hs _ (lc_68_in _ (List.mem_of_getElem? (i := 0) rfl))) (hs _ (lc_68_in _ (List.mem_of_getElem? (i := 1) rfl))) (hs _ (lc_68_in _ (List.mem_of_getElem? (i := 2) rfl))) (hs _ (lc_68_in _ (List.mem_of_getElem? (i := 3) rfl))) (fun j hj => by
  rcases (show j = 0 ∨ j = 1 ∨ j = 2 ∨ j = 3 by omega) with rfl | rfl | rfl | rfl
  · exact hs _ (lc_68_in _ (List.mem_of_getElem? (i := 4) rfl))
  · exact hs _ (lc_68_in _ (List.mem_of_getElem? (i := 5) rfl))
  · exact hs _ (lc_68_in _ (List.mem_of_getElem? (i := 6) rfl))
  · exact hs _ (lc_68_in _ (List.mem_of_getElem? (i := 7) rfl))) hA
def lc_69 : List Cond := [.exactly (.string "LinkEngineModel" 525) "java/lang/String", .eq (.field (.string "LinkEngineModel" 525) "java/lang/String" "coder" "B") (.int 0), .arrayOf (.field (.string "LinkEngineModel" 525) "java/lang/String" "value" "[B") .byte, .eq (.length (.field (.string "LinkEngineModel" 525) "java/lang/String" "value" "[B")) (.int 2), .eq (.elem (.field (.string "LinkEngineModel" 525) "java/lang/String" "value" "[B") (.int 0)) (.int 110), .eq (.elem (.field (.string "LinkEngineModel" 525) "java/lang/String" "value" "[B") (.int 1)) (.int 111)]
theorem lc_69_in : ∀ c ∈ lc_69, c ∈ flatC (Jvm.Cond.and given_1 narrow_1) := by decide +kernel
theorem ls_69 {args : Array Value} {s : State} {A : Nat → Prop} (hs : ∀ c ∈ flatC (Jvm.Cond.and given_1 narrow_1), c.before args s = true) (hA : ∀ a : Nat, a < s.heap.size → ¬ A a) : ∃ q, vz_Ps args s A 69 q :=
  vz_one (t := .string "LinkEngineModel" 525) (len := 2) (byt := [110, 111]) (by decide) (hs _ (lc_69_in _ (List.mem_of_getElem? (i := 0) rfl))) (hs _ (lc_69_in _ (List.mem_of_getElem? (i := 1) rfl))) (hs _ (lc_69_in _ (List.mem_of_getElem? (i := 2) rfl))) (hs _ (lc_69_in _ (List.mem_of_getElem? (i := 3) rfl))) (fun j hj => by
  rcases (show j = 0 ∨ j = 1 by omega) with rfl | rfl
  · exact hs _ (lc_69_in _ (List.mem_of_getElem? (i := 4) rfl))
  · exact hs _ (lc_69_in _ (List.mem_of_getElem? (i := 5) rfl))) hA
def lc_70 : List Cond := [.exactly (.string "LinkEngineModel" 575) "java/lang/String", .eq (.field (.string "LinkEngineModel" 575) "java/lang/String" "coder" "B") (.int 0), .arrayOf (.field (.string "LinkEngineModel" 575) "java/lang/String" "value" "[B") .byte, .eq (.length (.field (.string "LinkEngineModel" 575) "java/lang/String" "value" "[B")) (.int 8), .eq (.elem (.field (.string "LinkEngineModel" 575) "java/lang/String" "value" "[B") (.int 0)) (.int 35), .eq (.elem (.field (.string "LinkEngineModel" 575) "java/lang/String" "value" "[B") (.int 1)) (.int 32), .eq (.elem (.field (.string "LinkEngineModel" 575) "java/lang/String" "value" "[B") (.int 2)) (.int 117), .eq (.elem (.field (.string "LinkEngineModel" 575) "java/lang/String" "value" "[B") (.int 3)) (.int 110), .eq (.elem (.field (.string "LinkEngineModel" 575) "java/lang/String" "value" "[B") (.int 4)) (.int 100), .eq (.elem (.field (.string "LinkEngineModel" 575) "java/lang/String" "value" "[B") (.int 5)) (.int 111), .eq (.elem (.field (.string "LinkEngineModel" 575) "java/lang/String" "value" "[B") (.int 6)) (.int 110), .eq (.elem (.field (.string "LinkEngineModel" 575) "java/lang/String" "value" "[B") (.int 7)) (.int 101)]
theorem lc_70_in : ∀ c ∈ lc_70, c ∈ flatC (Jvm.Cond.and given_1 narrow_1) := by decide +kernel
theorem ls_70 {args : Array Value} {s : State} {A : Nat → Prop} (hs : ∀ c ∈ flatC (Jvm.Cond.and given_1 narrow_1), c.before args s = true) (hA : ∀ a : Nat, a < s.heap.size → ¬ A a) : ∃ q, vz_Ps args s A 70 q :=
  vz_one (t := .string "LinkEngineModel" 575) (len := 8) (byt := [35, 32, 117, 110, 100, 111, 110, 101]) (by decide) (hs _ (lc_70_in _ (List.mem_of_getElem? (i := 0) rfl))) (hs _ (lc_70_in _ (List.mem_of_getElem? (i := 1) rfl))) (hs _ (lc_70_in _ (List.mem_of_getElem? (i := 2) rfl))) (hs _ (lc_70_in _ (List.mem_of_getElem? (i := 3) rfl))) (fun j hj => by
  rcases (show j = 0 ∨ j = 1 ∨ j = 2 ∨ j = 3 ∨ j = 4 ∨ j = 5 ∨ j = 6 ∨ j = 7 by omega) with rfl | rfl | rfl | rfl | rfl | rfl | rfl | rfl
  · exact hs _ (lc_70_in _ (List.mem_of_getElem? (i := 4) rfl))
  · exact hs _ (lc_70_in _ (List.mem_of_getElem? (i := 5) rfl))
  · exact hs _ (lc_70_in _ (List.mem_of_getElem? (i := 6) rfl))
  · exact hs _ (lc_70_in _ (List.mem_of_getElem? (i := 7) rfl))
  · exact hs _ (lc_70_in _ (List.mem_of_getElem? (i := 8) rfl))
  · exact hs _ (lc_70_in _ (List.mem_of_getElem? (i := 9) rfl))
  · exact hs _ (lc_70_in _ (List.mem_of_getElem? (i := 10) rfl))
  · exact hs _ (lc_70_in _ (List.mem_of_getElem? (i := 11) rfl))) hA
def lc_71 : List Cond := [.exactly (.string "LinkEngineModel" 530) "java/lang/String", .eq (.field (.string "LinkEngineModel" 530) "java/lang/String" "coder" "B") (.int 0), .arrayOf (.field (.string "LinkEngineModel" 530) "java/lang/String" "value" "[B") .byte, .eq (.length (.field (.string "LinkEngineModel" 530) "java/lang/String" "value" "[B")) (.int 1), .eq (.elem (.field (.string "LinkEngineModel" 530) "java/lang/String" "value" "[B") (.int 0)) (.int 91)]
theorem lc_71_in : ∀ c ∈ lc_71, c ∈ flatC (Jvm.Cond.and given_1 narrow_1) := by decide +kernel
theorem ls_71 {args : Array Value} {s : State} {A : Nat → Prop} (hs : ∀ c ∈ flatC (Jvm.Cond.and given_1 narrow_1), c.before args s = true) (hA : ∀ a : Nat, a < s.heap.size → ¬ A a) : ∃ q, vz_Ps args s A 71 q :=
  vz_one (t := .string "LinkEngineModel" 530) (len := 1) (byt := [91]) (by decide) (hs _ (lc_71_in _ (List.mem_of_getElem? (i := 0) rfl))) (hs _ (lc_71_in _ (List.mem_of_getElem? (i := 1) rfl))) (hs _ (lc_71_in _ (List.mem_of_getElem? (i := 2) rfl))) (hs _ (lc_71_in _ (List.mem_of_getElem? (i := 3) rfl))) (fun j hj => by
  rcases (show j = 0 by omega) with rfl
  · exact hs _ (lc_71_in _ (List.mem_of_getElem? (i := 4) rfl))) hA
def lc_72 : List Cond := [.exactly (.string "LinkEngineModel" 532) "java/lang/String", .eq (.field (.string "LinkEngineModel" 532) "java/lang/String" "coder" "B") (.int 0), .arrayOf (.field (.string "LinkEngineModel" 532) "java/lang/String" "value" "[B") .byte, .eq (.length (.field (.string "LinkEngineModel" 532) "java/lang/String" "value" "[B")) (.int 2), .eq (.elem (.field (.string "LinkEngineModel" 532) "java/lang/String" "value" "[B") (.int 0)) (.int 44), .eq (.elem (.field (.string "LinkEngineModel" 532) "java/lang/String" "value" "[B") (.int 1)) (.int 32)]
theorem lc_72_in : ∀ c ∈ lc_72, c ∈ flatC (Jvm.Cond.and given_1 narrow_1) := by decide +kernel
theorem ls_72 {args : Array Value} {s : State} {A : Nat → Prop} (hs : ∀ c ∈ flatC (Jvm.Cond.and given_1 narrow_1), c.before args s = true) (hA : ∀ a : Nat, a < s.heap.size → ¬ A a) : ∃ q, vz_Ps args s A 72 q :=
  vz_one (t := .string "LinkEngineModel" 532) (len := 2) (byt := [44, 32]) (by decide) (hs _ (lc_72_in _ (List.mem_of_getElem? (i := 0) rfl))) (hs _ (lc_72_in _ (List.mem_of_getElem? (i := 1) rfl))) (hs _ (lc_72_in _ (List.mem_of_getElem? (i := 2) rfl))) (hs _ (lc_72_in _ (List.mem_of_getElem? (i := 3) rfl))) (fun j hj => by
  rcases (show j = 0 ∨ j = 1 by omega) with rfl | rfl
  · exact hs _ (lc_72_in _ (List.mem_of_getElem? (i := 4) rfl))
  · exact hs _ (lc_72_in _ (List.mem_of_getElem? (i := 5) rfl))) hA
def lc_73 : List Cond := [.exactly (.string "LinkEngineModel" 534) "java/lang/String", .eq (.field (.string "LinkEngineModel" 534) "java/lang/String" "coder" "B") (.int 0), .arrayOf (.field (.string "LinkEngineModel" 534) "java/lang/String" "value" "[B") .byte, .eq (.length (.field (.string "LinkEngineModel" 534) "java/lang/String" "value" "[B")) (.int 2), .eq (.elem (.field (.string "LinkEngineModel" 534) "java/lang/String" "value" "[B") (.int 0)) (.int 32), .eq (.elem (.field (.string "LinkEngineModel" 534) "java/lang/String" "value" "[B") (.int 1)) (.int 111)]
theorem lc_73_in : ∀ c ∈ lc_73, c ∈ flatC (Jvm.Cond.and given_1 narrow_1) := by decide +kernel
theorem ls_73 {args : Array Value} {s : State} {A : Nat → Prop} (hs : ∀ c ∈ flatC (Jvm.Cond.and given_1 narrow_1), c.before args s = true) (hA : ∀ a : Nat, a < s.heap.size → ¬ A a) : ∃ q, vz_Ps args s A 73 q :=
  vz_one (t := .string "LinkEngineModel" 534) (len := 2) (byt := [32, 111]) (by decide) (hs _ (lc_73_in _ (List.mem_of_getElem? (i := 0) rfl))) (hs _ (lc_73_in _ (List.mem_of_getElem? (i := 1) rfl))) (hs _ (lc_73_in _ (List.mem_of_getElem? (i := 2) rfl))) (hs _ (lc_73_in _ (List.mem_of_getElem? (i := 3) rfl))) (fun j hj => by
  rcases (show j = 0 ∨ j = 1 by omega) with rfl | rfl
  · exact hs _ (lc_73_in _ (List.mem_of_getElem? (i := 4) rfl))
  · exact hs _ (lc_73_in _ (List.mem_of_getElem? (i := 5) rfl))) hA
def lc_74 : List Cond := [.exactly (.string "LinkEngineModel" 609) "java/lang/String", .eq (.field (.string "LinkEngineModel" 609) "java/lang/String" "coder" "B") (.int 0), .arrayOf (.field (.string "LinkEngineModel" 609) "java/lang/String" "value" "[B") .byte, .eq (.length (.field (.string "LinkEngineModel" 609) "java/lang/String" "value" "[B")) (.int 4), .eq (.elem (.field (.string "LinkEngineModel" 609) "java/lang/String" "value" "[B") (.int 0)) (.int 109), .eq (.elem (.field (.string "LinkEngineModel" 609) "java/lang/String" "value" "[B") (.int 1)) (.int 97), .eq (.elem (.field (.string "LinkEngineModel" 609) "java/lang/String" "value" "[B") (.int 2)) (.int 110), .eq (.elem (.field (.string "LinkEngineModel" 609) "java/lang/String" "value" "[B") (.int 3)) (.int 121)]
theorem lc_74_in : ∀ c ∈ lc_74, c ∈ flatC (Jvm.Cond.and given_1 narrow_1) := by decide +kernel
theorem ls_74 {args : Array Value} {s : State} {A : Nat → Prop} (hs : ∀ c ∈ flatC (Jvm.Cond.and given_1 narrow_1), c.before args s = true) (hA : ∀ a : Nat, a < s.heap.size → ¬ A a) : ∃ q, vz_Ps args s A 74 q :=
  vz_one (t := .string "LinkEngineModel" 609) (len := 4) (byt := [109, 97, 110, 121]) (by decide) (hs _ (lc_74_in _ (List.mem_of_getElem? (i := 0) rfl))) (hs _ (lc_74_in _ (List.mem_of_getElem? (i := 1) rfl))) (hs _ (lc_74_in _ (List.mem_of_getElem? (i := 2) rfl))) (hs _ (lc_74_in _ (List.mem_of_getElem? (i := 3) rfl))) (fun j hj => by
  rcases (show j = 0 ∨ j = 1 ∨ j = 2 ∨ j = 3 by omega) with rfl | rfl | rfl | rfl
  · exact hs _ (lc_74_in _ (List.mem_of_getElem? (i := 4) rfl))
  · exact hs _ (lc_74_in _ (List.mem_of_getElem? (i := 5) rfl))
  · exact hs _ (lc_74_in _ (List.mem_of_getElem? (i := 6) rfl))
  · exact hs _ (lc_74_in _ (List.mem_of_getElem? (i := 7) rfl))) hA
def lc_75 : List Cond := [.exactly (.string "LinkEngineModel" 539) "java/lang/String", .eq (.field (.string "LinkEngineModel" 539) "java/lang/String" "coder" "B") (.int 0), .arrayOf (.field (.string "LinkEngineModel" 539) "java/lang/String" "value" "[B") .byte, .eq (.length (.field (.string "LinkEngineModel" 539) "java/lang/String" "value" "[B")) (.int 3), .eq (.elem (.field (.string "LinkEngineModel" 539) "java/lang/String" "value" "[B") (.int 0)) (.int 32), .eq (.elem (.field (.string "LinkEngineModel" 539) "java/lang/String" "value" "[B") (.int 1)) (.int 61), .eq (.elem (.field (.string "LinkEngineModel" 539) "java/lang/String" "value" "[B") (.int 2)) (.int 32)]
theorem lc_75_in : ∀ c ∈ lc_75, c ∈ flatC (Jvm.Cond.and given_1 narrow_1) := by decide +kernel
theorem ls_75 {args : Array Value} {s : State} {A : Nat → Prop} (hs : ∀ c ∈ flatC (Jvm.Cond.and given_1 narrow_1), c.before args s = true) (hA : ∀ a : Nat, a < s.heap.size → ¬ A a) : ∃ q, vz_Ps args s A 75 q :=
  vz_one (t := .string "LinkEngineModel" 539) (len := 3) (byt := [32, 61, 32]) (by decide) (hs _ (lc_75_in _ (List.mem_of_getElem? (i := 0) rfl))) (hs _ (lc_75_in _ (List.mem_of_getElem? (i := 1) rfl))) (hs _ (lc_75_in _ (List.mem_of_getElem? (i := 2) rfl))) (hs _ (lc_75_in _ (List.mem_of_getElem? (i := 3) rfl))) (fun j hj => by
  rcases (show j = 0 ∨ j = 1 ∨ j = 2 by omega) with rfl | rfl | rfl
  · exact hs _ (lc_75_in _ (List.mem_of_getElem? (i := 4) rfl))
  · exact hs _ (lc_75_in _ (List.mem_of_getElem? (i := 5) rfl))
  · exact hs _ (lc_75_in _ (List.mem_of_getElem? (i := 6) rfl))) hA
def lc_76 : List Cond := [.exactly (.string "LinkEngineModel" 541) "java/lang/String", .eq (.field (.string "LinkEngineModel" 541) "java/lang/String" "coder" "B") (.int 0), .arrayOf (.field (.string "LinkEngineModel" 541) "java/lang/String" "value" "[B") .byte, .eq (.length (.field (.string "LinkEngineModel" 541) "java/lang/String" "value" "[B")) (.int 3), .eq (.elem (.field (.string "LinkEngineModel" 541) "java/lang/String" "value" "[B") (.int 0)) (.int 32), .eq (.elem (.field (.string "LinkEngineModel" 541) "java/lang/String" "value" "[B") (.int 1)) (.int 45), .eq (.elem (.field (.string "LinkEngineModel" 541) "java/lang/String" "value" "[B") (.int 2)) (.int 32)]
theorem lc_76_in : ∀ c ∈ lc_76, c ∈ flatC (Jvm.Cond.and given_1 narrow_1) := by decide +kernel
theorem ls_76 {args : Array Value} {s : State} {A : Nat → Prop} (hs : ∀ c ∈ flatC (Jvm.Cond.and given_1 narrow_1), c.before args s = true) (hA : ∀ a : Nat, a < s.heap.size → ¬ A a) : ∃ q, vz_Ps args s A 76 q :=
  vz_one (t := .string "LinkEngineModel" 541) (len := 3) (byt := [32, 45, 32]) (by decide) (hs _ (lc_76_in _ (List.mem_of_getElem? (i := 0) rfl))) (hs _ (lc_76_in _ (List.mem_of_getElem? (i := 1) rfl))) (hs _ (lc_76_in _ (List.mem_of_getElem? (i := 2) rfl))) (hs _ (lc_76_in _ (List.mem_of_getElem? (i := 3) rfl))) (fun j hj => by
  rcases (show j = 0 ∨ j = 1 ∨ j = 2 by omega) with rfl | rfl | rfl
  · exact hs _ (lc_76_in _ (List.mem_of_getElem? (i := 4) rfl))
  · exact hs _ (lc_76_in _ (List.mem_of_getElem? (i := 5) rfl))
  · exact hs _ (lc_76_in _ (List.mem_of_getElem? (i := 6) rfl))) hA
def lc_77 : List Cond := [.exactly (.string "LinkEngineModel" 543) "java/lang/String", .eq (.field (.string "LinkEngineModel" 543) "java/lang/String" "coder" "B") (.int 0), .arrayOf (.field (.string "LinkEngineModel" 543) "java/lang/String" "value" "[B") .byte, .eq (.length (.field (.string "LinkEngineModel" 543) "java/lang/String" "value" "[B")) (.int 3), .eq (.elem (.field (.string "LinkEngineModel" 543) "java/lang/String" "value" "[B") (.int 0)) (.int 32), .eq (.elem (.field (.string "LinkEngineModel" 543) "java/lang/String" "value" "[B") (.int 1)) (.int 43), .eq (.elem (.field (.string "LinkEngineModel" 543) "java/lang/String" "value" "[B") (.int 2)) (.int 32)]
theorem lc_77_in : ∀ c ∈ lc_77, c ∈ flatC (Jvm.Cond.and given_1 narrow_1) := by decide +kernel
theorem ls_77 {args : Array Value} {s : State} {A : Nat → Prop} (hs : ∀ c ∈ flatC (Jvm.Cond.and given_1 narrow_1), c.before args s = true) (hA : ∀ a : Nat, a < s.heap.size → ¬ A a) : ∃ q, vz_Ps args s A 77 q :=
  vz_one (t := .string "LinkEngineModel" 543) (len := 3) (byt := [32, 43, 32]) (by decide) (hs _ (lc_77_in _ (List.mem_of_getElem? (i := 0) rfl))) (hs _ (lc_77_in _ (List.mem_of_getElem? (i := 1) rfl))) (hs _ (lc_77_in _ (List.mem_of_getElem? (i := 2) rfl))) (hs _ (lc_77_in _ (List.mem_of_getElem? (i := 3) rfl))) (fun j hj => by
  rcases (show j = 0 ∨ j = 1 ∨ j = 2 by omega) with rfl | rfl | rfl
  · exact hs _ (lc_77_in _ (List.mem_of_getElem? (i := 4) rfl))
  · exact hs _ (lc_77_in _ (List.mem_of_getElem? (i := 5) rfl))
  · exact hs _ (lc_77_in _ (List.mem_of_getElem? (i := 6) rfl))) hA
def lc_78 : List Cond := [.exactly (.string "LinkEngineModel" 620) "java/lang/String", .eq (.field (.string "LinkEngineModel" 620) "java/lang/String" "coder" "B") (.int 0), .arrayOf (.field (.string "LinkEngineModel" 620) "java/lang/String" "value" "[B") .byte, .eq (.length (.field (.string "LinkEngineModel" 620) "java/lang/String" "value" "[B")) (.int 3), .eq (.elem (.field (.string "LinkEngineModel" 620) "java/lang/String" "value" "[B") (.int 0)) (.int 121), .eq (.elem (.field (.string "LinkEngineModel" 620) "java/lang/String" "value" "[B") (.int 1)) (.int 101), .eq (.elem (.field (.string "LinkEngineModel" 620) "java/lang/String" "value" "[B") (.int 2)) (.int 115)]
theorem lc_78_in : ∀ c ∈ lc_78, c ∈ flatC (Jvm.Cond.and given_1 narrow_1) := by decide +kernel
theorem ls_78 {args : Array Value} {s : State} {A : Nat → Prop} (hs : ∀ c ∈ flatC (Jvm.Cond.and given_1 narrow_1), c.before args s = true) (hA : ∀ a : Nat, a < s.heap.size → ¬ A a) : ∃ q, vz_Ps args s A 78 q :=
  vz_one (t := .string "LinkEngineModel" 620) (len := 3) (byt := [121, 101, 115]) (by decide) (hs _ (lc_78_in _ (List.mem_of_getElem? (i := 0) rfl))) (hs _ (lc_78_in _ (List.mem_of_getElem? (i := 1) rfl))) (hs _ (lc_78_in _ (List.mem_of_getElem? (i := 2) rfl))) (hs _ (lc_78_in _ (List.mem_of_getElem? (i := 3) rfl))) (fun j hj => by
  rcases (show j = 0 ∨ j = 1 ∨ j = 2 by omega) with rfl | rfl | rfl
  · exact hs _ (lc_78_in _ (List.mem_of_getElem? (i := 4) rfl))
  · exact hs _ (lc_78_in _ (List.mem_of_getElem? (i := 5) rfl))
  · exact hs _ (lc_78_in _ (List.mem_of_getElem? (i := 6) rfl))) hA
theorem ls_all {args : Array Value} {s : State} {A : Nat → Prop} (hs : ∀ c ∈ flatC (Jvm.Cond.and given_1 narrow_1), c.before args s = true) (hA : ∀ a : Nat, a < s.heap.size → ¬ A a) (i : Nat) (hi : i < 79) : ∃ q, vz_Ps args s A i q := by
  rcases (show i = 0 ∨ i = 1 ∨ i = 2 ∨ i = 3 ∨ i = 4 ∨ i = 5 ∨ i = 6 ∨ i = 7 ∨ i = 8 ∨ i = 9 ∨ i = 10 ∨ i = 11 ∨ i = 12 ∨ i = 13 ∨ i = 14 ∨ i = 15 ∨ i = 16 ∨ i = 17 ∨ i = 18 ∨ i = 19 ∨ i = 20 ∨ i = 21 ∨ i = 22 ∨ i = 23 ∨ i = 24 ∨ i = 25 ∨ i = 26 ∨ i = 27 ∨ i = 28 ∨ i = 29 ∨ i = 30 ∨ i = 31 ∨ i = 32 ∨ i = 33 ∨ i = 34 ∨ i = 35 ∨ i = 36 ∨ i = 37 ∨ i = 38 ∨ i = 39 ∨ i = 40 ∨ i = 41 ∨ i = 42 ∨ i = 43 ∨ i = 44 ∨ i = 45 ∨ i = 46 ∨ i = 47 ∨ i = 48 ∨ i = 49 ∨ i = 50 ∨ i = 51 ∨ i = 52 ∨ i = 53 ∨ i = 54 ∨ i = 55 ∨ i = 56 ∨ i = 57 ∨ i = 58 ∨ i = 59 ∨ i = 60 ∨ i = 61 ∨ i = 62 ∨ i = 63 ∨ i = 64 ∨ i = 65 ∨ i = 66 ∨ i = 67 ∨ i = 68 ∨ i = 69 ∨ i = 70 ∨ i = 71 ∨ i = 72 ∨ i = 73 ∨ i = 74 ∨ i = 75 ∨ i = 76 ∨ i = 77 ∨ i = 78 by omega) with rfl | rfl | rfl | rfl | rfl | rfl | rfl | rfl | rfl | rfl | rfl | rfl | rfl | rfl | rfl | rfl | rfl | rfl | rfl | rfl | rfl | rfl | rfl | rfl | rfl | rfl | rfl | rfl | rfl | rfl | rfl | rfl | rfl | rfl | rfl | rfl | rfl | rfl | rfl | rfl | rfl | rfl | rfl | rfl | rfl | rfl | rfl | rfl | rfl | rfl | rfl | rfl | rfl | rfl | rfl | rfl | rfl | rfl | rfl | rfl | rfl | rfl | rfl | rfl | rfl | rfl | rfl | rfl | rfl | rfl | rfl | rfl | rfl | rfl | rfl | rfl | rfl | rfl | rfl
  · exact ls_0 hs hA
  · exact ls_1 hs hA
  · exact ls_2 hs hA
  · exact ls_3 hs hA
  · exact ls_4 hs hA
  · exact ls_5 hs hA
  · exact ls_6 hs hA
  · exact ls_7 hs hA
  · exact ls_8 hs hA
  · exact ls_9 hs hA
  · exact ls_10 hs hA
  · exact ls_11 hs hA
  · exact ls_12 hs hA
  · exact ls_13 hs hA
  · exact ls_14 hs hA
  · exact ls_15 hs hA
  · exact ls_16 hs hA
  · exact ls_17 hs hA
  · exact ls_18 hs hA
  · exact ls_19 hs hA
  · exact ls_20 hs hA
  · exact ls_21 hs hA
  · exact ls_22 hs hA
  · exact ls_23 hs hA
  · exact ls_24 hs hA
  · exact ls_25 hs hA
  · exact ls_26 hs hA
  · exact ls_27 hs hA
  · exact ls_28 hs hA
  · exact ls_29 hs hA
  · exact ls_30 hs hA
  · exact ls_31 hs hA
  · exact ls_32 hs hA
  · exact ls_33 hs hA
  · exact ls_34 hs hA
  · exact ls_35 hs hA
  · exact ls_36 hs hA
  · exact ls_37 hs hA
  · exact ls_38 hs hA
  · exact ls_39 hs hA
  · exact ls_40 hs hA
  · exact ls_41 hs hA
  · exact ls_42 hs hA
  · exact ls_43 hs hA
  · exact ls_44 hs hA
  · exact ls_45 hs hA
  · exact ls_46 hs hA
  · exact ls_47 hs hA
  · exact ls_48 hs hA
  · exact ls_49 hs hA
  · exact ls_50 hs hA
  · exact ls_51 hs hA
  · exact ls_52 hs hA
  · exact ls_53 hs hA
  · exact ls_54 hs hA
  · exact ls_55 hs hA
  · exact ls_56 hs hA
  · exact ls_57 hs hA
  · exact ls_58 hs hA
  · exact ls_59 hs hA
  · exact ls_60 hs hA
  · exact ls_61 hs hA
  · exact ls_62 hs hA
  · exact ls_63 hs hA
  · exact ls_64 hs hA
  · exact ls_65 hs hA
  · exact ls_66 hs hA
  · exact ls_67 hs hA
  · exact ls_68 hs hA
  · exact ls_69 hs hA
  · exact ls_70 hs hA
  · exact ls_71 hs hA
  · exact ls_72 hs hA
  · exact ls_73 hs hA
  · exact ls_74 hs hA
  · exact ls_75 hs hA
  · exact ls_76 hs hA
  · exact ls_77 hs hA
  · exact ls_78 hs hA
theorem ls_ref : ∀ e ∈ strE, Cond.stringRef e.1 e.2.1 e.2.2 ∈ lw_tbl := by decide +kernel
theorem vz_lit : vz_Lit := by
  intro b s hgv hts
  have hs := flat_of_before _ hgv
  have hA : ∀ a : Nat, a < s.heap.size → ¬ (fun q : Nat => s.heap.size ≤ q) a := fun a h q => absurd q (Nat.not_le.mpr h)
  have h0 : ∀ i : Nat, ∃ q : Nat × Nat, i < 79 → vz_Ps #[Value.ref b] s (fun q : Nat => s.heap.size ≤ q) i q := by
    intro i
    by_cases hi : i < 79
    · obtain ⟨q, hq⟩ := ls_all hs hA i hi
      exact ⟨q, fun _ => hq⟩
    · exact ⟨(0, 0), fun h => absurd h hi⟩
  obtain ⟨sa, hsa⟩ := Classical.axiomOfChoice h0
  refine ⟨sa, fun i hi => (hsa i hi).2, fun i e he => ?_, va_Zof (hts (.laysStatic "java/lang/String" "COMPACT_STRINGS" "Z") (by decide +kernel)) (hts (.initialized "java/lang/String") (by decide +kernel)) (va_eqi (hs (.eq (.static "java/lang/String" "COMPACT_STRINGS" "Z") (.int 1)) (by decide +kernel))) hA, ?_⟩
  · have hi : i < 79 := (List.getElem?_eq_some_iff.mp he).1
    have hg : strE.getD i ("", 0, "") = e := by rw [List.getD_eq_getElem?_getD, he]; rfl
    have h1 := (hsa i hi).1
    rw [hg] at h1
    exact vk_R.of (hts _ (ls_ref e (List.mem_of_getElem? he))) h1
  · have h9 := hs (.isRef (.static "jdk/internal/util/Preconditions" "SIOOBE_FORMATTER" "Ljava/util/function/BiFunction;")) (by decide +kernel)
    rcases va_Zqof (hts (.laysStatic "jdk/internal/util/Preconditions" "SIOOBE_FORMATTER" "Ljava/util/function/BiFunction;") (by decide +kernel)) (hts (.initialized "jdk/internal/util/Preconditions") (by decide +kernel)) h9 hA with h | ⟨r, h⟩
    · exact ⟨.null, Or.inl rfl, h⟩
    · exact ⟨.ref r, Or.inr ⟨r, rfl⟩, h⟩
