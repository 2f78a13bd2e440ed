def vz_Cx (p : Program) (s : State) (m : MethodId) (meth : Method) (c : Code) (cc : ByteArray) (maxL : Nat) (ret : Option FieldType) (own : String) (nm : String) (D : va_G) (tys : List (ClassId × FieldType)) (sa : Nat → Nat × Nat) (A : Nat → Prop) (args : Array Value) : Prop :=
  p.tables.exec = Jvm.exec ∧ c.code = cc ∧ meth.sig.returnType = ret ∧ c.maxLocals = maxL ∧ s.vm.findClass own = some m.cls ∧ (∀ w ∈ CW, w.before args s = true) ∧ meth.locks = false ∧ meth.name = nm ∧ (∀ w ∈ NW, va_Nw w s) ∧ va_K D classes tys s ∧ (∀ q : Nat, s.heap.size ≤ q → A q) ∧ vz_SX sa A s s.heap
theorem vz_guard {α : Type} {P : Prop} {d : Decidable P} {a : Option α} {r : α} (h : (if P then a else none) = some r) : P ∧ a = some r := by
  by_cases q : P
  · rw [if_pos q] at h; exact ⟨q, h⟩
  · rw [if_neg q] at h; cases h
theorem vz_bind {α β : Type} {x : Option α} {f : α → Option β} {r : β} (h : x.bind f = some r) : ∃ o, x = some o ∧ f o = some r := by
  cases x with
  | none => cases h
  | some o => exact ⟨o, rfl, h⟩
theorem vz_nb {v : Int32} (h : v = 0 ∨ v = 1) : narrow .boolean (.int v) = .int v := by
  rcases h with h | h <;> (rw [h]; rfl)
theorem vz_fb {v : Int32} (h : v = 0 ∨ v = 1) : fits .boolean (.int v) = true := by
  rcases h with h | h <;> (rw [h]; rfl)
