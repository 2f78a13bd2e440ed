def strE : List (String × Nat × String) := [("LinkEngine", 375, "code"), ("LinkEngine", 377, "braid"), ("LinkEngine", 379, "undo"), ("LinkEngine", 380, "slide"), ("LinkEngine", 381, "twist"), ("LinkEngine", 382, "push"), ("LinkEngine", 383, "simplify"), ("LinkEngine", 384, "mirror"), ("LinkEngine", 385, "reverse"), ("LinkEngine", 386, "change"), ("LinkEngine", 387, "smooth"), ("LinkEngine", 388, "number"), ("LinkEngine", 389, "show"), ("LinkEngine", 391, "count"), ("LinkEngine", 392, "faces"), ("LinkEngine", 393, "bracket"), ("LinkEngine", 394, "jones"), ("LinkEngine", 396, "alexander"), ("LinkEngine", 397, ""), ("LinkEngine$Reader", 93, "o"), ("LinkEngine$Reader", 125, "over"), ("LinkEngine$Reader", 127, "under"), ("LinkEngine", 399, "t"), ("LinkEngine", 401, "A"), ("LinkEngine", 283, "no 0"), ("LinkEngine$Paper", 40, "# "), ("LinkEngine", 241, "ok"), ("LinkEngine", 288, "# no"), ("LinkEngine", 243, "no"), ("LinkEngine", 319, "# undone"), ("LinkEngine$Paper", 73, " +["), ("LinkEngine$Paper", 75, " -["), ("LinkEngine$Paper", 77, ", "), ("LinkEngine$Paper", 85, " o"), ("LinkEngine", 321, "#"), ("LinkEngine", 351, "many"), ("LinkEngine$Paper", 90, " = "), ("LinkEngine$Paper", 115, "-"), ("LinkEngine$Paper", 117, ""), ("LinkEngine$Paper", 119, " - "), ("LinkEngine$Paper", 121, " + "), ("LinkEngine", 373, "yes"), ("LinkEngineModel", 210, "code"), ("LinkEngineModel", 212, "braid"), ("LinkEngineModel", 214, "undo"), ("LinkEngineModel", 216, "slide"), ("LinkEngineModel", 218, "twist"), ("LinkEngineModel", 220, "push"), ("LinkEngineModel", 222, "simplify"), ("LinkEngineModel", 224, "mirror"), ("LinkEngineModel", 226, "reverse"), ("LinkEngineModel", 228, "change"), ("LinkEngineModel", 230, "smooth"), ("LinkEngineModel", 232, "number"), ("LinkEngineModel", 233, "show"), ("LinkEngineModel", 235, "count"), ("LinkEngineModel", 237, "faces"), ("LinkEngineModel", 239, "bracket"), ("LinkEngineModel", 241, "jones"), ("LinkEngineModel", 243, "alexander"), ("LinkEngineModel", 256, "o"), ("LinkEngineModel", 202, "over"), ("LinkEngineModel", 208, "under"), ("LinkEngineModel", 261, "t"), ("LinkEngineModel", 263, "A"), ("LinkEngineModel", 550, "no 0"), ("LinkEngineModel", 517, "# "), ("LinkEngineModel", 523, "ok"), ("LinkEngineModel", 564, "# no"), ("LinkEngineModel", 525, "no"), ("LinkEngineModel", 575, "# undone"), ("LinkEngineModel", 530, "["), ("LinkEngineModel", 532, ", "), ("LinkEngineModel", 534, " o"), ("LinkEngineModel", 609, "many"), ("LinkEngineModel", 539, " = "), ("LinkEngineModel", 541, " - "), ("LinkEngineModel", 543, " + "), ("LinkEngineModel", 620, "yes")]
def strL : List Nat := [4, 5, 4, 5, 5, 4, 8, 6, 7, 6, 6, 6, 4, 5, 5, 7, 5, 9, 0, 1, 4, 5, 1, 1, 4, 2, 2, 4, 2, 8, 3, 3, 2, 2, 1, 4, 3, 1, 0, 3, 3, 3, 4, 5, 4, 5, 5, 4, 8, 6, 7, 6, 6, 6, 4, 5, 5, 7, 5, 9, 1, 4, 5, 1, 1, 4, 2, 2, 4, 2, 8, 1, 2, 2, 4, 3, 3, 3, 3]
def strB : List (List Int32) := [[99, 111, 100, 101], [98, 114, 97, 105, 100], [117, 110, 100, 111], [115, 108, 105, 100, 101], [116, 119, 105, 115, 116], [112, 117, 115, 104], [115, 105, 109, 112, 108, 105, 102, 121], [109, 105, 114, 114, 111, 114], [114, 101, 118, 101, 114, 115, 101], [99, 104, 97, 110, 103, 101], [115, 109, 111, 111, 116, 104], [110, 117, 109, 98, 101, 114], [115, 104, 111, 119], [99, 111, 117, 110, 116], [102, 97, 99, 101, 115], [98, 114, 97, 99, 107, 101, 116], [106, 111, 110, 101, 115], [97, 108, 101, 120, 97, 110, 100, 101, 114], [], [111], [111, 118, 101, 114], [117, 110, 100, 101, 114], [116], [65], [110, 111, 32, 48], [35, 32], [111, 107], [35, 32, 110, 111], [110, 111], [35, 32, 117, 110, 100, 111, 110, 101], [32, 43, 91], [32, 45, 91], [44, 32], [32, 111], [35], [109, 97, 110, 121], [32, 61, 32], [45], [], [32, 45, 32], [32, 43, 32], [121, 101, 115], [99, 111, 100, 101], [98, 114, 97, 105, 100], [117, 110, 100, 111], [115, 108, 105, 100, 101], [116, 119, 105, 115, 116], [112, 117, 115, 104], [115, 105, 109, 112, 108, 105, 102, 121], [109, 105, 114, 114, 111, 114], [114, 101, 118, 101, 114, 115, 101], [99, 104, 97, 110, 103, 101], [115, 109, 111, 111, 116, 104], [110, 117, 109, 98, 101, 114], [115, 104, 111, 119], [99, 111, 117, 110, 116], [102, 97, 99, 101, 115], [98, 114, 97, 99, 107, 101, 116], [106, 111, 110, 101, 115], [97, 108, 101, 120, 97, 110, 100, 101, 114], [111], [111, 118, 101, 114], [117, 110, 100, 101, 114], [116], [65], [110, 111, 32, 48], [35, 32], [111, 107], [35, 32, 110, 111], [110, 111], [35, 32, 117, 110, 100, 111, 110, 101], [91], [44, 32], [32, 111], [109, 97, 110, 121], [32, 61, 32], [32, 45, 32], [32, 43, 32], [121, 101, 115]]
/-! BASE: contracts over one list of words (CW), one list of nest mates' links (NW), one table of array classes; calls with the frame rule inside. -/
def vz_nest : Cond → Bool
  | .fieldLinkNest .. => true
  | .methodLinkNest .. => true
  | _ => false
theorem vz_nest_on {w : Cond} (h : vz_nest w = true) : w.onTables = true := by
  cases w <;> first | rfl | (simp [vz_nest] at h)
theorem vz_nest_warm {w : Cond} {s U : State} (h : vz_nest w = true) (hW : s.WarmedH U.vm) (hZ : va_Nw w s) : va_Nw w U := by
  cases w <;> first | exact va_Nw.warmF hW hZ | exact va_Nw.warmM hW hZ | (simp [vz_nest] at h)
theorem vz_nw_all : NW.all vz_nest = true := by decide +kernel
theorem vz_nw_ok : ∀ w ∈ NW, vz_nest w = true := fun w h => List.all_eq_true.mp vz_nw_all w h
theorem vz_cw_all : CW.all goodWord = true := by decide +kernel
theorem vz_cw_ok : ∀ w ∈ CW, (w.onTables && w.keeps) = true ∨ ∃ ty, w = .arrayClass ty := fun w h => good_of_word (List.all_eq_true.mp vz_cw_all w h)
theorem vz_good {w : Cond} (h : w ∈ CW) : GoodIn CW (w :: CW) := by
  intro v hv
  rcases List.mem_cons.mp hv with e | hv
  · rw [e]; exact ⟨h, vz_cw_ok w h⟩
  · exact ⟨hv, vz_cw_ok v hv⟩
def vz_SX (sa : Nat → Nat × Nat) (A : Nat → Prop) (U : State) (H : Heap) : Prop :=
  (∀ i : Nat, i < 79 → va_O "java/lang/String" (sa i).1 A U H ∧ va_OF "java/lang/String" "coder" "B" (.int 0) (sa i).1 A U H ∧ va_OF "java/lang/String" "value" "[B" (.ref (sa i).2) (sa i).1 A U H ∧ va_T .byte (sa i).2 (strL.getD i 0) (fun j => .int ((strB.getD i []).getD j 0)) A U H) ∧
  (∀ (i : Nat) (e : String × Nat × String), strE[i]? = some e → vk_R e.1 e.2.1 e.2.2 (sa i).1 U) ∧
  va_Z "java/lang/String" "COMPACT_STRINGS" "Z" (.int 1) A U H ∧ ∃ v : Value, (v = .null ∨ ∃ r : Nat, v = .ref r) ∧ va_Z "jdk/internal/util/Preconditions" "SIOOBE_FORMATTER" "Ljava/util/function/BiFunction;" v A U H
theorem vz_SX.to {sa : Nat → Nat × Nat} {A B : Nat → Prop} {s U : State} {H : Heap} {locs : List Loc} (h : vz_SX sa A s s.heap) (hS : va_S A s.heap H locs) (hAB : ∀ q, B q → A q) (hU : U.heap = H) (hW : s.WarmedH U.vm) : vz_SX sa B U U.heap := by
  subst hU
  have hq : ∀ a : Nat, a < s.heap.size → ¬ A a → U.heap[a]? = s.heap[a]? := hS.2.1
  obtain ⟨g1, g2, g3, r, g5, g4⟩ := h
  refine ⟨fun i hi => ?_, fun i e he => (g2 i e he).warm hW, va_Z.moved hW.alike ((g3.kept hq).narrow hAB), r, g5, va_Z.moved hW.alike ((g4.kept hq).narrow hAB)⟩
  obtain ⟨h1, h2, h3, h4⟩ := g1 i hi
  exact ⟨va_O.moved hW.alike ((h1.kept hq).narrow hAB), va_OF.moved hW.alike ((h2.kept hq).narrow hAB), va_OF.moved hW.alike ((h3.kept hq).narrow hAB), va_T.moved hW.alike ((h4.kept hq).narrow hAB)⟩
theorem vz_SX.calling {sa : Nat → Nat × Nat} {A : Nat → Prop} {U : State} {g : JFrame} {mk : MethodId} {a : Array Value} (h : vz_SX sa A U U.heap) : vz_SX sa A (U.calling g mk a) (U.calling g mk a).heap := by
  obtain ⟨g1, g2, g3, r, g5, g4⟩ := h
  refine ⟨fun i hi => ?_, fun i e he => vk_R.same (u := U) (U := U.calling g mk a) rfl (g2 i e he), va_Z.moved (u := U) (U := U.calling g mk a) (Vm.Alike.refl U.vm) g3, r, g5, va_Z.moved (u := U) (U := U.calling g mk a) (Vm.Alike.refl U.vm) g4⟩
  obtain ⟨h1, h2, h3, h4⟩ := g1 i hi
  exact ⟨va_O.moved (u := U) (U := U.calling g mk a) (Vm.Alike.refl U.vm) h1, va_OF.moved (u := U) (U := U.calling g mk a) (Vm.Alike.refl U.vm) h2, va_OF.moved (u := U) (U := U.calling g mk a) (Vm.Alike.refl U.vm) h3, va_T.moved (u := U) (U := U.calling g mk a) (Vm.Alike.refl U.vm) h4⟩
def vz_pre (D : va_G) (tys : List (ClassId × FieldType)) (sa : Nat → Nat × Nat) (sz : Nat) (ws : va_W) (U : State) : Prop :=
  U.heap.size = sz ∧ va_P D classes ws U.heap ∧ va_K D classes tys U ∧ va_D (fun _ => True) ws ∧ (∀ w ∈ NW, va_Nw w U) ∧ vz_SX sa (va_A ws sz) U U.heap
def vz_B (D : va_G) (A : Nat → Prop) (w : va_W) (t : State) : Prop := va_P D classes w t.heap ∧ va_D A w
def vz_Br (D : va_G) (A : Nat → Prop) (ra : Nat) (w : va_W) (r : Nat) (t : State) : Prop := r = ra ∧ va_P D classes w t.heap ∧ va_D A w
theorem vz_blind {av : List Value} {D : va_G} {tys : List (ClassId × FieldType)} {sa : Nat → Nat × Nat} {sz : Nat} {ws : va_W} : FrameBlind (va_Pc av (vz_pre D tys sa sz ws)) := fun a U g mk q =>
  ⟨q.1, q.2.1, q.2.2.1, va_K.moved (u := U) (U := U.calling g mk a) (Vm.Alike.refl U.vm) q.2.2.2.1, q.2.2.2.2.1, fun w h => va_Nw.same (vz_nest_on (vz_nw_ok w h)) (u := U) (U := U.calling g mk a) rfl (q.2.2.2.2.2.1 w h), q.2.2.2.2.2.2.calling⟩
theorem vz_preOf {s : State} {H : Heap} {A : Nat → Prop} {D : va_G} {tys : List (ClassId × FieldType)} {sa : Nat → Nat × Nat} {wc : va_W} {av : List Value} (hK : va_K D classes tys s) (hP : va_P D classes wc H) (hD : va_D A wc) (hN : ∀ w ∈ NW, va_Nw w s) (hZ : ∀ U : State, U.heap = H → s.WarmedH U.vm → vz_SX sa (va_A wc H.size) U U.heap) :
    ∀ U : State, U.heap = H → s.WarmedH U.vm → va_Pc av (vz_pre D tys sa H.size wc) av.toArray U := fun U hU hW =>
  ⟨rfl, by rw [hU], by rw [hU]; exact hP, va_K.moved hW.alike hK, hD.weaken (fun _ _ _ _ => trivial), fun w h => vz_nest_warm (vz_nw_ok w h) hW (hN w h), hZ U hU hW⟩
def MtV (l : Launch) (y : MethodName) (cs : List Cond) (rm : Room) (D : va_G) (tys : List (ClassId × FieldType)) (sa : Nat → Nat × Nat) (av : List Value) (ws : va_W) (post : va_W → Prop) : Prop :=
  ∀ sz : Nat, Met l y cs rm (va_Pc av (vz_pre D tys sa sz ws)) (va_Qv post (vz_B D (va_A ws sz)) (va_A ws sz)) rm.cells rm.slots (va_A ws sz)
def MtI (l : Launch) (y : MethodName) (cs : List Cond) (rm : Room) (D : va_G) (tys : List (ClassId × FieldType)) (sa : Nat → Nat × Nat) (av : List Value) (ws : va_W) (post : Int32 → va_W → Prop) : Prop :=
  ∀ sz : Nat, Met l y cs rm (va_Pc av (vz_pre D tys sa sz ws)) (va_Qi post (vz_B D (va_A ws sz)) (va_A ws sz)) rm.cells rm.slots (va_A ws sz)
def MtL (l : Launch) (y : MethodName) (cs : List Cond) (rm : Room) (D : va_G) (tys : List (ClassId × FieldType)) (sa : Nat → Nat × Nat) (av : List Value) (ws : va_W) (post : Int64 → va_W → Prop) : Prop :=
  ∀ sz : Nat, Met l y cs rm (va_Pc av (vz_pre D tys sa sz ws)) (va_Ql post (vz_B D (va_A ws sz)) (va_A ws sz)) rm.cells rm.slots (va_A ws sz)
def MtR (l : Launch) (y : MethodName) (cs : List Cond) (rm : Room) (D : va_G) (tys : List (ClassId × FieldType)) (sa : Nat → Nat × Nat) (av : List Value) (ws : va_W) (ra : Nat) (post : va_W → Prop) : Prop :=
  ∀ sz : Nat, Met l y cs rm (va_Pc av (vz_pre D tys sa sz ws)) (va_Qr post (vz_Br D (va_A ws sz) ra) (va_A ws sz)) rm.cells rm.slots (va_A ws sz)
/-- what a method has at its start, for a walk -/
def vz_At (p : Program) (s : State) (m : MethodId) (meth : Method) (c : Code) (cc : ByteArray) (maxL : Nat) (ret : Option FieldType) (own : String) (nm : String) (D : va_G) (tys : List (ClassId × FieldType)) (sa : Nat → Nat × Nat) (ws : va_W) (A : Nat → Prop) (args : Array Value) : Prop :=
  p.tables.exec = Jvm.exec ∧ c.code = cc ∧ meth.sig.returnType = ret ∧ c.maxLocals = maxL ∧ s.vm.findClass own = some m.cls ∧ (∀ w ∈ CW, w.before args s = true) ∧ meth.locks = false ∧ meth.name = nm ∧ (∀ w ∈ NW, va_Nw w s) ∧ va_K D classes tys s ∧ va_P D classes ws s.heap ∧ va_D A ws ∧ (∀ q : Nat, s.heap.size ≤ q → A q) ∧ va_S A s.heap s.heap [] ∧ vz_SX sa A s s.heap
theorem vz_start {l : Launch} {y : MethodName} {rm : Room} {D : va_G} {tys : List (ClassId × FieldType)} {sa : Nat → Nat × Nat} {av : List Value} {ws : va_W} {cc : ByteArray} {maxL : Nat} {ret : Option FieldType} {lv0 : List (Nat × Value)} {mc ms : Nat} {Qc : (Nat → Prop) → Array Value → State → Outcome → State → Prop} {sz : Nat}
    (hy : plainName y.cls = true) (hlen : (lg_sl av).length ≤ maxL) (hlv : lv_args 0 av = lv0)
    (body : ∀ (p : Program) (e : Env) (s : State) (m : MethodId) (below : List Frame) (meth : Method) (c : Code) (A : Nat → Prop) (ls : Array Slot), vz_At p s m meth c cc maxL ret y.cls y.name D tys sa ws A av.toArray → lv_has ls maxL lv0 →
      W p l e rm s m av.toArray below meth c s.heap [] 0 0 (MQ below (Qc A) av.toArray s mc ms A) (F0 m 0 ls [])) :
    Met l y (.code y cc maxL ret :: CW) rm (va_Pc av (vz_pre D tys sa sz ws)) (Qc (va_A ws sz)) mc ms (va_A ws sz) := by
  refine Met.ofW (cc := cc) (maxL := maxL) (ret := ret) hy rfl ?_
  intro p e s m args below meth c s₁ B hml hv
  obtain ⟨rfl, hsz, hP, hK, hD0, hN, hZ⟩ := hv
  subst hsz
  have hts := atoms_spec (ws := .code y cc maxL ret :: CW) B.pre
  have hl := lv_entry av (n := maxL) hlen
  rw [lg_entry_eq]
  exact body p e s m below meth c (va_A ws s.heap.size) _ ⟨B.exec, B.bytes, B.returns, hml, findClass_of_methodNamed B.named, fun w h => hts w (List.mem_cons_of_mem _ h), B.notSynchronized, (name_of_methodNamed B.named B.method).1, hN, hK, hP, hD0.self, fun q h => Or.inr h, va_S.rf, hZ⟩ (hlv ▸ hl)
section VZ
variable {p : Program} {l : Launch} {e : Env} {R : Room} {s : State} {m : MethodId} {args : Array Value} {below : List Frame} {meth : Method} {c : Code} {H : Heap} {locs : List Loc} {cells slots : Nat} {Q : State → Prop}
variable {cc : ByteArray} {pc : Nat} {ls : Array Slot} {rest : List Value} {D : va_G} {cl : List vw_C} {A : Nat → Prop} {a : Nat} {tys : List (ClassId × FieldType)} {ws : va_W} {H0 : Heap}
theorem vz_topi {x y : Int32} (h : x = y) (k : W p l e R s m args below meth c H locs cells slots Q (F0 m pc ls (.int y :: rest))) : W p l e R s m args below meth c H locs cells slots Q (F0 m pc ls (.int x :: rest)) := by
  rw [h]; exact k
theorem vz_topl {x y : Int64} (h : x = y) (k : W p l e R s m args below meth c H locs cells slots Q (F0 m pc ls (.long y :: rest))) : W p l e R s m args below meth c H locs cells slots Q (F0 m pc ls (.long x :: rest)) := by
  rw [h]; exact k
theorem vz_if_eq_t (hexec : p.tables.exec = Jvm.exec) (hb : c.code = cc) {x : Int32} {off : Int} {tgt : Nat} (hdg : decode cc pc = .ok (.ifCond .eq off, 3)) (ht : (pc : Int) + off = (tgt : Int)) (h : x = 0) (k : W p l e R s m args below meth c H locs cells slots Q (F0 m tgt ls rest)) : W p l e R s m args below meth c H locs cells slots Q (F0 m pc ls (.int x :: rest)) := lv_if_eq hexec hb hdg ht (fun _ => k) (fun q => absurd h q)
theorem vz_if_eq_f (hexec : p.tables.exec = Jvm.exec) (hb : c.code = cc) {x : Int32} {off : Int} {tgt : Nat} (hdg : decode cc pc = .ok (.ifCond .eq off, 3)) (ht : (pc : Int) + off = (tgt : Int)) (h : ¬ x = 0) (k : W p l e R s m args below meth c H locs cells slots Q (F0 m (pc + 3) ls rest)) : W p l e R s m args below meth c H locs cells slots Q (F0 m pc ls (.int x :: rest)) := lv_if_eq hexec hb hdg ht (fun q => absurd q h) (fun _ => k)
theorem vz_icmp_eq_t (hexec : p.tables.exec = Jvm.exec) (hb : c.code = cc) {x y : Int32} {off : Int} {tgt : Nat} (hdg : decode cc pc = .ok (.if_icmp .eq off, 3)) (ht : (pc : Int) + off = (tgt : Int)) (h : x = y) (k : W p l e R s m args below meth c H locs cells slots Q (F0 m tgt ls rest)) : W p l e R s m args below meth c H locs cells slots Q (F0 m pc ls (.int y :: .int x :: rest)) := lv_icmp_eq hexec hb hdg ht (fun _ => k) (fun q => absurd h q)
theorem vz_icmp_eq_f (hexec : p.tables.exec = Jvm.exec) (hb : c.code = cc) {x y : Int32} {off : Int} {tgt : Nat} (hdg : decode cc pc = .ok (.if_icmp .eq off, 3)) (ht : (pc : Int) + off = (tgt : Int)) (h : ¬ x = y) (k : W p l e R s m args below meth c H locs cells slots Q (F0 m (pc + 3) ls rest)) : W p l e R s m args below meth c H locs cells slots Q (F0 m pc ls (.int y :: .int x :: rest)) := lv_icmp_eq hexec hb hdg ht (fun q => absurd q h) (fun _ => k)
theorem vz_if_ne_t (hexec : p.tables.exec = Jvm.exec) (hb : c.code = cc) {x : Int32} {off : Int} {tgt : Nat} (hdg : decode cc pc = .ok (.ifCond .ne off, 3)) (ht : (pc : Int) + off = (tgt : Int)) (h : ¬ x = 0) (k : W p l e R s m args below meth c H locs cells slots Q (F0 m tgt ls rest)) : W p l e R s m args below meth c H locs cells slots Q (F0 m pc ls (.int x :: rest)) := lv_if_ne hexec hb hdg ht (fun _ => k) (fun q => absurd q h)
theorem vz_if_ne_f (hexec : p.tables.exec = Jvm.exec) (hb : c.code = cc) {x : Int32} {off : Int} {tgt : Nat} (hdg : decode cc pc = .ok (.ifCond .ne off, 3)) (ht : (pc : Int) + off = (tgt : Int)) (h : x = 0) (k : W p l e R s m args below meth c H locs cells slots Q (F0 m (pc + 3) ls rest)) : W p l e R s m args below meth c H locs cells slots Q (F0 m pc ls (.int x :: rest)) := lv_if_ne hexec hb hdg ht (fun q => absurd h q) (fun _ => k)
theorem vz_icmp_ne_t (hexec : p.tables.exec = Jvm.exec) (hb : c.code = cc) {x y : Int32} {off : Int} {tgt : Nat} (hdg : decode cc pc = .ok (.if_icmp .ne off, 3)) (ht : (pc : Int) + off = (tgt : Int)) (h : ¬ x = y) (k : W p l e R s m args below meth c H locs cells slots Q (F0 m tgt ls rest)) : W p l e R s m args below meth c H locs cells slots Q (F0 m pc ls (.int y :: .int x :: rest)) := lv_icmp_ne hexec hb hdg ht (fun _ => k) (fun q => absurd q h)
theorem vz_icmp_ne_f (hexec : p.tables.exec = Jvm.exec) (hb : c.code = cc) {x y : Int32} {off : Int} {tgt : Nat} (hdg : decode cc pc = .ok (.if_icmp .ne off, 3)) (ht : (pc : Int) + off = (tgt : Int)) (h : x = y) (k : W p l e R s m args below meth c H locs cells slots Q (F0 m (pc + 3) ls rest)) : W p l e R s m args below meth c H locs cells slots Q (F0 m pc ls (.int y :: .int x :: rest)) := lv_icmp_ne hexec hb hdg ht (fun q => absurd h q) (fun _ => k)
theorem vz_if_lt_t (hexec : p.tables.exec = Jvm.exec) (hb : c.code = cc) {x : Int32} {off : Int} {tgt : Nat} (hdg : decode cc pc = .ok (.ifCond .lt off, 3)) (ht : (pc : Int) + off = (tgt : Int)) (h : x < 0) (k : W p l e R s m args below meth c H locs cells slots Q (F0 m tgt ls rest)) : W p l e R s m args below meth c H locs cells slots Q (F0 m pc ls (.int x :: rest)) := lv_if_lt hexec hb hdg ht (fun _ => k) (fun q => absurd h q)
theorem vz_if_lt_f (hexec : p.tables.exec = Jvm.exec) (hb : c.code = cc) {x : Int32} {off : Int} {tgt : Nat} (hdg : decode cc pc = .ok (.ifCond .lt off, 3)) (ht : (pc : Int) + off = (tgt : Int)) (h : ¬ x < 0) (k : W p l e R s m args below meth c H locs cells slots Q (F0 m (pc + 3) ls rest)) : W p l e R s m args below meth c H locs cells slots Q (F0 m pc ls (.int x :: rest)) := lv_if_lt hexec hb hdg ht (fun q => absurd q h) (fun _ => k)
theorem vz_icmp_lt_t (hexec : p.tables.exec = Jvm.exec) (hb : c.code = cc) {x y : Int32} {off : Int} {tgt : Nat} (hdg : decode cc pc = .ok (.if_icmp .lt off, 3)) (ht : (pc : Int) + off = (tgt : Int)) (h : x < y) (k : W p l e R s m args below meth c H locs cells slots Q (F0 m tgt ls rest)) : W p l e R s m args below meth c H locs cells slots Q (F0 m pc ls (.int y :: .int x :: rest)) := lv_icmp_lt hexec hb hdg ht (fun _ => k) (fun q => absurd h q)
theorem vz_icmp_lt_f (hexec : p.tables.exec = Jvm.exec) (hb : c.code = cc) {x y : Int32} {off : Int} {tgt : Nat} (hdg : decode cc pc = .ok (.if_icmp .lt off, 3)) (ht : (pc : Int) + off = (tgt : Int)) (h : ¬ x < y) (k : W p l e R s m args below meth c H locs cells slots Q (F0 m (pc + 3) ls rest)) : W p l e R s m args below meth c H locs cells slots Q (F0 m pc ls (.int y :: .int x :: rest)) := lv_icmp_lt hexec hb hdg ht (fun q => absurd q h) (fun _ => k)
theorem vz_if_ge_t (hexec : p.tables.exec = Jvm.exec) (hb : c.code = cc) {x : Int32} {off : Int} {tgt : Nat} (hdg : decode cc pc = .ok (.ifCond .ge off, 3)) (ht : (pc : Int) + off = (tgt : Int)) (h : 0 ≤ x) (k : W p l e R s m args below meth c H locs cells slots Q (F0 m tgt ls rest)) : W p l e R s m args below meth c H locs cells slots Q (F0 m pc ls (.int x :: rest)) := lv_if_ge hexec hb hdg ht (fun _ => k) (fun q => absurd h q)
theorem vz_if_ge_f (hexec : p.tables.exec = Jvm.exec) (hb : c.code = cc) {x : Int32} {off : Int} {tgt : Nat} (hdg : decode cc pc = .ok (.ifCond .ge off, 3)) (ht : (pc : Int) + off = (tgt : Int)) (h : ¬ 0 ≤ x) (k : W p l e R s m args below meth c H locs cells slots Q (F0 m (pc + 3) ls rest)) : W p l e R s m args below meth c H locs cells slots Q (F0 m pc ls (.int x :: rest)) := lv_if_ge hexec hb hdg ht (fun q => absurd q h) (fun _ => k)
theorem vz_icmp_ge_t (hexec : p.tables.exec = Jvm.exec) (hb : c.code = cc) {x y : Int32} {off : Int} {tgt : Nat} (hdg : decode cc pc = .ok (.if_icmp .ge off, 3)) (ht : (pc : Int) + off = (tgt : Int)) (h : y ≤ x) (k : W p l e R s m args below meth c H locs cells slots Q (F0 m tgt ls rest)) : W p l e R s m args below meth c H locs cells slots Q (F0 m pc ls (.int y :: .int x :: rest)) := lv_icmp_ge hexec hb hdg ht (fun _ => k) (fun q => absurd h q)
theorem vz_icmp_ge_f (hexec : p.tables.exec = Jvm.exec) (hb : c.code = cc) {x y : Int32} {off : Int} {tgt : Nat} (hdg : decode cc pc = .ok (.if_icmp .ge off, 3)) (ht : (pc : Int) + off = (tgt : Int)) (h : ¬ y ≤ x) (k : W p l e R s m args below meth c H locs cells slots Q (F0 m (pc + 3) ls rest)) : W p l e R s m args below meth c H locs cells slots Q (F0 m pc ls (.int y :: .int x :: rest)) := lv_icmp_ge hexec hb hdg ht (fun q => absurd q h) (fun _ => k)
theorem vz_if_gt_t (hexec : p.tables.exec = Jvm.exec) (hb : c.code = cc) {x : Int32} {off : Int} {tgt : Nat} (hdg : decode cc pc = .ok (.ifCond .gt off, 3)) (ht : (pc : Int) + off = (tgt : Int)) (h : 0 < x) (k : W p l e R s m args below meth c H locs cells slots Q (F0 m tgt ls rest)) : W p l e R s m args below meth c H locs cells slots Q (F0 m pc ls (.int x :: rest)) := lv_if_gt hexec hb hdg ht (fun _ => k) (fun q => absurd h q)
theorem vz_if_gt_f (hexec : p.tables.exec = Jvm.exec) (hb : c.code = cc) {x : Int32} {off : Int} {tgt : Nat} (hdg : decode cc pc = .ok (.ifCond .gt off, 3)) (ht : (pc : Int) + off = (tgt : Int)) (h : ¬ 0 < x) (k : W p l e R s m args below meth c H locs cells slots Q (F0 m (pc + 3) ls rest)) : W p l e R s m args below meth c H locs cells slots Q (F0 m pc ls (.int x :: rest)) := lv_if_gt hexec hb hdg ht (fun q => absurd q h) (fun _ => k)
theorem vz_icmp_gt_t (hexec : p.tables.exec = Jvm.exec) (hb : c.code = cc) {x y : Int32} {off : Int} {tgt : Nat} (hdg : decode cc pc = .ok (.if_icmp .gt off, 3)) (ht : (pc : Int) + off = (tgt : Int)) (h : y < x) (k : W p l e R s m args below meth c H locs cells slots Q (F0 m tgt ls rest)) : W p l e R s m args below meth c H locs cells slots Q (F0 m pc ls (.int y :: .int x :: rest)) := lv_icmp_gt hexec hb hdg ht (fun _ => k) (fun q => absurd h q)
theorem vz_icmp_gt_f (hexec : p.tables.exec = Jvm.exec) (hb : c.code = cc) {x y : Int32} {off : Int} {tgt : Nat} (hdg : decode cc pc = .ok (.if_icmp .gt off, 3)) (ht : (pc : Int) + off = (tgt : Int)) (h : ¬ y < x) (k : W p l e R s m args below meth c H locs cells slots Q (F0 m (pc + 3) ls rest)) : W p l e R s m args below meth c H locs cells slots Q (F0 m pc ls (.int y :: .int x :: rest)) := lv_icmp_gt hexec hb hdg ht (fun q => absurd q h) (fun _ => k)
theorem vz_if_le_t (hexec : p.tables.exec = Jvm.exec) (hb : c.code = cc) {x : Int32} {off : Int} {tgt : Nat} (hdg : decode cc pc = .ok (.ifCond .le off, 3)) (ht : (pc : Int) + off = (tgt : Int)) (h : x ≤ 0) (k : W p l e R s m args below meth c H locs cells slots Q (F0 m tgt ls rest)) : W p l e R s m args below meth c H locs cells slots Q (F0 m pc ls (.int x :: rest)) := lv_if_le hexec hb hdg ht (fun _ => k) (fun q => absurd h q)
theorem vz_if_le_f (hexec : p.tables.exec = Jvm.exec) (hb : c.code = cc) {x : Int32} {off : Int} {tgt : Nat} (hdg : decode cc pc = .ok (.ifCond .le off, 3)) (ht : (pc : Int) + off = (tgt : Int)) (h : ¬ x ≤ 0) (k : W p l e R s m args below meth c H locs cells slots Q (F0 m (pc + 3) ls rest)) : W p l e R s m args below meth c H locs cells slots Q (F0 m pc ls (.int x :: rest)) := lv_if_le hexec hb hdg ht (fun q => absurd q h) (fun _ => k)
theorem vz_icmp_le_t (hexec : p.tables.exec = Jvm.exec) (hb : c.code = cc) {x y : Int32} {off : Int} {tgt : Nat} (hdg : decode cc pc = .ok (.if_icmp .le off, 3)) (ht : (pc : Int) + off = (tgt : Int)) (h : x ≤ y) (k : W p l e R s m args below meth c H locs cells slots Q (F0 m tgt ls rest)) : W p l e R s m args below meth c H locs cells slots Q (F0 m pc ls (.int y :: .int x :: rest)) := lv_icmp_le hexec hb hdg ht (fun _ => k) (fun q => absurd h q)
theorem vz_icmp_le_f (hexec : p.tables.exec = Jvm.exec) (hb : c.code = cc) {x y : Int32} {off : Int} {tgt : Nat} (hdg : decode cc pc = .ok (.if_icmp .le off, 3)) (ht : (pc : Int) + off = (tgt : Int)) (h : ¬ x ≤ y) (k : W p l e R s m args below meth c H locs cells slots Q (F0 m (pc + 3) ls rest)) : W p l e R s m args below meth c H locs cells slots Q (F0 m pc ls (.int y :: .int x :: rest)) := lv_icmp_le hexec hb hdg ht (fun q => absurd q h) (fun _ => k)
theorem vz_vret {post : va_W → Prop} {w : va_W} {mc ms : Nat} (hx : p.tables.exec = Jvm.exec) (hb : c.code = cc) (hr : meth.sig.returnType = none) (hlocks : meth.locks = false) (hP : va_P D classes w H) (hD : va_D A w) (hS : va_S A s.heap H locs) (h1 : cells ≤ mc) (h2 : slots ≤ ms) (hdg : decode cc pc = .ok (.return_, 1)) (hq : post w) :
    W p l e R s m args below meth c H locs cells slots (MQ below (va_Qv post (vz_B D A) A) args s mc ms A) (F0 m pc ls []) :=
  W.widen h1 h2 (W.vret hx hb hr (fun t ht hW => ⟨⟨w, rfl, hq, by rw [ht]; exact hP, hD⟩, hS.F ht⟩) hS.2.2 hdg (hlocks := hlocks))
theorem vz_iret {post : Int32 → va_W → Prop} {w : va_W} {mc ms : Nat} {v : Int32} {ty : FieldType} (hx : p.tables.exec = Jvm.exec) (hb : c.code = cc) (hr : meth.sig.returnType = some ty) (hn : narrow ty (.int v) = .int v) (hlocks : meth.locks = false) (hP : va_P D classes w H) (hD : va_D A w) (hS : va_S A s.heap H locs) (h1 : cells ≤ mc) (h2 : slots ≤ ms) (hdg : decode cc pc = .ok (.ireturn, 1)) (hq : post v w) :
    W p l e R s m args below meth c H locs cells slots (MQ below (va_Qi post (vz_B D A) A) args s mc ms A) (F0 m pc ls [.int v]) :=
  W.widen h1 h2 (W.zret hx hb hr hn (fun t ht hW => ⟨⟨v, w, rfl, hq, by rw [ht]; exact hP, hD⟩, hS.F ht⟩) hS.2.2 hdg (hlocks := hlocks))
theorem vz_lret {post : Int64 → va_W → Prop} {w : va_W} {mc ms : Nat} {v : Int64} (hx : p.tables.exec = Jvm.exec) (hb : c.code = cc) (hr : meth.sig.returnType = some .long) (hlocks : meth.locks = false) (hP : va_P D classes w H) (hD : va_D A w) (hS : va_S A s.heap H locs) (h1 : cells ≤ mc) (h2 : slots ≤ ms) (hdg : decode cc pc = .ok (.lreturn, 1)) (hq : post v w) :
    W p l e R s m args below meth c H locs cells slots (MQ below (va_Ql post (vz_B D A) A) args s mc ms A) (F0 m pc ls [.long v]) :=
  W.widen h1 h2 (W.lret hx hb hr (fun t ht hW => ⟨⟨v, w, rfl, hq, by rw [ht]; exact hP, hD⟩, hS.F ht⟩) hS.2.2 hdg (hlocks := hlocks))
theorem vz_aret {post : va_W → Prop} {w : va_W} {mc ms ra : Nat} {cn : String} (hx : p.tables.exec = Jvm.exec) (hb : c.code = cc) (hr : meth.sig.returnType = some (.object cn)) (hlocks : meth.locks = false) (hP : va_P D classes w H) (hD : va_D A w) (hS : va_S A s.heap H locs) (h1 : cells ≤ mc) (h2 : slots ≤ ms) (hdg : decode cc pc = .ok (.areturn, 1)) (hq : post w) :
    W p l e R s m args below meth c H locs cells slots (MQ below (va_Qr post (vz_Br D A ra) A) args s mc ms A) (F0 m pc ls [.ref ra]) :=
  W.widen h1 h2 (W.aret hx hb hr (Or.inl ⟨cn, rfl⟩) (Or.inr ⟨ra, rfl⟩) (fun t ht hW => ⟨⟨w, ra, rfl, hq, rfl, by rw [ht]; exact hP, hD⟩, hS.F ht⟩) hS.2.2 hdg (hlocks := hlocks))
theorem vz_newa (hexec : p.tables.exec = Jvm.exec) (hb : c.code = cc) {atype : ArrayType} {ty : FieldType} (hty : newarray.typeOf atype = ty) (harr : (Cond.arrayClass ty).before args s = true) (hK : va_K D cl tys s) (hP : va_P D cl ws H) (hD : va_D A ws) (hS : va_S A H0 H locs) (hA : ∀ q, H0.size ≤ q → A q)
    (t0 : Nat) {cA : ClassId} (ht : tys[t0]? = some (cA, ty)) (hob : ∀ C, ty ≠ .object C) {n : Int32} (N' : Nat) {a0 : vp_A} (ha : ∀ cA : ClassId, vp_cell cA a0 = arrV cA N' (fun _ => defaultValue ty)) (hn : ¬ n < 0) (hN : n.toNatClampNeg = N') (hbytes : N' * componentBytes ty ≤ 536870912) {k1 n1 : Nat} (hk1 : cells + 1 = k1) (hn1 : slots + N' = n1) (hcells : k1 ≤ R.cells) (hslots : n1 ≤ R.slots) (hdg : decode cc pc = .ok (.newarray atype, 2))
    (kk : ∀ (q : Nat) (H1 : Heap), va_P D cl (ws ++ [(q, .inl (cA, a0))]) H1 → va_D A (ws ++ [(q, .inl (cA, a0))]) → va_S A H0 H1 locs →
      W p l e R s m args below meth c H1 locs k1 n1 Q (F0 m (pc + 2) ls (.ref q :: rest))) : W p l e R s m args below meth c H locs cells slots Q (F0 m pc ls (.int n :: rest)) := by
  subst hty
  subst hk1
  subst hn1
  refine va_newa hexec hb harr rfl hK hP hD hS hA ha hn hN hbytes hcells hslots hdg (fun q cA' H1 hK1 hP1 hD1 hS1 => ?_)
  have h1 := (hK1.2 tys.length (cA', newarray.typeOf atype) (by simp)).2
  have h2 := (hK.2 t0 _ ht).2
  have he : cA' = cA := by
    generalize newarray.typeOf atype = ty at h1 h2 hob
    cases ty <;> first | exact absurd rfl (hob _) | exact Option.some.inj (h1.symm.trans h2)
  subst he
  exact kk q H1 hP1 hD1 hS1
theorem vz_arr {ty : FieldType} (h : (Cond.arrayClass ty).before args s = true) (hob : ∀ C, ty ≠ .object C) : ∃ cA : ClassId, ArrOfT s cA ty ∧ va_RA s cA ty := by
  obtain ⟨cA, kA, comp, hfind, hk, hkind⟩ := Cond.arrayClass_spec h
  refine ⟨cA, fun n z => ⟨fun k h => (by cases h), kA, hk, comp, hkind⟩, ?_⟩
  cases ty <;> first | exact absurd rfl (hob _) | exact hfind
theorem vz_iast (hexec : p.tables.exec = Jvm.exec) (hb : c.code = cc) (hK : va_K D cl tys s) (hP : va_P D cl ws H) (hD : va_D A ws) (hS : va_S A H0 H locs) (q0 t0 : Nat) {cA : ClassId} {n : Nat} {f : Nat → Int32} (ha : ws[q0]? = some (a, .inl (cA, n, .inl f))) (ht : tys[t0]? = some (cA, .int)) {i : Int32} {x : Int32} (hin : vp_in i n) (hdg : decode cc pc = .ok (.iastore, 1))
    (kk : ∀ (g : Nat → Int32) (H1 : Heap) (locs1 : List Loc), g = upd f i.toNatClampNeg x → va_P D cl (ws.set q0 (a, .inl (cA, n, .inl g))) H1 → va_D A (ws.set q0 (a, .inl (cA, n, .inl g))) → va_S A H0 H1 locs1 → W p l e R s m args below meth c H1 locs1 cells slots Q (F0 m (pc + 1) ls rest)) : W p l e R s m args below meth c H locs cells slots Q (F0 m pc ls (.int x :: .int i :: .ref a :: rest)) :=
  va_iast hexec hb hK hP hD hS q0 t0 ha ht hin hdg (fun H1 locs1 h1 h2 h3 => kk _ H1 locs1 rfl h1 h2 h3)
theorem vz_bast (hexec : p.tables.exec = Jvm.exec) (hb : c.code = cc) (hK : va_K D cl tys s) (hP : va_P D cl ws H) (hD : va_D A ws) (hS : va_S A H0 H locs) (q0 t0 : Nat) {cA : ClassId} {n : Nat} {f : Nat → Int32} (ha : ws[q0]? = some (a, .inl (cA, n, .inl f))) (ht : tys[t0]? = some (cA, .byte)) {i : Int32} {x : Int32} (hin : vp_in i n) (hdg : decode cc pc = .ok (.bastore, 1))
    (kk : ∀ (g : Nat → Int32) (H1 : Heap) (locs1 : List Loc), g = upd f i.toNatClampNeg (vp_nar .byte x) → va_P D cl (ws.set q0 (a, .inl (cA, n, .inl g))) H1 → va_D A (ws.set q0 (a, .inl (cA, n, .inl g))) → va_S A H0 H1 locs1 → W p l e R s m args below meth c H1 locs1 cells slots Q (F0 m (pc + 1) ls rest)) : W p l e R s m args below meth c H locs cells slots Q (F0 m pc ls (.int x :: .int i :: .ref a :: rest)) :=
  va_bast hexec hb hK hP hD hS q0 t0 ha ht hin hdg (fun H1 locs1 h1 h2 h3 => kk _ H1 locs1 rfl h1 h2 h3)
theorem vz_fm {α β : Type} {f : α → Option β} : ∀ {l : List α} {r : List β}, l.map f = r.map some → l.filterMap f = r
  | [], [], _ => rfl
  | [], _ :: _, h => by cases h
  | _ :: _, [], h => by cases h
  | x :: l, y :: r, h => by
    rw [List.map_cons, List.map_cons] at h
    injection h with h1 h2
    rw [List.filterMap_cons_some h1, vz_fm h2]
theorem vz_callIv {y : MethodName} {bytes : ByteArray} {maxL nL index n : Nat} {own : String} {rm : Room} {b : Nat} {As st0 : List Value} {wc wr : va_W} {post : va_W → Prop} (hx : p.tables.exec = Jvm.exec) (hb : c.code = cc) (hml : c.maxLocals = nL) (hown : s.vm.findClass own = some m.cls) (ht : ∀ w ∈ CW, w.before args s = true) (hN : ∀ w ∈ NW, va_Nw w s) {sa : Nat → Nat × Nat} (hZ : vz_SX sa A s s.heap) (hK : va_K D classes tys s) (hP : va_P D classes ws H) (hD : va_D A ws) (hS : va_S A s.heap H locs) (hA : ∀ q, s.heap.size ≤ q → A q) (hM : MtV l y (.code y bytes maxL none :: CW) rm D tys sa (.ref b :: As) wc post) (hcode : Cond.code y bytes maxL none ∈ CW) (hini : Cond.initialized y.cls ∈ CW) (hlink : Cond.methodLink own index y ∈ CW) (hinst : Cond.instanceMethod y ∈ CW) (hy1 : y.name = "<init>") (hd : y.cls ≠ "java/lang/invoke/MethodHandle" ∧ y.cls ≠ "java/lang/invoke/VarHandle" ∧ (parseMethodDescriptor y.desc).map (fun d => d.parameters.length) = some n) (hR : rm.frames + 1 ≤ R.frames ∧ 8 + (maxL + 11) + rm.locals ≤ R.locals) (isC isR : List Nat) (hC : isC.map (fun i => ws[i]?) = wc.map some) (hRr : isR.map (fun i => ws[i]?) = wr.map some) (hnC : va_nd isC = true) (hnR : va_nd isR = true) (hdis : ∀ i ∈ isR, i ∉ isC) (hn : As.length = n) (hsz : ls.size = nL) (hst : st0 = As.reverse ++ .ref b :: rest) (hroom : (rest.map fun v => v.category).sum ≤ 8) {k1 n1 : Nat} (hk1 : cells + rm.cells = k1) (hn1 : slots + rm.slots = n1) (hf : k1 ≤ R.cells ∧ n1 ≤ R.slots) (hdg : decode cc pc = .ok (.invokespecial index, 3))
    (kk : ∀ (w1 : va_W) (H1 : Heap) (locs1 : List Loc), post w1 → va_P D classes (wr ++ w1) H1 → va_D A (wr ++ w1) → va_S A s.heap H1 locs1 → W p l e R s m args below meth c H1 locs1 k1 n1 Q (F0 m (pc + 3) ls rest)) : W p l e R s m args below meth c H locs cells slots Q (F0 m pc ls st0) := by
  subst hst
  subst hk1
  subst hn1
  have hsC : isC.filterMap (fun i => ws[i]?) = wc := vz_fm hC
  have hPc := hP.sub (ws' := wc) isC hsC
  have hDc := hD.sub (ws' := wc) isC hnC hC
  have hFc := va_free (wc := wc) hD hS hA isC hC
  refine va_callv (va_runI (As := As) (rest := rest) ⟨hx, hb, hml, hown, ht⟩ (hM H.size) ⟨callB_of n ht (vz_good hcode) rfl rfl rfl (ht _ hini) (ht _ hlink) hd hR, hy1, ht _ hinst⟩ ⟨vz_blind, vz_preOf hK hPc hDc hN (fun U hU hW => hZ.to hS hFc hU hW)⟩ rfl hn hsz rfl (lv_room hroom) hdg hf) hS (fun q _ h => hFc q h) hFc (fun u t H1 locs1 ht1 hvm hw hB hz1 hk9 hS1 => ?_)
  obtain ⟨hP1, hD1⟩ := hB
  rw [ht1] at hP1
  obtain ⟨hP2, hD2⟩ := va_join (wr := wr) (w1 := u) hP hD isC isR hC hRr hnR hdis hk9 hFc hP1 hD1
  exact kk u H1 locs1 hw hP2 hD2 hS1
theorem vz_callINv {y : MethodName} {bytes : ByteArray} {maxL nL index n : Nat} {own : String} {rm : Room} {b : Nat} {As st0 : List Value} {wc wr : va_W} {post : va_W → Prop} (hx : p.tables.exec = Jvm.exec) (hb : c.code = cc) (hml : c.maxLocals = nL) (hown : s.vm.findClass own = some m.cls) (ht : ∀ w ∈ CW, w.before args s = true) (hN : ∀ w ∈ NW, va_Nw w s) {sa : Nat → Nat × Nat} (hZ : vz_SX sa A s s.heap) (hK : va_K D classes tys s) (hP : va_P D classes ws H) (hD : va_D A ws) (hS : va_S A s.heap H locs) (hA : ∀ q, s.heap.size ≤ q → A q) (hM : MtV l y (.code y bytes maxL none :: CW) rm D tys sa (.ref b :: As) wc post) (hcode : Cond.code y bytes maxL none ∈ CW) (hini : Cond.initialized y.cls ∈ CW) {host : String} (hlink : Cond.methodLinkNest own index y host ∈ NW) (hinst : Cond.instanceMethod y ∈ CW) (hy1 : y.name = "<init>") (hd : y.cls ≠ "java/lang/invoke/MethodHandle" ∧ y.cls ≠ "java/lang/invoke/VarHandle" ∧ (parseMethodDescriptor y.desc).map (fun d => d.parameters.length) = some n) (hR : rm.frames + 1 ≤ R.frames ∧ 8 + (maxL + 11) + rm.locals ≤ R.locals) (isC isR : List Nat) (hC : isC.map (fun i => ws[i]?) = wc.map some) (hRr : isR.map (fun i => ws[i]?) = wr.map some) (hnC : va_nd isC = true) (hnR : va_nd isR = true) (hdis : ∀ i ∈ isR, i ∉ isC) (hn : As.length = n) (hsz : ls.size = nL) (hst : st0 = As.reverse ++ .ref b :: rest) (hroom : (rest.map fun v => v.category).sum ≤ 8) {k1 n1 : Nat} (hk1 : cells + rm.cells = k1) (hn1 : slots + rm.slots = n1) (hf : k1 ≤ R.cells ∧ n1 ≤ R.slots) (hdg : decode cc pc = .ok (.invokespecial index, 3))
    (kk : ∀ (w1 : va_W) (H1 : Heap) (locs1 : List Loc), post w1 → va_P D classes (wr ++ w1) H1 → va_D A (wr ++ w1) → va_S A s.heap H1 locs1 → W p l e R s m args below meth c H1 locs1 k1 n1 Q (F0 m (pc + 3) ls rest)) : W p l e R s m args below meth c H locs cells slots Q (F0 m pc ls st0) := by
  subst hst
  subst hk1
  subst hn1
  have hsC : isC.filterMap (fun i => ws[i]?) = wc := vz_fm hC
  have hPc := hP.sub (ws' := wc) isC hsC
  have hDc := hD.sub (ws' := wc) isC hnC hC
  have hFc := va_free (wc := wc) hD hS hA isC hC
  refine va_callv (va_runIN (As := As) (rest := rest) ⟨hx, hb, hml, hown, ht⟩ (hM H.size) ⟨va_cnB n ht (vz_good hcode) rfl rfl rfl (hN _ hlink) (ht _ hini) hd hR, hy1, ht _ hinst⟩ ⟨vz_blind, vz_preOf hK hPc hDc hN (fun U hU hW => hZ.to hS hFc hU hW)⟩ rfl hn hsz rfl (lv_room hroom) hdg hf) hS (fun q _ h => hFc q h) hFc (fun u t H1 locs1 ht1 hvm hw hB hz1 hk9 hS1 => ?_)
  obtain ⟨hP1, hD1⟩ := hB
  rw [ht1] at hP1
  obtain ⟨hP2, hD2⟩ := va_join (wr := wr) (w1 := u) hP hD isC isR hC hRr hnR hdis hk9 hFc hP1 hD1
  exact kk u H1 locs1 hw hP2 hD2 hS1
theorem vz_callVv {y : MethodName} {bytes : ByteArray} {maxL nL index n : Nat} {own : String} {rm : Room} {b : Nat} {As st0 : List Value} {wc wr : va_W} {post : va_W → Prop} (hx : p.tables.exec = Jvm.exec) (hb : c.code = cc) (hml : c.maxLocals = nL) (hown : s.vm.findClass own = some m.cls) (ht : ∀ w ∈ CW, w.before args s = true) (hN : ∀ w ∈ NW, va_Nw w s) {sa : Nat → Nat × Nat} (hZ : vz_SX sa A s s.heap) (hK : va_K D classes tys s) (hP : va_P D classes ws H) (hD : va_D A ws) (hS : va_S A s.heap H locs) (hA : ∀ q, s.heap.size ≤ q → A q) (hM : MtV l y (.code y bytes maxL none :: CW) rm D tys sa (.ref b :: As) wc post) (hcode : Cond.code y bytes maxL none ∈ CW) (hini : Cond.initialized y.cls ∈ CW) (hlink : Cond.methodLink own index y ∈ CW) (hinst : Cond.instanceMethod y ∈ CW) {C : String} (hsel : Cond.selects C y y ∈ CW) {T : u_T} {N ci : Nat} {fs : List Value} (hc : classes[ci]? = some (C, T, N)) (q0 : Nat) (he : ws[q0]? = some (b, .inr (ci, fs))) (hd : y.cls ≠ "java/lang/invoke/MethodHandle" ∧ y.cls ≠ "java/lang/invoke/VarHandle" ∧ (parseMethodDescriptor y.desc).map (fun d => d.parameters.length) = some n) (hR : rm.frames + 1 ≤ R.frames ∧ 8 + (maxL + 11) + rm.locals ≤ R.locals) (isC isR : List Nat) (hC : isC.map (fun i => ws[i]?) = wc.map some) (hRr : isR.map (fun i => ws[i]?) = wr.map some) (hnC : va_nd isC = true) (hnR : va_nd isR = true) (hdis : ∀ i ∈ isR, i ∉ isC) (hn : As.length = n) (hsz : ls.size = nL) (hst : st0 = As.reverse ++ .ref b :: rest) (hroom : (rest.map fun v => v.category).sum ≤ 8) {k1 n1 : Nat} (hk1 : cells + rm.cells = k1) (hn1 : slots + rm.slots = n1) (hf : k1 ≤ R.cells ∧ n1 ≤ R.slots) (hdg : decode cc pc = .ok (.invokevirtual index, 3))
    (kk : ∀ (w1 : va_W) (H1 : Heap) (locs1 : List Loc), post w1 → va_P D classes (wr ++ w1) H1 → va_D A (wr ++ w1) → va_S A s.heap H1 locs1 → W p l e R s m args below meth c H1 locs1 k1 n1 Q (F0 m (pc + 3) ls rest)) : W p l e R s m args below meth c H locs cells slots Q (F0 m pc ls st0) := by
  subst hst
  subst hk1
  subst hn1
  have hsC : isC.filterMap (fun i => ws[i]?) = wc := vz_fm hC
  have hPc := hP.sub (ws' := wc) isC hsC
  have hDc := hD.sub (ws' := wc) isC hnC hC
  have hFc := va_free (wc := wc) hD hS hA isC hC
  refine va_callv (va_runV (As := As) (rest := rest) ⟨hx, hb, hml, hown, ht⟩ (hM H.size) ⟨callB_of n ht (vz_good hcode) rfl rfl rfl (ht _ hini) (ht _ hlink) hd hR, ht _ hinst, ht _ hsel⟩ ⟨vz_blind, va_recv hK hP hc he, vz_preOf hK hPc hDc hN (fun U hU hW => hZ.to hS hFc hU hW)⟩ rfl hn hsz rfl (lv_room hroom) hdg hf) hS (fun q _ h => hFc q h) hFc (fun u t H1 locs1 ht1 hvm hw hB hz1 hk9 hS1 => ?_)
  obtain ⟨hP1, hD1⟩ := hB
  rw [ht1] at hP1
  obtain ⟨hP2, hD2⟩ := va_join (wr := wr) (w1 := u) hP hD isC isR hC hRr hnR hdis hk9 hFc hP1 hD1
  exact kk u H1 locs1 hw hP2 hD2 hS1
theorem vz_callVi {y : MethodName} {bytes : ByteArray} {maxL nL index n : Nat} {own : String} {rm : Room} {b : Nat} {As st0 : List Value} {wc wr : va_W} {post : Int32 → va_W → Prop} (hx : p.tables.exec = Jvm.exec) (hb : c.code = cc) (hml : c.maxLocals = nL) (hown : s.vm.findClass own = some m.cls) (ht : ∀ w ∈ CW, w.before args s = true) (hN : ∀ w ∈ NW, va_Nw w s) {sa : Nat → Nat × Nat} (hZ : vz_SX sa A s s.heap) (hK : va_K D classes tys s) (hP : va_P D classes ws H) (hD : va_D A ws) (hS : va_S A s.heap H locs) (hA : ∀ q, s.heap.size ≤ q → A q) {rt : FieldType} (hM : MtI l y (.code y bytes maxL (some rt) :: CW) rm D tys sa (.ref b :: As) wc post) (hcode : Cond.code y bytes maxL (some rt) ∈ CW) (hini : Cond.initialized y.cls ∈ CW) (hlink : Cond.methodLink own index y ∈ CW) (hinst : Cond.instanceMethod y ∈ CW) {C : String} (hsel : Cond.selects C y y ∈ CW) {T : u_T} {N ci : Nat} {fs : List Value} (hc : classes[ci]? = some (C, T, N)) (q0 : Nat) (he : ws[q0]? = some (b, .inr (ci, fs))) (hd : y.cls ≠ "java/lang/invoke/MethodHandle" ∧ y.cls ≠ "java/lang/invoke/VarHandle" ∧ (parseMethodDescriptor y.desc).map (fun d => d.parameters.length) = some n) (hR : rm.frames + 1 ≤ R.frames ∧ 8 + (maxL + 11) + rm.locals ≤ R.locals) (isC isR : List Nat) (hC : isC.map (fun i => ws[i]?) = wc.map some) (hRr : isR.map (fun i => ws[i]?) = wr.map some) (hnC : va_nd isC = true) (hnR : va_nd isR = true) (hdis : ∀ i ∈ isR, i ∉ isC) (hn : As.length = n) (hsz : ls.size = nL) (hst : st0 = As.reverse ++ .ref b :: rest) (hroom : (rest.map fun v => v.category).sum ≤ 8) {k1 n1 : Nat} (hk1 : cells + rm.cells = k1) (hn1 : slots + rm.slots = n1) (hf : k1 ≤ R.cells ∧ n1 ≤ R.slots) (hdg : decode cc pc = .ok (.invokevirtual index, 3))
    (kk : ∀ (r : Int32) (w1 : va_W) (H1 : Heap) (locs1 : List Loc), post r w1 → va_P D classes (wr ++ w1) H1 → va_D A (wr ++ w1) → va_S A s.heap H1 locs1 → W p l e R s m args below meth c H1 locs1 k1 n1 Q (F0 m (pc + 3) ls (.int r :: rest))) : W p l e R s m args below meth c H locs cells slots Q (F0 m pc ls st0) := by
  subst hst
  subst hk1
  subst hn1
  have hsC : isC.filterMap (fun i => ws[i]?) = wc := vz_fm hC
  have hPc := hP.sub (ws' := wc) isC hsC
  have hDc := hD.sub (ws' := wc) isC hnC hC
  have hFc := va_free (wc := wc) hD hS hA isC hC
  refine va_calli (va_runV (As := As) (rest := rest) ⟨hx, hb, hml, hown, ht⟩ (hM H.size) ⟨callB_of n ht (vz_good hcode) rfl rfl rfl (ht _ hini) (ht _ hlink) hd hR, ht _ hinst, ht _ hsel⟩ ⟨vz_blind, va_recv hK hP hc he, vz_preOf hK hPc hDc hN (fun U hU hW => hZ.to hS hFc hU hW)⟩ rfl hn hsz rfl (lv_room hroom) hdg hf) hS (fun q _ h => hFc q h) hFc (fun r u t H1 locs1 ht1 hvm hw hB hz1 hk9 hS1 => ?_)
  obtain ⟨hP1, hD1⟩ := hB
  rw [ht1] at hP1
  obtain ⟨hP2, hD2⟩ := va_join (wr := wr) (w1 := u) hP hD isC isR hC hRr hnR hdis hk9 hFc hP1 hD1
  exact kk r u H1 locs1 hw hP2 hD2 hS1
theorem vz_callVr {y : MethodName} {bytes : ByteArray} {maxL nL index n : Nat} {own : String} {rm : Room} {b ra : Nat} {As st0 : List Value} {wc wr : va_W} {post : va_W → Prop} (hx : p.tables.exec = Jvm.exec) (hb : c.code = cc) (hml : c.maxLocals = nL) (hown : s.vm.findClass own = some m.cls) (ht : ∀ w ∈ CW, w.before args s = true) (hN : ∀ w ∈ NW, va_Nw w s) {sa : Nat → Nat × Nat} (hZ : vz_SX sa A s s.heap) (hK : va_K D classes tys s) (hP : va_P D classes ws H) (hD : va_D A ws) (hS : va_S A s.heap H locs) (hA : ∀ q, s.heap.size ≤ q → A q) {rt : FieldType} (hM : MtR l y (.code y bytes maxL (some rt) :: CW) rm D tys sa (.ref b :: As) wc ra post) (hcode : Cond.code y bytes maxL (some rt) ∈ CW) (hini : Cond.initialized y.cls ∈ CW) (hlink : Cond.methodLink own index y ∈ CW) (hinst : Cond.instanceMethod y ∈ CW) {C : String} (hsel : Cond.selects C y y ∈ CW) {T : u_T} {N ci : Nat} {fs : List Value} (hc : classes[ci]? = some (C, T, N)) (q0 : Nat) (he : ws[q0]? = some (b, .inr (ci, fs))) (hd : y.cls ≠ "java/lang/invoke/MethodHandle" ∧ y.cls ≠ "java/lang/invoke/VarHandle" ∧ (parseMethodDescriptor y.desc).map (fun d => d.parameters.length) = some n) (hR : rm.frames + 1 ≤ R.frames ∧ 8 + (maxL + 11) + rm.locals ≤ R.locals) (isC isR : List Nat) (hC : isC.map (fun i => ws[i]?) = wc.map some) (hRr : isR.map (fun i => ws[i]?) = wr.map some) (hnC : va_nd isC = true) (hnR : va_nd isR = true) (hdis : ∀ i ∈ isR, i ∉ isC) (hn : As.length = n) (hsz : ls.size = nL) (hst : st0 = As.reverse ++ .ref b :: rest) (hroom : (rest.map fun v => v.category).sum ≤ 8) {k1 n1 : Nat} (hk1 : cells + rm.cells = k1) (hn1 : slots + rm.slots = n1) (hf : k1 ≤ R.cells ∧ n1 ≤ R.slots) (hdg : decode cc pc = .ok (.invokevirtual index, 3))
    (kk : ∀ (w1 : va_W) (H1 : Heap) (locs1 : List Loc), post w1 → va_P D classes (wr ++ w1) H1 → va_D A (wr ++ w1) → va_S A s.heap H1 locs1 → W p l e R s m args below meth c H1 locs1 k1 n1 Q (F0 m (pc + 3) ls (.ref ra :: rest))) : W p l e R s m args below meth c H locs cells slots Q (F0 m pc ls st0) := by
  subst hst
  subst hk1
  subst hn1
  have hsC : isC.filterMap (fun i => ws[i]?) = wc := vz_fm hC
  have hPc := hP.sub (ws' := wc) isC hsC
  have hDc := hD.sub (ws' := wc) isC hnC hC
  have hFc := va_free (wc := wc) hD hS hA isC hC
  refine va_callr (va_runV (As := As) (rest := rest) ⟨hx, hb, hml, hown, ht⟩ (hM H.size) ⟨callB_of n ht (vz_good hcode) rfl rfl rfl (ht _ hini) (ht _ hlink) hd hR, ht _ hinst, ht _ hsel⟩ ⟨vz_blind, va_recv hK hP hc he, vz_preOf hK hPc hDc hN (fun U hU hW => hZ.to hS hFc hU hW)⟩ rfl hn hsz rfl (lv_room hroom) hdg hf) hS (fun q _ h => hFc q h) hFc (fun u rb t H1 locs1 ht1 hvm hw hB hz1 hk9 hS1 => ?_)
  obtain ⟨rfl, hP1, hD1⟩ := hB
  rw [ht1] at hP1
  obtain ⟨hP2, hD2⟩ := va_join (wr := wr) (w1 := u) hP hD isC isR hC hRr hnR hdis hk9 hFc hP1 hD1
  exact kk u H1 locs1 hw hP2 hD2 hS1
theorem vz_callSv {y : MethodName} {bytes : ByteArray} {maxL nL index n : Nat} {own : String} {rm : Room} {As st0 : List Value} {wc wr : va_W} {post : va_W → Prop} (hx : p.tables.exec = Jvm.exec) (hb : c.code = cc) (hml : c.maxLocals = nL) (hown : s.vm.findClass own = some m.cls) (ht : ∀ w ∈ CW, w.before args s = true) (hN : ∀ w ∈ NW, va_Nw w s) {sa : Nat → Nat × Nat} (hZ : vz_SX sa A s s.heap) (hK : va_K D classes tys s) (hP : va_P D classes ws H) (hD : va_D A ws) (hS : va_S A s.heap H locs) (hA : ∀ q, s.heap.size ≤ q → A q) (hM : MtV l y (.code y bytes maxL none :: CW) rm D tys sa As wc post) (hcode : Cond.code y bytes maxL none ∈ CW) (hini : Cond.initialized y.cls ∈ CW) (hlink : Cond.methodLink own index y ∈ CW) (hstat : Cond.static y ∈ CW) (hd : y.cls ≠ "java/lang/invoke/MethodHandle" ∧ y.cls ≠ "java/lang/invoke/VarHandle" ∧ (parseMethodDescriptor y.desc).map (fun d => d.parameters.length) = some n) (hR : rm.frames + 1 ≤ R.frames ∧ 8 + (maxL + 11) + rm.locals ≤ R.locals) (isC isR : List Nat) (hC : isC.map (fun i => ws[i]?) = wc.map some) (hRr : isR.map (fun i => ws[i]?) = wr.map some) (hnC : va_nd isC = true) (hnR : va_nd isR = true) (hdis : ∀ i ∈ isR, i ∉ isC) (hn : As.length = n) (hsz : ls.size = nL) (hst : st0 = As.reverse ++ rest) (hroom : (rest.map fun v => v.category).sum ≤ 8) {k1 n1 : Nat} (hk1 : cells + rm.cells = k1) (hn1 : slots + rm.slots = n1) (hf : k1 ≤ R.cells ∧ n1 ≤ R.slots) (hdg : decode cc pc = .ok (.invokestatic index, 3))
    (kk : ∀ (w1 : va_W) (H1 : Heap) (locs1 : List Loc), post w1 → va_P D classes (wr ++ w1) H1 → va_D A (wr ++ w1) → va_S A s.heap H1 locs1 → W p l e R s m args below meth c H1 locs1 k1 n1 Q (F0 m (pc + 3) ls rest)) : W p l e R s m args below meth c H locs cells slots Q (F0 m pc ls st0) := by
  subst hst
  subst hk1
  subst hn1
  have hsC : isC.filterMap (fun i => ws[i]?) = wc := vz_fm hC
  have hPc := hP.sub (ws' := wc) isC hsC
  have hDc := hD.sub (ws' := wc) isC hnC hC
  have hFc := va_free (wc := wc) hD hS hA isC hC
  refine va_callv (va_runS (As := As) (rest := rest) ⟨hx, hb, hml, hown, ht⟩ (hM H.size) ⟨callB_of n ht (vz_good hcode) rfl rfl rfl (ht _ hini) (ht _ hlink) hd hR, ht _ hstat⟩ ⟨vz_blind, vz_preOf hK hPc hDc hN (fun U hU hW => hZ.to hS hFc hU hW)⟩ rfl hn hsz rfl (lv_room hroom) hdg hf) hS (fun q _ h => hFc q h) hFc (fun u t H1 locs1 ht1 hvm hw hB hz1 hk9 hS1 => ?_)
  obtain ⟨hP1, hD1⟩ := hB
  rw [ht1] at hP1
  obtain ⟨hP2, hD2⟩ := va_join (wr := wr) (w1 := u) hP hD isC isR hC hRr hnR hdis hk9 hFc hP1 hD1
  exact kk u H1 locs1 hw hP2 hD2 hS1
theorem vz_callSi {y : MethodName} {bytes : ByteArray} {maxL nL index n : Nat} {own : String} {rm : Room} {As st0 : List Value} {wc wr : va_W} {post : Int32 → va_W → Prop} (hx : p.tables.exec = Jvm.exec) (hb : c.code = cc) (hml : c.maxLocals = nL) (hown : s.vm.findClass own = some m.cls) (ht : ∀ w ∈ CW, w.before args s = true) (hN : ∀ w ∈ NW, va_Nw w s) {sa : Nat → Nat × Nat} (hZ : vz_SX sa A s s.heap) (hK : va_K D classes tys s) (hP : va_P D classes ws H) (hD : va_D A ws) (hS : va_S A s.heap H locs) (hA : ∀ q, s.heap.size ≤ q → A q) {rt : FieldType} (hM : MtI l y (.code y bytes maxL (some rt) :: CW) rm D tys sa As wc post) (hcode : Cond.code y bytes maxL (some rt) ∈ CW) (hini : Cond.initialized y.cls ∈ CW) (hlink : Cond.methodLink own index y ∈ CW) (hstat : Cond.static y ∈ CW) (hd : y.cls ≠ "java/lang/invoke/MethodHandle" ∧ y.cls ≠ "java/lang/invoke/VarHandle" ∧ (parseMethodDescriptor y.desc).map (fun d => d.parameters.length) = some n) (hR : rm.frames + 1 ≤ R.frames ∧ 8 + (maxL + 11) + rm.locals ≤ R.locals) (isC isR : List Nat) (hC : isC.map (fun i => ws[i]?) = wc.map some) (hRr : isR.map (fun i => ws[i]?) = wr.map some) (hnC : va_nd isC = true) (hnR : va_nd isR = true) (hdis : ∀ i ∈ isR, i ∉ isC) (hn : As.length = n) (hsz : ls.size = nL) (hst : st0 = As.reverse ++ rest) (hroom : (rest.map fun v => v.category).sum ≤ 8) {k1 n1 : Nat} (hk1 : cells + rm.cells = k1) (hn1 : slots + rm.slots = n1) (hf : k1 ≤ R.cells ∧ n1 ≤ R.slots) (hdg : decode cc pc = .ok (.invokestatic index, 3))
    (kk : ∀ (r : Int32) (w1 : va_W) (H1 : Heap) (locs1 : List Loc), post r w1 → va_P D classes (wr ++ w1) H1 → va_D A (wr ++ w1) → va_S A s.heap H1 locs1 → W p l e R s m args below meth c H1 locs1 k1 n1 Q (F0 m (pc + 3) ls (.int r :: rest))) : W p l e R s m args below meth c H locs cells slots Q (F0 m pc ls st0) := by
  subst hst
  subst hk1
  subst hn1
  have hsC : isC.filterMap (fun i => ws[i]?) = wc := vz_fm hC
  have hPc := hP.sub (ws' := wc) isC hsC
  have hDc := hD.sub (ws' := wc) isC hnC hC
  have hFc := va_free (wc := wc) hD hS hA isC hC
  refine va_calli (va_runS (As := As) (rest := rest) ⟨hx, hb, hml, hown, ht⟩ (hM H.size) ⟨callB_of n ht (vz_good hcode) rfl rfl rfl (ht _ hini) (ht _ hlink) hd hR, ht _ hstat⟩ ⟨vz_blind, vz_preOf hK hPc hDc hN (fun U hU hW => hZ.to hS hFc hU hW)⟩ rfl hn hsz rfl (lv_room hroom) hdg hf) hS (fun q _ h => hFc q h) hFc (fun r u t H1 locs1 ht1 hvm hw hB hz1 hk9 hS1 => ?_)
  obtain ⟨hP1, hD1⟩ := hB
  rw [ht1] at hP1
  obtain ⟨hP2, hD2⟩ := va_join (wr := wr) (w1 := u) hP hD isC isR hC hRr hnR hdis hk9 hFc hP1 hD1
  exact kk r u H1 locs1 hw hP2 hD2 hS1
theorem vz_callVNv {y : MethodName} {bytes : ByteArray} {maxL nL index n : Nat} {own : String} {rm : Room} {b : Nat} {As st0 : List Value} {wc wr : va_W} {post : va_W → Prop} (hx : p.tables.exec = Jvm.exec) (hb : c.code = cc) (hml : c.maxLocals = nL) (hown : s.vm.findClass own = some m.cls) (ht : ∀ w ∈ CW, w.before args s = true) (hN : ∀ w ∈ NW, va_Nw w s) {sa : Nat → Nat × Nat} (hZ : vz_SX sa A s s.heap) (hK : va_K D classes tys s) (hP : va_P D classes ws H) (hD : va_D A ws) (hS : va_S A s.heap H locs) (hA : ∀ q, s.heap.size ≤ q → A q) (hM : MtV l y (.code y bytes maxL none :: CW) rm D tys sa (.ref b :: As) wc post) (hcode : Cond.code y bytes maxL none ∈ CW) (hini : Cond.initialized y.cls ∈ CW) {host : String} (hlink : Cond.methodLinkNest own index y host ∈ NW) (hinst : Cond.instanceMethod y ∈ CW) {C : String} (hsel : Cond.selects C y y ∈ CW) {T : u_T} {N ci : Nat} {fs : List Value} (hc : classes[ci]? = some (C, T, N)) (q0 : Nat) (he : ws[q0]? = some (b, .inr (ci, fs))) (hd : y.cls ≠ "java/lang/invoke/MethodHandle" ∧ y.cls ≠ "java/lang/invoke/VarHandle" ∧ (parseMethodDescriptor y.desc).map (fun d => d.parameters.length) = some n) (hR : rm.frames + 1 ≤ R.frames ∧ 8 + (maxL + 11) + rm.locals ≤ R.locals) (isC isR : List Nat) (hC : isC.map (fun i => ws[i]?) = wc.map some) (hRr : isR.map (fun i => ws[i]?) = wr.map some) (hnC : va_nd isC = true) (hnR : va_nd isR = true) (hdis : ∀ i ∈ isR, i ∉ isC) (hn : As.length = n) (hsz : ls.size = nL) (hst : st0 = As.reverse ++ .ref b :: rest) (hroom : (rest.map fun v => v.category).sum ≤ 8) {k1 n1 : Nat} (hk1 : cells + rm.cells = k1) (hn1 : slots + rm.slots = n1) (hf : k1 ≤ R.cells ∧ n1 ≤ R.slots) (hdg : decode cc pc = .ok (.invokevirtual index, 3))
    (kk : ∀ (w1 : va_W) (H1 : Heap) (locs1 : List Loc), post w1 → va_P D classes (wr ++ w1) H1 → va_D A (wr ++ w1) → va_S A s.heap H1 locs1 → W p l e R s m args below meth c H1 locs1 k1 n1 Q (F0 m (pc + 3) ls rest)) : W p l e R s m args below meth c H locs cells slots Q (F0 m pc ls st0) := by
  subst hst
  subst hk1
  subst hn1
  have hsC : isC.filterMap (fun i => ws[i]?) = wc := vz_fm hC
  have hPc := hP.sub (ws' := wc) isC hsC
  have hDc := hD.sub (ws' := wc) isC hnC hC
  have hFc := va_free (wc := wc) hD hS hA isC hC
  refine va_callv (va_runVN (As := As) (rest := rest) ⟨hx, hb, hml, hown, ht⟩ (hM H.size) ⟨va_cnB n ht (vz_good hcode) rfl rfl rfl (hN _ hlink) (ht _ hini) hd hR, ht _ hinst, ht _ hsel⟩ ⟨vz_blind, va_recv hK hP hc he, vz_preOf hK hPc hDc hN (fun U hU hW => hZ.to hS hFc hU hW)⟩ rfl hn hsz rfl (lv_room hroom) hdg hf) hS (fun q _ h => hFc q h) hFc (fun u t H1 locs1 ht1 hvm hw hB hz1 hk9 hS1 => ?_)
  obtain ⟨hP1, hD1⟩ := hB
  rw [ht1] at hP1
  obtain ⟨hP2, hD2⟩ := va_join (wr := wr) (w1 := u) hP hD isC isR hC hRr hnR hdis hk9 hFc hP1 hD1
  exact kk u H1 locs1 hw hP2 hD2 hS1
theorem vz_callVNi {y : MethodName} {bytes : ByteArray} {maxL nL index n : Nat} {own : String} {rm : Room} {b : Nat} {As st0 : List Value} {wc wr : va_W} {post : Int32 → va_W → Prop} (hx : p.tables.exec = Jvm.exec) (hb : c.code = cc) (hml : c.maxLocals = nL) (hown : s.vm.findClass own = some m.cls) (ht : ∀ w ∈ CW, w.before args s = true) (hN : ∀ w ∈ NW, va_Nw w s) {sa : Nat → Nat × Nat} (hZ : vz_SX sa A s s.heap) (hK : va_K D classes tys s) (hP : va_P D classes ws H) (hD : va_D A ws) (hS : va_S A s.heap H locs) (hA : ∀ q, s.heap.size ≤ q → A q) {rt : FieldType} (hM : MtI l y (.code y bytes maxL (some rt) :: CW) rm D tys sa (.ref b :: As) wc post) (hcode : Cond.code y bytes maxL (some rt) ∈ CW) (hini : Cond.initialized y.cls ∈ CW) {host : String} (hlink : Cond.methodLinkNest own index y host ∈ NW) (hinst : Cond.instanceMethod y ∈ CW) {C : String} (hsel : Cond.selects C y y ∈ CW) {T : u_T} {N ci : Nat} {fs : List Value} (hc : classes[ci]? = some (C, T, N)) (q0 : Nat) (he : ws[q0]? = some (b, .inr (ci, fs))) (hd : y.cls ≠ "java/lang/invoke/MethodHandle" ∧ y.cls ≠ "java/lang/invoke/VarHandle" ∧ (parseMethodDescriptor y.desc).map (fun d => d.parameters.length) = some n) (hR : rm.frames + 1 ≤ R.frames ∧ 8 + (maxL + 11) + rm.locals ≤ R.locals) (isC isR : List Nat) (hC : isC.map (fun i => ws[i]?) = wc.map some) (hRr : isR.map (fun i => ws[i]?) = wr.map some) (hnC : va_nd isC = true) (hnR : va_nd isR = true) (hdis : ∀ i ∈ isR, i ∉ isC) (hn : As.length = n) (hsz : ls.size = nL) (hst : st0 = As.reverse ++ .ref b :: rest) (hroom : (rest.map fun v => v.category).sum ≤ 8) {k1 n1 : Nat} (hk1 : cells + rm.cells = k1) (hn1 : slots + rm.slots = n1) (hf : k1 ≤ R.cells ∧ n1 ≤ R.slots) (hdg : decode cc pc = .ok (.invokevirtual index, 3))
    (kk : ∀ (r : Int32) (w1 : va_W) (H1 : Heap) (locs1 : List Loc), post r w1 → va_P D classes (wr ++ w1) H1 → va_D A (wr ++ w1) → va_S A s.heap H1 locs1 → W p l e R s m args below meth c H1 locs1 k1 n1 Q (F0 m (pc + 3) ls (.int r :: rest))) : W p l e R s m args below meth c H locs cells slots Q (F0 m pc ls st0) := by
  subst hst
  subst hk1
  subst hn1
  have hsC : isC.filterMap (fun i => ws[i]?) = wc := vz_fm hC
  have hPc := hP.sub (ws' := wc) isC hsC
  have hDc := hD.sub (ws' := wc) isC hnC hC
  have hFc := va_free (wc := wc) hD hS hA isC hC
  refine va_calli (va_runVN (As := As) (rest := rest) ⟨hx, hb, hml, hown, ht⟩ (hM H.size) ⟨va_cnB n ht (vz_good hcode) rfl rfl rfl (hN _ hlink) (ht _ hini) hd hR, ht _ hinst, ht _ hsel⟩ ⟨vz_blind, va_recv hK hP hc he, vz_preOf hK hPc hDc hN (fun U hU hW => hZ.to hS hFc hU hW)⟩ rfl hn hsz rfl (lv_room hroom) hdg hf) hS (fun q _ h => hFc q h) hFc (fun r u t H1 locs1 ht1 hvm hw hB hz1 hk9 hS1 => ?_)
  obtain ⟨hP1, hD1⟩ := hB
  rw [ht1] at hP1
  obtain ⟨hP2, hD2⟩ := va_join (wr := wr) (w1 := u) hP hD isC isR hC hRr hnR hdis hk9 hFc hP1 hD1
  exact kk r u H1 locs1 hw hP2 hD2 hS1
theorem vz_callVl {y : MethodName} {bytes : ByteArray} {maxL nL index n : Nat} {own : String} {rm : Room} {b : Nat} {As st0 : List Value} {wc wr : va_W} {post : Int64 → va_W → Prop} (hx : p.tables.exec = Jvm.exec) (hb : c.code = cc) (hml : c.maxLocals = nL) (hown : s.vm.findClass own = some m.cls) (ht : ∀ w ∈ CW, w.before args s = true) (hN : ∀ w ∈ NW, va_Nw w s) {sa : Nat → Nat × Nat} (hZ : vz_SX sa A s s.heap) (hK : va_K D classes tys s) (hP : va_P D classes ws H) (hD : va_D A ws) (hS : va_S A s.heap H locs) (hA : ∀ q, s.heap.size ≤ q → A q) {rt : FieldType} (hM : MtL l y (.code y bytes maxL (some rt) :: CW) rm D tys sa (.ref b :: As) wc post) (hcode : Cond.code y bytes maxL (some rt) ∈ CW) (hini : Cond.initialized y.cls ∈ CW) (hlink : Cond.methodLink own index y ∈ CW) (hinst : Cond.instanceMethod y ∈ CW) {C : String} (hsel : Cond.selects C y y ∈ CW) {T : u_T} {N ci : Nat} {fs : List Value} (hc : classes[ci]? = some (C, T, N)) (q0 : Nat) (he : ws[q0]? = some (b, .inr (ci, fs))) (hd : y.cls ≠ "java/lang/invoke/MethodHandle" ∧ y.cls ≠ "java/lang/invoke/VarHandle" ∧ (parseMethodDescriptor y.desc).map (fun d => d.parameters.length) = some n) (hR : rm.frames + 1 ≤ R.frames ∧ 8 + (maxL + 11) + rm.locals ≤ R.locals) (isC isR : List Nat) (hC : isC.map (fun i => ws[i]?) = wc.map some) (hRr : isR.map (fun i => ws[i]?) = wr.map some) (hnC : va_nd isC = true) (hnR : va_nd isR = true) (hdis : ∀ i ∈ isR, i ∉ isC) (hn : As.length = n) (hsz : ls.size = nL) (hst : st0 = As.reverse ++ .ref b :: rest) (hroom : (rest.map fun v => v.category).sum ≤ 8) {k1 n1 : Nat} (hk1 : cells + rm.cells = k1) (hn1 : slots + rm.slots = n1) (hf : k1 ≤ R.cells ∧ n1 ≤ R.slots) (hdg : decode cc pc = .ok (.invokevirtual index, 3))
    (kk : ∀ (r : Int64) (w1 : va_W) (H1 : Heap) (locs1 : List Loc), post r w1 → va_P D classes (wr ++ w1) H1 → va_D A (wr ++ w1) → va_S A s.heap H1 locs1 → W p l e R s m args below meth c H1 locs1 k1 n1 Q (F0 m (pc + 3) ls (.long r :: rest))) : W p l e R s m args below meth c H locs cells slots Q (F0 m pc ls st0) := by
  subst hst
  subst hk1
  subst hn1
  have hsC : isC.filterMap (fun i => ws[i]?) = wc := vz_fm hC
  have hPc := hP.sub (ws' := wc) isC hsC
  have hDc := hD.sub (ws' := wc) isC hnC hC
  have hFc := va_free (wc := wc) hD hS hA isC hC
  refine va_calll (va_runV (As := As) (rest := rest) ⟨hx, hb, hml, hown, ht⟩ (hM H.size) ⟨callB_of n ht (vz_good hcode) rfl rfl rfl (ht _ hini) (ht _ hlink) hd hR, ht _ hinst, ht _ hsel⟩ ⟨vz_blind, va_recv hK hP hc he, vz_preOf hK hPc hDc hN (fun U hU hW => hZ.to hS hFc hU hW)⟩ rfl hn hsz rfl (lv_room hroom) hdg hf) hS (fun q _ h => hFc q h) hFc (fun r u t H1 locs1 ht1 hvm hw hB hz1 hk9 hS1 => ?_)
  obtain ⟨hP1, hD1⟩ := hB
  rw [ht1] at hP1
  obtain ⟨hP2, hD2⟩ := va_join (wr := wr) (w1 := u) hP hD isC isR hC hRr hnR hdis hk9 hFc hP1 hD1
  exact kk r u H1 locs1 hw hP2 hD2 hS1
theorem vz_callSl {y : MethodName} {bytes : ByteArray} {maxL nL index n : Nat} {own : String} {rm : Room} {As st0 : List Value} {wc wr : va_W} {post : Int64 → va_W → Prop} (hx : p.tables.exec = Jvm.exec) (hb : c.code = cc) (hml : c.maxLocals = nL) (hown : s.vm.findClass own = some m.cls) (ht : ∀ w ∈ CW, w.before args s = true) (hN : ∀ w ∈ NW, va_Nw w s) {sa : Nat → Nat × Nat} (hZ : vz_SX sa A s s.heap) (hK : va_K D classes tys s) (hP : va_P D classes ws H) (hD : va_D A ws) (hS : va_S A s.heap H locs) (hA : ∀ q, s.heap.size ≤ q → A q) {rt : FieldType} (hM : MtL l y (.code y bytes maxL (some rt) :: CW) rm D tys sa As wc post) (hcode : Cond.code y bytes maxL (some rt) ∈ CW) (hini : Cond.initialized y.cls ∈ CW) (hlink : Cond.methodLink own index y ∈ CW) (hstat : Cond.static y ∈ CW) (hd : y.cls ≠ "java/lang/invoke/MethodHandle" ∧ y.cls ≠ "java/lang/invoke/VarHandle" ∧ (parseMethodDescriptor y.desc).map (fun d => d.parameters.length) = some n) (hR : rm.frames + 1 ≤ R.frames ∧ 8 + (maxL + 11) + rm.locals ≤ R.locals) (isC isR : List Nat) (hC : isC.map (fun i => ws[i]?) = wc.map some) (hRr : isR.map (fun i => ws[i]?) = wr.map some) (hnC : va_nd isC = true) (hnR : va_nd isR = true) (hdis : ∀ i ∈ isR, i ∉ isC) (hn : As.length = n) (hsz : ls.size = nL) (hst : st0 = As.reverse ++ rest) (hroom : (rest.map fun v => v.category).sum ≤ 8) {k1 n1 : Nat} (hk1 : cells + rm.cells = k1) (hn1 : slots + rm.slots = n1) (hf : k1 ≤ R.cells ∧ n1 ≤ R.slots) (hdg : decode cc pc = .ok (.invokestatic index, 3))
    (kk : ∀ (r : Int64) (w1 : va_W) (H1 : Heap) (locs1 : List Loc), post r w1 → va_P D classes (wr ++ w1) H1 → va_D A (wr ++ w1) → va_S A s.heap H1 locs1 → W p l e R s m args below meth c H1 locs1 k1 n1 Q (F0 m (pc + 3) ls (.long r :: rest))) : W p l e R s m args below meth c H locs cells slots Q (F0 m pc ls st0) := by
  subst hst
  subst hk1
  subst hn1
  have hsC : isC.filterMap (fun i => ws[i]?) = wc := vz_fm hC
  have hPc := hP.sub (ws' := wc) isC hsC
  have hDc := hD.sub (ws' := wc) isC hnC hC
  have hFc := va_free (wc := wc) hD hS hA isC hC
  refine va_calll (va_runS (As := As) (rest := rest) ⟨hx, hb, hml, hown, ht⟩ (hM H.size) ⟨callB_of n ht (vz_good hcode) rfl rfl rfl (ht _ hini) (ht _ hlink) hd hR, ht _ hstat⟩ ⟨vz_blind, vz_preOf hK hPc hDc hN (fun U hU hW => hZ.to hS hFc hU hW)⟩ rfl hn hsz rfl (lv_room hroom) hdg hf) hS (fun q _ h => hFc q h) hFc (fun r u t H1 locs1 ht1 hvm hw hB hz1 hk9 hS1 => ?_)
  obtain ⟨hP1, hD1⟩ := hB
  rw [ht1] at hP1
  obtain ⟨hP2, hD2⟩ := va_join (wr := wr) (w1 := u) hP hD isC isR hC hRr hnR hdis hk9 hFc hP1 hD1
  exact kk r u H1 locs1 hw hP2 hD2 hS1
theorem vz_callVNl {y : MethodName} {bytes : ByteArray} {maxL nL index n : Nat} {own : String} {rm : Room} {b : Nat} {As st0 : List Value} {wc wr : va_W} {post : Int64 → va_W → Prop} (hx : p.tables.exec = Jvm.exec) (hb : c.code = cc) (hml : c.maxLocals = nL) (hown : s.vm.findClass own = some m.cls) (ht : ∀ w ∈ CW, w.before args s = true) (hN : ∀ w ∈ NW, va_Nw w s) {sa : Nat → Nat × Nat} (hZ : vz_SX sa A s s.heap) (hK : va_K D classes tys s) (hP : va_P D classes ws H) (hD : va_D A ws) (hS : va_S A s.heap H locs) (hA : ∀ q, s.heap.size ≤ q → A q) {rt : FieldType} (hM : MtL l y (.code y bytes maxL (some rt) :: CW) rm D tys sa (.ref b :: As) wc post) (hcode : Cond.code y bytes maxL (some rt) ∈ CW) (hini : Cond.initialized y.cls ∈ CW) {host : String} (hlink : Cond.methodLinkNest own index y host ∈ NW) (hinst : Cond.instanceMethod y ∈ CW) {C : String} (hsel : Cond.selects C y y ∈ CW) {T : u_T} {N ci : Nat} {fs : List Value} (hc : classes[ci]? = some (C, T, N)) (q0 : Nat) (he : ws[q0]? = some (b, .inr (ci, fs))) (hd : y.cls ≠ "java/lang/invoke/MethodHandle" ∧ y.cls ≠ "java/lang/invoke/VarHandle" ∧ (parseMethodDescriptor y.desc).map (fun d => d.parameters.length) = some n) (hR : rm.frames + 1 ≤ R.frames ∧ 8 + (maxL + 11) + rm.locals ≤ R.locals) (isC isR : List Nat) (hC : isC.map (fun i => ws[i]?) = wc.map some) (hRr : isR.map (fun i => ws[i]?) = wr.map some) (hnC : va_nd isC = true) (hnR : va_nd isR = true) (hdis : ∀ i ∈ isR, i ∉ isC) (hn : As.length = n) (hsz : ls.size = nL) (hst : st0 = As.reverse ++ .ref b :: rest) (hroom : (rest.map fun v => v.category).sum ≤ 8) {k1 n1 : Nat} (hk1 : cells + rm.cells = k1) (hn1 : slots + rm.slots = n1) (hf : k1 ≤ R.cells ∧ n1 ≤ R.slots) (hdg : decode cc pc = .ok (.invokevirtual index, 3))
    (kk : ∀ (r : Int64) (w1 : va_W) (H1 : Heap) (locs1 : List Loc), post r w1 → va_P D classes (wr ++ w1) H1 → va_D A (wr ++ w1) → va_S A s.heap H1 locs1 → W p l e R s m args below meth c H1 locs1 k1 n1 Q (F0 m (pc + 3) ls (.long r :: rest))) : W p l e R s m args below meth c H locs cells slots Q (F0 m pc ls st0) := by
  subst hst
  subst hk1
  subst hn1
  have hsC : isC.filterMap (fun i => ws[i]?) = wc := vz_fm hC
  have hPc := hP.sub (ws' := wc) isC hsC
  have hDc := hD.sub (ws' := wc) isC hnC hC
  have hFc := va_free (wc := wc) hD hS hA isC hC
  refine va_calll (va_runVN (As := As) (rest := rest) ⟨hx, hb, hml, hown, ht⟩ (hM H.size) ⟨va_cnB n ht (vz_good hcode) rfl rfl rfl (hN _ hlink) (ht _ hini) hd hR, ht _ hinst, ht _ hsel⟩ ⟨vz_blind, va_recv hK hP hc he, vz_preOf hK hPc hDc hN (fun U hU hW => hZ.to hS hFc hU hW)⟩ rfl hn hsz rfl (lv_room hroom) hdg hf) hS (fun q _ h => hFc q h) hFc (fun r u t H1 locs1 ht1 hvm hw hB hz1 hk9 hS1 => ?_)
  obtain ⟨hP1, hD1⟩ := hB
  rw [ht1] at hP1
  obtain ⟨hP2, hD2⟩ := va_join (wr := wr) (w1 := u) hP hD isC isR hC hRr hnR hdis hk9 hFc hP1 hD1
  exact kk r u H1 locs1 hw hP2 hD2 hS1
theorem vz_callVNr {y : MethodName} {bytes : ByteArray} {maxL nL index n : Nat} {own : String} {rm : Room} {b ra : Nat} {As st0 : List Value} {wc wr : va_W} {post : va_W → Prop} (hx : p.tables.exec = Jvm.exec) (hb : c.code = cc) (hml : c.maxLocals = nL) (hown : s.vm.findClass own = some m.cls) (ht : ∀ w ∈ CW, w.before args s = true) (hN : ∀ w ∈ NW, va_Nw w s) {sa : Nat → Nat × Nat} (hZ : vz_SX sa A s s.heap) (hK : va_K D classes tys s) (hP : va_P D classes ws H) (hD : va_D A ws) (hS : va_S A s.heap H locs) (hA : ∀ q, s.heap.size ≤ q → A q) {rt : FieldType} (hM : MtR l y (.code y bytes maxL (some rt) :: CW) rm D tys sa (.ref b :: As) wc ra post) (hcode : Cond.code y bytes maxL (some rt) ∈ CW) (hini : Cond.initialized y.cls ∈ CW) {host : String} (hlink : Cond.methodLinkNest own index y host ∈ NW) (hinst : Cond.instanceMethod y ∈ CW) {C : String} (hsel : Cond.selects C y y ∈ CW) {T : u_T} {N ci : Nat} {fs : List Value} (hc : classes[ci]? = some (C, T, N)) (q0 : Nat) (he : ws[q0]? = some (b, .inr (ci, fs))) (hd : y.cls ≠ "java/lang/invoke/MethodHandle" ∧ y.cls ≠ "java/lang/invoke/VarHandle" ∧ (parseMethodDescriptor y.desc).map (fun d => d.parameters.length) = some n) (hR : rm.frames + 1 ≤ R.frames ∧ 8 + (maxL + 11) + rm.locals ≤ R.locals) (isC isR : List Nat) (hC : isC.map (fun i => ws[i]?) = wc.map some) (hRr : isR.map (fun i => ws[i]?) = wr.map some) (hnC : va_nd isC = true) (hnR : va_nd isR = true) (hdis : ∀ i ∈ isR, i ∉ isC) (hn : As.length = n) (hsz : ls.size = nL) (hst : st0 = As.reverse ++ .ref b :: rest) (hroom : (rest.map fun v => v.category).sum ≤ 8) {k1 n1 : Nat} (hk1 : cells + rm.cells = k1) (hn1 : slots + rm.slots = n1) (hf : k1 ≤ R.cells ∧ n1 ≤ R.slots) (hdg : decode cc pc = .ok (.invokevirtual index, 3))
    (kk : ∀ (w1 : va_W) (H1 : Heap) (locs1 : List Loc), post w1 → va_P D classes (wr ++ w1) H1 → va_D A (wr ++ w1) → va_S A s.heap H1 locs1 → W p l e R s m args below meth c H1 locs1 k1 n1 Q (F0 m (pc + 3) ls (.ref ra :: rest))) : W p l e R s m args below meth c H locs cells slots Q (F0 m pc ls st0) := by
  subst hst
  subst hk1
  subst hn1
  have hsC : isC.filterMap (fun i => ws[i]?) = wc := vz_fm hC
  have hPc := hP.sub (ws' := wc) isC hsC
  have hDc := hD.sub (ws' := wc) isC hnC hC
  have hFc := va_free (wc := wc) hD hS hA isC hC
  refine va_callr (va_runVN (As := As) (rest := rest) ⟨hx, hb, hml, hown, ht⟩ (hM H.size) ⟨va_cnB n ht (vz_good hcode) rfl rfl rfl (hN _ hlink) (ht _ hini) hd hR, ht _ hinst, ht _ hsel⟩ ⟨vz_blind, va_recv hK hP hc he, vz_preOf hK hPc hDc hN (fun U hU hW => hZ.to hS hFc hU hW)⟩ rfl hn hsz rfl (lv_room hroom) hdg hf) hS (fun q _ h => hFc q h) hFc (fun u rb t H1 locs1 ht1 hvm hw hB hz1 hk9 hS1 => ?_)
  obtain ⟨rfl, hP1, hD1⟩ := hB
  rw [ht1] at hP1
  obtain ⟨hP2, hD2⟩ := va_join (wr := wr) (w1 := u) hP hD isC isR hC hRr hnR hdis hk9 hFc hP1 hD1
  exact kk u H1 locs1 hw hP2 hD2 hS1
theorem vz_callSNi {y : MethodName} {bytes : ByteArray} {maxL nL index n : Nat} {own : String} {rm : Room} {As st0 : List Value} {wc wr : va_W} {post : Int32 → va_W → Prop} (hx : p.tables.exec = Jvm.exec) (hb : c.code = cc) (hml : c.maxLocals = nL) (hown : s.vm.findClass own = some m.cls) (ht : ∀ w ∈ CW, w.before args s = true) (hN : ∀ w ∈ NW, va_Nw w s) {sa : Nat → Nat × Nat} (hZ : vz_SX sa A s s.heap) (hK : va_K D classes tys s) (hP : va_P D classes ws H) (hD : va_D A ws) (hS : va_S A s.heap H locs) (hA : ∀ q, s.heap.size ≤ q → A q) {rt : FieldType} (hM : MtI l y (.code y bytes maxL (some rt) :: CW) rm D tys sa As wc post) (hcode : Cond.code y bytes maxL (some rt) ∈ CW) (hini : Cond.initialized y.cls ∈ CW) {host : String} (hlink : Cond.methodLinkNest own index y host ∈ NW) (hstat : Cond.static y ∈ CW) (hd : y.cls ≠ "java/lang/invoke/MethodHandle" ∧ y.cls ≠ "java/lang/invoke/VarHandle" ∧ (parseMethodDescriptor y.desc).map (fun d => d.parameters.length) = some n) (hR : rm.frames + 1 ≤ R.frames ∧ 8 + (maxL + 11) + rm.locals ≤ R.locals) (isC isR : List Nat) (hC : isC.map (fun i => ws[i]?) = wc.map some) (hRr : isR.map (fun i => ws[i]?) = wr.map some) (hnC : va_nd isC = true) (hnR : va_nd isR = true) (hdis : ∀ i ∈ isR, i ∉ isC) (hn : As.length = n) (hsz : ls.size = nL) (hst : st0 = As.reverse ++ rest) (hroom : (rest.map fun v => v.category).sum ≤ 8) {k1 n1 : Nat} (hk1 : cells + rm.cells = k1) (hn1 : slots + rm.slots = n1) (hf : k1 ≤ R.cells ∧ n1 ≤ R.slots) (hdg : decode cc pc = .ok (.invokestatic index, 3))
    (kk : ∀ (r : Int32) (w1 : va_W) (H1 : Heap) (locs1 : List Loc), post r w1 → va_P D classes (wr ++ w1) H1 → va_D A (wr ++ w1) → va_S A s.heap H1 locs1 → W p l e R s m args below meth c H1 locs1 k1 n1 Q (F0 m (pc + 3) ls (.int r :: rest))) : W p l e R s m args below meth c H locs cells slots Q (F0 m pc ls st0) := by
  subst hst
  subst hk1
  subst hn1
  have hsC : isC.filterMap (fun i => ws[i]?) = wc := vz_fm hC
  have hPc := hP.sub (ws' := wc) isC hsC
  have hDc := hD.sub (ws' := wc) isC hnC hC
  have hFc := va_free (wc := wc) hD hS hA isC hC
  refine va_calli (va_runSN (As := As) (rest := rest) ⟨hx, hb, hml, hown, ht⟩ (hM H.size) ⟨va_cnB n ht (vz_good hcode) rfl rfl rfl (hN _ hlink) (ht _ hini) hd hR, ht _ hstat, trivial⟩ ⟨vz_blind, vz_preOf hK hPc hDc hN (fun U hU hW => hZ.to hS hFc hU hW)⟩ rfl hn hsz rfl (lv_room hroom) hdg hf) hS (fun q _ h => hFc q h) hFc (fun r u t H1 locs1 ht1 hvm hw hB hz1 hk9 hS1 => ?_)
  obtain ⟨hP1, hD1⟩ := hB
  rw [ht1] at hP1
  obtain ⟨hP2, hD2⟩ := va_join (wr := wr) (w1 := u) hP hD isC isR hC hRr hnR hdis hk9 hFc hP1 hD1
  exact kk r u H1 locs1 hw hP2 hD2 hS1
theorem vz_callSNv {y : MethodName} {bytes : ByteArray} {maxL nL index n : Nat} {own : String} {rm : Room} {As st0 : List Value} {wc wr : va_W} {post : va_W → Prop} (hx : p.tables.exec = Jvm.exec) (hb : c.code = cc) (hml : c.maxLocals = nL) (hown : s.vm.findClass own = some m.cls) (ht : ∀ w ∈ CW, w.before args s = true) (hN : ∀ w ∈ NW, va_Nw w s) {sa : Nat → Nat × Nat} (hZ : vz_SX sa A s s.heap) (hK : va_K D classes tys s) (hP : va_P D classes ws H) (hD : va_D A ws) (hS : va_S A s.heap H locs) (hA : ∀ q, s.heap.size ≤ q → A q) (hM : MtV l y (.code y bytes maxL none :: CW) rm D tys sa As wc post) (hcode : Cond.code y bytes maxL none ∈ CW) (hini : Cond.initialized y.cls ∈ CW) {host : String} (hlink : Cond.methodLinkNest own index y host ∈ NW) (hstat : Cond.static y ∈ CW) (hd : y.cls ≠ "java/lang/invoke/MethodHandle" ∧ y.cls ≠ "java/lang/invoke/VarHandle" ∧ (parseMethodDescriptor y.desc).map (fun d => d.parameters.length) = some n) (hR : rm.frames + 1 ≤ R.frames ∧ 8 + (maxL + 11) + rm.locals ≤ R.locals) (isC isR : List Nat) (hC : isC.map (fun i => ws[i]?) = wc.map some) (hRr : isR.map (fun i => ws[i]?) = wr.map some) (hnC : va_nd isC = true) (hnR : va_nd isR = true) (hdis : ∀ i ∈ isR, i ∉ isC) (hn : As.length = n) (hsz : ls.size = nL) (hst : st0 = As.reverse ++ rest) (hroom : (rest.map fun v => v.category).sum ≤ 8) {k1 n1 : Nat} (hk1 : cells + rm.cells = k1) (hn1 : slots + rm.slots = n1) (hf : k1 ≤ R.cells ∧ n1 ≤ R.slots) (hdg : decode cc pc = .ok (.invokestatic index, 3))
    (kk : ∀ (w1 : va_W) (H1 : Heap) (locs1 : List Loc), post w1 → va_P D classes (wr ++ w1) H1 → va_D A (wr ++ w1) → va_S A s.heap H1 locs1 → W p l e R s m args below meth c H1 locs1 k1 n1 Q (F0 m (pc + 3) ls rest)) : W p l e R s m args below meth c H locs cells slots Q (F0 m pc ls st0) := by
  subst hst
  subst hk1
  subst hn1
  have hsC : isC.filterMap (fun i => ws[i]?) = wc := vz_fm hC
  have hPc := hP.sub (ws' := wc) isC hsC
  have hDc := hD.sub (ws' := wc) isC hnC hC
  have hFc := va_free (wc := wc) hD hS hA isC hC
  refine va_callv (va_runSN (As := As) (rest := rest) ⟨hx, hb, hml, hown, ht⟩ (hM H.size) ⟨va_cnB n ht (vz_good hcode) rfl rfl rfl (hN _ hlink) (ht _ hini) hd hR, ht _ hstat, trivial⟩ ⟨vz_blind, vz_preOf hK hPc hDc hN (fun U hU hW => hZ.to hS hFc hU hW)⟩ rfl hn hsz rfl (lv_room hroom) hdg hf) hS (fun q _ h => hFc q h) hFc (fun u t H1 locs1 ht1 hvm hw hB hz1 hk9 hS1 => ?_)
  obtain ⟨hP1, hD1⟩ := hB
  rw [ht1] at hP1
  obtain ⟨hP2, hD2⟩ := va_join (wr := wr) (w1 := u) hP hD isC isR hC hRr hnR hdis hk9 hFc hP1 hD1
  exact kk u H1 locs1 hw hP2 hD2 hS1
theorem vz_callXi {y : MethodName} {bytes : ByteArray} {maxL nL index n : Nat} {own : String} {rm : Room} {b : Nat} {As st0 : List Value} {wc wr : va_W} {post : Int32 → va_W → Prop} (hx : p.tables.exec = Jvm.exec) (hb : c.code = cc) (hml : c.maxLocals = nL) (hown : s.vm.findClass own = some m.cls) (ht : ∀ w ∈ CW, w.before args s = true) (hN : ∀ w ∈ NW, va_Nw w s) {sa : Nat → Nat × Nat} (hZ : vz_SX sa A s s.heap) (hK : va_K D classes tys s) (hP : va_P D classes ws H) (hD : va_D A ws) (hS : va_S A s.heap H locs) (hA : ∀ q, s.heap.size ≤ q → A q) {rt : FieldType} (hM : MtI l y (.code y bytes maxL (some rt) :: CW) rm D tys sa (.ref b :: As) wc post) (hcode : Cond.code y bytes maxL (some rt) ∈ CW) (hini : Cond.initialized y.cls ∈ CW) (hlink : Cond.methodLink own index y ∈ CW) (hinst : Cond.instanceMethod y ∈ CW) {C : String} (hsel : Cond.selects C y y ∈ CW) (hrecv : ∃ cell : Cell, H[b]? = some cell ∧ cell.vm.isStatics = false ∧ s.vm.findClass C = some cell.cls) (hd : y.cls ≠ "java/lang/invoke/MethodHandle" ∧ y.cls ≠ "java/lang/invoke/VarHandle" ∧ (parseMethodDescriptor y.desc).map (fun d => d.parameters.length) = some n) (hR : rm.frames + 1 ≤ R.frames ∧ 8 + (maxL + 11) + rm.locals ≤ R.locals) (isC isR : List Nat) (hC : isC.map (fun i => ws[i]?) = wc.map some) (hRr : isR.map (fun i => ws[i]?) = wr.map some) (hnC : va_nd isC = true) (hnR : va_nd isR = true) (hdis : ∀ i ∈ isR, i ∉ isC) (hn : As.length = n) (hsz : ls.size = nL) (hst : st0 = As.reverse ++ .ref b :: rest) (hroom : (rest.map fun v => v.category).sum ≤ 8) {k1 n1 : Nat} (hk1 : cells + rm.cells = k1) (hn1 : slots + rm.slots = n1) (hf : k1 ≤ R.cells ∧ n1 ≤ R.slots) (hdg : decode cc pc = .ok (.invokevirtual index, 3))
    (kk : ∀ (r : Int32) (w1 : va_W) (H1 : Heap) (locs1 : List Loc), post r w1 → va_P D classes (wr ++ w1) H1 → va_D A (wr ++ w1) → va_S A s.heap H1 locs1 → W p l e R s m args below meth c H1 locs1 k1 n1 Q (F0 m (pc + 3) ls (.int r :: rest))) : W p l e R s m args below meth c H locs cells slots Q (F0 m pc ls st0) := by
  subst hst
  subst hk1
  subst hn1
  have hsC : isC.filterMap (fun i => ws[i]?) = wc := vz_fm hC
  have hPc := hP.sub (ws' := wc) isC hsC
  have hDc := hD.sub (ws' := wc) isC hnC hC
  have hFc := va_free (wc := wc) hD hS hA isC hC
  refine va_calli (va_runV (As := As) (rest := rest) ⟨hx, hb, hml, hown, ht⟩ (hM H.size) ⟨callB_of n ht (vz_good hcode) rfl rfl rfl (ht _ hini) (ht _ hlink) hd hR, ht _ hinst, ht _ hsel⟩ ⟨vz_blind, hrecv, vz_preOf hK hPc hDc hN (fun U hU hW => hZ.to hS hFc hU hW)⟩ rfl hn hsz rfl (lv_room hroom) hdg hf) hS (fun q _ h => hFc q h) hFc (fun r u t H1 locs1 ht1 hvm hw hB hz1 hk9 hS1 => ?_)
  obtain ⟨hP1, hD1⟩ := hB
  rw [ht1] at hP1
  obtain ⟨hP2, hD2⟩ := va_join (wr := wr) (w1 := u) hP hD isC isR hC hRr hnR hdis hk9 hFc hP1 hD1
  exact kk r u H1 locs1 hw hP2 hD2 hS1
theorem vz_callSr {y : MethodName} {bytes : ByteArray} {maxL nL index n : Nat} {own : String} {rm : Room} {ra : Nat} {As st0 : List Value} {wc wr : va_W} {post : va_W → Prop} (hx : p.tables.exec = Jvm.exec) (hb : c.code = cc) (hml : c.maxLocals = nL) (hown : s.vm.findClass own = some m.cls) (ht : ∀ w ∈ CW, w.before args s = true) (hN : ∀ w ∈ NW, va_Nw w s) {sa : Nat → Nat × Nat} (hZ : vz_SX sa A s s.heap) (hK : va_K D classes tys s) (hP : va_P D classes ws H) (hD : va_D A ws) (hS : va_S A s.heap H locs) (hA : ∀ q, s.heap.size ≤ q → A q) {rt : FieldType} (hM : MtR l y (.code y bytes maxL (some rt) :: CW) rm D tys sa As wc ra post) (hcode : Cond.code y bytes maxL (some rt) ∈ CW) (hini : Cond.initialized y.cls ∈ CW) (hlink : Cond.methodLink own index y ∈ CW) (hstat : Cond.static y ∈ CW) (hd : y.cls ≠ "java/lang/invoke/MethodHandle" ∧ y.cls ≠ "java/lang/invoke/VarHandle" ∧ (parseMethodDescriptor y.desc).map (fun d => d.parameters.length) = some n) (hR : rm.frames + 1 ≤ R.frames ∧ 8 + (maxL + 11) + rm.locals ≤ R.locals) (isC isR : List Nat) (hC : isC.map (fun i => ws[i]?) = wc.map some) (hRr : isR.map (fun i => ws[i]?) = wr.map some) (hnC : va_nd isC = true) (hnR : va_nd isR = true) (hdis : ∀ i ∈ isR, i ∉ isC) (hn : As.length = n) (hsz : ls.size = nL) (hst : st0 = As.reverse ++ rest) (hroom : (rest.map fun v => v.category).sum ≤ 8) {k1 n1 : Nat} (hk1 : cells + rm.cells = k1) (hn1 : slots + rm.slots = n1) (hf : k1 ≤ R.cells ∧ n1 ≤ R.slots) (hdg : decode cc pc = .ok (.invokestatic index, 3))
    (kk : ∀ (w1 : va_W) (H1 : Heap) (locs1 : List Loc), post w1 → va_P D classes (wr ++ w1) H1 → va_D A (wr ++ w1) → va_S A s.heap H1 locs1 → W p l e R s m args below meth c H1 locs1 k1 n1 Q (F0 m (pc + 3) ls (.ref ra :: rest))) : W p l e R s m args below meth c H locs cells slots Q (F0 m pc ls st0) := by
  subst hst
  subst hk1
  subst hn1
  have hsC : isC.filterMap (fun i => ws[i]?) = wc := vz_fm hC
  have hPc := hP.sub (ws' := wc) isC hsC
  have hDc := hD.sub (ws' := wc) isC hnC hC
  have hFc := va_free (wc := wc) hD hS hA isC hC
  refine va_callr (va_runS (As := As) (rest := rest) ⟨hx, hb, hml, hown, ht⟩ (hM H.size) ⟨callB_of n ht (vz_good hcode) rfl rfl rfl (ht _ hini) (ht _ hlink) hd hR, ht _ hstat⟩ ⟨vz_blind, vz_preOf hK hPc hDc hN (fun U hU hW => hZ.to hS hFc hU hW)⟩ rfl hn hsz rfl (lv_room hroom) hdg hf) hS (fun q _ h => hFc q h) hFc (fun u rb t H1 locs1 ht1 hvm hw hB hz1 hk9 hS1 => ?_)
  obtain ⟨rfl, hP1, hD1⟩ := hB
  rw [ht1] at hP1
  obtain ⟨hP2, hD2⟩ := va_join (wr := wr) (w1 := u) hP hD isC isR hC hRr hnR hdis hk9 hFc hP1 hD1
  exact kk u H1 locs1 hw hP2 hD2 hS1
theorem vz_callSNr {y : MethodName} {bytes : ByteArray} {maxL nL index n : Nat} {own : String} {rm : Room} {ra : Nat} {As st0 : List Value} {wc wr : va_W} {post : va_W → Prop} (hx : p.tables.exec = Jvm.exec) (hb : c.code = cc) (hml : c.maxLocals = nL) (hown : s.vm.findClass own = some m.cls) (ht : ∀ w ∈ CW, w.before args s = true) (hN : ∀ w ∈ NW, va_Nw w s) {sa : Nat → Nat × Nat} (hZ : vz_SX sa A s s.heap) (hK : va_K D classes tys s) (hP : va_P D classes ws H) (hD : va_D A ws) (hS : va_S A s.heap H locs) (hA : ∀ q, s.heap.size ≤ q → A q) {rt : FieldType} (hM : MtR l y (.code y bytes maxL (some rt) :: CW) rm D tys sa As wc ra post) (hcode : Cond.code y bytes maxL (some rt) ∈ CW) (hini : Cond.initialized y.cls ∈ CW) {host : String} (hlink : Cond.methodLinkNest own index y host ∈ NW) (hstat : Cond.static y ∈ CW) (hd : y.cls ≠ "java/lang/invoke/MethodHandle" ∧ y.cls ≠ "java/lang/invoke/VarHandle" ∧ (parseMethodDescriptor y.desc).map (fun d => d.parameters.length) = some n) (hR : rm.frames + 1 ≤ R.frames ∧ 8 + (maxL + 11) + rm.locals ≤ R.locals) (isC isR : List Nat) (hC : isC.map (fun i => ws[i]?) = wc.map some) (hRr : isR.map (fun i => ws[i]?) = wr.map some) (hnC : va_nd isC = true) (hnR : va_nd isR = true) (hdis : ∀ i ∈ isR, i ∉ isC) (hn : As.length = n) (hsz : ls.size = nL) (hst : st0 = As.reverse ++ rest) (hroom : (rest.map fun v => v.category).sum ≤ 8) {k1 n1 : Nat} (hk1 : cells + rm.cells = k1) (hn1 : slots + rm.slots = n1) (hf : k1 ≤ R.cells ∧ n1 ≤ R.slots) (hdg : decode cc pc = .ok (.invokestatic index, 3))
    (kk : ∀ (w1 : va_W) (H1 : Heap) (locs1 : List Loc), post w1 → va_P D classes (wr ++ w1) H1 → va_D A (wr ++ w1) → va_S A s.heap H1 locs1 → W p l e R s m args below meth c H1 locs1 k1 n1 Q (F0 m (pc + 3) ls (.ref ra :: rest))) : W p l e R s m args below meth c H locs cells slots Q (F0 m pc ls st0) := by
  subst hst
  subst hk1
  subst hn1
  have hsC : isC.filterMap (fun i => ws[i]?) = wc := vz_fm hC
  have hPc := hP.sub (ws' := wc) isC hsC
  have hDc := hD.sub (ws' := wc) isC hnC hC
  have hFc := va_free (wc := wc) hD hS hA isC hC
  refine va_callr (va_runSN (As := As) (rest := rest) ⟨hx, hb, hml, hown, ht⟩ (hM H.size) ⟨va_cnB n ht (vz_good hcode) rfl rfl rfl (hN _ hlink) (ht _ hini) hd hR, ht _ hstat, trivial⟩ ⟨vz_blind, vz_preOf hK hPc hDc hN (fun U hU hW => hZ.to hS hFc hU hW)⟩ rfl hn hsz rfl (lv_room hroom) hdg hf) hS (fun q _ h => hFc q h) hFc (fun u rb t H1 locs1 ht1 hvm hw hB hz1 hk9 hS1 => ?_)
  obtain ⟨rfl, hP1, hD1⟩ := hB
  rw [ht1] at hP1
  obtain ⟨hP2, hD2⟩ := va_join (wr := wr) (w1 := u) hP hD isC isR hC hRr hnR hdis hk9 hFc hP1 hD1
  exact kk u H1 locs1 hw hP2 hD2 hS1
end VZ
theorem vz_addn {a b : Nat} {y : Int32} (h : y = nI b) : nI a + y = nI (a + b) := by rw [h]; exact nI_add a b
theorem vz_eq0 {n : Int32} (h1 : ¬ n < 0) (h2 : ¬ 0 < n) : n = 0 := by
  apply Int32.toInt_inj.mp
  have a1 := Int32.not_lt.mp h1
  have a2 := Int32.not_lt.mp h2
  have b1 := Int32.le_iff_toInt_le.mp a1
  have b2 := Int32.le_iff_toInt_le.mp a2
  exact Int.le_antisymm b2 b1
theorem vz_cmp_lt_t {a b : Nat} {y : Int32} (ha : a < 2 ^ 31) (hb : b < 2 ^ 31) (hy : y = nI b) (h : a < b) : nI a < y := by rw [hy]; exact (nI_ltI ha hb).mpr h
theorem vz_cmp_lt_f {a b : Nat} {y : Int32} (ha : a < 2 ^ 31) (hb : b < 2 ^ 31) (hy : y = nI b) (h : ¬ a < b) : ¬ nI a < y := by rw [hy]; exact fun q => h ((nI_ltI ha hb).mp q)
theorem vz_cmp_le_t {a b : Nat} {y : Int32} (ha : a < 2 ^ 31) (hb : b < 2 ^ 31) (hy : y = nI b) (h : a ≤ b) : nI a ≤ y := by rw [hy]; exact (nI_leI ha hb).mpr h
theorem vz_cmp_le_f {a b : Nat} {y : Int32} (ha : a < 2 ^ 31) (hb : b < 2 ^ 31) (hy : y = nI b) (h : ¬ a ≤ b) : ¬ nI a ≤ y := by rw [hy]; exact fun q => h ((nI_leI ha hb).mp q)
theorem vz_cmp_gt_t {a b : Nat} {y : Int32} (ha : a < 2 ^ 31) (hb : b < 2 ^ 31) (hy : y = nI b) (h : b < a) : y < nI a := by rw [hy]; exact (nI_ltI hb ha).mpr h
theorem vz_cmp_gt_f {a b : Nat} {y : Int32} (ha : a < 2 ^ 31) (hb : b < 2 ^ 31) (hy : y = nI b) (h : ¬ b < a) : ¬ y < nI a := by rw [hy]; exact fun q => h ((nI_ltI hb ha).mp q)
theorem vz_cmp_ge_t {a b : Nat} {y : Int32} (ha : a < 2 ^ 31) (hb : b < 2 ^ 31) (hy : y = nI b) (h : b ≤ a) : y ≤ nI a := by rw [hy]; exact (nI_leI hb ha).mpr h
theorem vz_cmp_ge_f {a b : Nat} {y : Int32} (ha : a < 2 ^ 31) (hb : b < 2 ^ 31) (hy : y = nI b) (h : ¬ b ≤ a) : ¬ y ≤ nI a := by rw [hy]; exact fun q => h ((nI_leI hb ha).mp q)
theorem vz_cmp_eq_t {a b : Nat} {y : Int32} (ha : a < 2 ^ 31) (hb : b < 2 ^ 31) (hy : y = nI b) (h : a = b) : nI a = y := by rw [hy]; exact (nI_eq ha hb).mpr h
theorem vz_cmp_eq_f {a b : Nat} {y : Int32} (ha : a < 2 ^ 31) (hb : b < 2 ^ 31) (hy : y = nI b) (h : ¬ a = b) : ¬ nI a = y := by rw [hy]; exact fun q => h ((nI_eq ha hb).mp q)
theorem vz_cmp_ne_t {a b : Nat} {y : Int32} (ha : a < 2 ^ 31) (hb : b < 2 ^ 31) (hy : y = nI b) (h : a ≠ b) : ¬ nI a = y := by rw [hy]; exact fun q => h ((nI_eq ha hb).mp q)
theorem vz_cmp_ne_f {a b : Nat} {y : Int32} (ha : a < 2 ^ 31) (hb : b < 2 ^ 31) (hy : y = nI b) (h : a = b) : nI a = y := by rw [hy, h]
theorem vz_in {i : Int32} {n : Nat} (h : decide (¬ (i < 0 ∨ n ≤ i.toNatClampNeg)) = true) : vp_in i n := by
  show ¬ (i < 0 ∨ n ≤ i.toNatClampNeg)
  exact of_decide_eq_true h
theorem vz_no1 {j : Int32} (h1 : ¬ j < 1) (h2 : ¬ 0 < j) : False := by
  have b1 := Int32.le_iff_toInt_le.mp (Int32.not_lt.mp h1)
  have b2 := Int32.le_iff_toInt_le.mp (Int32.not_lt.mp h2)
  have e1 : (1 : Int32).toInt = 1 := by decide
  have e0 : (0 : Int32).toInt = 0 := by decide
  omega
