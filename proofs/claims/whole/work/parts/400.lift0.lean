def t32 (f : Nat → Int32) : Nat → Int := fun k => (f k).toInt
def t64 (f : Nat → Int64) : Nat → Int := fun k => (f k).toInt
def up (f : Nat → Int) (k : Nat) (x : Int) : Nat → Int := fun j => if j = k then x else f j
def cpI (f g : Nat → Int) (sp dp n : Nat) : Nat → Int := fun k => if dp ≤ k ∧ k < dp + n then f (sp + (k - dp)) else g k
def iand (a b : Int) : Int := (Int32.ofInt a &&& Int32.ofInt b).toInt
def ior (a b : Int) : Int := (Int32.ofInt a ||| Int32.ofInt b).toInt
def ixor (a b : Int) : Int := (Int32.ofInt a ^^^ Int32.ofInt b).toInt
def ishl (a b : Int) : Int := (Int32.ofInt a <<< Int32.ofInt b).toInt
def ishr (a b : Int) : Int := (Int32.ofInt a >>> Int32.ofInt b).toInt
def iush (a b : Int) : Int := ((Int32.ofInt a).toUInt32 >>> (Int32.ofInt b).toUInt32).toInt32.toInt
def jand (a b : Int) : Int := (Int64.ofInt a &&& Int64.ofInt b).toInt
def jshr (a b : Int) : Int := (Int64.ofInt a >>> Int64.ofInt b).toInt
def ibyte (a : Int) : Int := (Int8.ofInt a).toInt
def strI : List (List Int) := strB.map (fun l => l.map Int32.toInt)
def Ok {α β : Type} (T : α → β) (m : Option α) (l : Option β) : Prop := ∀ R, l = some R → ∃ r, m = some r ∧ R = T r
theorem lf_none {α β : Type} {T : α → β} {m : Option α} : Ok T m none := fun R h => by cases h
theorem lf_guard {α β : Type} {T : α → β} {m : Option α} {l : Option β} {g : Prop} {dg : Decidable g} (h : g → Ok T m l) : Ok T m (if g then l else none) := by
  intro R hR
  by_cases q : g
  · rw [if_pos q] at hR; exact h q R hR
  · rw [if_neg q] at hR; cases hR
theorem lf_if {α β : Type} {T : α → β} {a b : Option α} {a' b' : Option β} {c c' : Prop} {dc : Decidable c} {dc' : Decidable c'} (hc : c' ↔ c) (ha : Ok T a a') (hb : Ok T b b') : Ok T (if c then a else b) (if c' then a' else b') := by
  intro R hR
  by_cases q : c
  · rw [if_pos (hc.2 q)] at hR; rw [if_pos q]; exact ha R hR
  · rw [if_neg (fun w => q (hc.1 w))] at hR; rw [if_neg q]; exact hb R hR
theorem lf_gd {α β : Type} {T : α → β} {a : Option α} {a' : Option β} {c c' : Prop} {dc : Decidable c} {dc' : Decidable c'} (h : c' → c ∧ Ok T a a') : Ok T (if c then a else none) (if c' then a' else none) := by
  intro R hR
  by_cases q : c'
  · rw [if_pos q] at hR; rw [if_pos (h q).1]; exact (h q).2 R hR
  · rw [if_neg q] at hR; cases hR
theorem lf_pos {α β : Type} {T : α → β} {a : Option α} {a' : Option β} {c : Prop} {dc : Decidable c} (hc : c) (h : Ok T a a') : Ok T (if c then a else none) a' := by
  rw [if_pos hc]; exact h
theorem ri {e N : Int} (h : 0 ≤ e ∧ e < N) (hN : N ≤ 2147483648) : -2147483648 ≤ e ∧ e < 2147483648 := by omega
theorem lf_bind {α β γ δ : Type} {T : α → β} {S : γ → δ} {m : Option α} {l : Option β} {f : α → Option γ} {f' : β → Option δ} (h1 : Ok T m l) (h2 : ∀ o, Ok S (f o) (f' (T o))) : Ok S (m.bind f) (l.bind f') := by
  intro R hR
  cases l with
  | none => cases hR
  | some O =>
    obtain ⟨o, ho, hO⟩ := h1 O rfl
    subst hO
    obtain ⟨r, hr, hR'⟩ := h2 o R hR
    exact ⟨r, by rw [ho]; exact hr, hR'⟩
theorem lf_some {α β : Type} {T : α → β} {r : α} {R : β} (h : R = T r) : Ok T (some r) (some R) := by
  intro Q hQ
  cases hQ
  exact ⟨r, rfl, h⟩
theorem lf_eq {α β : Type} {T : α → β} {m : Option α} {l : Option β} (h : Ok T m l) {R : β} (hl : l = some R) : ∃ r, m = some r ∧ R = T r := h R hl
theorem bm32 {v : Int} (h : -2147483648 ≤ v ∧ v < 2147483648) : v.bmod (2 ^ 32) = v := Int.bmod_eq_of_le (by omega) (by omega)
theorem bm64 {v : Int} (h : -9223372036854775808 ≤ v ∧ v < 9223372036854775808) : v.bmod (2 ^ 64) = v := Int.bmod_eq_of_le (by omega) (by omega)
theorem q_add {a b : Int32} {a' b' : Int} (ha : a' = a.toInt) (hb : b' = b.toInt) (g : -2147483648 ≤ a' + b' ∧ a' + b' < 2147483648) : a' + b' = (a + b).toInt := by
  subst ha; subst hb; rw [Int32.toInt_add, bm32 g]
theorem q_sub {a b : Int32} {a' b' : Int} (ha : a' = a.toInt) (hb : b' = b.toInt) (g : -2147483648 ≤ a' - b' ∧ a' - b' < 2147483648) : a' - b' = (a - b).toInt := by
  subst ha; subst hb; rw [Int32.toInt_sub, bm32 g]
theorem q_mul {a b : Int32} {a' b' : Int} (ha : a' = a.toInt) (hb : b' = b.toInt) (g : -2147483648 ≤ a' * b' ∧ a' * b' < 2147483648) : a' * b' = (a * b).toInt := by
  subst ha; subst hb; rw [Int32.toInt_mul, bm32 g]
theorem q_neg {a : Int32} {a' : Int} (ha : a' = a.toInt) (g : -2147483648 ≤ -a' ∧ -a' < 2147483648) : -a' = (-a).toInt := by
  subst ha; rw [Int32.toInt_neg, bm32 g]
theorem q_div {a b : Int32} {a' b' : Int} (ha : a' = a.toInt) (hb : b' = b.toInt) (g : -2147483648 ≤ a'.tdiv b' ∧ a'.tdiv b' < 2147483648) : a'.tdiv b' = (a / b).toInt := by
  subst ha; subst hb; rw [Int32.toInt_div, bm32 g]
theorem q_rem {a b : Int32} {a' b' : Int} (ha : a' = a.toInt) (hb : b' = b.toInt) : a'.tmod b' = (a - a / b * b).toInt := by
  subst ha; subst hb
  rw [Int32.toInt_sub, Int32.toInt_mul, Int32.toInt_div, Int.tmod_def]
  have h1 : ((a.toInt.tdiv b.toInt).bmod (2 ^ 32) * b.toInt).bmod (2 ^ 32) = (a.toInt.tdiv b.toInt * b.toInt).bmod (2 ^ 32) := Int.bmod_mul_bmod
  have h2 : (a.toInt - (a.toInt.tdiv b.toInt * b.toInt).bmod (2 ^ 32)).bmod (2 ^ 32) = (a.toInt - a.toInt.tdiv b.toInt * b.toInt).bmod (2 ^ 32) := Int.sub_bmod_bmod
  rw [h1, h2, Int.mul_comm b.toInt]
  have h3 : a.toInt - a.toInt.tdiv b.toInt * b.toInt = a.toInt.tmod b.toInt := by rw [Int.tmod_def, Int.mul_comm b.toInt]
  rw [h3]
  have h4 := Int32.toInt_mod a b
  have h5 := Int32.le_toInt (a % b)
  have h6 := Int32.toInt_lt (a % b)
  rw [← h4]
  exact (bm32 ⟨by simpa using h5, by simpa using h6⟩).symm
theorem p_add {a b : Int64} {a' b' : Int} (ha : a' = a.toInt) (hb : b' = b.toInt) (g : -9223372036854775808 ≤ a' + b' ∧ a' + b' < 9223372036854775808) : a' + b' = (a + b).toInt := by
  subst ha; subst hb; rw [Int64.toInt_add, bm64 g]
theorem p_sub {a b : Int64} {a' b' : Int} (ha : a' = a.toInt) (hb : b' = b.toInt) (g : -9223372036854775808 ≤ a' - b' ∧ a' - b' < 9223372036854775808) : a' - b' = (a - b).toInt := by
  subst ha; subst hb; rw [Int64.toInt_sub, bm64 g]
theorem p_mul {a b : Int64} {a' b' : Int} (ha : a' = a.toInt) (hb : b' = b.toInt) (g : -9223372036854775808 ≤ a' * b' ∧ a' * b' < 9223372036854775808) : a' * b' = (a * b).toInt := by
  subst ha; subst hb; rw [Int64.toInt_mul, bm64 g]
theorem p_neg {a : Int64} {a' : Int} (ha : a' = a.toInt) (g : -9223372036854775808 ≤ -a' ∧ -a' < 9223372036854775808) : -a' = (-a).toInt := by
  subst ha; rw [Int64.toInt_neg, bm64 g]
theorem p_div {a b : Int64} {a' b' : Int} (ha : a' = a.toInt) (hb : b' = b.toInt) (g : -9223372036854775808 ≤ a'.tdiv b' ∧ a'.tdiv b' < 9223372036854775808) : a'.tdiv b' = (a / b).toInt := by
  subst ha; subst hb; rw [Int64.toInt_div, bm64 g]
theorem p_rem {a b : Int64} {a' b' : Int} (ha : a' = a.toInt) (hb : b' = b.toInt) : a'.tmod b' = (a - a / b * b).toInt := by
  subst ha; subst hb
  rw [Int64.toInt_sub, Int64.toInt_mul, Int64.toInt_div, Int.tmod_def]
  have h1 : ((a.toInt.tdiv b.toInt).bmod (2 ^ 64) * b.toInt).bmod (2 ^ 64) = (a.toInt.tdiv b.toInt * b.toInt).bmod (2 ^ 64) := Int.bmod_mul_bmod
  have h2 : (a.toInt - (a.toInt.tdiv b.toInt * b.toInt).bmod (2 ^ 64)).bmod (2 ^ 64) = (a.toInt - a.toInt.tdiv b.toInt * b.toInt).bmod (2 ^ 64) := Int.sub_bmod_bmod
  rw [h1, h2, Int.mul_comm b.toInt]
  have h3 : a.toInt - a.toInt.tdiv b.toInt * b.toInt = a.toInt.tmod b.toInt := by rw [Int.tmod_def, Int.mul_comm b.toInt]
  rw [h3]
  have h4 := Int64.toInt_mod a b
  have h5 := Int64.le_toInt (a % b)
  have h6 := Int64.toInt_lt (a % b)
  rw [← h4]
  exact (bm64 ⟨by simpa using h5, by simpa using h6⟩).symm
theorem q_mask {a : Int32} {a' : Int} {m : Int32} {k : Nat} (hm : m.toBitVec = BitVec.ofNat 32 (2 ^ k - 1)) (hk : k < 31) (ha : a' = a.toInt) : a' % (2 ^ k : Nat) = (a &&& m).toInt := by
  subst ha
  show a.toBitVec.toInt % _ = (a.toBitVec &&& m.toBitVec).toInt
  rw [hm]
  generalize a.toBitVec = x
  have h2 : (2 ^ k - 1 : Nat) < 2 ^ 31 := by
    have : (2 : Nat) ^ k ≤ 2 ^ 30 := Nat.pow_le_pow_right (by omega) (by omega)
    omega
  have h1 : (x &&& BitVec.ofNat 32 (2 ^ k - 1)).toNat = x.toNat % 2 ^ k := by
    rw [BitVec.toNat_and, BitVec.toNat_ofNat, Nat.mod_eq_of_lt (by omega), Nat.and_two_pow_sub_one_eq_mod]
  have h3 : x.toNat % 2 ^ k < 2 ^ k := Nat.mod_lt _ (Nat.two_pow_pos k)
  rw [BitVec.toInt_eq_toNat_of_lt (x := x &&& BitVec.ofNat 32 (2 ^ k - 1)) (by rw [h1]; omega), h1, BitVec.toInt_eq_toNat_cond]
  have hd : (2 : Nat) ^ 32 = 2 ^ k * 2 ^ (32 - k) := by rw [← Nat.pow_add]; congr 1; omega
  split
  · exact (Int.natCast_emod _ _).symm
  · rw [Int.natCast_emod]
    rw [show ((2 ^ 32 : Nat) : Int) = ((2 ^ k : Nat) : Int) * ((2 ^ (32 - k) : Nat) : Int) by rw [hd]; exact Int.natCast_mul _ _]
    exact Int.sub_mul_emod_self_left _ _ _
theorem q_sh1 {a : Int32} {a' : Int} (ha : a' = a.toInt) : a' / 2 = (a >>> ((1 : Int32) &&& 31)).toInt := by
  subst ha
  show a.toBitVec.toInt / 2 = (a.toBitVec.sshiftRight 1).toInt
  rw [BitVec.toInt_sshiftRight, Int.shiftRight_eq_div_pow]; rfl
theorem q_sh2 {a : Int32} {a' : Int} (ha : a' = a.toInt) : a' / 4 = (a >>> ((2 : Int32) &&& 31)).toInt := by
  subst ha
  show a.toBitVec.toInt / 4 = (a.toBitVec.sshiftRight 2).toInt
  rw [BitVec.toInt_sshiftRight, Int.shiftRight_eq_div_pow]; rfl
theorem of32 (a : Int32) : Int32.ofInt a.toInt = a := Int32.ofInt_toInt a
theorem of64 (a : Int64) : Int64.ofInt a.toInt = a := Int64.ofInt_toInt a
theorem q_and {a b : Int32} {a' b' : Int} (ha : a' = a.toInt) (hb : b' = b.toInt) : iand a' b' = (a &&& b).toInt := by
  subst ha; subst hb; unfold iand; rw [of32, of32]
theorem q_or {a b : Int32} {a' b' : Int} (ha : a' = a.toInt) (hb : b' = b.toInt) : ior a' b' = (a ||| b).toInt := by
  subst ha; subst hb; unfold ior; rw [of32, of32]
theorem q_xor {a b : Int32} {a' b' : Int} (ha : a' = a.toInt) (hb : b' = b.toInt) : ixor a' b' = (a ^^^ b).toInt := by
  subst ha; subst hb; unfold ixor; rw [of32, of32]
theorem q_shl {a b : Int32} {a' b' : Int} (ha : a' = a.toInt) (hb : b' = b.toInt) : ishl a' b' = (a <<< b).toInt := by
  subst ha; subst hb; unfold ishl; rw [of32, of32]
theorem q_shr {a b : Int32} {a' b' : Int} (ha : a' = a.toInt) (hb : b' = b.toInt) : ishr a' b' = (a >>> b).toInt := by
  subst ha; subst hb; unfold ishr; rw [of32, of32]
theorem q_ush {a b : Int32} {a' b' : Int} (ha : a' = a.toInt) (hb : b' = b.toInt) : iush a' (iand b' 31) = ((Int32.toUInt32 a >>> (Int32.toUInt32 b &&& Int32.toUInt32 31)).toInt32).toInt := by
  subst ha; subst hb; unfold iush iand; rw [of32, of32, of32]; rfl
theorem p_and {a b : Int64} {a' b' : Int} (ha : a' = a.toInt) (hb : b' = b.toInt) : jand a' b' = (a &&& b).toInt := by
  subst ha; subst hb; unfold jand; rw [of64, of64]
theorem p_shr {a b : Int64} {a' b' : Int} (ha : a' = a.toInt) (hb : b' = b.toInt) : jshr a' b' = (a >>> b).toInt := by
  subst ha; subst hb; unfold jshr; rw [of64, of64]
theorem q_byte {a : Int32} {a' : Int} (ha : a' = a.toInt) (hn : ∀ x : Int32, vp_nar .byte x = x.toInt8.toInt32) : ibyte a' = (vp_nar .byte ((Int32.toInt8 a).toInt32)).toInt := by
  subst ha
  rw [hn]
  unfold ibyte
  rw [Int8.toInt_toInt32, Int8.toInt8_toInt32]
  rfl
theorem p_ext {a : Int32} {a' : Int} (ha : a' = a.toInt) : a' = (Int32.toInt64 a).toInt := by
  subst ha; exact (Int32.toInt_toInt64 a).symm
theorem q_nar {a : Int64} {a' : Int} (ha : a' = a.toInt) (g : -2147483648 ≤ a' ∧ a' < 2147483648) : a' = (Int64.toInt32 a).toInt := by
  subst ha; rw [Int64.toInt_toInt32]; exact (bm32 g).symm
theorem q_clamp {a : Int32} {a' : Int} (ha : a' = a.toInt) : a'.toNat = Int32.toNatClampNeg a := by subst ha; rfl
theorem q_get {f : Nat → Int32} {f' : Nat → Int} {i j : Nat} (hf : f' = t32 f) (hi : j = i) : f' j = (f i).toInt := by subst hf; subst hi; rfl
theorem p_get {f : Nat → Int64} {f' : Nat → Int} {i j : Nat} (hf : f' = t64 f) (hi : j = i) : f' j = (f i).toInt := by subst hf; subst hi; rfl
theorem q_upd {f : Nat → Int32} {f' : Nat → Int} {i j : Nat} {v : Int32} {v' : Int} (hf : f' = t32 f) (hi : j = i) (hv : v' = v.toInt) : up f' j v' = t32 (upd f i v) := by
  subst hf; subst hi; subst hv
  funext k
  unfold up t32 upd
  by_cases h : k = j
  · rw [if_pos h, if_pos h]
  · rw [if_neg h, if_neg h]
theorem p_upd {f : Nat → Int64} {f' : Nat → Int} {i j : Nat} {v : Int64} {v' : Int} (hf : f' = t64 f) (hi : j = i) (hv : v' = v.toInt) : up f' j v' = t64 (vp_updL f i v) := by
  subst hf; subst hi; subst hv
  funext k
  unfold up t64 vp_updL
  by_cases h : k = j
  · rw [if_pos h, if_pos h]
  · rw [if_neg h, if_neg h]
theorem q_fill {f : Nat → Int32} {f' : Nat → Int} {n : Nat} {v : Int32} {v' : Int} (hf : f' = t32 f) (hv : v' = v.toInt) : fillF f' n v' = t32 (fillF f n v) := by
  subst hf; subst hv
  funext k
  unfold t32 fillF
  by_cases h : k < n
  · rw [if_pos h, if_pos h]
  · rw [if_neg h, if_neg h]
theorem p_fill {f : Nat → Int64} {f' : Nat → Int} {n : Nat} {v : Int64} {v' : Int} (hf : f' = t64 f) (hv : v' = v.toInt) : fillF f' n v' = t64 (fillF f n v) := by
  subst hf; subst hv
  funext k
  unfold t64 fillF
  by_cases h : k < n
  · rw [if_pos h, if_pos h]
  · rw [if_neg h, if_neg h]
theorem q_cpy {f g : Nat → Int32} {f' g' : Nat → Int} {a b c a' b' c' : Nat} (hf : f' = t32 f) (hg : g' = t32 g) (ha : a' = a) (hb : b' = b) (hc : c' = c) : cpI f' g' a' b' c' = t32 (va_cpy f g a b c) := by
  subst hf; subst hg; subst ha; subst hb; subst hc
  funext k
  unfold cpI t32 va_cpy
  by_cases h : b' ≤ k ∧ k < b' + c'
  · rw [if_pos h, if_pos h]
  · rw [if_neg h, if_neg h]
theorem q_ite {c c' : Prop} {dc : Decidable c} {dc' : Decidable c'} {a b : Int32} {a' b' : Int} (hc : c' ↔ c) (ha : a' = a.toInt) (hb : b' = b.toInt) : (if c' then a' else b') = (if c then a else b).toInt := by
  by_cases h : c
  · rw [if_pos h, if_pos (hc.2 h)]; exact ha
  · rw [if_neg h, if_neg (fun w => h (hc.1 w))]; exact hb
theorem p_ite {c c' : Prop} {dc : Decidable c} {dc' : Decidable c'} {a b : Int64} {a' b' : Int} (hc : c' ↔ c) (ha : a' = a.toInt) (hb : b' = b.toInt) : (if c' then a' else b') = (if c then a else b).toInt := by
  by_cases h : c
  · rw [if_pos h, if_pos (hc.2 h)]; exact ha
  · rw [if_neg h, if_neg (fun w => h (hc.1 w))]; exact hb
theorem strL_le : ∀ x : Nat, strL.getD x 0 < 2147483648 := by
  intro x
  have h : ∀ v, v ∈ strL → v < 2147483648 := by decide
  rw [List.getD_eq_getElem?_getD]
  cases e : strL[x]? with
  | none => decide
  | some v => exact h v (List.mem_of_getElem? e)
theorem q_len (x : Nat) : ((strL.getD x 0 : Nat) : Int) = (nI (strL.getD x 0)).toInt := by
  unfold nI
  exact (Int32.toInt_ofNat_of_lt (strL_le x)).symm
theorem q_chr {x i j : Nat} (h : j = i) : (strI.getD x []).getD j 0 = ((strB.getD x []).getD i 0).toInt := by
  subst h
  unfold strI
  rw [List.getD_eq_getElem?_getD (l := strB.map _), List.getElem?_map, List.getD_eq_getElem?_getD (l := strB)]
  cases strB[x]? with
  | none => rfl
  | some l =>
    show (l.map Int32.toInt).getD j 0 = (l.getD j 0).toInt
    rw [List.getD_eq_getElem?_getD, List.getElem?_map, List.getD_eq_getElem?_getD]
    cases l[j]? with
    | none => rfl
    | some v => rfl
theorem c_lt {a b : Int32} {a' b' : Int} (ha : a' = a.toInt) (hb : b' = b.toInt) : a' < b' ↔ a < b := by subst ha; subst hb; exact Int32.lt_iff_toInt_lt.symm
theorem c_le {a b : Int32} {a' b' : Int} (ha : a' = a.toInt) (hb : b' = b.toInt) : a' ≤ b' ↔ a ≤ b := by subst ha; subst hb; exact Int32.le_iff_toInt_le.symm
theorem c_eq {a b : Int32} {a' b' : Int} (ha : a' = a.toInt) (hb : b' = b.toInt) : a' = b' ↔ a = b := by subst ha; subst hb; exact Int32.toInt_inj
theorem d_lt {a b : Int64} {a' b' : Int} (ha : a' = a.toInt) (hb : b' = b.toInt) : a' < b' ↔ a < b := by subst ha; subst hb; exact Int64.lt_iff_toInt_lt.symm
theorem d_le {a b : Int64} {a' b' : Int} (ha : a' = a.toInt) (hb : b' = b.toInt) : a' ≤ b' ↔ a ≤ b := by subst ha; subst hb; exact Int64.le_iff_toInt_le.symm
theorem d_eq {a b : Int64} {a' b' : Int} (ha : a' = a.toInt) (hb : b' = b.toInt) : a' = b' ↔ a = b := by subst ha; subst hb; exact Int64.toInt_inj
theorem lc3 (a b : Int64) : (lg_cmp a b = -1 ∧ a.toInt < b.toInt) ∨ (lg_cmp a b = 0 ∧ a.toInt = b.toInt) ∨ (lg_cmp a b = 1 ∧ b.toInt < a.toInt) := by
  unfold lg_cmp
  by_cases h : b < a
  · right; right; rw [if_pos h]; exact ⟨rfl, Int64.lt_iff_toInt_lt.1 h⟩
  · rw [if_neg h]
    by_cases q : a = b
    · right; left; rw [if_pos q]; exact ⟨rfl, by rw [q]⟩
    · left; rw [if_neg q]
      have h1 : ¬ b.toInt < a.toInt := fun w => h (Int64.lt_iff_toInt_lt.2 w)
      have h2 : ¬ a.toInt = b.toInt := fun w => q (Int64.toInt_inj.1 w)
      exact ⟨rfl, by omega⟩
theorem g_le0 {a b : Int64} {a' b' : Int} (ha : a' = a.toInt) (hb : b' = b.toInt) : a' ≤ b' ↔ lg_cmp a b ≤ 0 := by
  subst ha; subst hb
  rcases lc3 a b with ⟨h, q⟩ | ⟨h, q⟩ | ⟨h, q⟩ <;> rw [h] <;> constructor <;> intro w <;> first | decide | omega | exact absurd w (by decide)
theorem g_lt0 {a b : Int64} {a' b' : Int} (ha : a' = a.toInt) (hb : b' = b.toInt) : a' < b' ↔ lg_cmp a b < 0 := by
  subst ha; subst hb
  rcases lc3 a b with ⟨h, q⟩ | ⟨h, q⟩ | ⟨h, q⟩ <;> rw [h] <;> constructor <;> intro w <;> first | decide | omega | exact absurd w (by decide)
theorem g_0le {a b : Int64} {a' b' : Int} (ha : a' = a.toInt) (hb : b' = b.toInt) : b' ≤ a' ↔ 0 ≤ lg_cmp a b := by
  subst ha; subst hb
  rcases lc3 a b with ⟨h, q⟩ | ⟨h, q⟩ | ⟨h, q⟩ <;> rw [h] <;> constructor <;> intro w <;> first | decide | omega | exact absurd w (by decide)
theorem g_0lt {a b : Int64} {a' b' : Int} (ha : a' = a.toInt) (hb : b' = b.toInt) : b' < a' ↔ 0 < lg_cmp a b := by
  subst ha; subst hb
  rcases lc3 a b with ⟨h, q⟩ | ⟨h, q⟩ | ⟨h, q⟩ <;> rw [h] <;> constructor <;> intro w <;> first | decide | omega | exact absurd w (by decide)
theorem g_eq0 {a b : Int64} {a' b' : Int} (ha : a' = a.toInt) (hb : b' = b.toInt) : a' = b' ↔ lg_cmp a b = 0 := by
  subst ha; subst hb
  rcases lc3 a b with ⟨h, q⟩ | ⟨h, q⟩ | ⟨h, q⟩ <;> rw [h] <;> constructor <;> intro w <;> first | decide | omega | exact absurd w (by decide)
theorem c_idx {a : Int32} {a' : Int} {n : Nat} {n' : Int} (hn : n' = (n : Int)) (ha : a' = a.toInt) : (0 ≤ a' ∧ a' < n') ↔ ¬ (a < 0 ∨ n ≤ Int32.toNatClampNeg a) := by
  subst hn; subst ha
  have h1 : a < 0 ↔ a.toInt < 0 := Int32.lt_iff_toInt_lt
  have h2 : Int32.toNatClampNeg a = a.toInt.toNat := rfl
  rw [h1, h2]
  omega
theorem c_nidx {n m : Nat} {n' m' : Nat} (hn : n' = n) (hm : m' = m) : n' ≤ m' ↔ n ≤ m := by subst hn; subst hm; exact Iff.rfl
