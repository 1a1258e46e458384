/-! Decode rows in groups: one look over the bytes for all rows of a group. -/
def dkq (c : ByteArray) : List (Nat × Jvm.ClassFile.Instr × Nat) → Bool
  | [] => true
  | r :: t => decide (decode c r.1 = .ok r.2) && dkq c t
def dkg : List (Nat × Jvm.ClassFile.Instr × Nat) → Nat → Option (Nat × Jvm.ClassFile.Instr × Nat)
  | [], _ => none
  | r :: _, 0 => some r
  | _ :: t, i + 1 => dkg t i
theorem dk_all {c : ByteArray} : ∀ (L : List (Nat × Jvm.ClassFile.Instr × Nat)), dkq c L = true → ∀ (i : Nat) (r : Nat × Jvm.ClassFile.Instr × Nat), dkg L i = some r → decode c r.1 = .ok r.2 := by
  intro L
  induction L with
  | nil =>
    intro _ i r e
    exact absurd (show (none : Option (Nat × Jvm.ClassFile.Instr × Nat)) = some r from e) (by intro h; cases h)
  | cons a t ih =>
    intro h i r e
    have h : (decide (decode c a.1 = .ok a.2) && dkq c t) = true := h
    rw [Bool.and_eq_true] at h
    cases i with
    | zero =>
      have e : some a = some r := e
      rw [← Option.some.inj e]
      exact of_decide_eq_true h.1
    | succ i => exact ih h.2 i r e
theorem dk_at {c : ByteArray} {L : List (Nat × Jvm.ClassFile.Instr × Nat)} (h : dkq c L = true) (i : Nat) {pc : Nat} {op : Jvm.ClassFile.Instr} {n : Nat} (e : dkg L i = some (pc, op, n)) : decode c pc = .ok (op, n) := dk_all L h i (pc, op, n) e
/-! Numbers as Int, worlds as functions of one state. -/
abbrev St := Nat → Nat → Int
def iI (z : Int) : Int32 := Int32.ofInt z
def jI (z : Int) : Int64 := Int64.ofInt z
def aI (g : Nat → Int) : Nat → Int32 := fun k => iI (g k)
def aJ (g : Nat → Int) : Nat → Int64 := fun k => jI (g k)
def up (g : Nat → Int) (i : Nat) (v : Int) : Nat → Int := fun i' => bif Nat.beq i' i then v else g i'
def stA (A : St) (j i : Nat) (v : Int) : St := fun j' => bif Nat.beq j' j then up (A j) i v else A j'
abbrev R32 (z : Int) : Prop := -2147483648 ≤ z ∧ z ≤ 2147483647
abbrev R64 (z : Int) : Prop := -9223372036854775808 ≤ z ∧ z ≤ 9223372036854775807
theorem iI_toInt {z : Int} (h : R32 z) : (iI z).toInt = z := by
  have h1 := h.1
  have h2 := h.2
  exact Int32.toInt_ofInt_of_le (by omega) (by omega)
theorem jI_toInt {z : Int} (h : R64 z) : (jI z).toInt = z := by
  have h1 := h.1
  have h2 := h.2
  exact Int64.toInt_ofInt_of_le (by omega) (by omega)
theorem iI_of (x : Int32) : iI x.toInt = x := Int32.ofInt_toInt x
theorem jI_of (x : Int64) : jI x.toInt = x := Int64.ofInt_toInt x
theorem R32_of (x : Int32) : R32 x.toInt := ⟨x.le_toInt, by have := x.toInt_lt; omega⟩
theorem R64_of (x : Int64) : R64 x.toInt := ⟨x.le_toInt, by have := x.toInt_lt; omega⟩
theorem iI_add (a b : Int) : iI a + iI b = iI (a + b) := (Int32.ofInt_add a b).symm
theorem iI_sub (a b : Int) : iI a - iI b = iI (a - b) := (Int32.ofInt_sub a b).symm
theorem iI_mul (a b : Int) : iI a * iI b = iI (a * b) := (Int32.ofInt_mul a b).symm
theorem iI_0 : iI 0 = 0 := by decide +kernel
theorem jI_0 : jI 0 = 0 := by decide +kernel
theorem R32_0 : R32 0 := ⟨by decide, by decide⟩
theorem i_lt {a b : Int} (ha : R32 a) (hb : R32 b) : iI a < iI b ↔ a < b := by rw [Int32.lt_iff_toInt_lt, iI_toInt ha, iI_toInt hb]
theorem i_le {a b : Int} (ha : R32 a) (hb : R32 b) : iI a ≤ iI b ↔ a ≤ b := by rw [Int32.le_iff_toInt_le, iI_toInt ha, iI_toInt hb]
theorem i_eq {a b : Int} (ha : R32 a) (hb : R32 b) : iI a = iI b ↔ a = b := by rw [← Int32.toInt_inj, iI_toInt ha, iI_toInt hb]
theorem i_lt0 {a : Int} (ha : R32 a) : iI a < 0 ↔ a < 0 := by rw [← iI_0]; exact i_lt ha R32_0
theorem i_le0 {a : Int} (ha : R32 a) : iI a ≤ 0 ↔ a ≤ 0 := by rw [← iI_0]; exact i_le ha R32_0
theorem i_0le {a : Int} (ha : R32 a) : 0 ≤ iI a ↔ 0 ≤ a := by rw [← iI_0]; exact i_le R32_0 ha
theorem i_eq0 {a : Int} (ha : R32 a) : iI a = 0 ↔ a = 0 := by rw [← iI_0]; exact i_eq ha R32_0
theorem i_inc {a n v : Int} (h : a + n = v) : iI a + Int32.ofInt n = iI v := by subst h; exact iI_add a n
theorem shl1_fin : ∀ k : Fin 31, iI 1 <<< (iI (k.val : Int) &&& 31) = iI (2 ^ k.val) := by decide +kernel
theorem shl1 {n : Int} (h : 0 ≤ n ∧ n ≤ 30) : iI 1 <<< (iI n &&& 31) = iI (2 ^ n.toNat) := by
  have e := shl1_fin ⟨n.toNat, by omega⟩
  have e2 : ((n.toNat : Nat) : Int) = n := by omega
  simp only [e2] at e
  exact e
theorem j_eq {a b : Int} (ha : R64 a) (hb : R64 b) : jI a = jI b ↔ a = b := by rw [← Int64.toInt_inj, jI_toInt ha, jI_toInt hb]
theorem j_lt {a b : Int} (ha : R64 a) (hb : R64 b) : jI a < jI b ↔ a < b := by rw [Int64.lt_iff_toInt_lt, jI_toInt ha, jI_toInt hb]
theorem i_in {i : Int} {n : Nat} (h : 0 ≤ i ∧ i < (n : Int)) (hn : n ≤ 2147483647) : vp_in (iI i) n := by
  have r : R32 i := ⟨by omega, by omega⟩
  rw [vp_in_iff, iI_toInt r]
  exact h
theorem i_nat {i : Int} (h : R32 i) : (iI i).toNatClampNeg = i.toNat := by
  show (iI i).toInt.toNat = _
  rw [iI_toInt h]
theorem beq_ne {k i : Nat} (h : ¬ k = i) : Nat.beq k i = false := by
  cases e : Nat.beq k i with
  | false => rfl
  | true => exact absurd (Nat.eq_of_beq_eq_true e) h
theorem upd_aI (g : Nat → Int) (i : Nat) (v : Int) : upd (aI g) i (iI v) = aI (up g i v) := by
  funext k
  unfold upd aI up
  by_cases h : k = i
  · simp [h]
  · simp [h, beq_ne h]
theorem updL_aJ (g : Nat → Int) (i : Nat) (v : Int) : vp_updL (aJ g) i (jI v) = aJ (up g i v) := by
  funext k
  unfold vp_updL aJ up
  by_cases h : k = i
  · simp [h]
  · simp [h, beq_ne h]
theorem up_same (g : Nat → Int) (i : Nat) (v : Int) : up g i v i = v := by simp [up]
theorem up_ne (g : Nat → Int) {i k : Nat} (v : Int) (h : k ≠ i) : up g i v k = g k := by simp [up, beq_ne h]
theorem stA_same (A : St) (j i : Nat) (v : Int) : stA A j i v j = up (A j) i v := by simp [stA]
theorem stA_ne (A : St) {j i k : Nat} (v : Int) (h : k ≠ j) : stA A j i v k = A k := by simp [stA, beq_ne h]
theorem nar_z {z : Int} (h : 0 ≤ z ∧ z ≤ 1) : vp_nar .boolean (iI z) = iI z := by
  rcases (show z = 0 ∨ z = 1 by omega) with rfl | rfl <;> decide +kernel
/-- ranges kept: what a table of least and greatest numbers says -/
def IR (lo hi : Nat → Nat → Int) (A : St) : Prop := ∀ j k, lo j k ≤ A j k ∧ A j k ≤ hi j k
theorem IR.st {lo hi : Nat → Nat → Int} {A : St} {j i : Nat} {v : Int} (h : IR lo hi A) (hv : lo j i ≤ v ∧ v ≤ hi j i) : IR lo hi (stA A j i v) := by
  intro j' k
  by_cases e : j' = j
  · subst e
    rw [stA_same]
    by_cases e2 : k = i
    · subst e2
      rw [up_same]
      exact hv
    · rw [up_ne _ _ e2]
      exact h _ _
  · rw [stA_ne _ _ e]
    exact h _ _
/-- what stays: rows but those of M, single numbers of row 0 but those of N -/
def fr (M N : List Nat) (A B : St) : Prop := (∀ j, j ≠ 0 → M.contains j = false → B j = A j) ∧ ∀ k, N.contains k = false → B 0 k = A 0 k
theorem fr.rf {M N : List Nat} {A : St} : fr M N A A := ⟨fun _ _ _ => rfl, fun _ _ => rfl⟩
theorem fr.st {M N : List Nat} {A B : St} {j i : Nat} {v : Int} (h : fr M N A B) (h0 : j ≠ 0) (hj : M.contains j = true) : fr M N A (stA B j i v) := by
  refine ⟨fun k hk hM => ?_, fun k hk => ?_⟩
  · rw [stA_ne _ _ (fun e => by rw [e, hj] at hM; cases hM)]
    exact h.1 k hk hM
  · rw [stA_ne _ _ (fun e => h0 e.symm)]
    exact h.2 k hk
theorem fr.sf {M N : List Nat} {A B : St} {i : Nat} {v : Int} (h : fr M N A B) (hi : N.contains i = true) : fr M N A (stA B 0 i v) := by
  refine ⟨fun k hk hM => ?_, fun k hk => ?_⟩
  · rw [stA_ne _ _ hk]
    exact h.1 k hk hM
  · rw [stA_same, up_ne _ _ (fun e => by rw [e, hi] at hk; cases hk)]
    exact h.2 k hk
theorem fr.trans {M N M' N' : List Nat} {A B C : St} (h : fr M N A B) (h2 : fr M' N' B C) (hM : M'.all (fun j => M.contains j) = true) (hN : N'.all (fun j => N.contains j) = true) : fr M N A C := by
  have sub : ∀ {X Y : List Nat}, Y.all (fun j => X.contains j) = true → ∀ j, X.contains j = false → Y.contains j = false := by
    intro X Y h j hj
    cases hy : Y.contains j with
    | false => rfl
    | true =>
      have := List.all_eq_true.mp h j (List.contains_iff_mem.mp hy)
      rw [hj] at this
      cases this
  exact ⟨fun j h0 hj => (h2.1 j h0 (sub hM j hj)).trans (h.1 j h0 hj), fun k hk => (h2.2 k (sub hN k hk)).trans (h.2 k hk)⟩
theorem fr_def {M N : List Nat} {A B C : St} (h : C = B) (p : fr M N A B) : fr M N A C := h ▸ p
theorem bv_nat {z : Int} : (iI z).toBitVec.toNat = (z % 4294967296).toNat := by
  have h : (iI z).toBitVec = BitVec.ofInt 32 z := rfl
  rw [h, BitVec.toNat_ofInt]
  rfl
theorem bv_natL {z : Int} : (jI z).toBitVec.toNat = (z % 18446744073709551616).toNat := by
  have h : (jI z).toBitVec = BitVec.ofInt 64 z := rfl
  rw [h, BitVec.toNat_ofInt]
  rfl
theorem ushr1 (z : Int) : ((iI z).toUInt32 >>> ((iI 1).toUInt32 &&& Int32.toUInt32 31)).toInt32.toInt = (z % 4294967296) / 2 := by
  have e1 : ((iI 1).toUInt32 &&& Int32.toUInt32 31) = 1 := by decide +kernel
  rw [e1]
  have e2 : ((iI z).toUInt32 >>> 1).toInt32.toBitVec = (iI z).toBitVec >>> 1 := by
    show ((iI z).toUInt32 >>> 1).toBitVec = _
    rw [UInt32.toBitVec_shiftRight]
    rfl
  show ((iI z).toUInt32 >>> 1).toInt32.toBitVec.toInt = _
  rw [e2, BitVec.toInt_eq_toNat_cond, BitVec.toNat_ushiftRight, bv_nat, Nat.shiftRight_eq_div_pow]
  have : (z % 4294967296).toNat / 2 ^ 1 = ((z % 4294967296) / 2).toNat := by omega
  rw [this]
  split <;> omega
theorem lushr8 (z : Int) : ((jI z).toUInt64 >>> ((iI 8).toInt64.toUInt64 &&& Int64.toUInt64 63)).toInt64.toInt = (z % 18446744073709551616) / 256 := by
  have e1 : ((iI 8).toInt64.toUInt64 &&& Int64.toUInt64 63) = 8 := by decide +kernel
  rw [e1]
  have e2 : ((jI z).toUInt64 >>> 8).toInt64.toBitVec = (jI z).toBitVec >>> 8 := by
    show ((jI z).toUInt64 >>> 8).toBitVec = _
    rw [UInt64.toBitVec_shiftRight]
    rfl
  show ((jI z).toUInt64 >>> 8).toInt64.toBitVec.toInt = _
  rw [e2, BitVec.toInt_eq_toNat_cond, BitVec.toNat_ushiftRight, bv_natL, Nat.shiftRight_eq_div_pow]
  have : (z % 18446744073709551616).toNat / 2 ^ 8 = ((z % 18446744073709551616) / 256).toNat := by omega
  rw [this]
  split <;> omega
theorem i_ne0 {a : Int} (ha : R32 a) (h : a ≠ 0) : ¬ iI a = 0 := fun g => h ((i_eq0 ha).mp g)
theorem j_ne0 {a : Int} (ha : R64 a) (h : a ≠ 0) : ¬ jI a = 0 := fun g => h ((j_eq ha ⟨by decide, by decide⟩).mp (g.trans jI_0.symm))
theorem rb {lo hi z a b : Int} (h : lo ≤ z ∧ z ≤ hi) (h1 : a ≤ lo) (h2 : hi ≤ b) : a ≤ z ∧ z ≤ b := ⟨Int.le_trans h1 h.1, Int.le_trans h.2 h2⟩
