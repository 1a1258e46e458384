/-! Exact values: the machine's own operations over Int, and rows that give them. -/
def Hd (P : Prop) : Prop := P
theorem Hd.mk {P : Prop} (h : P) : Hd P := h
theorem Hd.out {P : Prop} (h : Hd P) : P := h
def oWrap (a : Int) : Int := (iI a).toInt
def oAnd (a b : Int) : Int := (iI a &&& iI b).toInt
def oOr (a b : Int) : Int := (iI a ||| iI b).toInt
def oXor (a b : Int) : Int := (iI a ^^^ iI b).toInt
def oShl (a b : Int) : Int := (iI a <<< (iI b &&& 31)).toInt
def oShr (a b : Int) : Int := (iI a >>> (iI b &&& 31)).toInt
def oUshr (a b : Int) : Int := ((iI a).toUInt32 >>> ((iI b).toUInt32 &&& Int32.toUInt32 31)).toInt32.toInt
def oMul (a b : Int) : Int := (iI a * iI b).toInt
def oDiv (a b : Int) : Int := (iI a / iI b).toInt
def oRem (a b : Int) : Int := (iI a - iI a / iI b * iI b).toInt
def oI2b (a : Int) : Int := ((iI a).toInt8.toInt32).toInt
def oI2l (a : Int) : Int := ((iI a).toInt64).toInt
def oL2i (a : Int) : Int := ((jI a).toInt32).toInt
def pAdd (a b : Int) : Int := (jI a + jI b).toInt
def pSub (a b : Int) : Int := (jI a - jI b).toInt
def pMul (a b : Int) : Int := (jI a * jI b).toInt
def pDiv (a b : Int) : Int := (jI a / jI b).toInt
def pRem (a b : Int) : Int := (jI a - jI a / jI b * jI b).toInt
def pAnd (a b : Int) : Int := (jI a &&& jI b).toInt
def pOr (a b : Int) : Int := (jI a ||| jI b).toInt
def pShl (a b : Int) : Int := (jI a <<< ((iI b).toInt64 &&& 63)).toInt
def pUshr (a b : Int) : Int := ((jI a).toUInt64 >>> ((iI b).toInt64.toUInt64 &&& Int64.toUInt64 63)).toInt64.toInt
theorem i_wrapE (a : Int) : ∃ z : Int, Hd (z = oWrap a) ∧ (-2147483648 ≤ z ∧ z ≤ 2147483647) ∧ iI a = iI z := ⟨(iI a).toInt, rfl, R32_of _, (iI_of _).symm⟩
section EX
variable {p : Program} {l : Launch} {e : Env} {R : Room} {s : State} {m : MethodId} {args : Array Value} {below : List Frame} {meth : Method} {c : Code} {H : Heap} {locs : List Loc} {cells slots : Nat} {Q : State → Prop}
variable {cc : ByteArray} {pc : Nat} {ls : Array Slot} {rest : List Value}
theorem x_absE {x : Int32} (k : ∀ z : Int, Hd (z = x.toInt) → -2147483648 ≤ z ∧ z ≤ 2147483647 → W p l e R s m args below meth c H locs cells slots Q (F0 m pc ls (.int (iI z) :: rest))) : W p l e R s m args below meth c H locs cells slots Q (F0 m pc ls (.int x :: rest)) := tp_i (iI_of x).symm (k x.toInt rfl (R32_of x))
theorem x_abslE {x : Int64} (k : ∀ z : Int, Hd (z = x.toInt) → -9223372036854775808 ≤ z ∧ z ≤ 9223372036854775807 → W p l e R s m args below meth c H locs cells slots Q (F0 m pc ls (.long (jI z) :: rest))) : W p l e R s m args below meth c H locs cells slots Q (F0 m pc ls (.long x :: rest)) := tp_l (jI_of x).symm (k x.toInt rfl (R64_of x))
theorem x_andE {x : Int32} {b : Int} (hb : 0 ≤ b ∧ b ≤ 2147483647) (k : ∀ z : Int, Hd (z = (x &&& iI b).toInt) → 0 ≤ z ∧ z ≤ b → W p l e R s m args below meth c H locs cells slots Q (F0 m pc ls (.int (iI z) :: rest))) : W p l e R s m args below meth c H locs cells slots Q (F0 m pc ls (.int (x &&& iI b) :: rest)) := by
  have r : (iI b).toInt = b := iI_toInt ⟨by omega, by omega⟩
  have h := and_le (x := x) (y := iI b) (by rw [r]; exact hb.1)
  rw [r] at h
  exact tp_i (iI_of _).symm (k _ rfl h)
theorem x_orE {a b : Int} (n : Nat) (hn : n ≤ 30) (ha : 0 ≤ a ∧ a < 2 ^ n) (hb : 0 ≤ b ∧ b < 2 ^ n) (k : ∀ z : Int, Hd (z = oOr a b) → 0 ≤ z ∧ z < 2 ^ n → W p l e R s m args below meth c H locs cells slots Q (F0 m pc ls (.int (iI z) :: rest))) : W p l e R s m args below meth c H locs cells slots Q (F0 m pc ls (.int (iI a ||| iI b) :: rest)) := by
  have p30 : (2 : Int) ^ n ≤ 2 ^ 30 := by exact_mod_cast Nat.pow_le_pow_right (n := 2) (by decide) hn
  have p30' : (2 : Int) ^ 30 = 1073741824 := by decide
  have ra : (iI a).toInt = a := iI_toInt ⟨by omega, by omega⟩
  have rb : (iI b).toInt = b := iI_toInt ⟨by omega, by omega⟩
  exact tp_i (iI_of _).symm (k _ rfl (or_lt n hn (by rw [ra]; exact ha) (by rw [rb]; exact hb)))
theorem k_i2bE {x : Int32} (hx : p.tables.exec = Jvm.exec) (hb : c.code = cc) (d : decode cc pc = .ok (.i2b, 1)) (k : ∀ z : Int, Hd (z = (x.toInt8.toInt32).toInt) → -128 ≤ z ∧ z ≤ 127 → W p l e R s m args below meth c H locs cells slots Q (F0 m (pc + 1) ls (.int (iI z) :: rest))) : W p l e R s m args below meth c H locs cells slots Q (F0 m pc ls (.int x :: rest)) := lv_i2b hx hb d rfl (tp_i (iI_of _).symm (k _ rfl (i2b_r x)))
end EX
