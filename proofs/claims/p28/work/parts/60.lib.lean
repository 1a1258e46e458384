/-! What the reference's reader keeps: own words, the first of a name, the lexer, wants. -/
def ownz (w : Int) : Int := if w = 482854658917 ∨ w = 1685024626 ∨ w = 6451064 ∨ w = 24948 ∨ w = 7038329 ∨ w = 26990 ∨ w = 123581014175598 ∨ w = 6840691 ∨ w = 1936225652 ∨ w = 25209 ∨ w = 1819243380 ∨ w = 499967946343 ∨ w = 512735736947 ∨ w = 1836413812 ∨ w = 6447474 ∨ w = 2003330414 ∨ w = 28530 ∨ w = 6385252 ∨ w = 7237492 ∨ w = 6384748 ∨ w = 7825519 ∨ w = 1936748404 ∨ w = 1801812339 ∨ w = 109317377451364 ∨ w = 7170414 ∨ w = 7168376 then 1 else 0
def lk (f : Nat → Int) (b : Nat) (w : Int) : Nat → Int
  | 0 => -1
  | n + 1 => if lk f b w n = -1 then (if f (b + n) = w then (n : Int) else -1) else lk f b w n
theorem lk_step {f : Nat → Int} {w k c bb : Int} (hb : 0 ≤ bb) (hk : 0 ≤ k) (h : lk f bb.toNat w k.toNat = -1) (hc : c = bb + k) (hn : f c.toNat ≠ w) : lk f bb.toNat w (k + 1).toNat = -1 := by
  have e : (k + 1).toNat = k.toNat + 1 := by omega
  have e2 : bb.toNat + k.toNat = c.toNat := by omega
  rw [e]
  unfold lk
  rw [if_pos h, e2, if_neg hn]
theorem lk_mono {f : Nat → Int} {b : Nat} {w : Int} {n : Nat} (h : lk f b w n ≠ -1) : ∀ m, lk f b w (n + m) = lk f b w n
  | 0 => rfl
  | m + 1 => by
    have ih := lk_mono h m
    have e : lk f b w (n + (m + 1)) = if lk f b w (n + m) = -1 then (if f (b + (n + m)) = w then ((n + m : Nat) : Int) else -1) else lk f b w (n + m) := rfl
    rw [e, ih, if_neg h]
theorem lk_found {f : Nat → Int} {w k c bb n : Int} (hb : 0 ≤ bb) (hk : 0 ≤ k) (h : lk f bb.toNat w k.toNat = -1) (hc : c = bb + k) (he : f c.toNat = w) (hn : k < n) : lk f bb.toNat w n.toNat = k := by
  have e2 : bb.toNat + k.toNat = c.toNat := by omega
  have h1 : lk f bb.toNat w (k.toNat + 1) = k := by
    unfold lk
    rw [if_pos h, e2, if_pos he]
    omega
  have e : n.toNat = (k.toNat + 1) + (n.toNat - (k.toNat + 1)) := by omega
  rw [e, lk_mono (by rw [h1]; omega), h1]
/-- the lexer's token: its end, its last letter; the word 'not' has three -/
def LX (A : St) : Prop := (A 0 3 = 0 ∨ A 0 4 + 1 ≤ A 0 5) ∧ (A 0 3 = 1 → 97 ≤ A 1 (A 0 5 - 1).toNat ∧ A 1 (A 0 5 - 1).toNat ≤ 122) ∧ (A 0 3 = 1 → A 0 7 = 7237492 → A 0 4 + 3 ≤ A 0 5)
theorem LX.mk' {A u : St} {s a e w : Int} (e1 : u 1 = A 1) (e3 : u 0 3 = s) (e4 : u 0 4 = a) (e5 : u 0 5 = e) (e7 : u 0 7 = w) (h1 : s = 0 ∨ a + 1 ≤ e) (h2 : s = 1 → 97 ≤ A 1 (e - 1).toNat ∧ A 1 (e - 1).toNat ≤ 122) (h3 : s = 1 → w = 7237492 → a + 3 ≤ e) : LX u := by
  unfold LX
  rw [e1, e3, e4, e5, e7]
  exact ⟨h1, h2, h3⟩
/-- codes are no more than what was read -/
def CB (A : St) : Prop := A 0 46 ≤ A 0 4 ∧ A 0 4 ≤ A 0 5 ∧ LX A
theorem CB.fr {M N : List Nat} {A B : St} (h : CB A) (f : fr M N A B) (h1 : [1].all (fun j => !M.contains j) = true) (h2 : [3, 4, 5, 7, 46].all (fun k => !N.contains k) = true) : CB B := by
  simp only [List.all_cons, List.all_nil, Bool.and_true, Bool.and_eq_true, Bool.not_eq_true'] at h1 h2
  unfold CB LX
  rw [f.1 1 (by decide) h1, f.2 3 h2.1, f.2 4 h2.2.1, f.2 5 h2.2.2.1, f.2 7 h2.2.2.2.1, f.2 46 h2.2.2.2.2]
  exact h
theorem CB.ahead {A u : St} (h : CB A) (e : u 0 46 = A 0 46) (h1 : A 0 5 ≤ u 0 4) (h2 : u 0 4 ≤ u 0 5) (h3 : LX u) : CB u := ⟨by rw [e]; have := h.1; have := h.2.1; omega, h2, h3⟩
theorem CB.le {A : St} (h : CB A) : A 0 4 ≤ A 0 5 := h.2.1
theorem CB.lt {A : St} (h : CB A) (hs : A 0 3 ≠ 0) : A 0 4 + 1 ≤ A 0 5 := h.2.2.1.resolve_left hs
/-- how many of a row's first places hold p -/
def ct (f : Nat → Int) (s : Nat) (p : Int) : Nat → Int
  | 0 => 0
  | n + 1 => ct f s p n + (if f (s + n) = p then 1 else 0)
def WI (A : St) : Prop := ∀ p : Int, ct (A 23) 0 p (A 22 0).toNat ≤ 2 ∧ ct (A 23) 6 p (A 22 1).toNat ≤ 2
theorem WI.fr {M N : List Nat} {A B : St} (h : WI A) (f : fr M N A B) (h1 : [22, 23].all (fun j => !M.contains j) = true) (h2 : ([] : List Nat).all (fun k => !N.contains k) = true) : WI B := by
  simp only [List.all_cons, List.all_nil, Bool.and_true, Bool.and_eq_true, Bool.not_eq_true'] at h1
  unfold WI
  rw [f.1 22 (by decide) h1.1, f.1 23 (by decide) h1.2]
  exact h
/-- every bar's codes are good ones -/
def CI (A : St) : Prop := ∀ b i : Nat, b < 2 → (i : Int) < A 29 b → A 31 (6 * b + i) ≤ A 32 (6 * b + i) ∧ ((b : Int) = A 0 47 → A 32 (6 * b + i) ≤ A 0 46) ∧ wfc (A 33) (1600 * b + (A 31 (6 * b + i)).toNat) (A 32 (6 * b + i) - A 31 (6 * b + i)).toNat
theorem CI.fr {M N : List Nat} {A B : St} (h : CI A) (f : fr M N A B) (h1 : [29, 31, 32, 33].all (fun j => !M.contains j) = true) (h2 : [46, 47].all (fun k => !N.contains k) = true) : CI B := by
  simp only [List.all_cons, List.all_nil, Bool.and_true, Bool.and_eq_true, Bool.not_eq_true'] at h1 h2
  unfold CI
  rw [f.1 29 (by decide) h1.1, f.1 31 (by decide) h1.2.1, f.1 32 (by decide) h1.2.2.1, f.1 33 (by decide) h1.2.2.2, f.2 46 h2.1, f.2 47 h2.2]
  exact h
theorem i2l_v {a : Int} (h : R32 a) : (iI a).toInt64 = jI a := by
  rw [← Int64.toInt_inj, Int32.toInt_toInt64, iI_toInt h, jI_toInt ⟨by have := h.1; omega, by have := h.2; omega⟩]
theorem lshl8 {a : Int} (h : 0 ≤ a ∧ a ≤ 65535) : jI a <<< ((iI 8).toInt64 &&& 63) = jI (256 * a) := by
  have e1 : ((iI 8).toInt64 &&& 63) = 8 := by decide +kernel
  rw [e1]
  have e2 : (jI a <<< 8 : Int64).toBitVec = (jI a).toBitVec <<< 8 := by
    show (jI a <<< 8 : Int64).toBitVec = _
    rw [Int64.toBitVec_shiftLeft]
    rfl
  rw [← Int64.toInt_inj, jI_toInt ⟨by omega, by omega⟩]
  show (jI a <<< 8 : Int64).toBitVec.toInt = _
  rw [e2, BitVec.toInt_eq_toNat_cond, BitVec.toNat_shiftLeft, bv_natL, Nat.shiftLeft_eq]
  have e3 : (a % 18446744073709551616).toNat = a.toNat := by omega
  rw [e3]
  have e4 : a.toNat * 2 ^ 8 % 2 ^ 64 = 256 * a.toNat := by omega
  rw [e4]
  split <;> omega
theorem lor_lt {a b : Int} (k : Nat) (hk : k ≤ 30) (ha : 0 ≤ a ∧ a < 2 ^ k) (hb : 0 ≤ b ∧ b < 2 ^ k) : 0 ≤ (jI a ||| jI b).toInt ∧ (jI a ||| jI b).toInt < 2 ^ k := by
  have p30 : (2 : Int) ^ k ≤ 2 ^ 30 := by exact_mod_cast Nat.pow_le_pow_right (n := 2) (by decide) hk
  have p30' : (2 : Int) ^ 30 = 1073741824 := by decide
  have c : ((2 ^ k : Nat) : Int) = 2 ^ k := by simp
  have nat : ∀ z : Int, 0 ≤ z ∧ z < 2 ^ k → (jI z).toBitVec.toNat < 2 ^ k := by
    intro z hz
    rw [bv_natL]
    have : (z % 18446744073709551616).toNat = z.toNat := by omega
    rw [this]
    omega
  have e : (jI a ||| jI b).toBitVec = (jI a).toBitVec ||| (jI b).toBitVec := Int64.toBitVec_or _ _
  have h1 : (jI a ||| jI b).toBitVec.toNat < 2 ^ k := by
    rw [e, BitVec.toNat_or]
    exact Nat.or_lt_two_pow (nat a ha) (nat b hb)
  have hz : (jI a ||| jI b).toInt = (jI a ||| jI b).toBitVec.toInt := rfl
  rw [hz, BitVec.toInt_eq_toNat_cond]
  split
  · rw [← c]
    omega
  · have : (2 : Nat) ^ k ≤ 2 ^ 30 := Nat.pow_le_pow_right (by decide) hk
    omega
section XL
variable {p : Program} {l : Launch} {e : Env} {R : Room} {s : State} {m : MethodId} {args : Array Value} {below : List Frame} {meth : Method} {c : Code} {H : Heap} {locs : List Loc} {cells slots : Nat} {Q : State → Prop}
variable {cc : ByteArray} {pc : Nat} {ls : Array Slot} {rest : List Value}
end XL

section XLE
variable {p : Program} {l : Launch} {e : Env} {R : Room} {s : State} {m : MethodId} {args : Array Value} {below : List Frame} {meth : Method} {c : Code} {H : Heap} {locs : List Loc} {cells slots : Nat} {Q : State → Prop}
variable {cc : ByteArray} {pc : Nat} {ls : Array Slot} {rest : List Value}
theorem x_lshl8E {a : Int} (hx : p.tables.exec = Jvm.exec) (hb : c.code = cc) (d : decode cc pc = .ok (.lshl, 1)) (k : ∀ z : Int, Hd (z = pShl a 8) → -9223372036854775808 ≤ z ∧ z ≤ 9223372036854775807 → (0 ≤ a ∧ a ≤ 65535 → z = 256 * a) → W p l e R s m args below meth c H locs cells slots Q (F0 m (pc + 1) ls (.long (jI z) :: rest))) : W p l e R s m args below meth c H locs cells slots Q (F0 m pc ls (.int (iI 8) :: .long (jI a) :: rest)) := by
  refine lv_lshl hx hb d rfl (tp_l (jI_of _).symm (k _ rfl (R64_of _) (fun h => ?_)))
  rw [lshl8 h, jI_toInt ⟨by omega, by omega⟩]
theorem x_lorE {a b : Int} (hx : p.tables.exec = Jvm.exec) (hb : c.code = cc) (d : decode cc pc = .ok (.lor, 1)) (k : ∀ z : Int, Hd (z = pOr a b) → -9223372036854775808 ≤ z ∧ z ≤ 9223372036854775807 → ((0 ≤ a ∧ a ≤ 255) ∧ (0 ≤ b ∧ b ≤ 255) → 0 ≤ z ∧ z ≤ 255) → ((0 ≤ a ∧ a ≤ 65535) ∧ (0 ≤ b ∧ b ≤ 65535) → 0 ≤ z ∧ z ≤ 65535) → W p l e R s m args below meth c H locs cells slots Q (F0 m (pc + 1) ls (.long (jI z) :: rest))) : W p l e R s m args below meth c H locs cells slots Q (F0 m pc ls (.long (jI b) :: .long (jI a) :: rest)) := by
  refine lv_lor hx hb d (tp_l (jI_of _).symm (k _ rfl (R64_of _) (fun h => ?_) (fun h => ?_)))
  · have := lor_lt (a := a) (b := b) 8 (by decide) ⟨by omega, by show a < 256; omega⟩ ⟨by omega, by show b < 256; omega⟩
    have e : (2 : Int) ^ 8 = 256 := by decide
    omega
  · have := lor_lt (a := a) (b := b) 16 (by decide) ⟨by omega, by show a < 65536; omega⟩ ⟨by omega, by show b < 65536; omega⟩
    have e : (2 : Int) ^ 16 = 65536 := by decide
    omega
end XLE
