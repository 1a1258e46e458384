/-! Rows over worlds that are functions of one state. -/
theorem and_le {x y : Int32} (h : 0 ≤ y.toInt) : 0 ≤ (x &&& y).toInt ∧ (x &&& y).toInt ≤ y.toInt := by
  have e : (x &&& y).toBitVec = x.toBitVec &&& y.toBitVec := Int32.toBitVec_and x y
  have h1 : (x &&& y).toBitVec.toNat ≤ y.toBitVec.toNat := by
    rw [e, BitVec.toNat_and]
    exact Nat.and_le_right
  have hy : y.toInt = y.toBitVec.toInt := rfl
  have hz : (x &&& y).toInt = (x &&& y).toBitVec.toInt := rfl
  rw [hy, hz]
  rw [hy] at h
  rw [BitVec.toInt_eq_toNat_cond] at h ⊢
  rw [BitVec.toInt_eq_toNat_cond]
  have l1 := (x &&& y).toBitVec.isLt
  have l2 := y.toBitVec.isLt
  split at h <;> split <;> omega
theorem or_lt {x y : Int32} (k : Nat) (hk : k ≤ 30) (hx : 0 ≤ x.toInt ∧ x.toInt < 2 ^ k) (hy : 0 ≤ y.toInt ∧ y.toInt < 2 ^ k) : 0 ≤ (x ||| y).toInt ∧ (x ||| y).toInt < 2 ^ k := by
  have p30 : 2 ^ k ≤ 2 ^ 30 := Nat.pow_le_pow_right (by decide) hk
  have nat : ∀ w : Int32, 0 ≤ w.toInt ∧ w.toInt < 2 ^ k → w.toBitVec.toNat < 2 ^ k := by
    intro w hw
    have hz : w.toInt = w.toBitVec.toInt := rfl
    rw [hz, BitVec.toInt_eq_toNat_cond] at hw
    have l1 := w.toBitVec.isLt
    split at hw
    · have := hw.2
      exact_mod_cast this
    · omega
  have e : (x ||| y).toBitVec = x.toBitVec ||| y.toBitVec := Int32.toBitVec_or x y
  have h1 : (x ||| y).toBitVec.toNat < 2 ^ k := by
    rw [e, BitVec.toNat_or]
    exact Nat.or_lt_two_pow (nat x hx) (nat y hy)
  have hz : (x ||| y).toInt = (x ||| y).toBitVec.toInt := rfl
  rw [hz, BitVec.toInt_eq_toNat_cond]
  have p30' : (2 : Nat) ^ 30 = 1073741824 := by decide
  have c : ((2 ^ k : Nat) : Int) = 2 ^ k := by simp
  split
  · rw [← c]
    omega
  · omega
section XW
variable {p : Program} {l : Launch} {e : Env} {R : Room} {s : State} {m : MethodId} {args : Array Value} {below : List Frame} {meth : Method} {c : Code} {H : Heap} {locs : List Loc} {cells slots : Nat} {Q : State → Prop}
variable {cc : ByteArray} {pc : Nat} {ls : Array Slot} {rest : List Value} {D : va_G} {cl : List vw_C} {AS : Nat → Prop} {a : Nat} {tys : List (ClassId × FieldType)} {Wf : St → va_W} {A : St} {H0 : Heap}
theorem x_div {a b : Int} (hx : p.tables.exec = Jvm.exec) (hb : c.code = cc) (d : decode cc pc = .ok (.idiv, 1)) (ha : 0 ≤ a ∧ a ≤ 2147483647) (hbb : 0 < b ∧ b ≤ 2147483647) (k : ∀ z : Int, z = a / b → 0 ≤ z ∧ z ≤ a → W p l e R s m args below meth c H locs cells slots Q (F0 m (pc + 1) ls (.int (iI z) :: rest))) : W p l e R s m args below meth c H locs cells slots Q (F0 m pc ls (.int (iI b) :: .int (iI a) :: rest)) := by
  have ra : (iI a).toInt = a := iI_toInt ⟨by omega, by omega⟩
  have rb : (iI b).toInt = b := iI_toInt ⟨by omega, by omega⟩
  have hne : ¬ iI b = 0 := fun h => by
    have h2 := congrArg Int32.toInt h
    rw [rb] at h2
    have : (0 : Int32).toInt = 0 := by decide
    omega
  refine lv_idiv hx hb d hne ?_
  have hv : (iI a / iI b).toInt = a / b := by
    rw [Int32.toInt_div_of_ne_right _ _ (fun h => by
      have h2 := congrArg Int32.toInt h
      rw [rb] at h2
      have : (-1 : Int32).toInt = -1 := by decide
      omega), ra, rb, Int.tdiv_eq_ediv_of_nonneg ha.1]
  refine tp_i (iI_of _).symm (k _ hv ?_)
  rw [hv]
  exact ⟨Int.ediv_nonneg ha.1 (by omega), Int.ediv_le_self _ ha.1⟩
theorem x_rem {a b : Int} (hx : p.tables.exec = Jvm.exec) (hb : c.code = cc) (d : decode cc pc = .ok (.irem, 1)) (ha : 0 ≤ a ∧ a ≤ 2147483647) (hbb : 0 < b ∧ b ≤ 2147483647) (k : ∀ z : Int, z = a % b → 0 ≤ z ∧ z < b → W p l e R s m args below meth c H locs cells slots Q (F0 m (pc + 1) ls (.int (iI z) :: rest))) : W p l e R s m args below meth c H locs cells slots Q (F0 m pc ls (.int (iI b) :: .int (iI a) :: rest)) := by
  have ra : (iI a).toInt = a := iI_toInt ⟨by omega, by omega⟩
  have rb : (iI b).toInt = b := iI_toInt ⟨by omega, by omega⟩
  have hne : ¬ iI b = 0 := fun h => by
    have h2 := congrArg Int32.toInt h
    rw [rb] at h2
    have : (0 : Int32).toInt = 0 := by decide
    omega
  refine lv_irem hx hb d hne ?_
  have hd : iI a / iI b = iI (a / b) := by
    rw [← iI_of (iI a / iI b)]
    rw [Int32.toInt_div_of_ne_right _ _ (fun h => by
      have h2 := congrArg Int32.toInt h
      rw [rb] at h2
      have : (-1 : Int32).toInt = -1 := by decide
      omega), ra, rb, Int.tdiv_eq_ediv_of_nonneg ha.1]
  have hv : iI a - iI a / iI b * iI b = iI (a % b) := by
    rw [hd, iI_mul, iI_sub]
    congr 1
    have := Int.emod_add_mul_ediv a b
    rw [Int.mul_comm]
    omega
  refine tp_i hv (k _ rfl ⟨Int.emod_nonneg _ (by omega), Int.emod_lt_of_pos _ hbb.1⟩)
theorem x_iald (hx : p.tables.exec = Jvm.exec) (hb : c.code = cc) (hK : va_K D cl tys s) (hP : va_P D cl (Wf A) H) (j t0 : Nat) {cA : ClassId} {n : Nat} (ha : (Wf A)[j]? = some (a, .inl (cA, n, .inl (aI (A j))))) (ht : tys[t0]? = some (cA, .int)) {i : Int} (hi : 0 ≤ i ∧ i < (n : Int)) (hn : n ≤ 2147483647) (d : decode cc pc = .ok (.iaload, 1))
    (k : ∀ z : Int, z = A j i.toNat → W p l e R s m args below meth c H locs cells slots Q (F0 m (pc + 1) ls (.int (iI z) :: rest))) : W p l e R s m args below meth c H locs cells slots Q (F0 m pc ls (.int (iI i) :: .ref a :: rest)) := by
  refine va_iald hx hb hK hP j t0 ha ht (i_in hi hn) d (tp_i ?_ (k _ rfl))
  rw [i_nat ⟨by omega, by omega⟩]
  rfl
theorem x_zald (hx : p.tables.exec = Jvm.exec) (hb : c.code = cc) (hK : va_K D cl tys s) (hP : va_P D cl (Wf A) H) (j t0 : Nat) {cA : ClassId} {n : Nat} (ha : (Wf A)[j]? = some (a, .inl (cA, n, .inl (aI (A j))))) (ht : tys[t0]? = some (cA, .boolean)) {i : Int} (hi : 0 ≤ i ∧ i < (n : Int)) (hn : n ≤ 2147483647) (d : decode cc pc = .ok (.baload, 1))
    (k : ∀ z : Int, z = A j i.toNat → W p l e R s m args below meth c H locs cells slots Q (F0 m (pc + 1) ls (.int (iI z) :: rest))) : W p l e R s m args below meth c H locs cells slots Q (F0 m pc ls (.int (iI i) :: .ref a :: rest)) := by
  refine va_zald hx hb hK hP j t0 ha ht (i_in hi hn) d (tp_i ?_ (k _ rfl))
  rw [i_nat ⟨by omega, by omega⟩]
  rfl
theorem x_lald (hx : p.tables.exec = Jvm.exec) (hb : c.code = cc) (hK : va_K D cl tys s) (hP : va_P D cl (Wf A) H) (j t0 : Nat) {cA : ClassId} {n : Nat} (ha : (Wf A)[j]? = some (a, .inl (cA, n, .inr (.inl (aJ (A j)))))) (ht : tys[t0]? = some (cA, .long)) {i : Int} (hi : 0 ≤ i ∧ i < (n : Int)) (hn : n ≤ 2147483647) (d : decode cc pc = .ok (.laload, 1))
    (k : ∀ z : Int, z = A j i.toNat → W p l e R s m args below meth c H locs cells slots Q (F0 m (pc + 1) ls (.long (jI z) :: rest))) : W p l e R s m args below meth c H locs cells slots Q (F0 m pc ls (.int (iI i) :: .ref a :: rest)) := by
  refine va_lald hx hb hK hP j t0 ha ht (i_in hi hn) d (tp_l ?_ (k _ rfl))
  rw [i_nat ⟨by omega, by omega⟩]
  rfl
theorem x_iast (hx : p.tables.exec = Jvm.exec) (hb : c.code = cc) (hK : va_K D cl tys s) (hP : va_P D cl (Wf A) H) (hDD : ∀ A, va_D AS (Wf A)) (hS : va_S AS H0 H locs) (j t0 : Nat) {cA : ClassId} {n : Nat} (ha : (Wf A)[j]? = some (a, .inl (cA, n, .inl (aI (A j))))) (ht : tys[t0]? = some (cA, .int)) {i v : Int} (hi : 0 ≤ i ∧ i < (n : Int)) (hn : n ≤ 2147483647) (d : decode cc pc = .ok (.iastore, 1)) (hset : ∀ i : Nat, (Wf A).set j (a, .inl (cA, n, .inl (aI (up (A j) i v)))) = Wf (stA A j i v))
    (k : ∀ (H1 : Heap) (locs1 : List Loc), va_P D cl (Wf (stA A j i.toNat v)) H1 → va_S AS H0 H1 locs1 → W p l e R s m args below meth c H1 locs1 cells slots Q (F0 m (pc + 1) ls rest)) : W p l e R s m args below meth c H locs cells slots Q (F0 m pc ls (.int (iI v) :: .int (iI i) :: .ref a :: rest)) := by
  refine va_iast hx hb hK hP (hDD A) hS j t0 ha ht (i_in hi hn) d (fun H1 locs1 hP1 _ hS1 => ?_)
  rw [i_nat ⟨by omega, by omega⟩, upd_aI, hset] at hP1
  exact k H1 locs1 hP1 hS1
theorem x_zast (hx : p.tables.exec = Jvm.exec) (hb : c.code = cc) (hK : va_K D cl tys s) (hP : va_P D cl (Wf A) H) (hDD : ∀ A, va_D AS (Wf A)) (hS : va_S AS H0 H locs) (j t0 : Nat) {cA : ClassId} {n : Nat} (ha : (Wf A)[j]? = some (a, .inl (cA, n, .inl (aI (A j))))) (ht : tys[t0]? = some (cA, .boolean)) {i v : Int} (hi : 0 ≤ i ∧ i < (n : Int)) (hn : n ≤ 2147483647) (d : decode cc pc = .ok (.bastore, 1)) (hv : 0 ≤ v ∧ v ≤ 1) (hset : ∀ i : Nat, (Wf A).set j (a, .inl (cA, n, .inl (aI (up (A j) i v)))) = Wf (stA A j i v))
    (k : ∀ (H1 : Heap) (locs1 : List Loc), va_P D cl (Wf (stA A j i.toNat v)) H1 → va_S AS H0 H1 locs1 → W p l e R s m args below meth c H1 locs1 cells slots Q (F0 m (pc + 1) ls rest)) : W p l e R s m args below meth c H locs cells slots Q (F0 m pc ls (.int (iI v) :: .int (iI i) :: .ref a :: rest)) := by
  refine va_zast hx hb hK hP (hDD A) hS j t0 ha ht (i_in hi hn) d (fun H1 locs1 hP1 _ hS1 => ?_)
  rw [i_nat ⟨by omega, by omega⟩, nar_z hv, upd_aI, hset] at hP1
  exact k H1 locs1 hP1 hS1
theorem x_last (hx : p.tables.exec = Jvm.exec) (hb : c.code = cc) (hK : va_K D cl tys s) (hP : va_P D cl (Wf A) H) (hDD : ∀ A, va_D AS (Wf A)) (hS : va_S AS H0 H locs) (j t0 : Nat) {cA : ClassId} {n : Nat} (ha : (Wf A)[j]? = some (a, .inl (cA, n, .inr (.inl (aJ (A j)))))) (ht : tys[t0]? = some (cA, .long)) {i v : Int} (hi : 0 ≤ i ∧ i < (n : Int)) (hn : n ≤ 2147483647) (d : decode cc pc = .ok (.lastore, 1)) (hset : ∀ i : Nat, (Wf A).set j (a, .inl (cA, n, .inr (.inl (aJ (up (A j) i v))))) = Wf (stA A j i v))
    (k : ∀ (H1 : Heap) (locs1 : List Loc), va_P D cl (Wf (stA A j i.toNat v)) H1 → va_S AS H0 H1 locs1 → W p l e R s m args below meth c H1 locs1 cells slots Q (F0 m (pc + 1) ls rest)) : W p l e R s m args below meth c H locs cells slots Q (F0 m pc ls (.long (jI v) :: .int (iI i) :: .ref a :: rest)) := by
  refine va_last hx hb hK hP (hDD A) hS j t0 ha ht (i_in hi hn) d (fun H1 locs1 hP1 _ hS1 => ?_)
  rw [i_nat ⟨by omega, by omega⟩, updL_aJ, hset] at hP1
  exact k H1 locs1 hP1 hS1
theorem x_put (hx : p.tables.exec = Jvm.exec) (hb : c.code = cc) {own ref C : String} {T : u_T} {N ci index : Nat} {Ts : List Cond} (hts : ∀ w ∈ Ts, w.before args s = true) (hin : ∀ w ∈ u_ws C T N, w ∈ Ts) (ty0 : Nat → FieldType) (hty : ∀ k, k < N → parseFieldDescriptor (T k).2.2.1 = some (ty0 k)) (hnm : ∀ a, a < N → ∀ b, b < N → a ≠ b → (T a).2.1 ≠ (T b).2.1) (hown : s.vm.findClass own = some m.cls) (hK : va_K D cl tys s) (hP : va_P D cl (Wf A) H) (hDD : ∀ A, va_D AS (Wf A)) (hS : va_S AS H0 H locs) (q0 : Nat) {fs : List Value} (he : (Wf A)[q0]? = some (a, .inr (ci, fs))) (hc : cl[ci]? = some (C, T, N)) (k : Nat) (hk : k < N) (hlink : (Cond.fieldLink own index ref (T k).2.1 (T k).2.2.1).before args s = true) (hsame : ∀ x, s.fieldFound? (T k).1 (T k).2.1 (T k).2.2.1 = some x → s.fieldFound? ref (T k).2.1 (T k).2.2.1 = some x) (hfin : (T k).2.2.2 = false) {ty : FieldType} {v : Value} (hd : parseFieldDescriptor (T k).2.2.1 = some ty) (hn : narrow ty v = v) (hfit : fits ty v = true) (hl : k < fs.length)
    (hdg : decode cc pc = .ok (.putfield index, 3)) {A1 : St} (hset : (Wf A).set q0 (a, .inr (ci, fs.set k v)) = Wf A1) (kk : ∀ (H1 : Heap) (locs1 : List Loc), va_P D cl (Wf A1) H1 → va_S AS H0 H1 locs1 → W p l e R s m args below meth c H1 locs1 cells slots Q (F0 m (pc + 3) ls rest)) : W p l e R s m args below meth c H locs cells slots Q (F0 m pc ls (v :: .ref a :: rest)) := by
  refine va_put hx hb hts hin ty0 hty hnm hown hK hP (hDD A) hS q0 he hc k hk hlink hsame hfin hd hn hfit hl hdg (fun H1 locs1 hP1 _ hS1 => ?_)
  rw [hset] at hP1
  exact kk H1 locs1 hP1 hS1
theorem x_lcmp {a b : Int} (hx : p.tables.exec = Jvm.exec) (hb : c.code = cc) (d : decode cc pc = .ok (.lcmp, 1)) (ha : R64 a) (hbb : R64 b) (k : ∀ z : Int, -1 ≤ z ∧ z ≤ 1 → (z = 0 ↔ a = b) → (z < 0 ↔ a < b) → W p l e R s m args below meth c H locs cells slots Q (F0 m (pc + 1) ls (.int (iI z) :: rest))) : W p l e R s m args below meth c H locs cells slots Q (F0 m pc ls (.long (jI b) :: .long (jI a) :: rest)) := by
  refine W.lcmp hx hb d ?_
  have hl : jI a < jI b ↔ a < b := j_lt ha hbb
  have hr : jI b < jI a ↔ b < a := j_lt hbb ha
  have he : jI a = jI b ↔ a = b := j_eq ha hbb
  rcases Int.lt_trichotomy a b with h | h | h
  · have e : lg_cmp (jI a) (jI b) = iI (-1) := by
      unfold lg_cmp
      rw [if_neg (fun g => by have := hr.mp g; omega), if_neg (fun g => by have := he.mp g; omega)]
      decide +kernel
    exact tp_i e (k (-1) (by omega) (by omega) (by omega))
  · have e : lg_cmp (jI a) (jI b) = iI 0 := by
      unfold lg_cmp
      rw [if_neg (fun g => by have := hr.mp g; omega), if_pos (he.mpr h)]
      decide +kernel
    exact tp_i e (k 0 (by omega) (by omega) (by omega))
  · have e : lg_cmp (jI a) (jI b) = iI 1 := by
      unfold lg_cmp
      rw [if_pos (hr.mpr h)]
      decide +kernel
    exact tp_i e (k 1 (by omega) (by omega) (by omega))
theorem x_addv {a b v : Int} (hx : p.tables.exec = Jvm.exec) (hb : c.code = cc) (d : decode cc pc = .ok (.iadd, 1)) (h : a + b = v) (k : W p l e R s m args below meth c H locs cells slots Q (F0 m (pc + 1) ls (.int (iI v) :: rest))) : W p l e R s m args below meth c H locs cells slots Q (F0 m pc ls (.int (iI b) :: .int (iI a) :: rest)) := lv_iadd hx hb d (tp_i (by rw [iI_add, h]) k)
theorem x_subv {a b v : Int} (hx : p.tables.exec = Jvm.exec) (hb : c.code = cc) (d : decode cc pc = .ok (.isub, 1)) (h : a - b = v) (k : W p l e R s m args below meth c H locs cells slots Q (F0 m (pc + 1) ls (.int (iI v) :: rest))) : W p l e R s m args below meth c H locs cells slots Q (F0 m pc ls (.int (iI b) :: .int (iI a) :: rest)) := lv_isub hx hb d (tp_i (by rw [iI_sub, h]) k)
theorem x_mulv {a b v : Int} (hx : p.tables.exec = Jvm.exec) (hb : c.code = cc) (d : decode cc pc = .ok (.imul, 1)) (h : a * b = v) (k : W p l e R s m args below meth c H locs cells slots Q (F0 m (pc + 1) ls (.int (iI v) :: rest))) : W p l e R s m args below meth c H locs cells slots Q (F0 m pc ls (.int (iI b) :: .int (iI a) :: rest)) := lv_imul hx hb d (tp_i (by rw [iI_mul, h]) k)
theorem x_ushr1 {a : Int} (hx : p.tables.exec = Jvm.exec) (hb : c.code = cc) (d : decode cc pc = .ok (.iushr, 1)) (_ : R32 a) (k : ∀ z : Int, z = (a % 4294967296) / 2 → W p l e R s m args below meth c H locs cells slots Q (F0 m (pc + 1) ls (.int (iI z) :: rest))) : W p l e R s m args below meth c H locs cells slots Q (F0 m pc ls (.int (iI 1) :: .int (iI a) :: rest)) := lv_iushr hx hb d rfl (tp_i (iI_of _).symm (k _ (ushr1 a)))
theorem x_lushr8 {a : Int} (hx : p.tables.exec = Jvm.exec) (hb : c.code = cc) (d : decode cc pc = .ok (.lushr, 1)) (_ : R64 a) (k : ∀ z : Int, z = (a % 18446744073709551616) / 256 → W p l e R s m args below meth c H locs cells slots Q (F0 m (pc + 1) ls (.long (jI z) :: rest))) : W p l e R s m args below meth c H locs cells slots Q (F0 m pc ls (.int (iI 8) :: .long (jI a) :: rest)) := lv_lushr hx hb d rfl (tp_l (jI_of _).symm (k _ (lushr8 a)))
end XW
