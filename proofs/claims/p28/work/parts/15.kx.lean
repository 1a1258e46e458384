/-! The class's side: frames by rows and single places, rows that name the new state. -/
def fin2 (F : List (Nat × Nat)) (j k : Nat) : Bool := F.any (fun x => Nat.beq x.1 j && Nat.beq x.2 k)
def fk (P : List Nat) (F : List (Nat × Nat)) (A B : St) : Prop := ∀ j k, P.contains j = false → fin2 F j k = false → B j k = A j k
theorem fk.rf {P : List Nat} {F : List (Nat × Nat)} {A : St} : fk P F A A := fun _ _ _ _ => rfl
theorem stA_at (A : St) (j i k : Nat) (v : Int) (h : k ≠ i) : stA A j i v j k = A j k := by rw [stA_same, up_ne _ _ h]
theorem stA_is (A : St) (j i : Nat) (v : Int) : stA A j i v j i = v := by rw [stA_same, up_same]
theorem fk.da {P : List Nat} {F : List (Nat × Nat)} {A B C : St} {j i : Nat} {v : Int} (h : fk P F A B) (hd : C = stA B j i v) (hj : P.contains j = true) : fk P F A C := by
  subst hd
  intro j' k hP hF
  rw [stA_ne _ _ (fun e => by rw [e, hj] at hP; cases hP)]
  exact h j' k hP hF
theorem fk.df {P : List Nat} {F : List (Nat × Nat)} {A B C : St} {j i : Nat} {v : Int} (h : fk P F A B) (hd : C = stA B j i v) (hj : fin2 F j i = true) : fk P F A C := by
  subst hd
  intro j' k hP hF
  by_cases e : j' = j
  · subst e
    by_cases e2 : k = i
    · subst e2
      rw [hj] at hF
      cases hF
    · rw [stA_at _ _ _ _ _ e2]
      exact h _ _ hP hF
  · rw [stA_ne _ _ e]
    exact h j' k hP hF
theorem fin2_iff {F : List (Nat × Nat)} {j k : Nat} : fin2 F j k = true ↔ (j, k) ∈ F := by
  unfold fin2
  rw [List.any_eq_true]
  constructor
  · rintro ⟨⟨a, b⟩, hm, hx⟩
    rw [Bool.and_eq_true] at hx
    have h1 := Nat.eq_of_beq_eq_true hx.1
    have h2 := Nat.eq_of_beq_eq_true hx.2
    simp only at h1 h2
    rw [← h1, ← h2]
    exact hm
  · intro hm
    exact ⟨(j, k), hm, by simp⟩
theorem fk.trans {P P' : List Nat} {F F' : List (Nat × Nat)} {A B C : St} (h : fk P F A B) (h2 : fk P' F' B C) (hP : P'.all (fun j => P.contains j) = true) (hF : F'.all (fun x => P.contains x.1 || fin2 F x.1 x.2) = true) : fk P F A C := by
  intro j k hj hk
  have e1 : P'.contains j = false := by
    cases hy : P'.contains j with
    | false => rfl
    | true =>
      have := List.all_eq_true.mp hP j (List.contains_iff_mem.mp hy)
      rw [hj] at this
      cases this
  have e2 : fin2 F' j k = false := by
    cases hy : fin2 F' j k with
    | false => rfl
    | true =>
      have := List.all_eq_true.mp hF (j, k) (fin2_iff.mp hy)
      simp only at this
      rw [hj, hk] at this
      cases this
  exact (h2 j k e1 e2).trans (h j k hj hk)
/-- reading behind a store -/
theorem rd_ne {A B : St} {j i r : Nat} {v : Int} (h : B = stA A j i v) (hr : r ≠ j) : ∀ k, B r k = A r k := fun k => by rw [h, stA_ne _ _ hr]
theorem rd_at {A B : St} {j i k : Nat} {v : Int} (h : B = stA A j i v) (hk : k ≠ i) : B j k = A j k := by rw [h, stA_at _ _ _ _ _ hk]
theorem rd_is {A B : St} {j i : Nat} {v : Int} (h : B = stA A j i v) : B j i = v := by rw [h, stA_is]
def isT (t : Nat) : Prop := t = 51 ∨ t = 82
def isS (n : Nat) : Prop := n = 32 ∨ n = 41 ∨ n = 73 ∨ n = 104
def isE (e : Nat) : Prop := e = 70 ∨ e = 101
theorem isT.b {z : Int} (h : 0 ≤ z ∧ z ≤ 1) : isT (51 + 31 * z.toNat) := by
  rcases (show z = 0 ∨ z = 1 by omega) with rfl | rfl
  · exact Or.inl rfl
  · exact Or.inr rfl
theorem isT.s {t : Nat} (h : isT t) : isS (t + 22) := by
  rcases h with rfl | rfl
  · exact Or.inr (Or.inr (Or.inl rfl))
  · exact Or.inr (Or.inr (Or.inr rfl))
theorem isT.e {t : Nat} (h : isT t) : isE (t + 19) := by
  rcases h with rfl | rfl
  · exact Or.inl rfl
  · exact Or.inr rfl
theorem isS32 : isS 32 := Or.inl rfl
theorem isS41 : isS 41 := Or.inr (Or.inl rfl)
theorem isT.b2 {o : Nat → Bool} {v : Bool} {t : Nat} (h : isT t) (h1 : o 51 = v) (h2 : o 82 = v) : o t = v := by
  rcases h with rfl | rfl
  · exact h1
  · exact h2
theorem isS.b2 {o : Nat → Bool} {v : Bool} {t : Nat} (h : isS t) (h1 : o 32 = v) (h2 : o 41 = v) (h3 : o 73 = v) (h4 : o 104 = v) : o t = v := by
  rcases h with rfl | rfl | rfl | rfl
  · exact h1
  · exact h2
  · exact h3
  · exact h4
theorem isE.b2 {o : Nat → Bool} {v : Bool} {t : Nat} (h : isE t) (h1 : o 70 = v) (h2 : o 101 = v) : o t = v := by
  rcases h with rfl | rfl
  · exact h1
  · exact h2
theorem nar_b256 : ∀ k : Fin 256, vp_nar .byte (iI ((k.val : Int) - 128)) = iI ((k.val : Int) - 128) := by decide +kernel
theorem nar_b {z : Int} (h : -128 ≤ z ∧ z ≤ 127) : vp_nar .byte (iI z) = iI z := by
  have e := nar_b256 ⟨(z + 128).toNat, by omega⟩
  have e2 : (((z + 128).toNat : Nat) : Int) - 128 = z := by omega
  simp only [e2] at e
  exact e
theorem i2b_r (x : Int32) : -128 ≤ (x.toInt8.toInt32).toInt ∧ (x.toInt8.toInt32).toInt ≤ 127 := by
  have h : (x.toInt8.toInt32).toInt = x.toInt8.toInt := by simp
  rw [h]
  have h1 := x.toInt8.le_toInt
  have h2 := x.toInt8.toInt_lt
  omega
section KX
variable {p : Program} {l : Launch} {e : Env} {R : Room} {s : State} {m : MethodId} {args : Array Value} {below : List Frame} {meth : Method} {c : Code} {H : Heap} {locs : List Loc} {cells slots : Nat} {Q : State → Prop}
variable {cc : ByteArray} {pc : Nat} {ls : Array Slot} {rest : List Value} {D : va_G} {cl : List vw_C} {AS : Nat → Prop} {a : Nat} {tys : List (ClassId × FieldType)} {Wf : St → va_W} {A : St} {H0 : Heap}
theorem k_bald (hx : p.tables.exec = Jvm.exec) (hb : c.code = cc) (hK : va_K D cl tys s) (hP : va_P D cl (Wf A) H) (j t0 : Nat) {cA : ClassId} {n : Nat} (ha : (Wf A)[j]? = some (a, .inl (cA, n, .inl (aI (A j))))) (ht : tys[t0]? = some (cA, .byte)) {i : Int} (hi : 0 ≤ i ∧ i < (n : Int)) (hn : n ≤ 2147483647) (d : decode cc pc = .ok (.baload, 1))
    (k : ∀ z : Int, z = A j i.toNat → W p l e R s m args below meth c H locs cells slots Q (F0 m (pc + 1) ls (.int (iI z) :: rest))) : W p l e R s m args below meth c H locs cells slots Q (F0 m pc ls (.int (iI i) :: .ref a :: rest)) := by
  refine va_bald hx hb hK hP j t0 ha ht (i_in hi hn) d (tp_i ?_ (k _ rfl))
  rw [i_nat ⟨by omega, by omega⟩]
  rfl
theorem k_iast (hx : p.tables.exec = Jvm.exec) (hb : c.code = cc) (hK : va_K D cl tys s) (hP : va_P D cl (Wf A) H) (hDD : ∀ A, va_D AS (Wf A)) (hS : va_S AS H0 H locs) (j t0 : Nat) {cA : ClassId} {n : Nat} (ha : (Wf A)[j]? = some (a, .inl (cA, n, .inl (aI (A j))))) (ht : tys[t0]? = some (cA, .int)) {i v : Int} (hi : 0 ≤ i ∧ i < (n : Int)) (hn : n ≤ 2147483647) (d : decode cc pc = .ok (.iastore, 1)) (hset : ∀ i : Nat, (Wf A).set j (a, .inl (cA, n, .inl (aI (up (A j) i v)))) = Wf (stA A j i v))
    (k : ∀ (H1 : Heap) (locs1 : List Loc) (A1 : St), A1 = stA A j i.toNat v → va_P D cl (Wf A1) H1 → va_S AS H0 H1 locs1 → W p l e R s m args below meth c H1 locs1 cells slots Q (F0 m (pc + 1) ls rest)) : W p l e R s m args below meth c H locs cells slots Q (F0 m pc ls (.int (iI v) :: .int (iI i) :: .ref a :: rest)) :=
  x_iast hx hb hK hP hDD hS j t0 ha ht hi hn d hset (fun H1 locs1 hP1 hS1 => k H1 locs1 _ rfl hP1 hS1)
theorem k_zast (hx : p.tables.exec = Jvm.exec) (hb : c.code = cc) (hK : va_K D cl tys s) (hP : va_P D cl (Wf A) H) (hDD : ∀ A, va_D AS (Wf A)) (hS : va_S AS H0 H locs) (j t0 : Nat) {cA : ClassId} {n : Nat} (ha : (Wf A)[j]? = some (a, .inl (cA, n, .inl (aI (A j))))) (ht : tys[t0]? = some (cA, .boolean)) {i v : Int} (hi : 0 ≤ i ∧ i < (n : Int)) (hn : n ≤ 2147483647) (d : decode cc pc = .ok (.bastore, 1)) (hv : 0 ≤ v ∧ v ≤ 1) (hset : ∀ i : Nat, (Wf A).set j (a, .inl (cA, n, .inl (aI (up (A j) i v)))) = Wf (stA A j i v))
    (k : ∀ (H1 : Heap) (locs1 : List Loc) (A1 : St), A1 = stA A j i.toNat v → va_P D cl (Wf A1) H1 → va_S AS H0 H1 locs1 → W p l e R s m args below meth c H1 locs1 cells slots Q (F0 m (pc + 1) ls rest)) : W p l e R s m args below meth c H locs cells slots Q (F0 m pc ls (.int (iI v) :: .int (iI i) :: .ref a :: rest)) :=
  x_zast hx hb hK hP hDD hS j t0 ha ht hi hn d hv hset (fun H1 locs1 hP1 hS1 => k H1 locs1 _ rfl hP1 hS1)
theorem k_bast (hx : p.tables.exec = Jvm.exec) (hb : c.code = cc) (hK : va_K D cl tys s) (hP : va_P D cl (Wf A) H) (hDD : ∀ A, va_D AS (Wf A)) (hS : va_S AS H0 H locs) (j t0 : Nat) {cA : ClassId} {n : Nat} (ha : (Wf A)[j]? = some (a, .inl (cA, n, .inl (aI (A j))))) (ht : tys[t0]? = some (cA, .byte)) {i v : Int} (hi : 0 ≤ i ∧ i < (n : Int)) (hn : n ≤ 2147483647) (d : decode cc pc = .ok (.bastore, 1)) (hv : -128 ≤ v ∧ v ≤ 127) (hset : ∀ i : Nat, (Wf A).set j (a, .inl (cA, n, .inl (aI (up (A j) i v)))) = Wf (stA A j i v))
    (k : ∀ (H1 : Heap) (locs1 : List Loc) (A1 : St), A1 = stA A j i.toNat v → va_P D cl (Wf A1) H1 → va_S AS H0 H1 locs1 → W p l e R s m args below meth c H1 locs1 cells slots Q (F0 m (pc + 1) ls rest)) : W p l e R s m args below meth c H locs cells slots Q (F0 m pc ls (.int (iI v) :: .int (iI i) :: .ref a :: rest)) := by
  refine va_bast hx hb hK hP (hDD A) hS j t0 ha ht (i_in hi hn) d (fun H1 locs1 hP1 _ hS1 => ?_)
  rw [i_nat ⟨by omega, by omega⟩, nar_b hv, upd_aI, hset] at hP1
  exact k H1 locs1 _ rfl hP1 hS1
theorem k_last (hx : p.tables.exec = Jvm.exec) (hb : c.code = cc) (hK : va_K D cl tys s) (hP : va_P D cl (Wf A) H) (hDD : ∀ A, va_D AS (Wf A)) (hS : va_S AS H0 H locs) (j t0 : Nat) {cA : ClassId} {n : Nat} (ha : (Wf A)[j]? = some (a, .inl (cA, n, .inr (.inl (aJ (A j)))))) (ht : tys[t0]? = some (cA, .long)) {i v : Int} (hi : 0 ≤ i ∧ i < (n : Int)) (hn : n ≤ 2147483647) (d : decode cc pc = .ok (.lastore, 1)) (hset : ∀ i : Nat, (Wf A).set j (a, .inl (cA, n, .inr (.inl (aJ (up (A j) i v))))) = Wf (stA A j i v))
    (k : ∀ (H1 : Heap) (locs1 : List Loc) (A1 : St), A1 = stA A j i.toNat v → va_P D cl (Wf A1) H1 → va_S AS H0 H1 locs1 → W p l e R s m args below meth c H1 locs1 cells slots Q (F0 m (pc + 1) ls rest)) : W p l e R s m args below meth c H locs cells slots Q (F0 m pc ls (.long (jI v) :: .int (iI i) :: .ref a :: rest)) :=
  x_last hx hb hK hP hDD hS j t0 ha ht hi hn d hset (fun H1 locs1 hP1 hS1 => k H1 locs1 _ rfl hP1 hS1)
theorem k_put (hx : p.tables.exec = Jvm.exec) (hb : c.code = cc) {own ref C : String} {T : u_T} {N ci index : Nat} {Ts : List Cond} (hts : ∀ w ∈ Ts, w.before args s = true) (hin : ∀ w ∈ u_ws C T N, w ∈ Ts) (ty0 : Nat → FieldType) (hty : ∀ k, k < N → parseFieldDescriptor (T k).2.2.1 = some (ty0 k)) (hnm : ∀ a, a < N → ∀ b, b < N → a ≠ b → (T a).2.1 ≠ (T b).2.1) (hown : s.vm.findClass own = some m.cls) (hK : va_K D cl tys s) (hP : va_P D cl (Wf A) H) (hDD : ∀ A, va_D AS (Wf A)) (hS : va_S AS H0 H locs) (q0 : Nat) {fs : List Value} (he : (Wf A)[q0]? = some (a, .inr (ci, fs))) (hc : cl[ci]? = some (C, T, N)) (k : Nat) (hk : k < N) (hlink : (Cond.fieldLink own index ref (T k).2.1 (T k).2.2.1).before args s = true) (hsame : ∀ x, s.fieldFound? (T k).1 (T k).2.1 (T k).2.2.1 = some x → s.fieldFound? ref (T k).2.1 (T k).2.2.1 = some x) (hfin : (T k).2.2.2 = false) {ty : FieldType} {v : Value} (hd : parseFieldDescriptor (T k).2.2.1 = some ty) (hn : narrow ty v = v) (hfit : fits ty v = true) (hl : k < fs.length)
    (hdg : decode cc pc = .ok (.putfield index, 3)) {A1 : St} (hset : (Wf A).set q0 (a, .inr (ci, fs.set k v)) = Wf A1) (kk : ∀ (H1 : Heap) (locs1 : List Loc) (A2 : St), A2 = A1 → va_P D cl (Wf A2) H1 → va_S AS H0 H1 locs1 → W p l e R s m args below meth c H1 locs1 cells slots Q (F0 m (pc + 3) ls rest)) : W p l e R s m args below meth c H locs cells slots Q (F0 m pc ls (v :: .ref a :: rest)) :=
  x_put hx hb hts hin ty0 hty hnm hown hK hP hDD hS q0 he hc k hk hlink hsame hfin hd hn hfit hl hdg hset (fun H1 locs1 hP1 hS1 => kk H1 locs1 _ rfl hP1 hS1)
/-- a row of rows: the row of place i -/
theorem k_aald (hx : p.tables.exec = Jvm.exec) (hb : c.code = cc) (hK : va_K D cl tys s) (hP : va_P D cl (Wf A) H) (j t0 : Nat) {cA : ClassId} {n : Nat} {f : Nat → Option Nat} (ha : (Wf A)[j]? = some (a, .inl (cA, n, .inr (.inr (.inr (.inr f)))))) (ht : tys[t0]? = some (cA, .array .int)) {i : Int} (hi : 0 ≤ i ∧ i < (n : Int)) (hn : n ≤ 2147483647) {b : Nat} (hf : f i.toNat = some b) (d : decode cc pc = .ok (.aaload, 1))
    (k : W p l e R s m args below meth c H locs cells slots Q (F0 m (pc + 1) ls (.ref b :: rest))) : W p l e R s m args below meth c H locs cells slots Q (F0 m pc ls (.int (iI i) :: .ref a :: rest)) := by
  refine va_aldA hx hb hK hP j t0 ha ht (i_in hi hn) d (tp_v ?_ k)
  rw [i_nat ⟨by omega, by omega⟩, hf]
  rfl
theorem k_min {a b : Int} (hx : p.tables.exec = Jvm.exec) (hb : c.code = cc) (hml : c.maxLocals = ls.size) {own : String} {index : Nat} (hown : s.vm.findClass own = some m.cls) (hlink : (Cond.methodLink own index Lib.Math.min.name).before args s = true) (hstat : (Cond.static Lib.Math.min.name).before args s = true) (hini : (Cond.initialized "java/lang/Math").before args s = true) (hcode : (Cond.code Lib.Math.min.name Lib.Math.min.code 2 (some .int)).before args s = true)
    (hframes : 1 ≤ R.frames) (hlocals : (rest.map fun v => v.category).sum + 13 ≤ R.locals) (hc : cells ≤ R.cells) (hs : slots ≤ R.slots) (ha : R32 a) (hbb : R32 b) (hdg : decode cc pc = .ok (.invokestatic index, 3))
    (k : ∀ z : Int, z ≤ a ∧ z ≤ b ∧ (z = a ∨ z = b) → W p l e R s m args below meth c H locs cells slots Q (F0 m (pc + 3) ls (.int (iI z) :: rest))) : W p l e R s m args below meth c H locs cells slots Q (F0 m pc ls (.int (iI b) :: .int (iI a) :: rest)) := by
  refine va_mmin hx hb hml hown hlink hstat hini hcode hframes hlocals hc hs hdg ?_
  by_cases h : iI b < iI a
  · rw [if_pos h]
    have := (i_lt hbb ha).mp h
    exact k b (by omega)
  · rw [if_neg h]
    have := mt (i_lt hbb ha).mpr h
    exact k a (by omega)
theorem k_max {a b : Int} (hx : p.tables.exec = Jvm.exec) (hb : c.code = cc) (hml : c.maxLocals = ls.size) {own : String} {index : Nat} (hown : s.vm.findClass own = some m.cls) (hlink : (Cond.methodLink own index Lib.Math.max.name).before args s = true) (hstat : (Cond.static Lib.Math.max.name).before args s = true) (hini : (Cond.initialized "java/lang/Math").before args s = true) (hcode : (Cond.code Lib.Math.max.name Lib.Math.max.code 2 (some .int)).before args s = true)
    (hframes : 1 ≤ R.frames) (hlocals : (rest.map fun v => v.category).sum + 13 ≤ R.locals) (hc : cells ≤ R.cells) (hs : slots ≤ R.slots) (ha : R32 a) (hbb : R32 b) (hdg : decode cc pc = .ok (.invokestatic index, 3))
    (k : ∀ z : Int, a ≤ z ∧ b ≤ z ∧ (z = a ∨ z = b) → W p l e R s m args below meth c H locs cells slots Q (F0 m (pc + 3) ls (.int (iI z) :: rest))) : W p l e R s m args below meth c H locs cells slots Q (F0 m pc ls (.int (iI b) :: .int (iI a) :: rest)) := by
  refine va_mmax hx hb hml hown hlink hstat hini hcode hframes hlocals hc hs hdg ?_
  by_cases h : iI a < iI b
  · rw [if_pos h]
    have := (i_lt ha hbb).mp h
    exact k b (by omega)
  · rw [if_neg h]
    have := mt (i_lt ha hbb).mpr h
    exact k a (by omega)
/-- a static table's place -/
theorem k_tald (hx : p.tables.exec = Jvm.exec) (hb : c.code = cc) {t N : Nat} {g : Nat → Int} (hT : va_T .int t N (fun j => .int (iI (g j))) AS s s.heap) (hS : va_S AS s.heap H locs) {i : Int} (hi : 0 ≤ i ∧ i < (N : Int)) (hn : N ≤ 2147483647) (d : decode cc pc = .ok (.iaload, 1))
    (k : ∀ z : Int, z = g i.toNat → W p l e R s m args below meth c H locs cells slots Q (F0 m (pc + 1) ls (.int (iI z) :: rest))) : W p l e R s m args below meth c H locs cells slots Q (F0 m pc ls (.int (iI i) :: .ref t :: rest)) := by
  refine va_ti hx hb hT hS (i_in hi hn) (v := .int (iI (g i.toNat))) ?_ d (k _ rfl)
  rw [i_nat ⟨by omega, by omega⟩]
end KX
theorem metF {l : Launch} {y : MethodName} {ws ws' : List Cond} {rm : Room} {Pc : Array Value → State → Prop} {Qc : Array Value → State → Outcome → State → Prop} {mc ms : Nat} {free : Addr → Prop} {cc : ByteArray} {maxL : Nat} {ret : Option FieldType}
    (hy : plainFor y = true) (hw : ws = Cond.code y cc maxL ret :: ws')
    (body : ∀ p e s m args below meth c s₁, BodyLoose p l y (headSpec ws rm) cc maxL ret e s m args below meth c s₁ → c.maxLocals = maxL → Pc args s →
      W p l e (headSpec ws rm).room s m args below meth c s.heap [] 0 0 (MQ below Qc args s mc ms free) (entryFrame m args maxL)) : Met l y ws rm Pc Qc mc ms free := by
  refine MetFree.of_bodySF (code := cc) (maxLocals := maxL) (ret := ret) hy ?_ ?_
  · intro args s m h hn
    obtain ⟨meth, c, h1, h2, h3, h4, h5, h6, -, -⟩ := Cond.code_spec hn (atoms_spec (ws := ws) h _ (by rw [hw]; exact List.mem_cons_self))
    exact ⟨meth, c, h1, h2, h3, h4, h5, h6⟩
  · intro p e s m args below meth c s₁ B hml hP _
    have hh0 : s₁.heap = s.heap := by rw [B.state]; rfl
    obtain ⟨t, a1, o, b1, b2, b3⟩ := body p e s m args below meth c s₁ B hml hP s₁ hh0 (Stand.of_body B)
    exact ⟨t, o, a1, b1, b2, ⟨b3.1, b3.2⟩⟩
