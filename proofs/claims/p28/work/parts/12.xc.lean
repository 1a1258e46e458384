/-! Contracts over worlds that are functions of one state. -/
def XP (D : va_G) (tys : List (ClassId × FieldType)) (Wf : St → va_W) (A : St) (sz : Nat) : State → Prop := fun U => U.heap.size = sz ∧ va_P D vwCl (Wf A) U.heap ∧ va_K D vwCl tys U ∧ ∀ A', va_D (fun _ => True) (Wf A')
def XMi (l : Launch) (y : MethodName) (ws : List Cond) (rm : Room) (D : va_G) (tys : List (ClassId × FieldType)) (Wf : St → va_W) (A : St) (As : List Value) (post : Int → St → Prop) : Prop := ∀ sz : Nat, Met l y ws rm (va_Pc As (XP D tys Wf A sz)) (va_Qi (fun (r : Int32) (u : St) => ∃ z : Int, r = iI z ∧ post z u) (fun (u : St) (t : State) => va_P D vwCl (Wf u) t.heap) (va_A (Wf A) sz)) 0 0 (va_A (Wf A) sz)
def XMl (l : Launch) (y : MethodName) (ws : List Cond) (rm : Room) (D : va_G) (tys : List (ClassId × FieldType)) (Wf : St → va_W) (A : St) (As : List Value) (post : Int → St → Prop) : Prop := ∀ sz : Nat, Met l y ws rm (va_Pc As (XP D tys Wf A sz)) (va_Ql (fun (r : Int64) (u : St) => ∃ z : Int, r = jI z ∧ post z u) (fun (u : St) (t : State) => va_P D vwCl (Wf u) t.heap) (va_A (Wf A) sz)) 0 0 (va_A (Wf A) sz)
def XMv (l : Launch) (y : MethodName) (ws : List Cond) (rm : Room) (D : va_G) (tys : List (ClassId × FieldType)) (Wf : St → va_W) (A : St) (As : List Value) (post : St → Prop) : Prop := ∀ sz : Nat, Met l y ws rm (va_Pc As (XP D tys Wf A sz)) (va_Qv (fun (u : St) => post u) (fun (u : St) (t : State) => va_P D vwCl (Wf u) t.heap) (va_A (Wf A) sz)) 0 0 (va_A (Wf A) sz)
section XC
variable {l : Launch} {y : MethodName} {ws ws' : List Cond} {rm : Room} {D : va_G} {tys : List (ClassId × FieldType)} {Wf : St → va_W} {A : St} {As : List Value}
theorem x_adr {A A' : St} (hadr : (Wf A').map (fun q => q.1) = (Wf A).map (fun q => q.1)) {k : Nat} {q : Nat × va_E} (h : (Wf A')[k]? = some q) {sz : Nat} : va_A (Wf A) sz q.1 := by
  have h1 : ((Wf A').map (fun q => q.1))[k]? = some q.1 := by rw [List.getElem?_map, h]; rfl
  rw [hadr, List.getElem?_map] at h1
  cases h2 : (Wf A)[k]? with
  | none => rw [h2] at h1; cases h1
  | some r =>
    rw [h2] at h1
    have e : r.1 = q.1 := Option.some.inj h1
    exact Or.inl ⟨k, r.2, by rw [h2, ← e]⟩
theorem x_meti {cc : ByteArray} {maxL : Nat} {post : Int → St → Prop} (hadr : ∀ A A' : St, (Wf A').map (fun q => q.1) = (Wf A).map (fun q => q.1)) (hy : plainName y.cls = true) (hw : ws = Cond.code y cc maxL (some .int) :: ws') (hL : (lg_sl As).length ≤ maxL)
    (body : ∀ (p : Program) (e : Env) (s : State) (m : MethodId) (below : List Frame) (meth : Method) (c : Code) (Q : State → Prop) (AS : Nat → Prop) (ls : Array Slot), p.tables.exec = Jvm.exec → c.code = cc → c.maxLocals = maxL → s.vm.findClass y.cls = some m.cls → (∀ w ∈ ws, w.before As.toArray s = true) → va_K D vwCl tys s → (∀ A', va_D AS (Wf A')) → (∀ b : Nat, s.heap.size ≤ b → AS b) → va_P D vwCl (Wf A) s.heap → va_S AS s.heap s.heap [] → lv_has ls maxL (lv_args 0 As) →
      (∀ (z : Int) (u : St) (H : Heap) (locs : List Loc) (pc : Nat) (ls : Array Slot), post z u → va_P D vwCl (Wf u) H → va_S AS s.heap H locs → decode cc pc = .ok (.ireturn, 1) → W p l e (headSpec ws rm).room s m As.toArray below meth c H locs 0 0 Q (F0 m pc ls [.int (iI z)])) →
      W p l e (headSpec ws rm).room s m As.toArray below meth c s.heap [] 0 0 Q (F0 m 0 ls [])) : XMi l y ws rm D tys Wf A As post := by
  intro sz
  refine Met.ofW (cc := cc) (maxL := maxL) (ret := some .int) hy hw ?_
  intro p e s m args below meth c s₁ B hml hv
  obtain ⟨rfl, hsz, hP, hK, hD0⟩ := hv
  subst hsz
  rw [lg_entry_eq]
  refine body p e s m below meth c _ (va_A (Wf A) s.heap.size) _ B.exec B.bytes hml (findClass_of_methodNamed B.named) (atoms_spec (ws := ws) B.pre) hK (fun A' => ⟨(hD0 A').1, fun k q hk => x_adr (hadr A A') hk⟩) (fun b h => Or.inr h) hP va_S.rf (lv_entry As hL) ?_
  intro z u H locs pc ls hpost hP1 hS1 hd
  exact W.iret (v := iI z) B.exec B.bytes B.returns (fun t ht hW => ⟨⟨iI z, u, rfl, ⟨z, rfl, hpost⟩, (show va_P D vwCl (Wf u) t.heap from by rw [ht]; exact hP1)⟩, hS1.F ht⟩) hS1.2.2 hd
theorem x_metz {cc : ByteArray} {maxL : Nat} {post : Int → St → Prop} (hadr : ∀ A A' : St, (Wf A').map (fun q => q.1) = (Wf A).map (fun q => q.1)) (hy : plainName y.cls = true) (hw : ws = Cond.code y cc maxL (some .boolean) :: ws') (hL : (lg_sl As).length ≤ maxL) (hz : ∀ z u, post z u → 0 ≤ z ∧ z ≤ 1)
    (body : ∀ (p : Program) (e : Env) (s : State) (m : MethodId) (below : List Frame) (meth : Method) (c : Code) (Q : State → Prop) (AS : Nat → Prop) (ls : Array Slot), p.tables.exec = Jvm.exec → c.code = cc → c.maxLocals = maxL → s.vm.findClass y.cls = some m.cls → (∀ w ∈ ws, w.before As.toArray s = true) → va_K D vwCl tys s → (∀ A', va_D AS (Wf A')) → (∀ b : Nat, s.heap.size ≤ b → AS b) → va_P D vwCl (Wf A) s.heap → va_S AS s.heap s.heap [] → lv_has ls maxL (lv_args 0 As) →
      (∀ (z : Int) (u : St) (H : Heap) (locs : List Loc) (pc : Nat) (ls : Array Slot), post z u → va_P D vwCl (Wf u) H → va_S AS s.heap H locs → decode cc pc = .ok (.ireturn, 1) → W p l e (headSpec ws rm).room s m As.toArray below meth c H locs 0 0 Q (F0 m pc ls [.int (iI z)])) →
      W p l e (headSpec ws rm).room s m As.toArray below meth c s.heap [] 0 0 Q (F0 m 0 ls [])) : XMi l y ws rm D tys Wf A As post := by
  intro sz
  refine Met.ofW (cc := cc) (maxL := maxL) (ret := some .boolean) hy hw ?_
  intro p e s m args below meth c s₁ B hml hv
  obtain ⟨rfl, hsz, hP, hK, hD0⟩ := hv
  subst hsz
  rw [lg_entry_eq]
  refine body p e s m below meth c _ (va_A (Wf A) s.heap.size) _ B.exec B.bytes hml (findClass_of_methodNamed B.named) (atoms_spec (ws := ws) B.pre) hK (fun A' => ⟨(hD0 A').1, fun k q hk => x_adr (hadr A A') hk⟩) (fun b h => Or.inr h) hP va_S.rf (lv_entry As hL) ?_
  intro z u H locs pc ls hpost hP1 hS1 hd
  have hb := hz z u hpost
  exact W.zret (v := iI z) B.exec B.bytes B.returns (by rcases (show z = 0 ∨ z = 1 by omega) with rfl | rfl <;> decide +kernel) (fun t ht hW => ⟨⟨iI z, u, rfl, ⟨z, rfl, hpost⟩, (show va_P D vwCl (Wf u) t.heap from by rw [ht]; exact hP1)⟩, hS1.F ht⟩) hS1.2.2 hd
theorem x_metl {cc : ByteArray} {maxL : Nat} {post : Int → St → Prop} (hadr : ∀ A A' : St, (Wf A').map (fun q => q.1) = (Wf A).map (fun q => q.1)) (hy : plainName y.cls = true) (hw : ws = Cond.code y cc maxL (some .long) :: ws') (hL : (lg_sl As).length ≤ maxL)
    (body : ∀ (p : Program) (e : Env) (s : State) (m : MethodId) (below : List Frame) (meth : Method) (c : Code) (Q : State → Prop) (AS : Nat → Prop) (ls : Array Slot), p.tables.exec = Jvm.exec → c.code = cc → c.maxLocals = maxL → s.vm.findClass y.cls = some m.cls → (∀ w ∈ ws, w.before As.toArray s = true) → va_K D vwCl tys s → (∀ A', va_D AS (Wf A')) → (∀ b : Nat, s.heap.size ≤ b → AS b) → va_P D vwCl (Wf A) s.heap → va_S AS s.heap s.heap [] → lv_has ls maxL (lv_args 0 As) →
      (∀ (z : Int) (u : St) (H : Heap) (locs : List Loc) (pc : Nat) (ls : Array Slot), post z u → va_P D vwCl (Wf u) H → va_S AS s.heap H locs → decode cc pc = .ok (.lreturn, 1) → W p l e (headSpec ws rm).room s m As.toArray below meth c H locs 0 0 Q (F0 m pc ls [.long (jI z)])) →
      W p l e (headSpec ws rm).room s m As.toArray below meth c s.heap [] 0 0 Q (F0 m 0 ls [])) : XMl l y ws rm D tys Wf A As post := by
  intro sz
  refine Met.ofW (cc := cc) (maxL := maxL) (ret := some .long) hy hw ?_
  intro p e s m args below meth c s₁ B hml hv
  obtain ⟨rfl, hsz, hP, hK, hD0⟩ := hv
  subst hsz
  rw [lg_entry_eq]
  refine body p e s m below meth c _ (va_A (Wf A) s.heap.size) _ B.exec B.bytes hml (findClass_of_methodNamed B.named) (atoms_spec (ws := ws) B.pre) hK (fun A' => ⟨(hD0 A').1, fun k q hk => x_adr (hadr A A') hk⟩) (fun b h => Or.inr h) hP va_S.rf (lv_entry As hL) ?_
  intro z u H locs pc ls hpost hP1 hS1 hd
  exact W.lret (v := jI z) B.exec B.bytes B.returns (fun t ht hW => ⟨⟨jI z, u, rfl, ⟨z, rfl, hpost⟩, (show va_P D vwCl (Wf u) t.heap from by rw [ht]; exact hP1)⟩, hS1.F ht⟩) hS1.2.2 hd
theorem x_metv {cc : ByteArray} {maxL : Nat} {post : St → Prop} (hadr : ∀ A A' : St, (Wf A').map (fun q => q.1) = (Wf A).map (fun q => q.1)) (hy : plainName y.cls = true) (hw : ws = Cond.code y cc maxL (none) :: ws') (hL : (lg_sl As).length ≤ maxL)
    (body : ∀ (p : Program) (e : Env) (s : State) (m : MethodId) (below : List Frame) (meth : Method) (c : Code) (Q : State → Prop) (AS : Nat → Prop) (ls : Array Slot), p.tables.exec = Jvm.exec → c.code = cc → c.maxLocals = maxL → s.vm.findClass y.cls = some m.cls → (∀ w ∈ ws, w.before As.toArray s = true) → va_K D vwCl tys s → (∀ A', va_D AS (Wf A')) → (∀ b : Nat, s.heap.size ≤ b → AS b) → va_P D vwCl (Wf A) s.heap → va_S AS s.heap s.heap [] → lv_has ls maxL (lv_args 0 As) →
      (∀ (u : St) (H : Heap) (locs : List Loc) (pc : Nat) (ls : Array Slot), post u → va_P D vwCl (Wf u) H → va_S AS s.heap H locs → decode cc pc = .ok (.return_, 1) → W p l e (headSpec ws rm).room s m As.toArray below meth c H locs 0 0 Q (F0 m pc ls [])) →
      W p l e (headSpec ws rm).room s m As.toArray below meth c s.heap [] 0 0 Q (F0 m 0 ls [])) : XMv l y ws rm D tys Wf A As post := by
  intro sz
  refine Met.ofW (cc := cc) (maxL := maxL) (ret := none) hy hw ?_
  intro p e s m args below meth c s₁ B hml hv
  obtain ⟨rfl, hsz, hP, hK, hD0⟩ := hv
  subst hsz
  rw [lg_entry_eq]
  refine body p e s m below meth c _ (va_A (Wf A) s.heap.size) _ B.exec B.bytes hml (findClass_of_methodNamed B.named) (atoms_spec (ws := ws) B.pre) hK (fun A' => ⟨(hD0 A').1, fun k q hk => x_adr (hadr A A') hk⟩) (fun b h => Or.inr h) hP va_S.rf (lv_entry As hL) ?_
  intro u H locs pc ls hpost hP1 hS1 hd
  exact W.vret B.exec B.bytes B.returns (fun t ht hW => ⟨⟨u, rfl, hpost, (show va_P D vwCl (Wf u) t.heap from by rw [ht]; exact hP1)⟩, hS1.F ht⟩) hS1.2.2 hd
end XC
section XD
variable {p : Program} {l : Launch} {e : Env} {R : Room} {s : State} {m : MethodId} {args : Array Value} {below : List Frame} {meth : Method} {c : Code} {H : Heap} {locs : List Loc} {Q : State → Prop} {cc : ByteArray} {pc nL n index maxL : Nat} {ls : Array Slot} {rest : List Value} {D : va_G} {AS : Nat → Prop} {b : Nat} {tys : List (ClassId × FieldType)} {Wf : St → va_W} {A : St} {y : MethodName} {wsY : List Cond} {rmY : Room} {Ts : List Cond} {own C : String} {bytes : ByteArray} {ret : Option FieldType} {As : List Value}
theorem x_fc (hDD : ∀ A, va_D AS (Wf A)) (hA0 : ∀ b : Nat, s.heap.size ≤ b → AS b) (hS : va_S AS s.heap H locs) : ∀ q, va_A (Wf A) H.size q → AS q := by
  intro q h
  rcases h with ⟨k, e, h⟩ | h
  · exact (hDD A).2 k (q, e) h
  · exact hA0 q (Nat.le_trans hS.1 h)
theorem x_moved : FrameBlind (va_Pc As (XP D tys Wf A n)) := fun a U g mk Z => by
  obtain ⟨q0, q1, qP, qK, qD⟩ := Z
  exact ⟨q0, q1, qP, va_K.moved (u := U) (U := U.calling g mk a) (Vm.Alike.refl U.vm) qK, qD⟩
theorem x_calli {post : Int → St → Prop} (S : CallFix p m c cc nL s args Ts own) (hM : XMi l y wsY rmY D tys Wf A (.ref b :: As) post) (cw : CallW R s args own C index y bytes maxL ret wsY rmY 0 0 n) (hK : va_K D vwCl tys s) (hDD : ∀ A, va_D AS (Wf A)) (hA0 : ∀ b : Nat, s.heap.size ≤ b → AS b) (hP : va_P D vwCl (Wf A) H) (hS : va_S AS s.heap H locs) (r0 ci : Nat) {T : u_T} {N : Nat} {fs : List Value} (he : (Wf A)[r0]? = some (b, .inr (ci, fs))) (hc : vwCl[ci]? = some (C, T, N)) (hn : As.length = n) (hsize : ls.size = nL) (hroom : (rest.map fun v => v.category).sum ≤ 8) (hd : decode cc pc = .ok (.invokevirtual index, 3))
    (k : ∀ (z : Int) (u : St) (H1 : Heap) (locs1 : List Loc), post z u → va_P D vwCl (Wf u) H1 → va_S AS s.heap H1 locs1 → W p l e R s m args below meth c H1 locs1 0 0 Q (F0 m (pc + 3) ls (.int (iI z) :: rest))) : W p l e R s m args below meth c H locs 0 0 Q (F0 m pc ls (As.reverse ++ .ref b :: rest)) := by
  have hFc := x_fc (A := A) hDD hA0 hS
  refine va_calli (va_runV (As := As) (rest := rest) S (hM H.size) cw ⟨x_moved, va_recv hK hP hc he, fun U hU hW => ⟨rfl, by rw [hU], by rw [hU]; exact hP, va_K.moved hW.alike hK, fun A' => (hDD A').weaken (fun _ _ _ _ => trivial)⟩⟩ rfl hn hsize rfl (lv_room hroom) hd ⟨Nat.zero_le _, Nat.zero_le _⟩) hS (fun b _ h => hFc b h) hFc (fun r u t H1 locs1 ht hvm hw hB hz1 hk1 hS1 => ?_)
  obtain ⟨z, rfl, hp⟩ := hw
  rw [ht] at hB
  exact k z u H1 locs1 hp hB hS1
theorem x_callSi {post : Int → St → Prop} (S : CallFix p m c cc nL s args Ts own) (hM : XMi l y wsY rmY D tys Wf A As post) (cw : CallB R s args own index y bytes maxL ret wsY rmY 0 0 n ∧ (Cond.static y).before args s = true) (hK : va_K D vwCl tys s) (hDD : ∀ A, va_D AS (Wf A)) (hA0 : ∀ b : Nat, s.heap.size ≤ b → AS b) (hP : va_P D vwCl (Wf A) H) (hS : va_S AS s.heap H locs) (hn : As.length = n) (hsize : ls.size = nL) (hroom : (rest.map fun v => v.category).sum ≤ 8) (hd : decode cc pc = .ok (.invokestatic index, 3))
    (k : ∀ (z : Int) (u : St) (H1 : Heap) (locs1 : List Loc), post z u → va_P D vwCl (Wf u) H1 → va_S AS s.heap H1 locs1 → W p l e R s m args below meth c H1 locs1 0 0 Q (F0 m (pc + 3) ls (.int (iI z) :: rest))) : W p l e R s m args below meth c H locs 0 0 Q (F0 m pc ls (As.reverse ++ rest)) := by
  have hFc := x_fc (A := A) hDD hA0 hS
  refine va_calli (va_runS (As := As) (rest := rest) S (hM H.size) cw ⟨x_moved, fun U hU hW => ⟨rfl, by rw [hU], by rw [hU]; exact hP, va_K.moved hW.alike hK, fun A' => (hDD A').weaken (fun _ _ _ _ => trivial)⟩⟩ rfl hn hsize rfl (lv_room hroom) hd ⟨Nat.zero_le _, Nat.zero_le _⟩) hS (fun b _ h => hFc b h) hFc (fun r u t H1 locs1 ht hvm hw hB hz1 hk1 hS1 => ?_)
  obtain ⟨z, rfl, hp⟩ := hw
  rw [ht] at hB
  exact k z u H1 locs1 hp hB hS1
theorem x_calll {post : Int → St → Prop} (S : CallFix p m c cc nL s args Ts own) (hM : XMl l y wsY rmY D tys Wf A (.ref b :: As) post) (cw : CallW R s args own C index y bytes maxL ret wsY rmY 0 0 n) (hK : va_K D vwCl tys s) (hDD : ∀ A, va_D AS (Wf A)) (hA0 : ∀ b : Nat, s.heap.size ≤ b → AS b) (hP : va_P D vwCl (Wf A) H) (hS : va_S AS s.heap H locs) (r0 ci : Nat) {T : u_T} {N : Nat} {fs : List Value} (he : (Wf A)[r0]? = some (b, .inr (ci, fs))) (hc : vwCl[ci]? = some (C, T, N)) (hn : As.length = n) (hsize : ls.size = nL) (hroom : (rest.map fun v => v.category).sum ≤ 8) (hd : decode cc pc = .ok (.invokevirtual index, 3))
    (k : ∀ (z : Int) (u : St) (H1 : Heap) (locs1 : List Loc), post z u → va_P D vwCl (Wf u) H1 → va_S AS s.heap H1 locs1 → W p l e R s m args below meth c H1 locs1 0 0 Q (F0 m (pc + 3) ls (.long (jI z) :: rest))) : W p l e R s m args below meth c H locs 0 0 Q (F0 m pc ls (As.reverse ++ .ref b :: rest)) := by
  have hFc := x_fc (A := A) hDD hA0 hS
  refine va_calll (va_runV (As := As) (rest := rest) S (hM H.size) cw ⟨x_moved, va_recv hK hP hc he, fun U hU hW => ⟨rfl, by rw [hU], by rw [hU]; exact hP, va_K.moved hW.alike hK, fun A' => (hDD A').weaken (fun _ _ _ _ => trivial)⟩⟩ rfl hn hsize rfl (lv_room hroom) hd ⟨Nat.zero_le _, Nat.zero_le _⟩) hS (fun b _ h => hFc b h) hFc (fun r u t H1 locs1 ht hvm hw hB hz1 hk1 hS1 => ?_)
  obtain ⟨z, rfl, hp⟩ := hw
  rw [ht] at hB
  exact k z u H1 locs1 hp hB hS1
theorem x_callSl {post : Int → St → Prop} (S : CallFix p m c cc nL s args Ts own) (hM : XMl l y wsY rmY D tys Wf A As post) (cw : CallB R s args own index y bytes maxL ret wsY rmY 0 0 n ∧ (Cond.static y).before args s = true) (hK : va_K D vwCl tys s) (hDD : ∀ A, va_D AS (Wf A)) (hA0 : ∀ b : Nat, s.heap.size ≤ b → AS b) (hP : va_P D vwCl (Wf A) H) (hS : va_S AS s.heap H locs) (hn : As.length = n) (hsize : ls.size = nL) (hroom : (rest.map fun v => v.category).sum ≤ 8) (hd : decode cc pc = .ok (.invokestatic index, 3))
    (k : ∀ (z : Int) (u : St) (H1 : Heap) (locs1 : List Loc), post z u → va_P D vwCl (Wf u) H1 → va_S AS s.heap H1 locs1 → W p l e R s m args below meth c H1 locs1 0 0 Q (F0 m (pc + 3) ls (.long (jI z) :: rest))) : W p l e R s m args below meth c H locs 0 0 Q (F0 m pc ls (As.reverse ++ rest)) := by
  have hFc := x_fc (A := A) hDD hA0 hS
  refine va_calll (va_runS (As := As) (rest := rest) S (hM H.size) cw ⟨x_moved, fun U hU hW => ⟨rfl, by rw [hU], by rw [hU]; exact hP, va_K.moved hW.alike hK, fun A' => (hDD A').weaken (fun _ _ _ _ => trivial)⟩⟩ rfl hn hsize rfl (lv_room hroom) hd ⟨Nat.zero_le _, Nat.zero_le _⟩) hS (fun b _ h => hFc b h) hFc (fun r u t H1 locs1 ht hvm hw hB hz1 hk1 hS1 => ?_)
  obtain ⟨z, rfl, hp⟩ := hw
  rw [ht] at hB
  exact k z u H1 locs1 hp hB hS1
theorem x_callv {post : St → Prop} (S : CallFix p m c cc nL s args Ts own) (hM : XMv l y wsY rmY D tys Wf A (.ref b :: As) post) (cw : CallW R s args own C index y bytes maxL ret wsY rmY 0 0 n) (hK : va_K D vwCl tys s) (hDD : ∀ A, va_D AS (Wf A)) (hA0 : ∀ b : Nat, s.heap.size ≤ b → AS b) (hP : va_P D vwCl (Wf A) H) (hS : va_S AS s.heap H locs) (r0 ci : Nat) {T : u_T} {N : Nat} {fs : List Value} (he : (Wf A)[r0]? = some (b, .inr (ci, fs))) (hc : vwCl[ci]? = some (C, T, N)) (hn : As.length = n) (hsize : ls.size = nL) (hroom : (rest.map fun v => v.category).sum ≤ 8) (hd : decode cc pc = .ok (.invokevirtual index, 3))
    (k : ∀ (u : St) (H1 : Heap) (locs1 : List Loc), post u → va_P D vwCl (Wf u) H1 → va_S AS s.heap H1 locs1 → W p l e R s m args below meth c H1 locs1 0 0 Q (F0 m (pc + 3) ls rest)) : W p l e R s m args below meth c H locs 0 0 Q (F0 m pc ls (As.reverse ++ .ref b :: rest)) := by
  have hFc := x_fc (A := A) hDD hA0 hS
  refine va_callv (va_runV (As := As) (rest := rest) S (hM H.size) cw ⟨x_moved, va_recv hK hP hc he, fun U hU hW => ⟨rfl, by rw [hU], by rw [hU]; exact hP, va_K.moved hW.alike hK, fun A' => (hDD A').weaken (fun _ _ _ _ => trivial)⟩⟩ rfl hn hsize rfl (lv_room hroom) hd ⟨Nat.zero_le _, Nat.zero_le _⟩) hS (fun b _ h => hFc b h) hFc (fun u t H1 locs1 ht hvm hw hB hz1 hk1 hS1 => ?_)
  rw [ht] at hB
  exact k u H1 locs1 hw hB hS1
end XD
