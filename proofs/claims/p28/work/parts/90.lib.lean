/-! The law: two worlds side by side. -/
def wapart (w1 w2 : va_W) : Prop := ∀ (i j : Nat) (a b : Nat × va_E), w1[i]? = some a → w2[j]? = some b → a.1 ≠ b.1
theorem wapart.sym {w1 w2 : va_W} (h : wapart w1 w2) : wapart w2 w1 := fun i j a b ha hb e => h j i b a hb ha e.symm
theorem l_other {D : va_G} {w1 w2 : va_W} {H H1 : Heap} (hO : va_P D vwCl w2 H) (hAp : wapart w1 w2) (hk : ∀ q : Nat, q < H.size → ¬ va_A w1 H.size q → H1[q]? = H[q]?) : va_P D vwCl w2 H1 := by
  intro k q hq
  have h := hO k q hq
  refine h.kept (hk q.1 h.lt (fun hA => ?_))
  rcases hA with ⟨i, e, hi⟩ | hA
  · exact hAp i k _ _ hi hq rfl
  · exact absurd h.lt (Nat.not_lt.mpr hA)
def sx (xs : Nat → Int32) (i : Int) : Int := (xs i.toNat).toInt
theorem sx_r (xs : Nat → Int32) (i : Int) : -2147483648 ≤ sx xs i ∧ sx xs i ≤ 2147483647 := R32_of _
section LC
variable {p : Program} {l : Launch} {e : Env} {R : Room} {s : State} {m : MethodId} {args : Array Value} {below : List Frame} {meth : Method} {c : Code} {H : Heap} {locs : List Loc} {cells slots : Nat} {Q : State → Prop} {cc : ByteArray} {pc nL n index maxL : Nat} {ls : Array Slot} {rest : List Value} {aL aS : Nat} {D : va_G} {AS : Nat → Prop} {b : Nat} {tys : List (ClassId × FieldType)} {Wf : St → va_W} {Wo : va_W} {A : St} {y : MethodName} {wsY : List Cond} {rmY : Room} {Ts : List Cond} {own C : String} {bytes : ByteArray} {ret : Option FieldType} {As : List Value}
theorem x_sld {L : Nat} {xs : Nat → Int32} {i : Int} (hx : p.tables.exec = Jvm.exec) (hb : c.code = cc) (hX : va_X b L xs s s.heap) (hbl : b < s.heap.size) (hbA : ¬ AS b) (hS : va_S AS s.heap H locs) (hL : L ≤ 3072) (hi : 0 ≤ i ∧ i < (L : Int)) (d : decode cc pc = .ok (.iaload, 1))
    (k : W p l e R s m args below meth c H locs cells slots Q (F0 m (pc + 1) ls (.int (iI (sx xs i)) :: rest))) : W p l e R s m args below meth c H locs cells slots Q (F0 m pc ls (.int (iI i) :: .ref b :: rest)) := by
  refine va_sld hx hb hX hbl hbA hS (i_in hi (by omega)) d (tp_i ?_ k)
  rw [i_nat ⟨by omega, by omega⟩]
  exact (iI_of _).symm
theorem l_callK {post : Int → St → Prop} (S : CallFix p m c cc nL s args Ts own) (hE : exK aL aS AS s) (hM : KMi l y wsY rmY aL aS D tys Wf A (.ref b :: As) post) (cw : CallW R s args own C index y bytes maxL ret wsY rmY 0 0 n) (hK : va_K D vwCl tys s) (hDD : ∀ A, va_D AS (Wf A)) (hA0 : ∀ b : Nat, s.heap.size ≤ b → AS b) (hP : va_P D vwCl (Wf A) H) (hO : va_P D vwCl Wo H) (hAp : wapart (Wf A) Wo) (hS : va_S AS s.heap H locs) (r0 ci : Nat) {T : u_T} {N : Nat} {fs : List Value} (he : (Wf A)[r0]? = some (b, .inr (ci, fs))) (hc : vwCl[ci]? = some (C, T, N)) (hn : As.length = n) (hsize : ls.size = nL) (hroom : (rest.map fun v => v.category).sum ≤ 8) (hcs : cells ≤ R.cells ∧ slots ≤ R.slots) (hd : decode cc pc = .ok (.invokevirtual index, 3))
    (k : ∀ (z : Int) (u : St) (H1 : Heap) (locs1 : List Loc), post z u → va_P D vwCl (Wf u) H1 → va_P D vwCl Wo H1 → va_S AS s.heap H1 locs1 → W p l e R s m args below meth c H1 locs1 cells slots Q (F0 m (pc + 3) ls (.int (iI z) :: rest))) : W p l e R s m args below meth c H locs cells slots Q (F0 m pc ls (As.reverse ++ .ref b :: rest)) := by
  have hFc := x_fc (A := A) hDD hA0 hS
  refine va_calli (va_runV (As := As) (rest := rest) S (hM H.size) cw ⟨k_moved, va_recv hK hP hc he, fun U hU hW => ⟨rfl, by rw [hU], by rw [hU]; exact hP, va_K.moved hW.alike hK, fun A' => (hDD A').weaken (fun _ _ _ _ => trivial), exK.call hE hW hU hS hFc⟩⟩ rfl hn hsize rfl (lv_room hroom) hd hcs) hS (fun b _ h => hFc b h) hFc (fun r u t H1 locs1 ht hvm hw hB hz1 hk1 hS1 => ?_)
  obtain ⟨z, rfl, hp⟩ := hw
  rw [ht] at hB
  exact k z u H1 locs1 hp hB (l_other hO hAp hk1) hS1
theorem l_callX {post : Int → St → Prop} (S : CallFix p m c cc nL s args Ts own) (hM : XMi l y wsY rmY D tys Wf A (.ref b :: As) post) (cw : CallW R s args own C index y bytes maxL ret wsY rmY 0 0 n) (hK : va_K D vwCl tys s) (hDD : ∀ A, va_D AS (Wf A)) (hA0 : ∀ b : Nat, s.heap.size ≤ b → AS b) (hP : va_P D vwCl (Wf A) H) (hO : va_P D vwCl Wo H) (hAp : wapart (Wf A) Wo) (hS : va_S AS s.heap H locs) (r0 ci : Nat) {T : u_T} {N : Nat} {fs : List Value} (he : (Wf A)[r0]? = some (b, .inr (ci, fs))) (hc : vwCl[ci]? = some (C, T, N)) (hn : As.length = n) (hsize : ls.size = nL) (hroom : (rest.map fun v => v.category).sum ≤ 8) (hcs : cells ≤ R.cells ∧ slots ≤ R.slots) (hd : decode cc pc = .ok (.invokevirtual index, 3))
    (k : ∀ (z : Int) (u : St) (H1 : Heap) (locs1 : List Loc), post z u → va_P D vwCl (Wf u) H1 → va_P D vwCl Wo H1 → va_S AS s.heap H1 locs1 → W p l e R s m args below meth c H1 locs1 cells slots Q (F0 m (pc + 3) ls (.int (iI z) :: rest))) : W p l e R s m args below meth c H locs cells slots Q (F0 m pc ls (As.reverse ++ .ref b :: rest)) := by
  have hFc := x_fc (A := A) hDD hA0 hS
  refine va_calli (va_runV (As := As) (rest := rest) S (hM H.size) cw ⟨x_moved, va_recv hK hP hc he, fun U hU hW => ⟨rfl, by rw [hU], by rw [hU]; exact hP, va_K.moved hW.alike hK, fun A' => (hDD A').weaken (fun _ _ _ _ => trivial)⟩⟩ rfl hn hsize rfl (lv_room hroom) hd hcs) hS (fun b _ h => hFc b h) hFc (fun r u t H1 locs1 ht hvm hw hB hz1 hk1 hS1 => ?_)
  obtain ⟨z, rfl, hp⟩ := hw
  rw [ht] at hB
  exact k z u H1 locs1 hp hB (l_other hO hAp hk1) hS1
end LC
theorem goodVL {Ts W0 : List Cond} (hW : ∀ w ∈ W0, w ∈ Ts) (hg : ∀ w ∈ W0, goodWord w = true) {c1 : Cond} {own C : String} {idx : Nat} {y : MethodName} (h1 : Cond.methodLink own idx y ∈ Ts) (h2 : Cond.instanceMethod y ∈ Ts) (h3 : Cond.selects C y y ∈ Ts) (h4 : Cond.initialized C ∈ Ts) (h5 : c1 ∈ Ts) (g : ([.methodLink own idx y, .instanceMethod y, .selects C y y, .initialized C, c1] : List Cond).all goodWord = true) : GoodIn Ts (wsV own idx C y (c1 :: W0)) := by
  have g' := List.all_eq_true.mp g
  intro w hw
  unfold wsV at hw
  simp only [List.cons_append, List.nil_append, List.mem_cons] at hw
  rcases hw with rfl | rfl | rfl | rfl | rfl | h
  · exact ⟨h1, good_of_word (g' _ (by simp))⟩
  · exact ⟨h2, good_of_word (g' _ (by simp))⟩
  · exact ⟨h3, good_of_word (g' _ (by simp))⟩
  · exact ⟨h4, good_of_word (g' _ (by simp))⟩
  · exact ⟨h5, good_of_word (g' _ (by simp))⟩
  · exact ⟨hW w h, good_of_word (hg w h)⟩
