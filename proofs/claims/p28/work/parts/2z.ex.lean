section EY
variable {p : Program} {l : Launch} {e : Env} {R : Room} {s : State} {m : MethodId} {args : Array Value} {below : List Frame} {meth : Method} {c : Code} {H : Heap} {locs : List Loc} {cells slots : Nat} {Q : State → Prop}
variable {cc : ByteArray} {pc : Nat} {ls : Array Slot} {rest : List Value}
theorem x_shl1E {n M t : Int} (hx : p.tables.exec = Jvm.exec) (hb : c.code = cc) (d : decode cc pc = .ok (.ishl, 1)) (h : 0 ≤ n ∧ n ≤ M) (hM : M ≤ 30) (ht : (2 : Int) ^ M.toNat = t) (k : ∀ z : Int, Hd (z = oShl 1 n) → 1 ≤ z ∧ z ≤ t → W p l e R s m args below meth c H locs cells slots Q (F0 m (pc + 1) ls (.int (iI z) :: rest))) : W p l e R s m args below meth c H locs cells slots Q (F0 m pc ls (.int (iI n) :: .int (iI 1) :: rest)) := by
  have e2 : (2 : Int) ^ n.toNat ≤ t := by rw [← ht]; exact_mod_cast Nat.pow_le_pow_right (n := 2) (by decide) (show n.toNat ≤ M.toNat by omega)
  have e3 : (1 : Int) ≤ 2 ^ n.toNat := by exact_mod_cast Nat.one_le_two_pow
  have e4 : (2 : Int) ^ M.toNat ≤ 2 ^ 30 := by exact_mod_cast Nat.pow_le_pow_right (n := 2) (by decide) (show M.toNat ≤ 30 by omega)
  have e5 : (2 : Int) ^ 30 = 1073741824 := by decide
  have e1 : (iI (2 ^ n.toNat)).toInt = 2 ^ n.toNat := iI_toInt ⟨by omega, by omega⟩
  refine lv_ishl hx hb d (tp_i (iI_of _).symm (k _ rfl ?_))
  rw [shl1 ⟨h.1, by omega⟩, e1]
  exact ⟨e3, e2⟩
end EY
