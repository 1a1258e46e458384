set_option maxHeartbeats 4000000 in
set_option maxRecDepth 100000 in
theorem own_list : ((flatC (Jvm.Cond.and given_1 narrow_1)).drop 39).take 119 = (List.range 119).map (fun j => Cond.eq (.elem (.field (Term.string RX5 34) "java/lang/String" "value" "[B") (.int (Int32.ofNat j))) (.int (ownBytes.getD j 0))) := by decide +kernel
theorem own_bytes : ∀ j, j < 119 → Cond.eq (.elem (.field (Term.string RX5 34) "java/lang/String" "value" "[B") (.int (Int32.ofNat j))) (.int (ownBytes.getD j 0)) ∈ flatC (Jvm.Cond.and given_1 narrow_1) := by
  intro j hj
  have h : Cond.eq (.elem (.field (Term.string RX5 34) "java/lang/String" "value" "[B") (.int (Int32.ofNat j))) (.int (ownBytes.getD j 0)) ∈ (List.range 119).map (fun j => Cond.eq (.elem (.field (Term.string RX5 34) "java/lang/String" "value" "[B") (.int (Int32.ofNat j))) (.int (ownBytes.getD j 0))) := List.mem_map.mpr ⟨j, List.mem_range.mpr hj, rfl⟩
  rw [← own_list] at h
  exact List.mem_of_mem_drop (List.mem_of_mem_take h)
