set_option maxHeartbeats 4000000 in
set_option maxRecDepth 100000 in
theorem st_elS : ∀ j, j < 12 → Cond.eq (.elem (.static RX11 "STATEMENT_KINDS" "[I") (.int (Int32.ofNat j))) (.int (([(0), (1), (1), (2), (3), (4), (5), (6), (7), (-1), (-1), (-1)] : List Int32).getD j 0)) ∈ flatC (Jvm.Cond.and given_1 narrow_1) := by decide +kernel
theorem st_vS : ∀ j, j < 12 → ([(0), (1), (1), (2), (3), (4), (5), (6), (7), (-1), (-1), (-1)] : List Int32).getD j 0 = iI (kindK j) := by decide +kernel
set_option maxHeartbeats 4000000 in
set_option maxRecDepth 100000 in
theorem st_kS {s : State} {b : Nat} (hgv : (Jvm.Cond.and given_1 narrow_1).before #[Value.ref b] s = true) {A : Nat → Prop} (hA : ∀ a : Nat, a < s.heap.size → ¬ A a) : ∃ t : Nat, (Term.static RX11 "STATEMENT_KINDS" "[I").eval #[Value.ref b] s none [] s = some (.ref t) ∧ va_T .int t 12 (fun j => .int (iI (kindK j))) A s s.heap := by
  have hs := flat_of_before _ hgv
  have m1 : Cond.arrayOf (.static RX11 "STATEMENT_KINDS" "[I") .int ∈ flatC (Jvm.Cond.and given_1 narrow_1) := by decide +kernel
  have m2 : Cond.eq (.length (.static RX11 "STATEMENT_KINDS" "[I")) (.int 12) ∈ flatC (Jvm.Cond.and given_1 narrow_1) := by decide +kernel
  exact va_Tof (tm := (.static RX11 "STATEMENT_KINDS" "[I")) (N := 12) (by decide) (hs _ m1) (va_eqv (hs _ m2) rfl) (fun j hj => by rw [va_eqv (hs _ (st_elS j hj)) rfl, st_vS j hj]) hA
set_option maxHeartbeats 4000000 in
set_option maxRecDepth 100000 in
theorem st_elL : ∀ j, j < 8 → Cond.eq (.elem (.static RX11 "LIMITS" "[I") (.int (Int32.ofNat j))) (.int (([(8), (10), (4), (3), (4), (6), (6), (6)] : List Int32).getD j 0)) ∈ flatC (Jvm.Cond.and given_1 narrow_1) := by decide +kernel
theorem st_vL : ∀ j, j < 8 → ([(8), (10), (4), (3), (4), (6), (6), (6)] : List Int32).getD j 0 = iI (limK j) := by decide +kernel
set_option maxHeartbeats 4000000 in
set_option maxRecDepth 100000 in
theorem st_kL {s : State} {b : Nat} (hgv : (Jvm.Cond.and given_1 narrow_1).before #[Value.ref b] s = true) {A : Nat → Prop} (hA : ∀ a : Nat, a < s.heap.size → ¬ A a) : ∃ t : Nat, (Term.static RX11 "LIMITS" "[I").eval #[Value.ref b] s none [] s = some (.ref t) ∧ va_T .int t 8 (fun j => .int (iI (limK j))) A s s.heap := by
  have hs := flat_of_before _ hgv
  have m1 : Cond.arrayOf (.static RX11 "LIMITS" "[I") .int ∈ flatC (Jvm.Cond.and given_1 narrow_1) := by decide +kernel
  have m2 : Cond.eq (.length (.static RX11 "LIMITS" "[I")) (.int 8) ∈ flatC (Jvm.Cond.and given_1 narrow_1) := by decide +kernel
  exact va_Tof (tm := (.static RX11 "LIMITS" "[I")) (N := 8) (by decide) (hs _ m1) (va_eqv (hs _ m2) rfl) (fun j hj => by rw [va_eqv (hs _ (st_elL j hj)) rfl, st_vL j hj]) hA
theorem ex_known {s : State} {b : Nat} (hts : ∀ w ∈ lw_tbl, w.before #[Value.ref b] s = true) (hgv : (Jvm.Cond.and given_1 narrow_1).before #[Value.ref b] s = true) {A : Nat → Prop} (hA : ∀ a : Nat, a < s.heap.size → ¬ A a) : ∃ aL aS : Nat, exK aL aS A s := by
  obtain ⟨aS, vS, tS⟩ := st_kS hgv hA
  obtain ⟨aL, vL, tL⟩ := st_kL hgv hA
  exact ⟨aL, aS, va_Nw.of rfl (hts _ (t_in_3 _ (List.mem_of_getElem? (i := 39) rfl))), va_Nw.of rfl (hts _ (t_in_3 _ (List.mem_of_getElem? (i := 41) rfl))), va_Nw.of rfl (hts _ (t_in_3 _ (List.mem_of_getElem? (i := 71) rfl))), va_Zref (hts _ (t_in_3 _ (List.mem_of_getElem? (i := 40) rfl))) (hts _ (t_in_1 _ (List.mem_of_getElem? (i := 1) rfl))) vS hA, tS, va_Zref (hts _ (t_in_3 _ (List.mem_of_getElem? (i := 42) rfl))) (hts _ (t_in_1 _ (List.mem_of_getElem? (i := 1) rfl))) vL hA, tL⟩
