set_option maxHeartbeats 4000000 in
set_option maxRecDepth 100000 in
theorem str_known {s : State} {b : Nat} (hts : ∀ w ∈ lw_tbl, w.before #[Value.ref b] s = true) (hgv : (Jvm.Cond.and given_1 narrow_1).before #[Value.ref b] s = true) {A : Nat → Prop} (hA : ∀ a : Nat, a < s.heap.size → ¬ A a) : ∃ aK aV : Nat, exS aK aV A s := by
  have hs := flat_of_before _ hgv
  have m1 : Cond.exactly (Term.string RX5 34) "java/lang/String" ∈ flatC (Jvm.Cond.and given_1 narrow_1) := by decide +kernel
  have m2 : Cond.eq (.field (Term.string RX5 34) "java/lang/String" "coder" "B") (.int 0) ∈ flatC (Jvm.Cond.and given_1 narrow_1) := by decide +kernel
  have m3 : Cond.arrayOf (.field (Term.string RX5 34) "java/lang/String" "value" "[B") .byte ∈ flatC (Jvm.Cond.and given_1 narrow_1) := by decide +kernel
  have m4 : Cond.eq (.length (.field (Term.string RX5 34) "java/lang/String" "value" "[B")) (.int 119) ∈ flatC (Jvm.Cond.and given_1 narrow_1) := by decide +kernel
  obtain ⟨adK, adV, hS, hE⟩ := vk_Sof (args := #[Value.ref b]) (s := s) (N := 1) (tm := fun _ => (Term.string RX5 34)) (len := [119]) (byt := [ownBytes]) (A := A) (fun i hi => by rcases (show i = 0 by omega) with rfl; decide) (fun i _ => hs _ m1) (fun i _ => hs _ m2) (fun i _ => hs _ m3) (fun i hi => by rcases (show i = 0 by omega) with rfl; exact hs _ m4) (fun i hi j hj => by rcases (show i = 0 by omega) with rfl; exact hs _ (own_bytes j hj)) (fun i j hi hj h => absurd (show i = j by omega) h) hA
  refine ⟨adK 0, adV 0, vk_R.of (hts _ (t_in_1 _ (List.mem_of_getElem? (i := 84) rfl))) (hE 0 (by decide)), ⟨fun i hi => ?_, fun i j hi hj _ => by omega⟩, va_Zof (hts _ (t_in_1 _ (List.mem_of_getElem? (i := 94) rfl))) (hts _ (t_in_1 _ (List.mem_of_getElem? (i := 5) rfl))) (va_eqi (hs _ (by decide +kernel))) hA, va_Zqof (hts _ (t_in_1 _ (List.mem_of_getElem? (i := 110) rfl))) (hts _ (t_in_1 _ (List.mem_of_getElem? (i := 7) rfl))) (hs _ (by decide +kernel)) hA⟩
  rcases (show i = 0 by omega) with rfl
  exact hS.1 0 (by decide)
