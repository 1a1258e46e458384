/-! Keys that close, change hands, lie down, break. -/
theorem K_placeInL {t k d : Nat} {z : Int} {B : St} (hk : k < 4) (h6 : B (t + 25) k ≤ 6) : ∀ (nn i : Nat), (∀ i' : Nat, i' < i → (i' : Int) < B (t + 25) k → ¬ B (t + (27 + k)) i' = (d : Int)) → d_X6_placeInRow_1 (t + 22) (k : Int) (d : Int) B z nn (i : Int) → (z = -1 ∧ ¬ inR (tw t B) k d) ∨ (¬ z = -1 ∧ inR (tw t B) k d) := by
  intro nn
  induction nn with
  | zero => intro i _ h; exact h.elim
  | succ nn ih =>
    intro i no h
    obtain ⟨_, h⟩ := (h : tr_d_X6_placeInRow_1 (t + 22) (k : Int) (d : Int) B z (fun z1 => d_X6_placeInRow_1 (t + 22) (k : Int) (d : Int) B z nn z1) (i : Int))
    have on : (∀ i' : Nat, i' < i + 1 → (i' : Int) < B (t + 25) k → ¬ B (t + (27 + k)) i' = (d : Int)) → d_X6_placeInRow_2 (fun z1 => d_X6_placeInRow_1 (t + 22) (k : Int) (d : Int) B z nn z1) (i : Int) z → (z = -1 ∧ ¬ inR (tw t B) k d) ∨ (¬ z = -1 ∧ inR (tw t B) k d) := by
      intro no2 h
      have h := (h : tr_d_X6_placeInRow_2 (fun z1 => d_X6_placeInRow_1 (t + 22) (k : Int) (d : Int) B z nn z1) (i : Int) z)
      exact ih (i + 1) no2 (by rw [show ((i + 1 : Nat) : Int) = (i : Int) + 1 by omega]; exact h)
    rcases h with ⟨c, hz⟩ | ⟨c, h⟩
    · refine Or.inl ⟨hz, fun ⟨i', h1, h2⟩ => ?_⟩
      have h1 : (i' : Int) < B (t + 25) k := h1
      exact no i' (by omega) h1 h2
    rcases h with ⟨c2, -⟩ | ⟨_, z10, h10, h⟩
    · omega
    rcases K_inRow hk h10 with ⟨g1, g2⟩ | ⟨g1, g2⟩
    · rcases h with ⟨c3, h⟩ | ⟨c3, hz⟩
      · refine on (fun i' a1 a2 => ?_) h
        by_cases e : i' = i
        · subst e
          rw [← g2]
          exact c3
        · exact no i' (by omega) a2
      · exact Or.inr ⟨by omega, i, g1, g2.symm.trans c3⟩
    · rcases h with ⟨_, h⟩ | ⟨c3, -⟩
      · exact on (fun i' a1 a2 => no i' (by omega) a2) h
      · omega
theorem K_placeIn {t k d : Nat} {z : Int} {B : St} (hk : k < 4) (h6 : B (t + 25) k ≤ 6) (h : q_X6_placeInRow (t + 22) (k : Int) (d : Int) B z) : (z = -1 ∧ ¬ inR (tw t B) k d) ∨ (¬ z = -1 ∧ inR (tw t B) k d) := by
  obtain ⟨nn, h⟩ := (h.1 : tr_r_X6_placeInRow (t + 22) (k : Int) (d : Int) B z)
  exact K_placeInL hk h6 nn 0 (fun i' a1 => absurd a1 (Nat.not_lt_zero i')) h
theorem shut_no {A u : St} {z : Int} (h : d_X12_shut_2 z u (-1) A) : z = -1 ∧ sM A u := by
  obtain ⟨_, _, h⟩ := (h : tr_d_X12_shut_2 z u (-1) A)
  rcases h with ⟨c, -⟩ | ⟨_, z23, A24, hr, hz, hu⟩
  · exact absurd rfl c
  · rw [hz, hu]
    exact ⟨hr.2.2.2, sM.fr hr.2.2.1 rfl rfl rfl rfl⟩
theorem closed_eqK {t b p k d : Nat} {B A u1 A16 : St} {z1 y15 : Int} (hI : IM A) (h : ACT b A (tw t B)) (hp : (p : Int) < B (t + 1) 3) (hk : (k : Int) < B (t + 1) 2) (hd : (d : Int) < B (t + 1) 1) (h1 : q_X9_shutWith t (p : Int) (k : Int) (d : Int) B z1 u1) (hc : q_X12_closed (p : Int) (k : Int) (d : Int) A y15 A16) : z1 = y15 ∧ AC b A16 (tw t u1) := by
  obtain ⟨l0, l1, l2, l3⟩ := h.lim hI
  have l1 : B (t + 1) 1 ≤ 10 := l1
  have l2 : B (t + 1) 2 ≤ 4 := l2
  have hv := h.2.2.2.2
  have no : ∀ A', sM A A' → sT (tw t B) (tw t u1) → z1 = -1 → y15 = -1 → A16 = A' → z1 = y15 ∧ AC b A16 (tw t u1) := fun A' g1 g2 g3 g4 g5 => ⟨g3.trans g4.symm, by rw [g5]; exact h.2.2.cg l2 g2 g1⟩
  obtain ⟨a1, ha1, h1⟩ := (h1.1 : tr_r_X9_shutWith t (p : Int) (k : Int) (d : Int) B z1 u1)
  have kh := K_holds ha1
  rw [Int.toNat_natCast] at kh
  have x := h.2.2.1.1 k hk
  have x13 : A 13 (4 * b + k) = B (t + 24) k := x.1
  have x14 : A 14 (4 * b + k) = B (t + 25) k := x.2.1
  have kv := hv.2.2.2.1 k hk
  have v25 : 0 ≤ B (t + 25) k ∧ B (t + 25) k ≤ 6 := kv.1
  have n4 : (4 * (b : Int) + (k : Int)).toNat = 4 * b + k := by omega
  obtain ⟨_, _, w4, e4, hc⟩ := (hc.1 : tr_r_X12_closed (p : Int) (k : Int) (d : Int) A y15 A16)
  rw [h.1, n4, x13] at e4
  rcases hc with ⟨c5, hz2, hu2⟩ | ⟨c5, w6, hw6, w9, hw9, hc⟩
  · rcases h1 with ⟨c, hz, hu⟩ | ⟨c, -⟩
    · exact no A sM.rf (by rw [hu]; exact sT.rf) hz hz2 hu2
    · omega
  rcases h1 with ⟨c, -⟩ | ⟨_, a5, e5, a6, ha6, h1⟩
  · (first | omega | (clear h1; omega) | (clear h2; omega) | (clear h; omega) | (clear hc; omega) | (clear h1 h2; omega) | (clear h1 h; omega) | (clear h1 hc; omega) | (clear h2 h; omega) | (clear h2 hc; omega) | (clear h hc; omega) | (clear h1 h2 h; omega) | (clear h1 h2 hc; omega) | (clear h1 h hc; omega) | (clear h2 h hc; omega))
  rw [Int.toNat_natCast] at e5
  have e5 : a5 = B (t + 23) p := e5
  have es : w6 = B (t + 23) p := M_spotOf h.1 h.2.2.2.1 hp hw6
  have k6 := K_isAt ha6
  rw [Int.toNat_natCast, e5] at k6
  have m9 : (w9 = 1 ↔ B (t + 8) d = w6 ∨ B (t + 9) d = w6) ∧ (w9 = 0 ∨ w9 = 1) := M_isAt h hd hw9
  rw [es] at m9
  rcases h1 with ⟨c6, hz, hu⟩ | ⟨c6, a10, A11, hpu, h1⟩
  · rcases hc with ⟨_, hz2, hu2⟩ | ⟨c7, -⟩
    · exact no A sM.rf (by rw [hu]; exact sT.rf) hz hz2 hu2
    · omega
  rcases hc with ⟨c7, -⟩ | ⟨_, w13, hw13, hc⟩
  · (first | omega | (clear h1; omega) | (clear h2; omega) | (clear h; omega) | (clear hc; omega) | (clear h1 h2; omega) | (clear h1 h; omega) | (clear h1 hc; omega) | (clear h2 h; omega) | (clear h2 hc; omega) | (clear h hc; omega) | (clear h1 h2 h; omega) | (clear h1 h2 hc; omega) | (clear h1 h hc; omega) | (clear h2 h hc; omega))
  obtain ⟨r1, r2⟩ := M_inRow h.1 hk h.2.2.1 hw13
  rcases (hpu.1 : tr_r_X6_push (t + 22) (k : Int) (d : Int) B a10 A11) with ⟨c8, -⟩ | ⟨_, hpu⟩
  · omega
  rcases hpu with ⟨c8, -⟩ | ⟨_, v3, hv3, hpu⟩
  · omega
  have kp := K_placeIn (by omega) v25.2 hv3
  rcases hc with ⟨c8, hz2, hu2⟩ | ⟨c8, _, _, w20, e20, hc⟩
  · rcases hpu with ⟨c9, -⟩ | ⟨_, hza, hua⟩
    · exfalso
      have := r1.mp (by omega)
      rcases kp with g | g
      · exact g.2 this
      · exact g.1 c9
    · rcases h1 with ⟨c9, -⟩ | ⟨_, hz, hu⟩
      · exact absurd hza c9
      · exact no A sM.rf (by rw [hu, hua]; exact sT.rf) hz hz2 hu2
  have nin : ¬ inR (tw t B) k d := fun g => by have := r1.mpr g; omega
  rcases hpu with ⟨c9, v7, e7, hpu⟩ | ⟨c9, -⟩
  case inr => rcases kp with g | g
              · exact absurd g.1 c9
              · exact absurd g.2 nin
  rw [Int.toNat_natCast] at e7
  have e7 : v7 = B (t + 25) k := e7
  rw [h.1, n4, x14] at e20
  rcases hpu with ⟨c10, A10, e10, A11', e11, hza, hua⟩ | ⟨c10, hza, hua⟩
  · rcases hc with ⟨_, _, _, _, _, w28, e28, A29, e29, _, _, w33, e33, A34, e34, _, _, w38, e38, hz2, hu2⟩ | ⟨c11, -⟩
    · rcases h1 with ⟨_, a15, e15, hz, hu⟩ | ⟨c11, -⟩
      · obtain ⟨n, en⟩ : ∃ n : Nat, B (t + 25) k = (n : Int) := ⟨(B (t + 25) k).toNat, by omega⟩
        rw [h.1, n4, x14, en] at e28
        rw [e28, h.1, show (40 * (b : Int) + 10 * (k : Int) + (n : Int)).toNat = 40 * b + 10 * k + n by omega] at e29
        have b29 : A29 0 12 = (b : Int) := by rw [e29]; exact h.1
        have r29 : A29 14 (4 * b + k) = (n : Int) := by
          rw [e29, ← en, ← x14]
          rfl
        rw [h.1, n4, r29] at e33
        rw [h.1, n4, e33, e29] at e34
        rw [h.1, n4, e34, stA_same, up_same] at e38
        rw [e7, en, Int.toNat_natCast, Int.toNat_natCast, show t + 22 + 5 + k = t + (27 + k) by omega] at e10
        rw [e7, en, Int.toNat_natCast] at e11
        have e11 : A11' = stA A10 (t + 25) k ((n : Int) + 1) := e11
        have f15 : a15 = (n : Int) + 1 := by
          rw [e15, hua, e11, Int.toNat_natCast]
          show stA A10 (t + 25) k ((n : Int) + 1) (t + 25) k = (n : Int) + 1
          rw [stA_same, up_same]
        refine ⟨by rw [hz, f15, hz2, e38], ?_⟩
        rw [hu2, e34, hu, hua, e11, e10, tw_st, tw_st]
        refine AC_push h.2.2 hk en (by omega) ⟨by omega, hd⟩ (fun i hi g => nin ⟨i, ?_, g⟩)
        show (i : Int) < B (t + 25) k
        omega
      · exact absurd hza (by omega)
    · omega
  · rcases hc with ⟨c11, -⟩ | ⟨_, hz2, hu2⟩
    · omega
    · rcases h1 with ⟨c12, -⟩ | ⟨_, hz, hu⟩
      · exact absurd hza c12
      · exact no A sM.rf (by rw [hu, hua]; exact sT.rf) hz hz2 hu2
theorem shut_eq {t b : Nat} {B A u1 u2 : St} {x1 x2 x3 z1 z2 : Int} (hT : isT t) (hI : IM A) (h : ACT b A (tw t B)) (qq1 : q_X9_shutWith t x1 x2 x3 B z1 u1) (qq2 : q_X12_shut x1 x2 x3 A z2 u2) : z1 = z2 ∧ AC b u2 (tw t u1) := by
  have l2 : B (t + 1) 2 ≤ 4 := (h.lim hI).2.2.1
  have q1 := qq1
  have no : sT (tw t B) (tw t u1) → z1 = -1 → d_X12_shut_2 z2 u2 (-1) A → z1 = z2 ∧ AC b u2 (tw t u1) := fun g2 g3 g4 => ⟨g3.trans (shut_no g4).1.symm, h.2.2.cg l2 g2 (shut_no g4).2⟩
  obtain ⟨a1, ha1, h1⟩ := (qq1.1 : tr_r_X9_shutWith t x1 x2 x3 B z1 u1)
  have kh := K_holds ha1
  obtain ⟨y1, hy1, h2⟩ := (qq2.1 : tr_r_X12_shut x1 x2 x3 A z2 u2)
  have m3 : (y1 = 1 ↔ 0 ≤ x1 ∧ x1 < B (t + 1) 3) ∧ (y1 = 0 ∨ y1 = 1) := M_isPerson hI h hy1
  rcases h2 with ⟨c2, h2⟩ | ⟨c2, y7, hy7, h2⟩
  · rcases h1 with ⟨c, hz, hu⟩ | ⟨c, -⟩
    · exact no (by rw [hu]; exact sT.rf) hz h2
    · omega
  have m2 : (y7 = 1 ↔ 0 ≤ x2 ∧ x2 < B (t + 1) 2) ∧ (y7 = 0 ∨ y7 = 1) := M_isKey hI h hy7
  rcases h2 with ⟨c3, h2⟩ | ⟨c3, y11, hy11, h2⟩
  · rcases h1 with ⟨c, hz, hu⟩ | ⟨c, -⟩
    · exact no (by rw [hu]; exact sT.rf) hz h2
    · omega
  have m1 : (y11 = 1 ↔ 0 ≤ x3 ∧ x3 < B (t + 1) 1) ∧ (y11 = 0 ∨ y11 = 1) := M_isDoor hI h hy11
  rcases h2 with ⟨c4, h2⟩ | ⟨c4, y15, A16, hc, h2⟩
  · rcases h1 with ⟨c, hz, hu⟩ | ⟨c, a5, e5, a6, ha6, h1⟩
    · exact no (by rw [hu]; exact sT.rf) hz h2
    · have k6 := K_isAt ha6
      rcases h1 with ⟨_, hz, hu⟩ | ⟨c5, -⟩
      · exact no (by rw [hu]; exact sT.rf) hz h2
      · omega
  obtain ⟨p, rfl⟩ : ∃ p : Nat, x1 = (p : Int) := ⟨x1.toNat, by omega⟩
  obtain ⟨k, rfl⟩ : ∃ k : Nat, x2 = (k : Int) := ⟨x2.toNat, by (first | omega | (clear h1; omega) | (clear h2; omega) | (clear h; omega) | (clear hc; omega) | (clear h1 h2; omega) | (clear h1 h; omega) | (clear h1 hc; omega) | (clear h2 h; omega) | (clear h2 hc; omega) | (clear h hc; omega) | (clear h1 h2 h; omega) | (clear h1 h2 hc; omega) | (clear h1 h hc; omega) | (clear h2 h hc; omega))⟩
  obtain ⟨d, rfl⟩ : ∃ d : Nat, x3 = (d : Int) := ⟨x3.toNat, by (first | omega | (clear h1; omega) | (clear h2; omega) | (clear h; omega) | (clear hc; omega) | (clear h1 h2; omega) | (clear h1 h; omega) | (clear h1 hc; omega) | (clear h2 h; omega) | (clear h2 hc; omega) | (clear h hc; omega) | (clear h1 h2 h; omega) | (clear h1 h2 hc; omega) | (clear h1 h hc; omega) | (clear h2 h hc; omega))⟩
  obtain ⟨e, ac⟩ := closed_eqK hI h (by omega) (by omega) (by omega) q1 hc
  have s1 : tw t u1 1 2 ≤ 4 := by
    have r1 : u1 (t + 1) 2 = B (t + 1) 2 := by
      rcases hT with e0 | e0
      · rw [e0]; exact q1.2.2.1 52 2 rfl rfl
      · rw [e0]; exact q1.2.2.1 83 2 rfl rfl
    show u1 (t + 1) 2 ≤ 4
    rw [r1]
    exact l2
  obtain ⟨_, _, h2⟩ := (h2 : tr_d_X12_shut_2 z2 u2 y15 A16)
  rcases h2 with ⟨_, hz3, hu3⟩ | ⟨c13, y23, A24, hr, hz3, hu3⟩
  · rw [hu3]
    exact ⟨e.trans hz3.symm, ac⟩
  · rw [hu3]
    exact ⟨by rw [e, c13, hz3, hr.2.2.2], ac.cg s1 sT.rf (sM.fr hr.2.2.1 rfl rfl rfl rfl)⟩
/-- a key is lent -/
theorem lend_no {x1 x2 x3 z : Int} {A u : St} (h : d_X12_lend_3 A z u) : z = 0 ∧ sM A u := by
  obtain ⟨z40, A41, hr, hz, hu⟩ := (h : tr_d_X12_lend_3 A z u)
  rw [hu]
  exact ⟨hz, sM.fr hr.2.2.1 rfl rfl rfl rfl⟩
theorem lend_eq {t b : Nat} {B A u1 u2 : St} {x1 x2 x3 z1 z2 : Int} (hI : IM A) (h : ACT b A (tw t B)) (qq1 : q_X9_lendTo t x1 x2 x3 B z1 u1) (qq2 : q_X12_lend x1 x2 x3 A z2 u2) : z1 = z2 ∧ AC b u2 (tw t u1) := by
  have l2 : B (t + 1) 2 ≤ 4 := (h.lim hI).2.2.1
  have no : sT (tw t B) (tw t u1) → z1 = 0 → d_X12_lend_3 A z2 u2 → z1 = z2 ∧ AC b u2 (tw t u1) := fun g2 g3 g4 => by
    obtain ⟨g5, g6⟩ := lend_no (x1 := x1) (x2 := x2) (x3 := x3) g4
    exact ⟨g3.trans g5.symm, h.2.2.cg l2 g2 g6⟩
  have no2 : sT (tw t B) (tw t u1) → z1 = 0 → d_X12_lend_1 x1 x2 x3 A z2 u2 → z1 = z2 ∧ AC b u2 (tw t u1) := fun g2 g3 g4 => by
    have g4 := (g4 : tr_d_X12_lend_1 x1 x2 x3 A z2 u2)
    obtain ⟨_, g4⟩ := (g4 : tr_d_X12_lend_2 x1 x2 x3 A z2 u2 0)
    rcases g4 with ⟨_, g4⟩ | ⟨c, -⟩
    · exact no g2 g3 g4
    · exact absurd rfl c
  obtain ⟨a1, ha1, h1⟩ := (qq1.1 : tr_r_X9_lendTo t x1 x2 x3 B z1 u1)
  have kh := K_holds ha1
  obtain ⟨y1, hy1, h2⟩ := (qq2.1 : tr_r_X12_lend x1 x2 x3 A z2 u2)
  have m3 : (y1 = 1 ↔ 0 ≤ x1 ∧ x1 < B (t + 1) 3) ∧ (y1 = 0 ∨ y1 = 1) := M_isPerson hI h hy1
  rcases h2 with ⟨c2, h2⟩ | ⟨c2, y7, hy7, h2⟩
  · rcases h1 with ⟨c, hz, hu⟩ | ⟨c, -⟩
    · exact no2 (by rw [hu]; exact sT.rf) hz h2
    · omega
  have m2 : (y7 = 1 ↔ 0 ≤ x2 ∧ x2 < B (t + 1) 2) ∧ (y7 = 0 ∨ y7 = 1) := M_isKey hI h hy7
  rcases h2 with ⟨c3, h2⟩ | ⟨c3, y11, hy11, h2⟩
  · rcases h1 with ⟨c, hz, hu⟩ | ⟨c, -⟩
    · exact no2 (by rw [hu]; exact sT.rf) hz h2
    · omega
  have m4 : (y11 = 1 ↔ 0 ≤ x3 ∧ x3 < B (t + 1) 3) ∧ (y11 = 0 ∨ y11 = 1) := M_isPerson hI h hy11
  rcases h2 with ⟨c4, h2⟩ | ⟨c4, h2⟩
  · rcases h1 with ⟨c, hz, hu⟩ | ⟨c, a5, ha5, h1⟩
    · exact no2 (by rw [hu]; exact sT.rf) hz h2
    · have k5 := K_there3 ha5
      rcases h1 with ⟨_, hz, hu⟩ | ⟨c5, -⟩
      · exact no2 (by rw [hu]; exact sT.rf) hz h2
      · omega
  rcases h2 with ⟨c5, h2⟩ | ⟨c5, h2⟩
  · rcases h1 with ⟨c, hz, hu⟩ | ⟨c, a5, ha5, h1⟩
    · exact no2 (by rw [hu]; exact sT.rf) hz h2
    · rcases h1 with ⟨_, hz, hu⟩ | ⟨_, h1⟩
      · exact no2 (by rw [hu]; exact sT.rf) hz h2
      · rcases h1 with ⟨c6, -⟩ | ⟨_, hz, hu⟩
        · exact absurd c5.symm c6
        · exact no2 (by rw [hu]; exact sT.rf) hz h2
  obtain ⟨p, rfl⟩ : ∃ p : Nat, x1 = (p : Int) := ⟨x1.toNat, by omega⟩
  obtain ⟨k, rfl⟩ : ∃ k : Nat, x2 = (k : Int) := ⟨x2.toNat, by (first | omega | (clear h1; omega) | (clear h2; omega) | (clear h; omega) | (clear hc; omega) | (clear h1 h2; omega) | (clear h1 h; omega) | (clear h1 hc; omega) | (clear h2 h; omega) | (clear h2 hc; omega) | (clear h hc; omega) | (clear h1 h2 h; omega) | (clear h1 h2 hc; omega) | (clear h1 h hc; omega) | (clear h2 h hc; omega))⟩
  obtain ⟨o, rfl⟩ : ∃ o : Nat, x3 = (o : Int) := ⟨x3.toNat, by (first | omega | (clear h1; omega) | (clear h2; omega) | (clear h; omega) | (clear hc; omega) | (clear h1 h2; omega) | (clear h1 h; omega) | (clear h1 hc; omega) | (clear h2 h; omega) | (clear h2 hc; omega) | (clear h hc; omega) | (clear h1 h2 h; omega) | (clear h1 h2 hc; omega) | (clear h1 h hc; omega) | (clear h2 h hc; omega))⟩
  have hp : (p : Int) < B (t + 1) 3 := by omega
  have ho : (o : Int) < B (t + 1) 3 := by omega
  have hk : (k : Int) < B (t + 1) 2 := by omega
  rw [Int.toNat_natCast] at kh
  have x13 : A 13 (4 * b + k) = B (t + 24) k := (h.2.2.1.1 k hk).1
  have n4 : (4 * (b : Int) + (k : Int)).toNat = 4 * b + k := by omega
  obtain ⟨_, h2⟩ := (h2 : tr_d_X12_lend_2 (p : Int) (k : Int) (o : Int) A z2 u2 1)
  rcases h2 with ⟨c6, -⟩ | ⟨_, _, _, w27, e27, h2⟩
  · exact absurd c6 (by decide)
  rw [h.1, n4, x13] at e27
  rcases h2 with ⟨c7, h2⟩ | ⟨c7, w29, hw29, w32, hw32, h2⟩
  · rcases h1 with ⟨c, hz, hu⟩ | ⟨c, -⟩
    · exact no (by rw [hu]; exact sT.rf) hz h2
    · omega
  have e29 : w29 = B (t + 23) p := M_spotOf h.1 h.2.2.2.1 hp hw29
  have e32 : w32 = B (t + 23) o := M_spotOf h.1 h.2.2.2.1 ho hw32
  rcases h1 with ⟨c, -⟩ | ⟨_, a5, ha5, h1⟩
  · omega
  have k5 := K_there3 ha5
  rcases h1 with ⟨c8, -⟩ | ⟨_, h1⟩
  · omega
  rcases h1 with ⟨_, a10, e10, a11, e11, h1⟩ | ⟨c8, -⟩
  case inr => exact absurd c8.symm c5
  rw [Int.toNat_natCast] at e10 e11
  have e10 : a10 = B (t + 23) p := e10
  have e11 : a11 = B (t + 23) o := e11
  rcases h1 with ⟨c8, A13, e13, hz, hu⟩ | ⟨c8, hz, hu⟩
  · rcases h2 with ⟨_, _, _, hz2, hu2⟩ | ⟨c9, -⟩
    · rw [Int.toNat_natCast] at e13
      have e13 : A13 = stA B (t + 24) k (o : Int) := e13
      rw [h.1, n4] at hu2
      refine ⟨hz.trans hz2.symm, ?_⟩
      rw [hu2, hu, e13, tw_st]
      exact AC_where h.2.2 (Or.inl ⟨by omega, ho⟩)
    · exact absurd (by rw [e29, e32, ← e10, ← e11]; exact c8) c9
  · rcases h2 with ⟨c9, -⟩ | ⟨_, h2⟩
    · exact absurd (by rw [e10, e11, ← e29, ← e32]; exact c9) c8
    · exact no (by rw [hu]; exact sT.rf) hz h2
/-- boxes that stand open -/
theorem K_isShut {t d : Nat} {z : Int} {B : St} (hR : RB (tw t B)) (h4 : B (t + 1) 2 ≤ 4) (h15 : 0 ≤ B t 15 ∧ B t 15 < 1024) (hd : d < 10) (h : q_X9_isShut t (d : Int) B z) : (z = 1 ↔ shT (tw t B) d) ∧ (z = 0 ∨ z = 1) := by
  obtain ⟨z1, h1, z4, e4, z5, e5, h⟩ := (h.1 : tr_r_X9_isShut t (d : Int) B z)
  obtain ⟨q1, q2⟩ := K_shutMask hR h4 h15 h1
  have bi := bit_iff (d := d) q1 hd
  rw [← e4, ← e5] at bi
  rcases h with ⟨c, hz⟩ | ⟨c, hz⟩
  · refine ⟨⟨fun e => absurd e (by omega), fun g => ?_⟩, Or.inl hz⟩
    have := (q2 d hd).mpr g
    rw [bi.mp c] at this
    exact absurd this Bool.false_ne_true
  · refine ⟨⟨fun _ => (q2 d hd).mp ?_, fun _ => hz⟩, Or.inr hz⟩
    cases hc : z1.toNat.testBit d with
    | true => rfl
    | false => exact absurd (bi.mpr hc) c
def opB (T : St) (x s : Int) : Prop := (0 ≤ x ∧ x < T 1 1) ∧ T 10 x.toNat = 0 ∧ T 8 x.toNat = s ∧ ¬ shT T x.toNat
theorem K_openBox {t b : Nat} {x s z : Int} {A B : St} (hI : IM A) (hA : ACT b A (tw t B)) (h : q_X9_isOpenBoxAt t x s B z) : (z = 1 ↔ opB (tw t B) x s) ∧ (z = 0 ∨ z = 1) := by
  obtain ⟨l0, l1, l2, l3⟩ := hA.lim hI
  have l1 : B (t + 1) 1 ≤ 10 := l1
  have l2 : B (t + 1) 2 ≤ 4 := l2
  have hv := hA.2.2.2.2
  have rb := hv.rb l1
  have h15 : 0 ≤ B t 15 ∧ B t 15 < 1024 := hA.st.2.2.1
  obtain ⟨z1, h1, h⟩ := (h.1 : tr_r_X9_isOpenBoxAt t x s B z)
  have k1 := K_isBox h1
  rcases h with ⟨c, hz⟩ | ⟨c, z5, h5, h⟩
  · refine ⟨⟨fun e => absurd e (by omega), fun ⟨g1, g2, _⟩ => ?_⟩, Or.inl hz⟩
    have g1 : 0 ≤ x ∧ x < B (t + 1) 1 := g1
    have g2 : B (t + 10) x.toNat = 0 := g2
    omega
  have b1 : 0 ≤ x ∧ x < B (t + 1) 1 ∧ B (t + 10) x.toNat = 0 := by (first | omega | (clear h1; omega) | (clear h2; omega) | (clear h; omega) | (clear hc; omega) | (clear h1 h2; omega) | (clear h1 h; omega) | (clear h1 hc; omega) | (clear h2 h; omega) | (clear h2 hc; omega) | (clear h hc; omega) | (clear h1 h2 h; omega) | (clear h1 h2 hc; omega) | (clear h1 h hc; omega) | (clear h2 h hc; omega))
  obtain ⟨d, rfl⟩ : ∃ d : Nat, x = (d : Int) := ⟨x.toNat, by omega⟩
  unfold opB
  rw [Int.toNat_natCast]
  rw [Int.toNat_natCast] at b1
  have hd : (d : Int) < B (t + 1) 1 := b1.2.1
  have dv := hv.2.1 d hd
  have dz : B (t + 8) d = B (t + 9) d := dv.2.2.2 b1.2.2
  have k5 := K_isAt h5
  rw [Int.toNat_natCast, ← dz] at k5
  rcases h with ⟨c2, hz⟩ | ⟨c2, z9, h9, h⟩
  · refine ⟨⟨fun e => absurd e (by omega), fun ⟨_, _, g3, _⟩ => ?_⟩, Or.inl hz⟩
    have g3 : B (t + 8) d = s := g3
    omega
  have k9 := K_isShut rb l2 h15 (by omega) h9
  have g8 : B (t + 8) d = s := by omega
  rcases h with ⟨c3, hz⟩ | ⟨c3, hz⟩
  · exact ⟨⟨fun e => absurd e (by omega), fun ⟨_, _, _, g4⟩ => absurd (k9.1.mp (by omega)) g4⟩, Or.inl hz⟩
  · exact ⟨⟨fun _ => ⟨⟨by omega, hd⟩, b1.2.2, g8, fun g => by have := k9.1.mpr g; omega⟩, fun _ => hz⟩, Or.inr hz⟩
theorem M_openBox {b p : Nat} {x z : Int} {A T : St} (hI : IM A) (hA : ACT b A T) (hp : (p : Int) < T 1 3) (h : q_X12_isOpenBox (p : Int) x A z) : (z = 1 ↔ opB T x (T 23 p)) ∧ (z = 0 ∨ z = 1) := by
  obtain ⟨z1, h1, h⟩ := (h.1 : tr_r_X12_isOpenBox (p : Int) x A z)
  have m1 := M_isDoor hI hA h1
  rcases h with ⟨c, hz⟩ | ⟨c, _, _, z8, e8, h⟩
  · refine ⟨⟨fun e => absurd e (by omega), fun ⟨g1, _⟩ => ?_⟩, Or.inl hz⟩
    omega
  obtain ⟨d, rfl⟩ : ∃ d : Nat, x = (d : Int) := ⟨x.toNat, by omega⟩
  have hd : (d : Int) < T 1 1 := by omega
  unfold opB
  rw [Int.toNat_natCast]
  have n10 : (10 * (b : Int) + (d : Int)).toNat = 10 * b + d := by omega
  obtain ⟨nb, dr, ls⟩ := hA.st
  have nbd := nb d hd
  rw [hA.1, n10] at e8
  rw [← e8] at nbd
  rcases h with ⟨c2, hz⟩ | ⟨c2, _, _, z13, e13, z14, h14, h⟩
  · exact ⟨⟨fun e => absurd e (by omega), fun ⟨_, g2, _⟩ => absurd g2 (nbd.mp c2)⟩, Or.inl hz⟩
  have g10 : T 10 d = 0 := by
    by_cases g : T 10 d = 0
    · exact g
    · exact absurd (nbd.mpr g) c2
  rw [hA.1, n10, (dr d hd).1] at e13
  have e14 := M_spotOf hA.1 hA.2.2.2.1 hp h14
  rcases h with ⟨c3, hz⟩ | ⟨c3, z18, h18, h⟩
  · exact ⟨⟨fun e => absurd e (by omega), fun ⟨_, _, g3, _⟩ => absurd (e13.trans (g3.trans e14.symm)) c3⟩, Or.inl hz⟩
  have g8 : T 8 d = T 23 p := e13.symm.trans (c3.trans e14)
  have m18 := M_isShut hA.1 hA.cnt.2.2.1 hA.2.2.1 hd ls h18
  rcases h with ⟨c4, hz⟩ | ⟨c4, hz⟩
  · exact ⟨⟨fun e => absurd e (by omega), fun ⟨_, _, _, g4⟩ => absurd (m18.1.mp (by omega)) g4⟩, Or.inl hz⟩
  · exact ⟨⟨fun _ => ⟨⟨by omega, hd⟩, g10, g8, fun g => by have := m18.1.mpr g; omega⟩, fun _ => hz⟩, Or.inr hz⟩
/-- a key is taken up -/
theorem take_eq {t b : Nat} {B A u1 u2 : St} {x1 x2 z1 z2 : Int} (hI : IM A) (h : ACT b A (tw t B)) (qq1 : q_X9_takeUp t x1 x2 B z1 u1) (qq2 : q_X12_take x1 x2 A z2 u2) : z1 = z2 ∧ AC b u2 (tw t u1) := by
  have l2 : B (t + 1) 2 ≤ 4 := (h.lim hI).2.2.1
  have l1 : B (t + 1) 1 ≤ 10 := (h.lim hI).2.1
  have l3 : B (t + 1) 3 ≤ 3 := (h.lim hI).2.2.2
  have l0 : B (t + 1) 0 ≤ 8 := (h.lim hI).1
  have hv := h.2.2.2.2
  have no4 : sT (tw t B) (tw t u1) → z1 = 0 → d_X12_take_4 A z2 u2 → z1 = z2 ∧ AC b u2 (tw t u1) := fun g2 g3 g4 => by
    obtain ⟨z43, A44, hr, hz, hu⟩ := (g4 : tr_d_X12_take_4 A z2 u2)
    refine ⟨g3.trans hz.symm, ?_⟩
    rw [hu]
    exact h.2.2.cg l2 g2 (sM.fr hr.2.2.1 rfl rfl rfl rfl)
  have no1 : sT (tw t B) (tw t u1) → z1 = 0 → d_X12_take_1 x1 x2 A z2 u2 → z1 = z2 ∧ AC b u2 (tw t u1) := fun g2 g3 g4 => by
    have g4 := (g4 : tr_d_X12_take_1 x1 x2 A z2 u2)
    obtain ⟨_, g4⟩ := (g4 : tr_d_X12_take_3 x1 x2 A z2 u2 0)
    rcases g4 with ⟨c, -⟩ | ⟨_, z37, A38, hr, hz, hu⟩
    · exact absurd rfl c
    · refine ⟨g3.trans hz.symm, ?_⟩
      rw [hu]
      exact h.2.2.cg l2 g2 (sM.fr hr.2.2.1 rfl rfl rfl rfl)
  obtain ⟨a1, ha1, h1⟩ := (qq1.1 : tr_r_X9_takeUp t x1 x2 B z1 u1)
  have k1 := K_there3 ha1
  obtain ⟨y1, hy1, h2⟩ := (qq2.1 : tr_r_X12_take x1 x2 A z2 u2)
  have m3 : (y1 = 1 ↔ 0 ≤ x1 ∧ x1 < B (t + 1) 3) ∧ (y1 = 0 ∨ y1 = 1) := M_isPerson hI h hy1
  rcases h2 with ⟨c2, h2⟩ | ⟨c2, y6, hy6, h2⟩
  · rcases h1 with ⟨c, hz, hu⟩ | ⟨c, -⟩
    · exact no4 (by rw [hu]; exact sT.rf) hz h2
    · omega
  rcases h1 with ⟨c, -⟩ | ⟨_, a5, ha5, h1⟩
  · (first | omega | (clear h1; omega) | (clear h2; omega) | (clear h; omega) | (clear hc; omega) | (clear h1 h2; omega) | (clear h1 h; omega) | (clear h1 hc; omega) | (clear h2 h; omega) | (clear h2 hc; omega) | (clear h hc; omega) | (clear h1 h2 h; omega) | (clear h1 h2 hc; omega) | (clear h1 h hc; omega) | (clear h2 h hc; omega))
  have k5 := K_there2 ha5
  have m2 : (y6 = 1 ↔ 0 ≤ x2 ∧ x2 < B (t + 1) 2) ∧ (y6 = 0 ∨ y6 = 1) := M_isKey hI h hy6
  rcases h2 with ⟨c3, _, _, w13, e13, w14, hw14, h2⟩ | ⟨c3, h2⟩
  case inr =>
    rcases h1 with ⟨c, -⟩ | ⟨_, hz, hu⟩
    · omega
    · exact no4 (by rw [hu]; exact sT.rf) hz h2
  rcases h1 with ⟨_, a9, e9, a10, e10, a11, e11, h1⟩ | ⟨c, -⟩
  case inr => (first | omega | (clear h1; omega) | (clear h2; omega) | (clear h; omega) | (clear hc; omega) | (clear h1 h2; omega) | (clear h1 h; omega) | (clear h1 hc; omega) | (clear h2 h; omega) | (clear h2 hc; omega) | (clear h hc; omega) | (clear h1 h2 h; omega) | (clear h1 h2 hc; omega) | (clear h1 h hc; omega) | (clear h2 h hc; omega))
  obtain ⟨p, rfl⟩ : ∃ p : Nat, x1 = (p : Int) := ⟨x1.toNat, by (first | omega | (clear h1; omega) | (clear h2; omega) | (clear h; omega) | (clear hc; omega) | (clear h1 h2; omega) | (clear h1 h; omega) | (clear h1 hc; omega) | (clear h2 h; omega) | (clear h2 hc; omega) | (clear h hc; omega) | (clear h1 h2 h; omega) | (clear h1 h2 hc; omega) | (clear h1 h hc; omega) | (clear h2 h hc; omega))⟩
  obtain ⟨k, rfl⟩ : ∃ k : Nat, x2 = (k : Int) := ⟨x2.toNat, by (first | omega | (clear h1; omega) | (clear h2; omega) | (clear h; omega) | (clear hc; omega) | (clear h1 h2; omega) | (clear h1 h; omega) | (clear h1 hc; omega) | (clear h2 h; omega) | (clear h2 hc; omega) | (clear h hc; omega) | (clear h1 h2 h; omega) | (clear h1 h2 hc; omega) | (clear h1 h hc; omega) | (clear h2 h hc; omega))⟩
  have hp : (p : Int) < B (t + 1) 3 := by (first | omega | (clear h1; omega) | (clear h2; omega) | (clear h; omega) | (clear hc; omega) | (clear h1 h2; omega) | (clear h1 h; omega) | (clear h1 hc; omega) | (clear h2 h; omega) | (clear h2 hc; omega) | (clear h hc; omega) | (clear h1 h2 h; omega) | (clear h1 h2 hc; omega) | (clear h1 h hc; omega) | (clear h2 h hc; omega))
  have hk : (k : Int) < B (t + 1) 2 := by (first | omega | (clear h1; omega) | (clear h2; omega) | (clear h; omega) | (clear hc; omega) | (clear h1 h2; omega) | (clear h1 h; omega) | (clear h1 hc; omega) | (clear h2 h; omega) | (clear h2 hc; omega) | (clear h hc; omega) | (clear h1 h2 h; omega) | (clear h1 h2 hc; omega) | (clear h1 h hc; omega) | (clear h2 h hc; omega))
  have n4 : (4 * (b : Int) + (k : Int)).toNat = 4 * b + k := by omega
  have x13 : A 13 (4 * b + k) = B (t + 24) k := (h.2.2.1.1 k hk).1
  rw [h.1, n4, x13] at e13
  have e14 : w14 = B (t + 23) p := M_spotOf h.1 h.2.2.2.1 hp hw14
  rw [Int.toNat_natCast] at e9 e10
  have e9 : a9 = B (t + 24) k := e9
  have e10 : a10 = B (t + 23) p := e10
  have bs : 0 ≤ B (t + 23) p ∧ B (t + 23) p < B (t + 1) 0 := hv.2.2.1 p hp
  have bw : WV (tw t B) (B (t + 24) k) := (hv.2.2.2.1 k hk).2.2.2
  have bw : 0 ≤ B (t + 24) k ∧ B (t + 24) k ≤ 40 := by
    rcases bw with ⟨g1, g2⟩ | (⟨g1, g2⟩ | ⟨g1, g2, _⟩) | g
    · have g2 : B (t + 24) k < B (t + 1) 3 := g2
      omega
    · have g2 : B (t + 24) k < 10 + B (t + 1) 0 := g2
      omega
    · have g2 : B (t + 24) k < 20 + B (t + 1) 1 := g2
      omega
    · omega
  rw [oWrap_id ⟨by omega, by omega⟩] at e11
  have yes : d_X9_takeUp_1 t (p : Int) (k : Int) B z1 u1 → d_X12_take_2 (p : Int) (k : Int) A z2 u2 → z1 = z2 ∧ AC b u2 (tw t u1) := by
    intro g1 g2
    obtain ⟨A20, e20, hz, hu⟩ := (g1 : tr_d_X9_takeUp_1 t (p : Int) (k : Int) B z1 u1)
    have g2 := (g2 : tr_d_X12_take_2 (p : Int) (k : Int) A z2 u2)
    obtain ⟨_, g2⟩ := (g2 : tr_d_X12_take_3 (p : Int) (k : Int) A z2 u2 1)
    rcases g2 with ⟨_, _, _, hz2, hu2⟩ | ⟨c, -⟩
    · rw [Int.toNat_natCast] at e20
      have e20 : A20 = stA B (t + 24) k (p : Int) := e20
      rw [h.1, n4] at hu2
      refine ⟨hz.trans hz2.symm, ?_⟩
      rw [hu2, hu, e20, tw_st]
      exact AC_where h.2.2 (Or.inl ⟨by omega, hp⟩)
    · exact absurd c (by decide)
  rcases h1 with ⟨c4, h1⟩ | ⟨c4, a14, e14', a15, ha15, h1⟩
  · rcases h2 with ⟨_, h2⟩ | ⟨c5, -⟩
    · exact yes h1 h2
    · omega
  rw [oWrap_id ⟨by omega, by omega⟩] at e14'
  rw [e10] at ha15
  have ko := K_openBox hI h ha15
  rcases h2 with ⟨c5, -⟩ | ⟨_, h2⟩
  · omega
  have far : (w13 < 20 ∨ 40 ≤ w13) → a15 = 0 := by
    intro g
    rcases ko.2 with e | e
    · exact e
    · exfalso
      have := (ko.1.mp e).1
      have : 0 ≤ a14 ∧ a14 < B (t + 1) 1 := this
      omega
  rcases h2 with ⟨c6, h2⟩ | ⟨c6, h2⟩
  · have e := far (Or.inl c6)
    rcases h1 with ⟨c7, -⟩ | ⟨_, hz, hu⟩
    · exact absurd e c7
    · exact no1 (by rw [hu]; exact sT.rf) hz h2
  rcases h2 with ⟨c7, h2⟩ | ⟨c7, w23, hw23, h2⟩
  · have e := far (Or.inr c7)
    rcases h1 with ⟨c8, -⟩ | ⟨_, hz, hu⟩
    · exact absurd e c8
    · exact no1 (by rw [hu]; exact sT.rf) hz h2
  have mo : (w23 = 1 ↔ opB (tw t B) (w13 - 20) (B (t + 23) p)) ∧ (w23 = 0 ∨ w23 = 1) := M_openBox hI h hp hw23
  rw [show w13 - 20 = a14 by omega] at mo
  rcases h2 with ⟨c8, h2⟩ | ⟨c8, h2⟩
  · rcases h1 with ⟨c9, -⟩ | ⟨_, hz, hu⟩
    · exfalso
      have := mo.1.mpr (ko.1.mp (by omega))
      omega
    · exact no1 (by rw [hu]; exact sT.rf) hz h2
  · rcases h1 with ⟨_, h1⟩ | ⟨c9, -⟩
    · exact yes h1 h2
    · exfalso
      have := ko.1.mpr (mo.1.mp (by omega))
      omega
/-- a key is laid down -/
theorem lay_eq {t b : Nat} {B A u1 u2 : St} {x1 x2 x3 z1 z2 : Int} (hx : R32 x3) (hI : IM A) (h : ACT b A (tw t B)) (qq1 : q_X9_layDown t x1 x2 x3 B z1 u1) (qq2 : q_X12_lay x1 x2 x3 A z2 u2) : z1 = z2 ∧ AC b u2 (tw t u1) := by
  have l2 : B (t + 1) 2 ≤ 4 := (h.lim hI).2.2.1
  have l1 : B (t + 1) 1 ≤ 10 := (h.lim hI).2.1
  have l0 : B (t + 1) 0 ≤ 8 := (h.lim hI).1
  have hv := h.2.2.2.2
  have no : sT (tw t B) (tw t u1) → z1 = 0 → d_X12_lay_2 x1 x2 x3 A z2 u2 → z1 = z2 ∧ AC b u2 (tw t u1) := fun g2 g3 g4 => by
    have g4 := (g4 : tr_d_X12_lay_2 x1 x2 x3 A z2 u2)
    obtain ⟨_, g4⟩ := (g4 : tr_d_X12_lay_3 x1 x2 x3 A z2 u2 0)
    rcases g4 with ⟨c, -⟩ | ⟨_, z38, A39, hr, hz, hu⟩
    · exact absurd rfl c
    · refine ⟨g3.trans hz.symm, ?_⟩
      rw [hu]
      exact h.2.2.cg l2 g2 (sM.fr hr.2.2.1 rfl rfl rfl rfl)
  obtain ⟨a1, ha1, h1⟩ := (qq1.1 : tr_r_X9_layDown t x1 x2 x3 B z1 u1)
  have kh := K_holds ha1
  obtain ⟨y1, hy1, h2⟩ := (qq2.1 : tr_r_X12_lay x1 x2 x3 A z2 u2)
  have m3 : (y1 = 1 ↔ 0 ≤ x1 ∧ x1 < B (t + 1) 3) ∧ (y1 = 0 ∨ y1 = 1) := M_isPerson hI h hy1
  rcases h2 with ⟨c2, h2⟩ | ⟨c2, y7, hy7, h2⟩
  · rcases h1 with ⟨c, -⟩ | ⟨c, hz, hu⟩
    · omega
    · exact no (by rw [hu]; exact sT.rf) hz h2
  have m2 : (y7 = 1 ↔ 0 ≤ x2 ∧ x2 < B (t + 1) 2) ∧ (y7 = 0 ∨ y7 = 1) := M_isKey hI h hy7
  rcases h2 with ⟨c3, h2⟩ | ⟨c3, _, _, w14, e14, h2⟩
  · rcases h1 with ⟨c, -⟩ | ⟨c, hz, hu⟩
    · omega
    · exact no (by rw [hu]; exact sT.rf) hz h2
  obtain ⟨p, rfl⟩ : ∃ p : Nat, x1 = (p : Int) := ⟨x1.toNat, by omega⟩
  obtain ⟨k, rfl⟩ : ∃ k : Nat, x2 = (k : Int) := ⟨x2.toNat, by (first | omega | (clear h1; omega) | (clear h2; omega) | (clear h; omega) | (clear hc; omega) | (clear h1 h2; omega) | (clear h1 h; omega) | (clear h1 hc; omega) | (clear h2 h; omega) | (clear h2 hc; omega) | (clear h hc; omega) | (clear h1 h2 h; omega) | (clear h1 h2 hc; omega) | (clear h1 h hc; omega) | (clear h2 h hc; omega))⟩
  have hp : (p : Int) < B (t + 1) 3 := by (first | omega | (clear h1; omega) | (clear h2; omega) | (clear h; omega) | (clear hc; omega) | (clear h1 h2; omega) | (clear h1 h; omega) | (clear h1 hc; omega) | (clear h2 h; omega) | (clear h2 hc; omega) | (clear h hc; omega) | (clear h1 h2 h; omega) | (clear h1 h2 hc; omega) | (clear h1 h hc; omega) | (clear h2 h hc; omega))
  have hk : (k : Int) < B (t + 1) 2 := by (first | omega | (clear h1; omega) | (clear h2; omega) | (clear h; omega) | (clear hc; omega) | (clear h1 h2; omega) | (clear h1 h; omega) | (clear h1 hc; omega) | (clear h2 h; omega) | (clear h2 hc; omega) | (clear h hc; omega) | (clear h1 h2 h; omega) | (clear h1 h2 hc; omega) | (clear h1 h hc; omega) | (clear h2 h hc; omega))
  have n4 : (4 * (b : Int) + (k : Int)).toNat = 4 * b + k := by omega
  have x13 : A 13 (4 * b + k) = B (t + 24) k := (h.2.2.1.1 k hk).1
  rw [h.1, n4, x13] at e14
  rw [Int.toNat_natCast] at kh
  rcases h2 with ⟨c4, h2⟩ | ⟨c4, h2⟩
  · rcases h1 with ⟨c, -⟩ | ⟨c, hz, hu⟩
    · omega
    · exact no (by rw [hu]; exact sT.rf) hz h2
  rcases h1 with ⟨_, a5, e5, h1⟩ | ⟨c, -⟩
  case inr => (first | omega | (clear h1; omega) | (clear h2; omega) | (clear h; omega) | (clear hc; omega) | (clear h1 h2; omega) | (clear h1 h; omega) | (clear h1 hc; omega) | (clear h2 h; omega) | (clear h2 hc; omega) | (clear h hc; omega) | (clear h1 h2 h; omega) | (clear h1 h2 hc; omega) | (clear h1 h hc; omega) | (clear h2 h hc; omega))
  rw [Int.toNat_natCast] at e5
  have e5 : a5 = B (t + 23) p := e5
  have bs : 0 ≤ B (t + 23) p ∧ B (t + 23) p < B (t + 1) 0 := hv.2.2.1 p hp
  have yes : (x3 = -1 ∨ opB (tw t B) x3 a5) → d_X9_layDown_1 t (k : Int) x3 a5 B z1 u1 → d_X12_lay_1 (p : Int) (k : Int) x3 A z2 u2 → z1 = z2 ∧ AC b u2 (tw t u1) := by
    intro ok g1 g2
    have g1 := (g1 : tr_d_X9_layDown_1 t (k : Int) x3 a5 B z1 u1)
    have g2 := (g2 : tr_d_X12_lay_1 (p : Int) (k : Int) x3 A z2 u2)
    obtain ⟨_, g2⟩ := (g2 : tr_d_X12_lay_3 (p : Int) (k : Int) x3 A z2 u2 1)
    rcases g2 with ⟨_, _, _, g2⟩ | ⟨c, -⟩
    case inr => exact absurd c (by decide)
    rcases g1 with ⟨c5, a14, ea, A15, eA, hz, hu⟩ | ⟨c5, a16, ea, A17, eA, hz, hu⟩
    · rcases g2 with ⟨_, hz2, hu2⟩ | ⟨c6, -⟩
      case inr => exact absurd c6 c5
      have ob := ok.resolve_left c5
      have o1 : 0 ≤ x3 ∧ x3 < B (t + 1) 1 := ob.1
      rw [oWrap_id ⟨by omega, by omega⟩] at ea
      rw [Int.toNat_natCast, ea] at eA
      have eA : A15 = stA B (t + 24) k (x3 + 20) := eA
      rw [h.1, n4] at hu2
      refine ⟨hz.trans hz2.symm, ?_⟩
      rw [hu2, hu, eA, tw_st]
      refine AC_where h.2.2 (Or.inr (Or.inl (Or.inr ⟨by omega, ?_, ?_⟩)))
      · show x3 + 20 < 20 + B (t + 1) 1
        omega
      · rw [show x3 + 20 - 20 = x3 by omega]
        exact ob.2.1
    · rcases g2 with ⟨c6, -⟩ | ⟨_, w35, hw35, hz2, hu2⟩
      · exact absurd c5 c6
      have e35 : w35 = B (t + 23) p := M_spotOf h.1 h.2.2.2.1 hp hw35
      rw [oWrap_id ⟨by omega, by omega⟩, e5] at ea
      rw [Int.toNat_natCast, ea] at eA
      have eA : A17 = stA B (t + 24) k (B (t + 23) p + 10) := eA
      rw [h.1, n4, e35] at hu2
      refine ⟨hz.trans hz2.symm, ?_⟩
      rw [hu2, hu, eA, tw_st]
      refine AC_where h.2.2 (Or.inr (Or.inl (Or.inl ⟨by omega, ?_⟩)))
      show B (t + 23) p + 10 < 10 + B (t + 1) 0
      omega
  rcases h2 with ⟨c5, h2⟩ | ⟨c5, w18, hw18, h2⟩
  · rcases h1 with ⟨_, h1⟩ | ⟨c6, -⟩
    · exact yes (Or.inl c5) h1 h2
    · exact absurd c5 c6
  rcases h1 with ⟨c6, -⟩ | ⟨_, a8, ha8, h1⟩
  · exact absurd c6 c5
  have ko := K_openBox hI h ha8
  have mo : (w18 = 1 ↔ opB (tw t B) x3 (B (t + 23) p)) ∧ (w18 = 0 ∨ w18 = 1) := M_openBox hI h hp hw18
  rw [← e5] at mo
  rcases h2 with ⟨c7, h2⟩ | ⟨c7, h2⟩
  · rcases h1 with ⟨c8, -⟩ | ⟨_, hz, hu⟩
    · exfalso
      have := mo.1.mpr (ko.1.mp (by omega))
      omega
    · exact no (by rw [hu]; exact sT.rf) hz h2
  · rcases h1 with ⟨_, h1⟩ | ⟨c8, -⟩
    · exact yes (Or.inr (mo.1.mp (by omega))) h1 h2
    · exfalso
      have := ko.1.mpr (mo.1.mp (by omega))
      omega
