/-! Keys that close, change hands, lie down, break. -/
theorem K_placeInL {t k d : Nat} {z : Int} {B : St} (hk : k < 4) (h6 : B (t + 25) k ≤ 6) : ∀ (nn i : Nat), (∀ i' : Nat, i' < i → (i' : Int) < B (t + 25) k → ¬ B (t + (27 + k)) i' = (d : Int)) → d_X6_placeInRow_1 (t + 22) (k : Int) (d : Int) B z nn (i : Int) → (z = -1 ∧ ¬ inR (tw t B) k d) ∨ (¬ z = -1 ∧ inR (tw t B) k d) := by
  intro nn
  induction nn with
  | zero => intro i _ h; exact h.elim
  | succ nn ih =>
    intro i no h
    obtain ⟨_, h⟩ := (h : tr_d_X6_placeInRow_1 (t + 22) (k : Int) (d : Int) B z (fun z1 => d_X6_placeInRow_1 (t + 22) (k : Int) (d : Int) B z nn z1) (i : Int))
    have on : (∀ i' : Nat, i' < i + 1 → (i' : Int) < B (t + 25) k → ¬ B (t + (27 + k)) i' = (d : Int)) → d_X6_placeInRow_2 (fun z1 => d_X6_placeInRow_1 (t + 22) (k : Int) (d : Int) B z nn z1) (i : Int) z → (z = -1 ∧ ¬ inR (tw t B) k d) ∨ (¬ z = -1 ∧ inR (tw t B) k d) := by
      intro no2 h
      have h := (h : tr_d_X6_placeInRow_2 (fun z1 => d_X6_placeInRow_1 (t + 22) (k : Int) (d : Int) B z nn z1) (i : Int) z)
      exact ih (i + 1) no2 (by rw [show ((i + 1 : Nat) : Int) = (i : Int) + 1 by omega]; exact h)
    rcases h with ⟨c, hz⟩ | ⟨c, h⟩
    · refine Or.inl ⟨hz, fun ⟨i', h1, h2⟩ => ?_⟩
      have h1 : (i' : Int) < B (t + 25) k := h1
      exact no i' (by omega) h1 h2
    rcases h with ⟨c2, -⟩ | ⟨_, z10, h10, h⟩
    · omega
    rcases K_inRow hk h10 with ⟨g1, g2⟩ | ⟨g1, g2⟩
    · rcases h with ⟨c3, h⟩ | ⟨c3, hz⟩
      · refine on (fun i' a1 a2 => ?_) h
        by_cases e : i' = i
        · subst e
          rw [← g2]
          exact c3
        · exact no i' (by omega) a2
      · exact Or.inr ⟨by omega, i, g1, g2.symm.trans c3⟩
    · rcases h with ⟨_, h⟩ | ⟨c3, -⟩
      · exact on (fun i' a1 a2 => no i' (by omega) a2) h
      · omega
theorem K_placeIn {t k d : Nat} {z : Int} {B : St} (hk : k < 4) (h6 : B (t + 25) k ≤ 6) (h : q_X6_placeInRow (t + 22) (k : Int) (d : Int) B z) : (z = -1 ∧ ¬ inR (tw t B) k d) ∨ (¬ z = -1 ∧ inR (tw t B) k d) := by
  obtain ⟨nn, h⟩ := (h.1 : tr_r_X6_placeInRow (t + 22) (k : Int) (d : Int) B z)
  exact K_placeInL hk h6 nn 0 (fun i' a1 => absurd a1 (Nat.not_lt_zero i')) h
theorem shut_no {A u : St} {z : Int} (h : d_X12_shut_2 z u (-1) A) : z = -1 ∧ sM A u := by
  obtain ⟨_, _, h⟩ := (h : tr_d_X12_shut_2 z u (-1) A)
  rcases h with ⟨c, -⟩ | ⟨_, z23, A24, hr, hz, hu⟩
  · exact absurd rfl c
  · rw [hz, hu]
    exact ⟨hr.2.2.2, sM.fr hr.2.2.1 rfl rfl rfl rfl⟩
theorem closed_eqK {t b p k d : Nat} {B A u1 A16 : St} {z1 y15 : Int} (hI : IM A) (h : ACT b A (tw t B)) (hp : (p : Int) < B (t + 1) 3) (hk : (k : Int) < B (t + 1) 2) (hd : (d : Int) < B (t + 1) 1) (h1 : q_X9_shutWith t (p : Int) (k : Int) (d : Int) B z1 u1) (hc : q_X12_closed (p : Int) (k : Int) (d : Int) A y15 A16) : z1 = y15 ∧ AC b A16 (tw t u1) := by
  obtain ⟨l0, l1, l2, l3⟩ := h.lim hI
  have l1 : B (t + 1) 1 ≤ 10 := l1
  have l2 : B (t + 1) 2 ≤ 4 := l2
  have hv := h.2.2.2.2
  have no : ∀ A', sM A A' → sT (tw t B) (tw t u1) → z1 = -1 → y15 = -1 → A16 = A' → z1 = y15 ∧ AC b A16 (tw t u1) := fun A' g1 g2 g3 g4 g5 => ⟨g3.trans g4.symm, by rw [g5]; exact h.2.2.cg l2 g2 g1⟩
  obtain ⟨a1, ha1, h1⟩ := (h1.1 : tr_r_X9_shutWith t (p : Int) (k : Int) (d : Int) B z1 u1)
  have kh := K_holds ha1
  rw [Int.toNat_natCast] at kh
  have x := h.2.2.1.1 k hk
  have x13 : A 13 (4 * b + k) = B (t + 24) k := x.1
  have x14 : A 14 (4 * b + k) = B (t + 25) k := x.2.1
  have kv := hv.2.2.2.1 k hk
  have v25 : 0 ≤ B (t + 25) k ∧ B (t + 25) k ≤ 6 := kv.1
  have n4 : (4 * (b : Int) + (k : Int)).toNat = 4 * b + k := by omega
  obtain ⟨_, _, w4, e4, hc⟩ := (hc.1 : tr_r_X12_closed (p : Int) (k : Int) (d : Int) A y15 A16)
  rw [h.1, n4, x13] at e4
  rcases hc with ⟨c5, hz2, hu2⟩ | ⟨c5, w6, hw6, w9, hw9, hc⟩
  · rcases h1 with ⟨c, hz, hu⟩ | ⟨c, -⟩
    · exact no A sM.rf (by rw [hu]; exact sT.rf) hz hz2 hu2
    · omega
  rcases h1 with ⟨c, -⟩ | ⟨_, a5, e5, a6, ha6, h1⟩
  · (first | omega | (clear h1; omega) | (clear h2; omega) | (clear h; omega) | (clear hc; omega) | (clear h1 h2; omega) | (clear h1 h; omega) | (clear h1 hc; omega) | (clear h2 h; omega) | (clear h2 hc; omega) | (clear h hc; omega) | (clear h1 h2 h; omega) | (clear h1 h2 hc; omega) | (clear h1 h hc; omega) | (clear h2 h hc; omega))
  rw [Int.toNat_natCast] at e5
  have e5 : a5 = B (t + 23) p := e5
  have es : w6 = B (t + 23) p := M_spotOf h.1 h.2.2.2.1 hp hw6
  have k6 := K_isAt ha6
  rw [Int.toNat_natCast, e5] at k6
  have m9 : (w9 = 1 ↔ B (t + 8) d = w6 ∨ B (t + 9) d = w6) ∧ (w9 = 0 ∨ w9 = 1) := M_isAt h hd hw9
  rw [es] at m9
  rcases h1 with ⟨c6, hz, hu⟩ | ⟨c6, a10, A11, hpu, h1⟩
  · rcases hc with ⟨_, hz2, hu2⟩ | ⟨c7, -⟩
    · exact no A sM.rf (by rw [hu]; exact sT.rf) hz hz2 hu2
    · omega
  rcases hc with ⟨c7, -⟩ | ⟨_, w13, hw13, hc⟩
  · (first | omega | (clear h1; omega) | (clear h2; omega) | (clear h; omega) | (clear hc; omega) | (clear h1 h2; omega) | (clear h1 h; omega) | (clear h1 hc; omega) | (clear h2 h; omega) | (clear h2 hc; omega) | (clear h hc; omega) | (clear h1 h2 h; omega) | (clear h1 h2 hc; omega) | (clear h1 h hc; omega) | (clear h2 h hc; omega))
  obtain ⟨r1, r2⟩ := M_inRow h.1 hk h.2.2.1 hw13
  rcases (hpu.1 : tr_r_X6_push (t + 22) (k : Int) (d : Int) B a10 A11) with ⟨c8, -⟩ | ⟨_, hpu⟩
  · omega
  rcases hpu with ⟨c8, -⟩ | ⟨_, v3, hv3, hpu⟩
  · omega
  have kp := K_placeIn (by omega) v25.2 hv3
  rcases hc with ⟨c8, hz2, hu2⟩ | ⟨c8, _, _, w20, e20, hc⟩
  · rcases hpu with ⟨c9, -⟩ | ⟨_, hza, hua⟩
    · exfalso
      have := r1.mp (by omega)
      rcases kp with g | g
      · exact g.2 this
      · exact g.1 c9
    · rcases h1 with ⟨c9, -⟩ | ⟨_, hz, hu⟩
      · exact absurd hza c9
      · exact no A sM.rf (by rw [hu, hua]; exact sT.rf) hz hz2 hu2
  have nin : ¬ inR (tw t B) k d := fun g => by have := r1.mpr g; omega
  rcases hpu with ⟨c9, v7, e7, hpu⟩ | ⟨c9, -⟩
  case inr => rcases kp with g | g
              · exact absurd g.1 c9
              · exact absurd g.2 nin
  rw [Int.toNat_natCast] at e7
  have e7 : v7 = B (t + 25) k := e7
  rw [h.1, n4, x14] at e20
  rcases hpu with ⟨c10, A10, e10, A11', e11, hza, hua⟩ | ⟨c10, hza, hua⟩
  · rcases hc with ⟨_, _, _, _, _, w28, e28, A29, e29, _, _, w33, e33, A34, e34, _, _, w38, e38, hz2, hu2⟩ | ⟨c11, -⟩
    · rcases h1 with ⟨_, a15, e15, hz, hu⟩ | ⟨c11, -⟩
      · obtain ⟨n, en⟩ : ∃ n : Nat, B (t + 25) k = (n : Int) := ⟨(B (t + 25) k).toNat, by omega⟩
        rw [h.1, n4, x14, en] at e28
        rw [e28, h.1, show (40 * (b : Int) + 10 * (k : Int) + (n : Int)).toNat = 40 * b + 10 * k + n by omega] at e29
        have b29 : A29 0 12 = (b : Int) := by rw [e29]; exact h.1
        have r29 : A29 14 (4 * b + k) = (n : Int) := by
          rw [e29, ← en, ← x14]
          rfl
        rw [h.1, n4, r29] at e33
        rw [h.1, n4, e33, e29] at e34
        rw [h.1, n4, e34, stA_same, up_same] at e38
        rw [e7, en, Int.toNat_natCast, Int.toNat_natCast, show t + 22 + 5 + k = t + (27 + k) by omega] at e10
        rw [e7, en, Int.toNat_natCast] at e11
        have e11 : A11' = stA A10 (t + 25) k ((n : Int) + 1) := e11
        have f15 : a15 = (n : Int) + 1 := by
          rw [e15, hua, e11, Int.toNat_natCast]
          show stA A10 (t + 25) k ((n : Int) + 1) (t + 25) k = (n : Int) + 1
          rw [stA_same, up_same]
        refine ⟨by rw [hz, f15, hz2, e38], ?_⟩
        rw [hu2, e34, hu, hua, e11, e10, tw_st, tw_st]
        refine AC_push h.2.2 hk en (by omega) ⟨by omega, hd⟩ (fun i hi g => nin ⟨i, ?_, g⟩)
        show (i : Int) < B (t + 25) k
        omega
      · exact absurd hza (by omega)
    · omega
  · rcases hc with ⟨c11, -⟩ | ⟨_, hz2, hu2⟩
    · omega
    · rcases h1 with ⟨c12, -⟩ | ⟨_, hz, hu⟩
      · exact absurd hza c12
      · exact no A sM.rf (by rw [hu, hua]; exact sT.rf) hz hz2 hu2
theorem shut_eq {t b : Nat} {B A u1 u2 : St} {x1 x2 x3 z1 z2 : Int} (hT : isT t) (hI : IM A) (h : ACT b A (tw t B)) (qq1 : q_X9_shutWith t x1 x2 x3 B z1 u1) (qq2 : q_X12_shut x1 x2 x3 A z2 u2) : z1 = z2 ∧ AC b u2 (tw t u1) := by
  have l2 : B (t + 1) 2 ≤ 4 := (h.lim hI).2.2.1
  have q1 := qq1
  have no : sT (tw t B) (tw t u1) → z1 = -1 → d_X12_shut_2 z2 u2 (-1) A → z1 = z2 ∧ AC b u2 (tw t u1) := fun g2 g3 g4 => ⟨g3.trans (shut_no g4).1.symm, h.2.2.cg l2 g2 (shut_no g4).2⟩
  obtain ⟨a1, ha1, h1⟩ := (qq1.1 : tr_r_X9_shutWith t x1 x2 x3 B z1 u1)
  have kh := K_holds ha1
  obtain ⟨y1, hy1, h2⟩ := (qq2.1 : tr_r_X12_shut x1 x2 x3 A z2 u2)
  have m3 : (y1 = 1 ↔ 0 ≤ x1 ∧ x1 < B (t + 1) 3) ∧ (y1 = 0 ∨ y1 = 1) := M_isPerson hI h hy1
  rcases h2 with ⟨c2, h2⟩ | ⟨c2, y7, hy7, h2⟩
  · rcases h1 with ⟨c, hz, hu⟩ | ⟨c, -⟩
    · exact no (by rw [hu]; exact sT.rf) hz h2
    · omega
  have m2 : (y7 = 1 ↔ 0 ≤ x2 ∧ x2 < B (t + 1) 2) ∧ (y7 = 0 ∨ y7 = 1) := M_isKey hI h hy7
  rcases h2 with ⟨c3, h2⟩ | ⟨c3, y11, hy11, h2⟩
  · rcases h1 with ⟨c, hz, hu⟩ | ⟨c, -⟩
    · exact no (by rw [hu]; exact sT.rf) hz h2
    · omega
  have m1 : (y11 = 1 ↔ 0 ≤ x3 ∧ x3 < B (t + 1) 1) ∧ (y11 = 0 ∨ y11 = 1) := M_isDoor hI h hy11
  rcases h2 with ⟨c4, h2⟩ | ⟨c4, y15, A16, hc, h2⟩
  · rcases h1 with ⟨c, hz, hu⟩ | ⟨c, a5, e5, a6, ha6, h1⟩
    · exact no (by rw [hu]; exact sT.rf) hz h2
    · have k6 := K_isAt ha6
      rcases h1 with ⟨_, hz, hu⟩ | ⟨c5, -⟩
      · exact no (by rw [hu]; exact sT.rf) hz h2
      · omega
  obtain ⟨p, rfl⟩ : ∃ p : Nat, x1 = (p : Int) := ⟨x1.toNat, by omega⟩
  obtain ⟨k, rfl⟩ : ∃ k : Nat, x2 = (k : Int) := ⟨x2.toNat, by (first | omega | (clear h1; omega) | (clear h2; omega) | (clear h; omega) | (clear hc; omega) | (clear h1 h2; omega) | (clear h1 h; omega) | (clear h1 hc; omega) | (clear h2 h; omega) | (clear h2 hc; omega) | (clear h hc; omega) | (clear h1 h2 h; omega) | (clear h1 h2 hc; omega) | (clear h1 h hc; omega) | (clear h2 h hc; omega))⟩
  obtain ⟨d, rfl⟩ : ∃ d : Nat, x3 = (d : Int) := ⟨x3.toNat, by (first | omega | (clear h1; omega) | (clear h2; omega) | (clear h; omega) | (clear hc; omega) | (clear h1 h2; omega) | (clear h1 h; omega) | (clear h1 hc; omega) | (clear h2 h; omega) | (clear h2 hc; omega) | (clear h hc; omega) | (clear h1 h2 h; omega) | (clear h1 h2 hc; omega) | (clear h1 h hc; omega) | (clear h2 h hc; omega))⟩
  obtain ⟨e, ac⟩ := closed_eqK hI h (by omega) (by omega) (by omega) q1 hc
  have s1 : tw t u1 1 2 ≤ 4 := by
    have r1 : u1 (t + 1) 2 = B (t + 1) 2 := by
      rcases hT with e0 | e0
      · rw [e0]; exact q1.2.2.1 52 2 rfl rfl
      · rw [e0]; exact q1.2.2.1 83 2 rfl rfl
    show u1 (t + 1) 2 ≤ 4
    rw [r1]
    exact l2
  obtain ⟨_, _, h2⟩ := (h2 : tr_d_X12_shut_2 z2 u2 y15 A16)
  rcases h2 with ⟨_, hz3, hu3⟩ | ⟨c13, y23, A24, hr, hz3, hu3⟩
  · rw [hu3]
    exact ⟨e.trans hz3.symm, ac⟩
  · rw [hu3]
    exact ⟨by rw [e, c13, hz3, hr.2.2.2], ac.cg s1 sT.rf (sM.fr hr.2.2.1 rfl rfl rfl rfl)⟩
/-- a key is lent -/
theorem lend_no {x1 x2 x3 z : Int} {A u : St} (h : d_X12_lend_3 A z u) : z = 0 ∧ sM A u := by
  obtain ⟨z40, A41, hr, hz, hu⟩ := (h : tr_d_X12_lend_3 A z u)
  rw [hu]
  exact ⟨hz, sM.fr hr.2.2.1 rfl rfl rfl rfl⟩
theorem lend_eq {t b : Nat} {B A u1 u2 : St} {x1 x2 x3 z1 z2 : Int} (hI : IM A) (h : ACT b A (tw t B)) (qq1 : q_X9_lendTo t x1 x2 x3 B z1 u1) (qq2 : q_X12_lend x1 x2 x3 A z2 u2) : z1 = z2 ∧ AC b u2 (tw t u1) := by
  have l2 : B (t + 1) 2 ≤ 4 := (h.lim hI).2.2.1
  have no : sT (tw t B) (tw t u1) → z1 = 0 → d_X12_lend_3 A z2 u2 → z1 = z2 ∧ AC b u2 (tw t u1) := fun g2 g3 g4 => by
    obtain ⟨g5, g6⟩ := lend_no (x1 := x1) (x2 := x2) (x3 := x3) g4
    exact ⟨g3.trans g5.symm, h.2.2.cg l2 g2 g6⟩
  have no2 : sT (tw t B) (tw t u1) → z1 = 0 → d_X12_lend_1 x1 x2 x3 A z2 u2 → z1 = z2 ∧ AC b u2 (tw t u1) := fun g2 g3 g4 => by
    have g4 := (g4 : tr_d_X12_lend_1 x1 x2 x3 A z2 u2)
    obtain ⟨_, g4⟩ := (g4 : tr_d_X12_lend_2 x1 x2 x3 A z2 u2 0)
    rcases g4 with ⟨_, g4⟩ | ⟨c, -⟩
    · exact no g2 g3 g4
    · exact absurd rfl c
  obtain ⟨a1, ha1, h1⟩ := (qq1.1 : tr_r_X9_lendTo t x1 x2 x3 B z1 u1)
  have kh := K_holds ha1
  obtain ⟨y1, hy1, h2⟩ := (qq2.1 : tr_r_X12_lend x1 x2 x3 A z2 u2)
  have m3 : (y1 = 1 ↔ 0 ≤ x1 ∧ x1 < B (t + 1) 3) ∧ (y1 = 0 ∨ y1 = 1) := M_isPerson hI h hy1
  rcases h2 with ⟨c2, h2⟩ | ⟨c2, y7, hy7, h2⟩
  · rcases h1 with ⟨c, hz, hu⟩ | ⟨c, -⟩
    · exact no2 (by rw [hu]; exact sT.rf) hz h2
    · omega
  have m2 : (y7 = 1 ↔ 0 ≤ x2 ∧ x2 < B (t + 1) 2) ∧ (y7 = 0 ∨ y7 = 1) := M_isKey hI h hy7
  rcases h2 with ⟨c3, h2⟩ | ⟨c3, y11, hy11, h2⟩
  · rcases h1 with ⟨c, hz, hu⟩ | ⟨c, -⟩
    · exact no2 (by rw [hu]; exact sT.rf) hz h2
    · omega
  have m4 : (y11 = 1 ↔ 0 ≤ x3 ∧ x3 < B (t + 1) 3) ∧ (y11 = 0 ∨ y11 = 1) := M_isPerson hI h hy11
  rcases h2 with ⟨c4, h2⟩ | ⟨c4, h2⟩
  · rcases h1 with ⟨c, hz, hu⟩ | ⟨c, a5, ha5, h1⟩
    · exact no2 (by rw [hu]; exact sT.rf) hz h2
    · have k5 := K_there3 ha5
      rcases h1 with ⟨_, hz, hu⟩ | ⟨c5, -⟩
      · exact no2 (by rw [hu]; exact sT.rf) hz h2
      · omega
  rcases h2 with ⟨c5, h2⟩ | ⟨c5, h2⟩
  · rcases h1 with ⟨c, hz, hu⟩ | ⟨c, a5, ha5, h1⟩
    · exact no2 (by rw [hu]; exact sT.rf) hz h2
    · rcases h1 with ⟨_, hz, hu⟩ | ⟨_, h1⟩
      · exact no2 (by rw [hu]; exact sT.rf) hz h2
      · rcases h1 with ⟨c6, -⟩ | ⟨_, hz, hu⟩
        · exact absurd c5.symm c6
        · exact no2 (by rw [hu]; exact sT.rf) hz h2
  obtain ⟨p, rfl⟩ : ∃ p : Nat, x1 = (p : Int) := ⟨x1.toNat, by omega⟩
  obtain ⟨k, rfl⟩ : ∃ k : Nat, x2 = (k : Int) := ⟨x2.toNat, by (first | omega | (clear h1; omega) | (clear h2; omega) | (clear h; omega) | (clear hc; omega) | (clear h1 h2; omega) | (clear h1 h; omega) | (clear h1 hc; omega) | (clear h2 h; omega) | (clear h2 hc; omega) | (clear h hc; omega) | (clear h1 h2 h; omega) | (clear h1 h2 hc; omega) | (clear h1 h hc; omega) | (clear h2 h hc; omega))⟩
  obtain ⟨o, rfl⟩ : ∃ o : Nat, x3 = (o : Int) := ⟨x3.toNat, by (first | omega | (clear h1; omega) | (clear h2; omega) | (clear h; omega) | (clear hc; omega) | (clear h1 h2; omega) | (clear h1 h; omega) | (clear h1 hc; omega) | (clear h2 h; omega) | (clear h2 hc; omega) | (clear h hc; omega) | (clear h1 h2 h; omega) | (clear h1 h2 hc; omega) | (clear h1 h hc; omega) | (clear h2 h hc; omega))⟩
  have hp : (p : Int) < B (t + 1) 3 := by omega
  have ho : (o : Int) < B (t + 1) 3 := by omega
  have hk : (k : Int) < B (t + 1) 2 := by omega
  rw [Int.toNat_natCast] at kh
  have x13 : A 13 (4 * b + k) = B (t + 24) k := (h.2.2.1.1 k hk).1
  have n4 : (4 * (b : Int) + (k : Int)).toNat = 4 * b + k := by omega
  obtain ⟨_, h2⟩ := (h2 : tr_d_X12_lend_2 (p : Int) (k : Int) (o : Int) A z2 u2 1)
  rcases h2 with ⟨c6, -⟩ | ⟨_, _, _, w27, e27, h2⟩
  · exact absurd c6 (by decide)
  rw [h.1, n4, x13] at e27
  rcases h2 with ⟨c7, h2⟩ | ⟨c7, w29, hw29, w32, hw32, h2⟩
  · rcases h1 with ⟨c, hz, hu⟩ | ⟨c, -⟩
    · exact no (by rw [hu]; exact sT.rf) hz h2
    · omega
  have e29 : w29 = B (t + 23) p := M_spotOf h.1 h.2.2.2.1 hp hw29
  have e32 : w32 = B (t + 23) o := M_spotOf h.1 h.2.2.2.1 ho hw32
  rcases h1 with ⟨c, -⟩ | ⟨_, a5, ha5, h1⟩
  · omega
  have k5 := K_there3 ha5
  rcases h1 with ⟨c8, -⟩ | ⟨_, h1⟩
  · omega
  rcases h1 with ⟨_, a10, e10, a11, e11, h1⟩ | ⟨c8, -⟩
  case inr => exact absurd c8.symm c5
  rw [Int.toNat_natCast] at e10 e11
  have e10 : a10 = B (t + 23) p := e10
  have e11 : a11 = B (t + 23) o := e11
  rcases h1 with ⟨c8, A13, e13, hz, hu⟩ | ⟨c8, hz, hu⟩
  · rcases h2 with ⟨_, _, _, hz2, hu2⟩ | ⟨c9, -⟩
    · rw [Int.toNat_natCast] at e13
      have e13 : A13 = stA B (t + 24) k (o : Int) := e13
      rw [h.1, n4] at hu2
      refine ⟨hz.trans hz2.symm, ?_⟩
      rw [hu2, hu, e13, tw_st]
      exact AC_where h.2.2 (Or.inl ⟨by omega, ho⟩)
    · exact absurd (by rw [e29, e32, ← e10, ← e11]; exact c8) c9
  · rcases h2 with ⟨c9, -⟩ | ⟨_, h2⟩
    · exact absurd (by rw [e10, e11, ← e29, ← e32]; exact c9) c8
    · exact no (by rw [hu]; exact sT.rf) hz h2
/-- boxes that stand open -/
theorem K_isShut {t d : Nat} {z : Int} {B : St} (hR : RB (tw t B)) (h4 : B (t + 1) 2 ≤ 4) (h15 : 0 ≤ B t 15 ∧ B t 15 < 1024) (hd : d < 10) (h : q_X9_isShut t (d : Int) B z) : (z = 1 ↔ shT (tw t B) d) ∧ (z = 0 ∨ z = 1) := by
  obtain ⟨z1, h1, z4, e4, z5, e5, h⟩ := (h.1 : tr_r_X9_isShut t (d : Int) B z)
  obtain ⟨q1, q2⟩ := K_shutMask hR h4 h15 h1
  have bi := bit_iff (d := d) q1 hd
  rw [← e4, ← e5] at bi
  rcases h with ⟨c, hz⟩ | ⟨c, hz⟩
  · refine ⟨⟨fun e => absurd e (by omega), fun g => ?_⟩, Or.inl hz⟩
    have := (q2 d hd).mpr g
    rw [bi.mp c] at this
    exact absurd this Bool.false_ne_true
  · refine ⟨⟨fun _ => (q2 d hd).mp ?_, fun _ => hz⟩, Or.inr hz⟩
    cases hc : z1.toNat.testBit d with
    | true => rfl
    | false => exact absurd (bi.mpr hc) c
def opB (T : St) (x s : Int) : Prop := (0 ≤ x ∧ x < T 1 1) ∧ T 10 x.toNat = 0 ∧ T 8 x.toNat = s ∧ ¬ shT T x.toNat
theorem K_openBox {t b : Nat} {x s z : Int} {A B : St} (hI : IM A) (hA : ACT b A (tw t B)) (h : q_X9_isOpenBoxAt t x s B z) : (z = 1 ↔ opB (tw t B) x s) ∧ (z = 0 ∨ z = 1) := by
  obtain ⟨l0, l1, l2, l3⟩ := hA.lim hI
  have l1 : B (t + 1) 1 ≤ 10 := l1
  have l2 : B (t + 1) 2 ≤ 4 := l2
  have hv := hA.2.2.2.2
  have rb := hv.rb l1
  have h15 : 0 ≤ B t 15 ∧ B t 15 < 1024 := hA.st.2.2.1
  obtain ⟨z1, h1, h⟩ := (h.1 : tr_r_X9_isOpenBoxAt t x s B z)
  have k1 := K_isBox h1
  rcases h with ⟨c, hz⟩ | ⟨c, z5, h5, h⟩
  · refine ⟨⟨fun e => absurd e (by omega), fun ⟨g1, g2, _⟩ => ?_⟩, Or.inl hz⟩
    have g1 : 0 ≤ x ∧ x < B (t + 1) 1 := g1
    have g2 : B (t + 10) x.toNat = 0 := g2
    omega
  have b1 : 0 ≤ x ∧ x < B (t + 1) 1 ∧ B (t + 10) x.toNat = 0 := by (first | omega | (clear h1; omega) | (clear h2; omega) | (clear h; omega) | (clear hc; omega) | (clear h1 h2; omega) | (clear h1 h; omega) | (clear h1 hc; omega) | (clear h2 h; omega) | (clear h2 hc; omega) | (clear h hc; omega) | (clear h1 h2 h; omega) | (clear h1 h2 hc; omega) | (clear h1 h hc; omega) | (clear h2 h hc; omega))
  obtain ⟨d, rfl⟩ : ∃ d : Nat, x = (d : Int) := ⟨x.toNat, by omega⟩
  unfold opB
  rw [Int.toNat_natCast]
  rw [Int.toNat_natCast] at b1
  have hd : (d : Int) < B (t + 1) 1 := b1.2.1
  have dv := hv.2.1 d hd
  have dz : B (t + 8) d = B (t + 9) d := dv.2.2.2 b1.2.2
  have k5 := K_isAt h5
  rw [Int.toNat_natCast, ← dz] at k5
  rcases h with ⟨c2, hz⟩ | ⟨c2, z9, h9, h⟩
  · refine ⟨⟨fun e => absurd e (by omega), fun ⟨_, _, g3, _⟩ => ?_⟩, Or.inl hz⟩
    have g3 : B (t + 8) d = s := g3
    omega
  have k9 := K_isShut rb l2 h15 (by omega) h9
  have g8 : B (t + 8) d = s := by omega
  rcases h with ⟨c3, hz⟩ | ⟨c3, hz⟩
  · exact ⟨⟨fun e => absurd e (by omega), fun ⟨_, _, _, g4⟩ => absurd (k9.1.mp (by omega)) g4⟩, Or.inl hz⟩
  · exact ⟨⟨fun _ => ⟨⟨by omega, hd⟩, b1.2.2, g8, fun g => by have := k9.1.mpr g; omega⟩, fun _ => hz⟩, Or.inr hz⟩
theorem M_openBox {b p : Nat} {x z : Int} {A T : St} (hI : IM A) (hA : ACT b A T) (hp : (p : Int) < T 1 3) (h : q_X12_isOpenBox (p : Int) x A z) : (z = 1 ↔ opB T x (T 23 p)) ∧ (z = 0 ∨ z = 1) := by
  obtain ⟨z1, h1, h⟩ := (h.1 : tr_r_X12_isOpenBox (p : Int) x A z)
  have m1 := M_isDoor hI hA h1
  rcases h with ⟨c, hz⟩ | ⟨c, _, _, z8, e8, h⟩
  · refine ⟨⟨fun e => absurd e (by omega), fun ⟨g1, _⟩ => ?_⟩, Or.inl hz⟩
    omega
  obtain ⟨d, rfl⟩ : ∃ d : Nat, x = (d : Int) := ⟨x.toNat, by omega⟩
  have hd : (d : Int) < T 1 1 := by omega
  unfold opB
  rw [Int.toNat_natCast]
  have n10 : (10 * (b : Int) + (d : Int)).toNat = 10 * b + d := by omega
  obtain ⟨nb, dr, ls⟩ := hA.st
  have nbd := nb d hd
  rw [hA.1, n10] at e8
  rw [← e8] at nbd
  rcases h with ⟨c2, hz⟩ | ⟨c2, _, _, z13, e13, z14, h14, h⟩
  · exact ⟨⟨fun e => absurd e (by omega), fun ⟨_, g2, _⟩ => absurd g2 (nbd.mp c2)⟩, Or.inl hz⟩
  have g10 : T 10 d = 0 := by
    by_cases g : T 10 d = 0
    · exact g
    · exact absurd (nbd.mpr g) c2
  rw [hA.1, n10, (dr d hd).1] at e13
  have e14 := M_spotOf hA.1 hA.2.2.2.1 hp h14
  rcases h with ⟨c3, hz⟩ | ⟨c3, z18, h18, h⟩
  · exact ⟨⟨fun e => absurd e (by omega), fun ⟨_, _, g3, _⟩ => absurd (e13.trans (g3.trans e14.symm)) c3⟩, Or.inl hz⟩
  have g8 : T 8 d = T 23 p := e13.symm.trans (c3.trans e14)
  have m18 := M_isShut hA.1 hA.cnt.2.2.1 hA.2.2.1 hd ls h18
  rcases h with ⟨c4, hz⟩ | ⟨c4, hz⟩
  · exact ⟨⟨fun e => absurd e (by omega), fun ⟨_, _, _, g4⟩ => absurd (m18.1.mp (by omega)) g4⟩, Or.inl hz⟩
  · exact ⟨⟨fun _ => ⟨⟨by omega, hd⟩, g10, g8, fun g => by have := m18.1.mpr g; omega⟩, fun _ => hz⟩, Or.inr hz⟩
/-- a key is taken up -/
theorem take_eq {t b : Nat} {B A u1 u2 : St} {x1 x2 z1 z2 : Int} (hI : IM A) (h : ACT b A (tw t B)) (qq1 : q_X9_takeUp t x1 x2 B z1 u1) (qq2 : q_X12_take x1 x2 A z2 u2) : z1 = z2 ∧ AC b u2 (tw t u1) := by
  have l2 : B (t + 1) 2 ≤ 4 := (h.lim hI).2.2.1
  have l1 : B (t + 1) 1 ≤ 10 := (h.lim hI).2.1
  have l3 : B (t + 1) 3 ≤ 3 := (h.lim hI).2.2.2
  have l0 : B (t + 1) 0 ≤ 8 := (h.lim hI).1
  have hv := h.2.2.2.2
  have no4 : sT (tw t B) (tw t u1) → z1 = 0 → d_X12_take_4 A z2 u2 → z1 = z2 ∧ AC b u2 (tw t u1) := fun g2 g3 g4 => by
    obtain ⟨z43, A44, hr, hz, hu⟩ := (g4 : tr_d_X12_take_4 A z2 u2)
    refine ⟨g3.trans hz.symm, ?_⟩
    rw [hu]
    exact h.2.2.cg l2 g2 (sM.fr hr.2.2.1 rfl rfl rfl rfl)
  have no1 : sT (tw t B) (tw t u1) → z1 = 0 → d_X12_take_1 x1 x2 A z2 u2 → z1 = z2 ∧ AC b u2 (tw t u1) := fun g2 g3 g4 => by
    have g4 := (g4 : tr_d_X12_take_1 x1 x2 A z2 u2)
    obtain ⟨_, g4⟩ := (g4 : tr_d_X12_take_3 x1 x2 A z2 u2 0)
    rcases g4 with ⟨c, -⟩ | ⟨_, z37, A38, hr, hz, hu⟩
    · exact absurd rfl c
    · refine ⟨g3.trans hz.symm, ?_⟩
      rw [hu]
      exact h.2.2.cg l2 g2 (sM.fr hr.2.2.1 rfl rfl rfl rfl)
  obtain ⟨a1, ha1, h1⟩ := (qq1.1 : tr_r_X9_takeUp t x1 x2 B z1 u1)
  have k1 := K_there3 ha1
  obtain ⟨y1, hy1, h2⟩ := (qq2.1 : tr_r_X12_take x1 x2 A z2 u2)
  have m3 : (y1 = 1 ↔ 0 ≤ x1 ∧ x1 < B (t + 1) 3) ∧ (y1 = 0 ∨ y1 = 1) := M_isPerson hI h hy1
  rcases h2 with ⟨c2, h2⟩ | ⟨c2, y6, hy6, h2⟩
  · rcases h1 with ⟨c, hz, hu⟩ | ⟨c, -⟩
    · exact no4 (by rw [hu]; exact sT.rf) hz h2
    · omega
  rcases h1 with ⟨c, -⟩ | ⟨_, a5, ha5, h1⟩
  · (first | omega | (clear h1; omega) | (clear h2; omega) | (clear h; omega) | (clear hc; omega) | (clear h1 h2; omega) | (clear h1 h; omega) | (clear h1 hc; omega) | (clear h2 h; omega) | (clear h2 hc; omega) | (clear h hc; omega) | (clear h1 h2 h; omega) | (clear h1 h2 hc; omega) | (clear h1 h hc; omega) | (clear h2 h hc; omega))
  have k5 := K_there2 ha5
  have m2 : (y6 = 1 ↔ 0 ≤ x2 ∧ x2 < B (t + 1) 2) ∧ (y6 = 0 ∨ y6 = 1) := M_isKey hI h hy6
  rcases h2 with ⟨c3, _, _, w13, e13, w14, hw14, h2⟩ | ⟨c3, h2⟩
  case inr =>
    rcases h1 with ⟨c, -⟩ | ⟨_, hz, hu⟩
    · omega
    · exact no4 (by rw [hu]; exact sT.rf) hz h2
  rcases h1 with ⟨_, a9, e9, a10, e10, a11, e11, h1⟩ | ⟨c, -⟩
  case inr => (first | omega | (clear h1; omega) | (clear h2; omega) | (clear h; omega) | (clear hc; omega) | (clear h1 h2; omega) | (clear h1 h; omega) | (clear h1 hc; omega) | (clear h2 h; omega) | (clear h2 hc; omega) | (clear h hc; omega) | (clear h1 h2 h; omega) | (clear h1 h2 hc; omega) | (clear h1 h hc; omega) | (clear h2 h hc; omega))
  obtain ⟨p, rfl⟩ : ∃ p : Nat, x1 = (p : Int) := ⟨x1.toNat, by (first | omega | (clear h1; omega) | (clear h2; omega) | (clear h; omega) | (clear hc; omega) | (clear h1 h2; omega) | (clear h1 h; omega) | (clear h1 hc; omega) | (clear h2 h; omega) | (clear h2 hc; omega) | (clear h hc; omega) | (clear h1 h2 h; omega) | (clear h1 h2 hc; omega) | (clear h1 h hc; omega) | (clear h2 h hc; omega))⟩
  obtain ⟨k, rfl⟩ : ∃ k : Nat, x2 = (k : Int) := ⟨x2.toNat, by (first | omega | (clear h1; omega) | (clear h2; omega) | (clear h; omega) | (clear hc; omega) | (clear h1 h2; omega) | (clear h1 h; omega) | (clear h1 hc; omega) | (clear h2 h; omega) | (clear h2 hc; omega) | (clear h hc; omega) | (clear h1 h2 h; omega) | (clear h1 h2 hc; omega) | (clear h1 h hc; omega) | (clear h2 h hc; omega))⟩
  have hp : (p : Int) < B (t + 1) 3 := by (first | omega | (clear h1; omega) | (clear h2; omega) | (clear h; omega) | (clear hc; omega) | (clear h1 h2; omega) | (clear h1 h; omega) | (clear h1 hc; omega) | (clear h2 h; omega) | (clear h2 hc; omega) | (clear h hc; omega) | (clear h1 h2 h; omega) | (clear h1 h2 hc; omega) | (clear h1 h hc; omega) | (clear h2 h hc; omega))
  have hk : (k : Int) < B (t + 1) 2 := by (first | omega | (clear h1; omega) | (clear h2; omega) | (clear h; omega) | (clear hc; omega) | (clear h1 h2; omega) | (clear h1 h; omega) | (clear h1 hc; omega) | (clear h2 h; omega) | (clear h2 hc; omega) | (clear h hc; omega) | (clear h1 h2 h; omega) | (clear h1 h2 hc; omega) | (clear h1 h hc; omega) | (clear h2 h hc; omega))
  have n4 : (4 * (b : Int) + (k : Int)).toNat = 4 * b + k := by omega
  have x13 : A 13 (4 * b + k) = B (t + 24) k := (h.2.2.1.1 k hk).1
  rw [h.1, n4, x13] at e13
  have e14 : w14 = B (t + 23) p := M_spotOf h.1 h.2.2.2.1 hp hw14
  rw [Int.toNat_natCast] at e9 e10
  have e9 : a9 = B (t + 24) k := e9
  have e10 : a10 = B (t + 23) p := e10
  have bs : 0 ≤ B (t + 23) p ∧ B (t + 23) p < B (t + 1) 0 := hv.2.2.1 p hp
  have bw : WV (tw t B) (B (t + 24) k) := (hv.2.2.2.1 k hk).2.2.2
  have bw : 0 ≤ B (t + 24) k ∧ B (t + 24) k ≤ 40 := by
    rcases bw with ⟨g1, g2⟩ | (⟨g1, g2⟩ | ⟨g1, g2, _⟩) | g
    · have g2 : B (t + 24) k < B (t + 1) 3 := g2
      omega
    · have g2 : B (t + 24) k < 10 + B (t + 1) 0 := g2
      omega
    · have g2 : B (t + 24) k < 20 + B (t + 1) 1 := g2
      omega
    · omega
  rw [oWrap_id ⟨by omega, by omega⟩] at e11
  have yes : d_X9_takeUp_1 t (p : Int) (k : Int) B z1 u1 → d_X12_take_2 (p : Int) (k : Int) A z2 u2 → z1 = z2 ∧ AC b u2 (tw t u1) := by
    intro g1 g2
    obtain ⟨A20, e20, hz, hu⟩ := (g1 : tr_d_X9_takeUp_1 t (p : Int) (k : Int) B z1 u1)
    have g2 := (g2 : tr_d_X12_take_2 (p : Int) (k : Int) A z2 u2)
    obtain ⟨_, g2⟩ := (g2 : tr_d_X12_take_3 (p : Int) (k : Int) A z2 u2 1)
    rcases g2 with ⟨_, _, _, hz2, hu2⟩ | ⟨c, -⟩
    · rw [Int.toNat_natCast] at e20
      have e20 : A20 = stA B (t + 24) k (p : Int) := e20
      rw [h.1, n4] at hu2
      refine ⟨hz.trans hz2.symm, ?_⟩
      rw [hu2, hu, e20, tw_st]
      exact AC_where h.2.2 (Or.inl ⟨by omega, hp⟩)
    · exact absurd c (by decide)
  rcases h1 with ⟨c4, h1⟩ | ⟨c4, a14, e14', a15, ha15, h1⟩
  · rcases h2 with ⟨_, h2⟩ | ⟨c5, -⟩
    · exact yes h1 h2
    · omega
  rw [oWrap_id ⟨by omega, by omega⟩] at e14'
  rw [e10] at ha15
  have ko := K_openBox hI h ha15
  rcases h2 with ⟨c5, -⟩ | ⟨_, h2⟩
  · omega
  have far : (w13 < 20 ∨ 40 ≤ w13) → a15 = 0 := by
    intro g
    rcases ko.2 with e | e
    · exact e
    · exfalso
      have := (ko.1.mp e).1
      have : 0 ≤ a14 ∧ a14 < B (t + 1) 1 := this
      omega
  rcases h2 with ⟨c6, h2⟩ | ⟨c6, h2⟩
  · have e := far (Or.inl c6)
    rcases h1 with ⟨c7, -⟩ | ⟨_, hz, hu⟩
    · exact absurd e c7
    · exact no1 (by rw [hu]; exact sT.rf) hz h2
  rcases h2 with ⟨c7, h2⟩ | ⟨c7, w23, hw23, h2⟩
  · have e := far (Or.inr c7)
    rcases h1 with ⟨c8, -⟩ | ⟨_, hz, hu⟩
    · exact absurd e c8
    · exact no1 (by rw [hu]; exact sT.rf) hz h2
  have mo : (w23 = 1 ↔ opB (tw t B) (w13 - 20) (B (t + 23) p)) ∧ (w23 = 0 ∨ w23 = 1) := M_openBox hI h hp hw23
  rw [show w13 - 20 = a14 by omega] at mo
  rcases h2 with ⟨c8, h2⟩ | ⟨c8, h2⟩
  · rcases h1 with ⟨c9, -⟩ | ⟨_, hz, hu⟩
    · exfalso
      have := mo.1.mpr (ko.1.mp (by omega))
      omega
    · exact no1 (by rw [hu]; exact sT.rf) hz h2
  · rcases h1 with ⟨_, h1⟩ | ⟨c9, -⟩
    · exact yes h1 h2
    · exfalso
      have := ko.1.mpr (mo.1.mp (by omega))
      omega
/-- a key is laid down -/
theorem lay_eq {t b : Nat} {B A u1 u2 : St} {x1 x2 x3 z1 z2 : Int} (hx : R32 x3) (hI : IM A) (h : ACT b A (tw t B)) (qq1 : q_X9_layDown t x1 x2 x3 B z1 u1) (qq2 : q_X12_lay x1 x2 x3 A z2 u2) : z1 = z2 ∧ AC b u2 (tw t u1) := by
  have l2 : B (t + 1) 2 ≤ 4 := (h.lim hI).2.2.1
  have l1 : B (t + 1) 1 ≤ 10 := (h.lim hI).2.1
  have l0 : B (t + 1) 0 ≤ 8 := (h.lim hI).1
  have hv := h.2.2.2.2
  have no : sT (tw t B) (tw t u1) → z1 = 0 → d_X12_lay_2 x1 x2 x3 A z2 u2 → z1 = z2 ∧ AC b u2 (tw t u1) := fun g2 g3 g4 => by
    have g4 := (g4 : tr_d_X12_lay_2 x1 x2 x3 A z2 u2)
    obtain ⟨_, g4⟩ := (g4 : tr_d_X12_lay_3 x1 x2 x3 A z2 u2 0)
    rcases g4 with ⟨c, -⟩ | ⟨_, z38, A39, hr, hz, hu⟩
    · exact absurd rfl c
    · refine ⟨g3.trans hz.symm, ?_⟩
      rw [hu]
      exact h.2.2.cg l2 g2 (sM.fr hr.2.2.1 rfl rfl rfl rfl)
  obtain ⟨a1, ha1, h1⟩ := (qq1.1 : tr_r_X9_layDown t x1 x2 x3 B z1 u1)
  have kh := K_holds ha1
  obtain ⟨y1, hy1, h2⟩ := (qq2.1 : tr_r_X12_lay x1 x2 x3 A z2 u2)
  have m3 : (y1 = 1 ↔ 0 ≤ x1 ∧ x1 < B (t + 1) 3) ∧ (y1 = 0 ∨ y1 = 1) := M_isPerson hI h hy1
  rcases h2 with ⟨c2, h2⟩ | ⟨c2, y7, hy7, h2⟩
  · rcases h1 with ⟨c, -⟩ | ⟨c, hz, hu⟩
    · omega
    · exact no (by rw [hu]; exact sT.rf) hz h2
  have m2 : (y7 = 1 ↔ 0 ≤ x2 ∧ x2 < B (t + 1) 2) ∧ (y7 = 0 ∨ y7 = 1) := M_isKey hI h hy7
  rcases h2 with ⟨c3, h2⟩ | ⟨c3, _, _, w14, e14, h2⟩
  · rcases h1 with ⟨c, -⟩ | ⟨c, hz, hu⟩
    · omega
    · exact no (by rw [hu]; exact sT.rf) hz h2
  obtain ⟨p, rfl⟩ : ∃ p : Nat, x1 = (p : Int) := ⟨x1.toNat, by omega⟩
  obtain ⟨k, rfl⟩ : ∃ k : Nat, x2 = (k : Int) := ⟨x2.toNat, by (first | omega | (clear h1; omega) | (clear h2; omega) | (clear h; omega) | (clear hc; omega) | (clear h1 h2; omega) | (clear h1 h; omega) | (clear h1 hc; omega) | (clear h2 h; omega) | (clear h2 hc; omega) | (clear h hc; omega) | (clear h1 h2 h; omega) | (clear h1 h2 hc; omega) | (clear h1 h hc; omega) | (clear h2 h hc; omega))⟩
  have hp : (p : Int) < B (t + 1) 3 := by (first | omega | (clear h1; omega) | (clear h2; omega) | (clear h; omega) | (clear hc; omega) | (clear h1 h2; omega) | (clear h1 h; omega) | (clear h1 hc; omega) | (clear h2 h; omega) | (clear h2 hc; omega) | (clear h hc; omega) | (clear h1 h2 h; omega) | (clear h1 h2 hc; omega) | (clear h1 h hc; omega) | (clear h2 h hc; omega))
  have hk : (k : Int) < B (t + 1) 2 := by (first | omega | (clear h1; omega) | (clear h2; omega) | (clear h; omega) | (clear hc; omega) | (clear h1 h2; omega) | (clear h1 h; omega) | (clear h1 hc; omega) | (clear h2 h; omega) | (clear h2 hc; omega) | (clear h hc; omega) | (clear h1 h2 h; omega) | (clear h1 h2 hc; omega) | (clear h1 h hc; omega) | (clear h2 h hc; omega))
  have n4 : (4 * (b : Int) + (k : Int)).toNat = 4 * b + k := by omega
  have x13 : A 13 (4 * b + k) = B (t + 24) k := (h.2.2.1.1 k hk).1
  rw [h.1, n4, x13] at e14
  rw [Int.toNat_natCast] at kh
  rcases h2 with ⟨c4, h2⟩ | ⟨c4, h2⟩
  · rcases h1 with ⟨c, -⟩ | ⟨c, hz, hu⟩
    · omega
    · exact no (by rw [hu]; exact sT.rf) hz h2
  rcases h1 with ⟨_, a5, e5, h1⟩ | ⟨c, -⟩
  case inr => (first | omega | (clear h1; omega) | (clear h2; omega) | (clear h; omega) | (clear hc; omega) | (clear h1 h2; omega) | (clear h1 h; omega) | (clear h1 hc; omega) | (clear h2 h; omega) | (clear h2 hc; omega) | (clear h hc; omega) | (clear h1 h2 h; omega) | (clear h1 h2 hc; omega) | (clear h1 h hc; omega) | (clear h2 h hc; omega))
  rw [Int.toNat_natCast] at e5
  have e5 : a5 = B (t + 23) p := e5
  have bs : 0 ≤ B (t + 23) p ∧ B (t + 23) p < B (t + 1) 0 := hv.2.2.1 p hp
  have yes : (x3 = -1 ∨ opB (tw t B) x3 a5) → d_X9_layDown_1 t (k : Int) x3 a5 B z1 u1 → d_X12_lay_1 (p : Int) (k : Int) x3 A z2 u2 → z1 = z2 ∧ AC b u2 (tw t u1) := by
    intro ok g1 g2
    have g1 := (g1 : tr_d_X9_layDown_1 t (k : Int) x3 a5 B z1 u1)
    have g2 := (g2 : tr_d_X12_lay_1 (p : Int) (k : Int) x3 A z2 u2)
    obtain ⟨_, g2⟩ := (g2 : tr_d_X12_lay_3 (p : Int) (k : Int) x3 A z2 u2 1)
    rcases g2 with ⟨_, _, _, g2⟩ | ⟨c, -⟩
    case inr => exact absurd c (by decide)
    rcases g1 with ⟨c5, a14, ea, A15, eA, hz, hu⟩ | ⟨c5, a16, ea, A17, eA, hz, hu⟩
    · rcases g2 with ⟨_, hz2, hu2⟩ | ⟨c6, -⟩
      case inr => exact absurd c6 c5
      have ob := ok.resolve_left c5
      have o1 : 0 ≤ x3 ∧ x3 < B (t + 1) 1 := ob.1
      rw [oWrap_id ⟨by omega, by omega⟩] at ea
      rw [Int.toNat_natCast, ea] at eA
      have eA : A15 = stA B (t + 24) k (x3 + 20) := eA
      rw [h.1, n4] at hu2
      refine ⟨hz.trans hz2.symm, ?_⟩
      rw [hu2, hu, eA, tw_st]
      refine AC_where h.2.2 (Or.inr (Or.inl (Or.inr ⟨by omega, ?_, ?_⟩)))
      · show x3 + 20 < 20 + B (t + 1) 1
        omega
      · rw [show x3 + 20 - 20 = x3 by omega]
        exact ob.2.1
    · rcases g2 with ⟨c6, -⟩ | ⟨_, w35, hw35, hz2, hu2⟩
      · exact absurd c5 c6
      have e35 : w35 = B (t + 23) p := M_spotOf h.1 h.2.2.2.1 hp hw35
      rw [oWrap_id ⟨by omega, by omega⟩, e5] at ea
      rw [Int.toNat_natCast, ea] at eA
      have eA : A17 = stA B (t + 24) k (B (t + 23) p + 10) := eA
      rw [h.1, n4, e35] at hu2
      refine ⟨hz.trans hz2.symm, ?_⟩
      rw [hu2, hu, eA, tw_st]
      refine AC_where h.2.2 (Or.inr (Or.inl (Or.inl ⟨by omega, ?_⟩)))
      show B (t + 23) p + 10 < 10 + B (t + 1) 0
      omega
  rcases h2 with ⟨c5, h2⟩ | ⟨c5, w18, hw18, h2⟩
  · rcases h1 with ⟨_, h1⟩ | ⟨c6, -⟩
    · exact yes (Or.inl c5) h1 h2
    · exact absurd c5 c6
  rcases h1 with ⟨c6, -⟩ | ⟨_, a8, ha8, h1⟩
  · exact absurd c6 c5
  have ko := K_openBox hI h ha8
  have mo : (w18 = 1 ↔ opB (tw t B) x3 (B (t + 23) p)) ∧ (w18 = 0 ∨ w18 = 1) := M_openBox hI h hp hw18
  rw [← e5] at mo
  rcases h2 with ⟨c7, h2⟩ | ⟨c7, h2⟩
  · rcases h1 with ⟨c8, -⟩ | ⟨_, hz, hu⟩
    · exfalso
      have := mo.1.mpr (ko.1.mp (by omega))
      omega
    · exact no (by rw [hu]; exact sT.rf) hz h2
  · rcases h1 with ⟨_, h1⟩ | ⟨c8, -⟩
    · exact yes (Or.inr (mo.1.mp (by omega))) h1 h2
    · exfalso
      have := ko.1.mpr (mo.1.mp (by omega))
      omega
/-! What both sides keep between calls about persons, keys and bars. -/
def ACS (B A : St) : Prop := AC (A 0 12).toNat A (tw (51 + 31 * (B 0 9).toNat) B) ∧ MBc (A 0 12).toNat A (tw (51 + 31 * (B 0 9).toNat) B)
theorem tB {B : St} (hIK : IK B) : isT (51 + 31 * (B 0 9).toNat) := by
  have r9 : (0 : Int) ≤ B 0 9 ∧ B 0 9 ≤ 1 := hIK 0 9
  exact isT.b r9
theorem ACS.act {B A : St} (hIM : IM A) (hp : PSs B A) (ha : ACS B A) : ACT (A 0 12).toNat A (tw (51 + 31 * (B 0 9).toNat) B) := by
  have r12 : (0 : Int) ≤ A 0 12 ∧ A 0 12 ≤ 1 := hIM 0 12
  exact ⟨by omega, hp.2, ha.1⟩
theorem tw_rows {t : Nat} (hT : isT t) {P : List Nat} {F : List (Nat × Nat)} {B u : St} (h : fk P F B u) (L : List Nat) (hP : L.all (fun j => !P.contains (51 + j) && !P.contains (82 + j)) = true) (hF : F.all (fun x => decide (x.1 < 51)) = true) : ∀ j, L.contains j = true → tw t u j = tw t B j := by
  intro j hj
  have p : (!P.contains (51 + j) && !P.contains (82 + j)) = true := List.all_eq_true.mp hP j (List.contains_iff_mem.mp hj)
  simp only [Bool.and_eq_true, Bool.not_eq_true'] at p
  funext k
  refine h (t + j) k ?_ ?_
  · rcases hT with rfl | rfl
    · exact p.1
    · exact p.2
  · cases hc : fin2 F (t + j) k with
    | false => rfl
    | true =>
      have h1 := List.all_eq_true.mp hF _ (fin2_iff.mp hc)
      have h2 : t + j < 51 := of_decide_eq_true h1
      rcases hT with rfl | rfl <;> omega
def barT : List Nat := [1, 17, 18, 19, 20]
theorem MBc.fr {t b : Nat} (hT : isT t) {P : List Nat} {F : List (Nat × Nat)} {M' N' : List Nat} {B u A A2 : St} (h : MBc b A (tw t B)) (hf : fk P F B u) (hP : barT.all (fun j => !P.contains (51 + j) && !P.contains (82 + j)) = true) (hF : F.all (fun x => decide (x.1 < 51)) = true) (hg : fr M' N' A A2) (a : (M'.contains 31 || M'.contains 32 || M'.contains 33 || M'.contains 34) = false) : MBc b A2 (tw t u) := by
  have r := tw_rows hT hf barT hP hF
  simp only [Bool.or_eq_false_iff] at a
  obtain ⟨⟨⟨m1, m2⟩, m3⟩, m4⟩ := a
  intro k hk
  rw [r 1 rfl] at hk
  exact (h k hk).cg (hg.1 31 (by decide) m1) (hg.1 32 (by decide) m2) (hg.1 33 (by decide) m3) (hg.1 34 (by decide) m4) (r 17 rfl) (r 18 rfl) (by rw [r 19 rfl]) (r 20 rfl)
/-- a call that leaves all of it alone -/
theorem ACS.fr {B A B2 A2 : St} {P : List Nat} {F : List (Nat × Nat)} {M' N' : List Nat} (hIK : IK B) (hIM : IM A) (hp : PSs B A) (ha : ACS B A) (hf : fk P F B B2) (hP : ((actT ++ barT).all (fun j => !P.contains (51 + j) && !P.contains (82 + j)) && !P.contains 0) = true) (hF : F.all (fun x => decide (x.1 < 51) && !(Nat.beq x.1 0 && Nat.beq x.2 9)) = true) (hg : fr M' N' A A2) (hM : (M'.contains 13 || M'.contains 14 || M'.contains 15 || M'.contains 18 || M'.contains 31 || M'.contains 32 || M'.contains 33 || M'.contains 34) = false) (h12 : N'.contains 12 = false) : ACS B2 A2 := by
  have hT := tB hIK
  have l2 := ((ha.act hIM hp).lim hIM).2.2.1
  rw [Bool.and_eq_true, List.all_append, Bool.and_eq_true] at hP
  obtain ⟨⟨pa, pb⟩, p0⟩ := hP
  have p0 : P.contains 0 = false := by
    cases hc : P.contains 0 with
    | false => rfl
    | true => rw [hc] at p0; exact absurd p0 (by decide)
  have hF1 : F.all (fun x => decide (x.1 < 51)) = true := by
    refine List.all_eq_true.mpr (fun x hx => ?_)
    have := List.all_eq_true.mp hF x hx
    rw [Bool.and_eq_true] at this
    exact this.1
  have f9 : fin2 F 0 9 = false := by
    cases hc : fin2 F 0 9 with
    | false => rfl
    | true =>
      have := List.all_eq_true.mp hF _ (fin2_iff.mp hc)
      exact absurd this (by decide)
  have e9 : B2 0 9 = B 0 9 := hf 0 9 p0 f9
  simp only [Bool.or_eq_false_iff] at hM
  obtain ⟨⟨⟨⟨⟨⟨⟨m13, m14⟩, m15⟩, m18⟩, m31⟩, m32⟩, m33⟩, m34⟩ := hM
  unfold ACS
  rw [e9, hg.2 12 h12]
  refine ⟨ha.1.cg l2 (sT.fk hT hf pa hF1) (sM.fr hg m13 m14 m15 m18), MBc.fr hT ha.2 hf pb hF1 hg ?_⟩
  rw [m31, m32, m33, m34]
  rfl
/-- the end of a call that acts -/
theorem ACSfin {B A A4 A8 u2 : St} {P M' N' : List Nat} (hIK : IK B) (hIM : IM A) (hp : PSs B A) (ha : ACS B A) (ac : AC (A 0 12).toNat u2 (tw (51 + 31 * (B 0 9).toNat) A4)) (hf : fk P [] B A4) (hP : P.contains 0 = false) (hB : barT.all (fun j => !P.contains (51 + j) && !P.contains (82 + j)) = true) (n : fk [50] [] A4 A8) (hg : fr M' N' A u2) (hM : (M'.contains 31 || M'.contains 32 || M'.contains 33 || M'.contains 34) = false) (h12 : N'.contains 12 = false) : ACS A8 u2 := by
  have hT := tB hIK
  have f9 : A8 0 9 = B 0 9 := (n 0 9 rfl rfl).trans (hf 0 9 hP rfl)
  have l2 := ((ha.act hIM hp).lim hIM).2.2.1
  have l4 : tw (51 + 31 * (B 0 9).toNat) A4 1 2 ≤ 4 := by
    rw [tw_rows hT hf barT hB rfl 1 rfl]
    exact l2
  have mb := MBc.fr hT ha.2 hf hB rfl hg hM
  have mb2 := MBc.fr hT mb n rfl rfl (fr.rf : fr [] [] u2 u2) rfl
  unfold ACS
  rw [f9, hg.2 12 h12]
  exact ⟨ac.cg l4 (sT.fk hT n rfl rfl) sM.rf, mb2⟩
theorem act_ans {x z : Int} {A u : St} (h : q_X11_actAnswer x A z u) : z = x ∧ fk [50] [] A u := by
  refine ⟨?_, h.2.2.1⟩
  rcases (h.1 : tr_r_X11_actAnswer x A z u) with ⟨_, hz, _⟩ | ⟨c, z2, A3, hr, hz, _⟩
  · exact hz
  · rw [hz, hr.2.2.2, c]
theorem hand_ans {x z : Int} {A u : St} (h : q_X11_handingAnswer x A z u) : z = x ∧ fk [50] [] A u := by
  refine ⟨?_, h.2.2.1⟩
  rcases (h.1 : tr_r_X11_handingAnswer x A z u) with ⟨_, hz, _⟩ | ⟨_, z2, A3, _, hz, _⟩
  · exact hz
  · exact hz
theorem go_act {x1 x2 z1 z2 : Int} {B A u1 u2 : St} (hIK : IK B) (hIM : IM A) (hp : PSs B A) (ha : ACS B A) (h1 : r_X11_go x1 x2 B z1 u1) (h2 : q_X12_go x1 x2 A z2 u2) : z1 = z2 ∧ ACS u1 u2 := by
  obtain ⟨t2, ht2, z3, A4, hg, z7, A8, hn, hz, hu⟩ := (h1 : tr_r_X11_go x1 x2 B z1 u1)
  subst ht2
  obtain ⟨e, ac⟩ := go_eq (tB hIK) hIM (ha.act hIM hp) ha.2 hg h2
  obtain ⟨n1, n2⟩ := act_ans hn
  rw [hz, hu]
  exact ⟨n1.trans e, ACSfin hIK hIM hp ha ac hg.2.2.1 rfl rfl n2 h2.2.2.1 rfl rfl⟩
theorem open_act {x1 x2 z1 z2 : Int} {B A u1 u2 : St} (hIK : IK B) (hIM : IM A) (hp : PSs B A) (ha : ACS B A) (h1 : r_X11_open x1 x2 B z1 u1) (h2 : q_X12_open x1 x2 A z2 u2) : z1 = z2 ∧ ACS u1 u2 := by
  obtain ⟨t2, ht2, z3, A4, hg, z7, A8, hn, hz, hu⟩ := (h1 : tr_r_X11_open x1 x2 B z1 u1)
  subst ht2
  obtain ⟨e, ac⟩ := open_eq (tB hIK) hIM (ha.act hIM hp) hg h2
  obtain ⟨n1, n2⟩ := act_ans hn
  rw [hz, hu]
  exact ⟨n1.trans e, ACSfin hIK hIM hp ha ac hg.2.2.1 rfl rfl n2 h2.2.2.1 rfl rfl⟩
theorem shut_act {x1 x2 x3 z1 z2 : Int} {B A u1 u2 : St} (hIK : IK B) (hIM : IM A) (hp : PSs B A) (ha : ACS B A) (h1 : r_X11_shut x1 x2 x3 B z1 u1) (h2 : q_X12_shut x1 x2 x3 A z2 u2) : z1 = z2 ∧ ACS u1 u2 := by
  obtain ⟨t2, ht2, z3, A4, hg, z7, A8, hn, hz, hu⟩ := (h1 : tr_r_X11_shut x1 x2 x3 B z1 u1)
  subst ht2
  obtain ⟨e, ac⟩ := shut_eq (tB hIK) hIM (ha.act hIM hp) hg h2
  obtain ⟨n1, n2⟩ := act_ans hn
  rw [hz, hu]
  exact ⟨n1.trans e, ACSfin hIK hIM hp ha ac hg.2.2.1 rfl rfl n2 h2.2.2.1 rfl rfl⟩
theorem lend_act {x1 x2 x3 z1 z2 : Int} {B A u1 u2 : St} (hIK : IK B) (hIM : IM A) (hp : PSs B A) (ha : ACS B A) (h1 : r_X11_lend x1 x2 x3 B z1 u1) (h2 : q_X12_lend x1 x2 x3 A z2 u2) : z1 = z2 ∧ ACS u1 u2 := by
  obtain ⟨t2, ht2, z3, A4, hg, z7, A8, hn, hz, hu⟩ := (h1 : tr_r_X11_lend x1 x2 x3 B z1 u1)
  subst ht2
  obtain ⟨e, ac⟩ := lend_eq hIM (ha.act hIM hp) hg h2
  obtain ⟨n1, n2⟩ := hand_ans hn
  rw [hz, hu]
  exact ⟨n1.trans e, ACSfin hIK hIM hp ha ac hg.2.2.1 rfl rfl n2 h2.2.2.1 rfl rfl⟩
theorem take_act {x1 x2 z1 z2 : Int} {B A u1 u2 : St} (hIK : IK B) (hIM : IM A) (hp : PSs B A) (ha : ACS B A) (h1 : r_X11_take x1 x2 B z1 u1) (h2 : q_X12_take x1 x2 A z2 u2) : z1 = z2 ∧ ACS u1 u2 := by
  obtain ⟨t2, ht2, z3, A4, hg, z7, A8, hn, hz, hu⟩ := (h1 : tr_r_X11_take x1 x2 B z1 u1)
  subst ht2
  obtain ⟨e, ac⟩ := take_eq hIM (ha.act hIM hp) hg h2
  obtain ⟨n1, n2⟩ := hand_ans hn
  rw [hz, hu]
  exact ⟨n1.trans e, ACSfin hIK hIM hp ha ac hg.2.2.1 rfl rfl n2 h2.2.2.1 rfl rfl⟩
theorem lay_act {x1 x2 x3 z1 z2 : Int} {B A u1 u2 : St} (hx : R32 x3) (hIK : IK B) (hIM : IM A) (hp : PSs B A) (ha : ACS B A) (h1 : r_X11_lay x1 x2 x3 B z1 u1) (h2 : q_X12_lay x1 x2 x3 A z2 u2) : z1 = z2 ∧ ACS u1 u2 := by
  obtain ⟨t2, ht2, z3, A4, hg, z7, A8, hn, hz, hu⟩ := (h1 : tr_r_X11_lay x1 x2 x3 B z1 u1)
  subst ht2
  obtain ⟨e, ac⟩ := lay_eq hx hIM (ha.act hIM hp) hg h2
  obtain ⟨n1, n2⟩ := hand_ans hn
  rw [hz, hu]
  exact ⟨n1.trans e, ACSfin hIK hIM hp ha ac hg.2.2.1 rfl rfl n2 h2.2.2.1 rfl rfl⟩
theorem snap_act {x1 z1 z2 : Int} {B A u1 u2 : St} (hIK : IK B) (hIM : IM A) (hp : PSs B A) (ha : ACS B A) (h1 : r_X11_snap x1 B z1 u1) (h2 : q_X12_snap x1 A z2 u2) : z1 = z2 ∧ ACS u1 u2 := by
  have hA := ha.act hIM hp
  have hT := tB hIK
  have l2 := (hA.lim hIM).2.2.1
  have fr2 := h2.2.2.1
  obtain ⟨t2, ht2, z3, hi, h1⟩ := (h1 : tr_r_X11_snap x1 B z1 u1)
  subst ht2
  obtain ⟨y1, hy1, h2⟩ := (h2.1 : tr_r_X12_snap x1 A z2 u2)
  have ki := K_there2 hi
  have mi : (y1 = 1 ↔ 0 ≤ x1 ∧ x1 < B (51 + 31 * (B 0 9).toNat + 1) 2) ∧ (y1 = 0 ∨ y1 = 1) := M_isKey hIM hA hy1
  have no : ∀ {z7 : Int} {A8 : St} {y : Int} {v : St}, q_X11_refused 3 B z7 A8 → z1 = z7 → u1 = A8 → q_X12_refuses 3 A y v → z2 = y → u2 = v → z1 = z2 ∧ ACS u1 u2 := by
    intro z7 A8 y v g1 g2 g3 g4 g5 g6
    refine ⟨by rw [g2, g5, g1.2.2.2, g4.2.2.2], ?_⟩
    rw [g3, g6]
    refine ACSfin hIK hIM hp ha (A4 := B) (P := []) ?_ fk.rf rfl rfl g1.2.2.1 g4.2.2.1 rfl rfl
    exact ha.1.cg l2 sT.rf (sM.fr g4.2.2.1 rfl rfl rfl rfl)
  rcases h1 with ⟨c, z7, A8, hf, hz, hu⟩ | ⟨c, z11, e11, h1⟩
  · rcases h2 with ⟨_, z5, A6, hf2, hz2, hu2⟩ | ⟨c2, -⟩
    · exact no hf hz hu hf2 hz2 hu2
    · omega
  rcases h2 with ⟨c2, -⟩ | ⟨_, _, _, w12, e12, h2⟩
  · (first | omega | (clear h1; omega) | (clear h2; omega) | (clear h1 h2; omega))
  obtain ⟨k, rfl⟩ : ∃ k : Nat, x1 = (k : Int) := ⟨x1.toNat, by (first | omega | (clear h1; omega) | (clear h2; omega) | (clear h1 h2; omega))⟩
  have hk : (k : Int) < B (51 + 31 * (B 0 9).toNat + 1) 2 := by (first | omega | (clear h1; omega) | (clear h2; omega) | (clear h1 h2; omega))
  obtain ⟨b, hb⟩ : ∃ b : Nat, (A 0 12).toNat = b := ⟨_, rfl⟩
  rw [hb] at hA
  have n4 : (4 * (b : Int) + (k : Int)).toNat = 4 * b + k := by omega
  have x := hA.2.2.1.1 k hk
  have x13 : A 13 (4 * b + k) = B (51 + 31 * (B 0 9).toNat + 24) k := x.1
  have x14 : A 14 (4 * b + k) = B (51 + 31 * (B 0 9).toNat + 25) k := x.2.1
  rw [hA.1, n4, x13] at e12
  rw [Int.toNat_natCast] at e11
  have e11 : z11 = B (51 + 31 * (B 0 9).toNat + 24) k := e11
  rcases h1 with ⟨c3, A13, e13, z16, e16, hz, hu⟩ | ⟨c3, z17, A18, hf, hz, hu⟩
  · rcases h2 with ⟨_, _, _, A17, e17, _, _, w21, e21, hz2, hu2⟩ | ⟨c4, -⟩
    · rw [Int.toNat_natCast] at e13 e16
      have e13 : A13 = stA B (51 + 31 * (B 0 9).toNat + 24) k 40 := e13
      have e16 : z16 = A13 (51 + 31 * (B 0 9).toNat + 25) k := e16
      rw [hA.1, n4] at e17
      have r21 : w21 = B (51 + 31 * (B 0 9).toNat + 25) k := by
        rw [e21, hA.1, n4, e17, ← x14]
        rfl
      have r16 : z16 = B (51 + 31 * (B 0 9).toNat + 25) k := by
        rw [e16, e13, stA_ne _ _ (by omega)]
      refine ⟨by rw [hz, hz2, r16, r21], ?_⟩
      have ac := AC_where (q := k) hA.2.2 (v := 40) (Or.inr (Or.inr rfl))
      rw [← tw_st, ← e13, ← e17, ← hb] at ac
      rw [hu, hu2]
      have f13 : fk [75, 106] [] B A13 := by
        intro j i hj _
        rw [e13, stA_ne]
        intro ej
        subst ej
        rcases hT with e | e <;> (rw [e] at hj; exact absurd hj (by decide))
      exact ACSfin hIK hIM hp ha ac f13 rfl rfl fk.rf (by rw [← hu2]; exact fr2) rfl rfl
    · omega
  · rcases h2 with ⟨c4, -⟩ | ⟨_, z22, A23, hf2, hz2, hu2⟩
    · omega
    · exact no hf hz hu hf2 hz2 hu2
/-- another town, or none -/
theorem AC.ob {o b : Nat} {A u T : St} (h : AC o A T) (h4 : T 1 2 ≤ 4) (h3 : T 1 3 ≤ 3) (g : OB b A u) (ne : o ≠ b) : AC o u T := by
  have e : ∀ (j m k : Nat), j ≠ 0 → j ≤ 32 → bnk j = m → 0 < m → k < m → u j (m * o + k) = A j (m * o + k) := by
    intro j m k h0 h1 hm hp hk
    refine g j h0 h1 _ ?_
    rw [hm, Nat.mul_add_div hp, Nat.div_eq_of_lt hk]
    omega
  refine ⟨⟨fun k hk => ?_, h.1.2⟩, fun k hk => ?_, h.2.2⟩
  · have x := h.1.1 k hk
    have y := (h.2.2.2.2.2.1 k hk).1
    rw [e 13 4 k (by decide) (by decide) rfl (by decide) (by omega), e 14 4 k (by decide) (by decide) rfl (by decide) (by omega)]
    refine ⟨x.1, x.2.1, fun i hi => ?_⟩
    have z := e 15 40 (10 * k + i) (by decide) (by decide) rfl (by decide) (by omega)
    rw [← Nat.add_assoc] at z
    rw [z]
    exact x.2.2 i hi
  · rw [e 18 3 k (by decide) (by decide) rfl (by decide) (by omega)]
    exact h.2.1 k hk
theorem MBc.ob {o b : Nat} {A u T : St} (h : MBc o A T) (h6 : T 1 7 ≤ 6) (g : OB b A u) (gc : OC b A u) (ne : o ≠ b) : MBc o u T := by
  intro k hk
  obtain ⟨C, R, x1, x2, x3, x4, x5, x6, x7, x8, x9⟩ := h k hk
  have e : ∀ j, j ≠ 0 → j ≤ 32 → bnk j = 6 → u j (6 * o + k) = A j (6 * o + k) := by
    intro j h0 h1 hm
    refine g j h0 h1 _ ?_
    rw [hm, Nat.mul_add_div (by decide), Nat.div_eq_of_lt (by omega)]
    omega
  have e31 := e 31 (by decide) (by decide) rfl
  have e32 := e 32 (by decide) (by decide) rfl
  refine ⟨C, R, x1, x2, x3, x4, by rw [e31]; exact x5, by rw [e31, e32]; exact x6, by rw [e32]; exact x7, fun i hi => ?_, x9⟩
  have oc := gc (1600 * o + (A 31 (6 * o + k)).toNat + i) (by omega)
  rw [e31, oc.1, oc.2]
  exact x8 i hi
theorem town_ac {z1 z2 : Int} {B A u1 u2 : St} (hIK : IK B) (hIM : IM A) (he : B 1 1 = A 0 1) (hT : TB B A) (hO : OW B) (hp : PSs B A) (hac : ACS B A) (h1 : r_X11_town B z1 u1) (h2 : q_X12_town A z2 u2) : ACS u1 u2 := by
  have r01 : (0 : Int) ≤ A 0 1 ∧ A 0 1 ≤ 1600 := hIM 0 1
  have r12 : (0 : Int) ≤ A 0 12 ∧ A 0 12 ≤ 1 := hIM 0 12
  have r10 : (0 : Int) ≤ B 0 10 ∧ B 0 10 ≤ 1 := hIK 0 10
  have r9 : (0 : Int) ≤ B 0 9 ∧ B 0 9 ≤ 1 := hIK 0 9
  have s1 := hp.1
  obtain ⟨N, hN⟩ : ∃ N : Nat, A 0 1 = (N : Int) := ⟨(A 0 1).toNat, by omega⟩
  obtain ⟨b, hb⟩ : ∃ b : Nat, -(A 0 12) + 1 = (b : Int) := ⟨(-(A 0 12) + 1).toNat, by omega⟩
  obtain ⟨t2, ht2, z3, A4, hrd, A7, e7, h1⟩ := (h1 : tr_r_X11_town B z1 u1)
  have hta : isT t2 := by
    rcases (show B 0 10 = 0 ∨ B 0 10 = 1 by omega) with e | e
    · rw [e] at ht2; exact Or.inl ht2
    · rw [e] at ht2; exact Or.inr ht2
  have hE : EK (fun k => B 2 k % 256) N B := ⟨hIK, by rw [he, hN], by omega, fun k _ => rfl, hO⟩
  have cw := C_readTown hta hE hrd
  have mx := M_town (f := fun k => B 2 k % 256) (N := N) (b := b) (T := tw t2 B) hN (by omega) (fun k hk => (hT k (by omega)).symm) hb (by omega) h2
  have ob := O_town hb h2
  have oc := town_oc hb h2
  unfold CW at cw
  rcases mx with ⟨a, ha, hz, hm, h12⟩ | ⟨ha, hz⟩
  · obtain ⟨a', ha', hbc⟩ := M_townC (f := fun k => B 2 k % 256) (N := N) (b := b) (T := tw t2 B) (by rw [hz]; omega) hN (by omega) (fun k hk => (hT k (by omega)).symm) hb (by omega) h2
    have eaa : a' = a := Option.some.inj (ha'.symm.trans ha)
    rw [eaa] at hbc
    have vt := VT_town ha
    rw [ha] at cw
    obtain ⟨cz, _, ct⟩ := cw
    rcases h1 with ⟨_, t12, _, A15, e15, A16, e16, A17, e17, _, hu⟩ | ⟨c, -⟩
    · have w9 : u1 0 9 = B 0 10 := by rw [hu, e17, e16, e15]; rfl
      have et : tw t2 u1 = a.2 := by
        rw [← ct]
        funext j k
        show u1 (t2 + j) k = A4 (t2 + j) k
        have l51 : 51 ≤ t2 := by rcases hta with e | e <;> omega
        rw [hu, e17, stA_ne _ _ (by omega), e16, stA_ne _ _ (by omega), e15, stA_ne _ _ (by omega), e7, stA_ne _ _ (by omega)]
      unfold ACS
      rw [h12, Int.toNat_natCast, w9, ← ht2, et]
      obtain ⟨_, _, _, _, _, _, my, mp, _⟩ := hm
      exact ⟨⟨my, mp, vt⟩, hbc⟩
    · rw [cz] at c
      omega
  · rw [ha] at cw
    have cz : z3 = -1 := cw
    rcases h1 with ⟨c, -⟩ | ⟨_, z22, A23, hf, _, hu⟩
    · exact absurd cz c
    · have htt : TT t2 (51 + 31 * (B 0 9).toNat) := by
        unfold TT
        rcases (show B 0 10 = 0 ∨ B 0 10 = 1 by omega) with e | e
        · have e9 : B 0 9 = 1 := by omega
          rw [e] at ht2
          rw [e9]
          exact Or.inl ⟨ht2, rfl⟩
        · have e9 : B 0 9 = 0 := by omega
          rw [e] at ht2
          rw [e9]
          exact Or.inr ⟨ht2, rfl⟩
      have htb := tB hIK
      have ot := ot_r_X5_readTown htb htt OT.rf hrd.1
      have f9 : u1 0 9 = B 0 9 := by
        rw [hu, hf.2.2.1 0 9 rfl rfl, e7]
        exact hrd.2.2.1 0 9 rfl rfl
      have m12 : u2 0 12 = A 0 12 ∧ u2 0 75 = A 0 75 := M_townK (f := fun k => B 2 k % 256) hN (by omega) (fun k hk => (hT k (by omega)).symm) hb (by omega) hz h2
      have rows : ∀ j, j < 31 → tw (51 + 31 * (B 0 9).toNat) u1 j = tw (51 + 31 * (B 0 9).toNat) B j := by
        intro j j31
        funext k
        show u1 (51 + 31 * (B 0 9).toNat + j) k = B (51 + 31 * (B 0 9).toNat + j) k
        rw [hu, hf.2.2.1 _ k ?_ rfl, e7, stA_ne _ _ (by omega), ot j j31]
        cases hc : ([50] : List Nat).contains (51 + 31 * (B 0 9).toNat + j) with
        | false => rfl
        | true =>
          have := List.contains_iff_mem.mp hc
          simp at this
          omega
      have hA := hac.act hIM hp
      have l := hA.lim hIM
      have l7 : tw (51 + 31 * (B 0 9).toNat) B 1 7 ≤ 6 := by
        obtain ⟨_, ⟨_, mc, _⟩, _⟩ := hA
        have r29 : A 29 (A 0 12).toNat ≤ 6 := (hIM 29 _).2
        rw [mc.2.2] at r29
        exact r29
      have ac := hac.1.ob l.2.2.1 l.2.2.2 ob (by omega)
      have mb := hac.2.ob l7 ob oc (by omega)
      have st : sT (tw (51 + 31 * (B 0 9).toNat) B) (tw (51 + 31 * (B 0 9).toNat) u1) := by
        intro j hj
        refine rows j ?_
        have := List.contains_iff_mem.mp hj
        simp [actT] at this
        omega
      unfold ACS
      rw [m12.1, f9]
      refine ⟨ac.cg l.2.2.1 st sM.rf, fun k hk => ?_⟩
      rw [rows 1 (by decide)] at hk
      exact (mb k hk).cg rfl rfl rfl rfl (rows 17 (by decide)) (rows 18 (by decide)) (by rw [rows 19 (by decide)]) (rows 20 (by decide))
/-! A told row changes nothing in the end. -/
def eT (T T' : St) : Prop := (T' 1 = T 1 ∧ T' 8 = T 8 ∧ T' 9 = T 9 ∧ T' 10 = T 10 ∧ T' 11 = T 11) ∧ (∀ k, k < 3 → T' 23 k = T 23 k) ∧ ∀ k, k < 4 → T' 24 k = T 24 k ∧ T' 25 k = T 25 k ∧ ∀ i, i < 6 → T' (27 + k) i = T (27 + k) i
def eM (b : Nat) (A A' : St) : Prop := (∀ k, k < 3 → A' 18 (3 * b + k) = A 18 (3 * b + k)) ∧ ∀ k, k < 4 → A' 13 (4 * b + k) = A 13 (4 * b + k) ∧ A' 14 (4 * b + k) = A 14 (4 * b + k) ∧ ∀ i, i < 10 → A' 15 (40 * b + 10 * k + i) = A 15 (40 * b + 10 * k + i)
theorem AC.el {b : Nat} {A A' T T' : St} (h : AC b A T) (h4 : T 1 2 ≤ 4) (h3 : T 1 3 ≤ 3) (g : eT T T') (gA : eM b A A') : AC b A' T' := by
  obtain ⟨⟨e1, e8, e9, e10, e11⟩, e23, eK⟩ := g
  obtain ⟨m18, mK⟩ := gA
  have G : GR T T' := by
    refine ⟨?_, fun k _ => ?_⟩
    · rw [e1]
      exact ⟨Int.le_refl _, Int.le_refl _, Int.le_refl _, Int.le_refl _, Int.le_refl _⟩
    · rw [e8, e9, e10]
      exact ⟨rfl, rfl, rfl⟩
  refine ⟨⟨fun k hk => ?_, fun k hk h2 => ?_⟩, fun k hk => ?_, ?_⟩
  · rw [e1] at hk
    have x := h.1.1 k hk
    have r := (h.2.2.2.2.2.1 k hk).1
    have ek := eK k (by omega)
    have em := mK k (by omega)
    refine ⟨by rw [em.1, ek.1]; exact x.1, by rw [em.2.1, ek.2.1]; exact x.2.1, fun i hi => ?_⟩
    rw [ek.2.1] at hi
    rw [em.2.2 i (by omega), ek.2.2 i (by omega)]
    exact x.2.2 i hi
  · rw [e1] at h2
    rw [(eK k hk).2.1]
    exact h.1.2 k hk h2
  · rw [e1] at hk
    rw [m18 k (by omega), e23 k (by omega)]
    exact h.2.1 k hk
  · refine h.2.2.step G (fun k h1 h2 => by rw [e1] at h2; omega) (fun k hk => e23 k (by omega)) (fun k h1 h2 => by rw [e1] at h2; omega) (fun k hk => ?_) (fun k h1 h2 => by rw [e1] at h2; omega) (fun k hk h2 => ?_) (fun k _ => by rw [e11]) (fun k h1 h2 => by rw [e1] at h2; omega)
    · obtain ⟨x1, x2, x3, x4⟩ := h.2.2.2.2.2.1 k hk
      have ek := eK k (by omega)
      unfold KV
      rw [ek.1, ek.2.1, e1]
      refine ⟨x1, fun i hi => ?_, fun i j hij hj => ?_, x4.gr G⟩
      · rw [ek.2.2 i (by omega)]
        exact x2 i hi
      · rw [ek.2.2 i (by omega), ek.2.2 j (by omega)]
        exact x3 i j hij hj
    · rw [e1] at h2
      rw [(eK k hk).2.1]
      exact h.1.2 k hk h2
/-- copies of a standing -/
def DJ (ta tb : Nat) : Prop := ta + 9 ≤ tb ∨ tb + 9 ≤ ta
def KEY3 (ta tb k : Nat) (A u : St) : Prop := u (ta + 2) k = A (tb + 2) k ∧ u (ta + 3) k = A (tb + 3) k ∧ ∀ i, i < 6 → u (ta + 5 + k) i = A (tb + 5 + k) i
theorem K_copy3 {K2 : Int → St → Prop} {ta tb k : Nat} {u : St} (dj : DJ ta tb) (hk : k < 4) : ∀ (nn i : Nat) (C : St), i ≤ 6 → d_X6_copyFrom_3 K2 ta tb (k : Int) u nn (i : Int) C → ∃ C', K2 ((k : Int) + 1) C' ∧ (∀ j, j ≠ ta + 5 + k → C' j = C j) ∧ (∀ i', i' < i → C' (ta + 5 + k) i' = C (ta + 5 + k) i') ∧ ∀ i', i ≤ i' → i' < 6 → C' (ta + 5 + k) i' = C (tb + 5 + k) i' := by
  have ne : tb + 5 + k ≠ ta + 5 + k := by unfold DJ at dj; omega
  intro nn
  induction nn with
  | zero => intro i C _ h; exact h.elim
  | succ nn ih =>
    intro i C hi h
    obtain ⟨_, _, h⟩ := (h : tr_d_X6_copyFrom_3 K2 ta tb (k : Int) u (fun z24 A26 => d_X6_copyFrom_3 K2 ta tb (k : Int) u nn z24 A26) (i : Int) C)
    rcases h with ⟨c, h⟩ | ⟨c, z33, e33, A34, e34, h⟩
    · exact ⟨C, h, fun _ _ => rfl, fun _ _ => rfl, fun i' h1 h2 => by omega⟩
    · rw [Int.toNat_natCast, Int.toNat_natCast] at e33 e34
      obtain ⟨C', g1, g2, g3, g4⟩ := ih (i + 1) A34 (by omega) (by rw [show ((i + 1 : Nat) : Int) = (i : Int) + 1 by omega]; exact h)
      have s34 : ∀ j, j ≠ ta + 5 + k → A34 j = C j := fun j hj => by rw [e34, stA_ne _ _ hj]
      refine ⟨C', g1, fun j hj => (g2 j hj).trans (s34 j hj), fun i' h1 => ?_, fun i' h1 h2 => ?_⟩
      · rw [g3 i' (by omega), e34, stA_same, up_ne _ _ (by omega)]
      · by_cases e : i' = i
        · subst e
          rw [g3 i' (by omega), e34, stA_same, up_same, e33]
        · rw [g4 i' (by omega) h2, s34 _ ne]
theorem K_copy2 {ta tb : Nat} {u : St} (dj : DJ ta tb) : ∀ (nn k : Nat) (C : St), k ≤ 4 → d_X6_copyFrom_2 ta tb u nn (k : Int) C → (∀ j, j ≠ ta + 2 → j ≠ ta + 3 → (j < ta + 5 + k ∨ ta + 9 ≤ j) → u j = C j) ∧ (∀ k', k' < k → u (ta + 2) k' = C (ta + 2) k' ∧ u (ta + 3) k' = C (ta + 3) k') ∧ ∀ k', k ≤ k' → k' < 4 → KEY3 ta tb k' C u := by
  intro nn
  induction nn with
  | zero => intro k C _ h; exact h.elim
  | succ nn ih =>
    intro k C hk h
    obtain ⟨_, _, h⟩ := (h : tr_d_X6_copyFrom_2 ta tb u (fun z10 A12 => d_X6_copyFrom_2 ta tb u nn z10 A12) (k : Int) C)
    rcases h with ⟨c, hu⟩ | ⟨c, z19, e19, A20, e20, z22, e22, A23, e23, n3, h⟩
    · rw [hu]
      exact ⟨fun _ _ _ _ => rfl, fun _ _ => ⟨rfl, rfl⟩, fun k' h1 h2 => by omega⟩
    · rw [Int.toNat_natCast] at e19 e20 e22 e23
      have hk4 : k < 4 := by omega
      obtain ⟨C', g1, g2, g3, g4⟩ := K_copy3 dj hk4 n3 0 A23 (by decide) h
      obtain ⟨i1, i2, i3⟩ := ih (k + 1) C' (by omega) (by rw [show ((k + 1 : Nat) : Int) = (k : Int) + 1 by omega]; exact g1)
      have d2 : tb + 2 ≠ ta + 2 ∧ tb + 2 ≠ ta + 3 ∧ tb + 3 ≠ ta + 2 ∧ tb + 3 ≠ ta + 3 := by unfold DJ at dj; omega
      have d5 : ∀ k', k' < 4 → tb + 5 + k' ≠ ta + 2 ∧ tb + 5 + k' ≠ ta + 3 ∧ tb + 5 + k' ≠ ta + 5 + k ∧ tb + 2 ≠ ta + 5 + k ∧ tb + 3 ≠ ta + 5 + k := by intro k' _; unfold DJ at dj; omega
      have low : ∀ j, j ≠ ta + 2 → j ≠ ta + 3 → A23 j = C j := fun j h1 h2 => by rw [e23, stA_ne _ _ h2, e20, stA_ne _ _ h1]
      have r2 : A23 (ta + 2) = up (C (ta + 2)) k (C (tb + 2) k) := by rw [e23, stA_ne _ _ (by omega), e20, stA_same, e19]
      have r3 : A23 (ta + 3) = up (C (ta + 3)) k (C (tb + 3) k) := by
        rw [e23, stA_same, e22]
        rw [e20, stA_ne _ _ (show ta + 3 ≠ ta + 2 by omega), stA_ne _ _ d2.2.2.1]
      refine ⟨fun j h1 h2 h3 => ?_, fun k' h1 => ?_, fun k' h1 h2 => ?_⟩
      · rw [i1 j h1 h2 (by omega), g2 j (by omega), low j h1 h2]
      · have a := i2 k' (by omega)
        rw [a.1, a.2, g2 _ (by omega), g2 _ (by omega), r2, r3, up_ne _ _ (by omega), up_ne _ _ (by omega)]
        exact ⟨rfl, rfl⟩
      · by_cases e : k' = k
        · subst e
          have a := i2 k' (by omega)
          refine ⟨?_, ?_, fun i hi => ?_⟩
          · rw [a.1, g2 _ (by omega), r2, up_same]
          · rw [a.2, g2 _ (by omega), r3, up_same]
          · have x := d5 k' h2
            rw [i1 (ta + 5 + k') (by omega) (by omega) (by omega), g4 i (Nat.zero_le i) hi, low _ x.1 x.2.1]
        · have x := d5 k' h2
          obtain ⟨a1, a2, a3⟩ := i3 k' (by omega) h2
          have y2 : C' (tb + 2) = C (tb + 2) := (g2 _ x.2.2.2.1).trans (low _ d2.1 d2.2.1)
          have y3 : C' (tb + 3) = C (tb + 3) := (g2 _ x.2.2.2.2).trans (low _ d2.2.2.1 d2.2.2.2)
          have y5 : C' (tb + 5 + k') = C (tb + 5 + k') := (g2 _ x.2.2.1).trans (low _ x.1 x.2.1)
          rw [y2] at a1
          rw [y3] at a2
          exact ⟨a1, a2, fun i hi => by rw [a3 i hi, y5]⟩
def CPY (ta tb : Nat) (A u : St) : Prop := (∀ j, (j < ta + 1 ∨ ta + 9 ≤ j) → u j = A j) ∧ (∀ p, p < 3 → u (ta + 1) p = A (tb + 1) p) ∧ ∀ k, k < 4 → KEY3 ta tb k A u
theorem K_copy1 {ta tb : Nat} {u : St} (dj : DJ ta tb) : ∀ (nn p : Nat) (C : St), p ≤ 3 → d_X6_copyFrom_1 ta tb u nn (p : Int) C → (∀ j, (j < ta + 1 ∨ ta + 9 ≤ j) → u j = C j) ∧ (∀ p', p' < p → u (ta + 1) p' = C (ta + 1) p') ∧ (∀ p', p ≤ p' → p' < 3 → u (ta + 1) p' = C (tb + 1) p') ∧ ∀ k, k < 4 → KEY3 ta tb k C u := by
  intro nn
  induction nn with
  | zero => intro p C _ h; exact h.elim
  | succ nn ih =>
    intro p C hp h
    obtain ⟨_, _, h⟩ := (h : tr_d_X6_copyFrom_1 ta tb u (fun z1 A3 => d_X6_copyFrom_1 ta tb u nn z1 A3) (p : Int) C)
    rcases h with ⟨c, n2, h⟩ | ⟨c, z35, e35, A36, e36, h⟩
    · obtain ⟨a1, a2, a3⟩ := K_copy2 dj n2 0 C (by decide) h
      exact ⟨fun j hj => a1 j (by omega) (by omega) (by omega), fun p' _ => by rw [a1 (ta + 1) (by omega) (by omega) (by omega)], fun p' h1 h2 => by omega, fun k hk => a3 k (Nat.zero_le k) hk⟩
    · rw [Int.toNat_natCast] at e35 e36
      obtain ⟨a1, a2, a3, a4⟩ := ih (p + 1) A36 (by omega) (by rw [show ((p + 1 : Nat) : Int) = (p : Int) + 1 by omega]; exact h)
      have low : ∀ j, j ≠ ta + 1 → A36 j = C j := fun j hj => by rw [e36, stA_ne _ _ hj]
      have d : tb + 1 ≠ ta + 1 ∧ tb + 2 ≠ ta + 1 ∧ tb + 3 ≠ ta + 1 ∧ ∀ k, k < 4 → tb + 5 + k ≠ ta + 1 := by
        unfold DJ at dj
        exact ⟨by omega, by omega, by omega, fun k _ => by omega⟩
      refine ⟨fun j hj => (a1 j hj).trans (low j (by omega)), fun p' h1 => ?_, fun p' h1 h2 => ?_, fun k hk => ?_⟩
      · rw [a2 p' (by omega), e36, stA_same, up_ne _ _ (by omega)]
      · by_cases e : p' = p
        · subst e
          rw [a2 p' (by omega), e36, stA_same, up_same, e35]
        · rw [a3 p' (by omega) h2, low _ d.1]
      · obtain ⟨b1, b2, b3⟩ := a4 k hk
        rw [low _ d.2.1] at b1
        rw [low _ d.2.2.1] at b2
        exact ⟨b1, b2, fun i hi => by rw [b3 i hi, low _ (d.2.2.2 k hk)]⟩
theorem K_copy {ta tb : Nat} {A u : St} (dj : DJ ta tb) (h : q_X6_copyFrom ta tb A u) : CPY ta tb A u := by
  obtain ⟨nn, h⟩ := (h.1 : tr_r_X6_copyFrom ta tb A u)
  obtain ⟨a1, _, a3, a4⟩ := K_copy1 dj nn 0 A (by decide) h
  exact ⟨a1, fun p hp => a3 p (Nat.zero_le p) hp, a4⟩
/-- acts leave what lies below the towns alone -/
def LW51 (A u : St) : Prop := ∀ j, j < 51 → u j = A j
theorem LW51.rf {A : St} : LW51 A A := fun _ _ => rfl
theorem LW51.trans {A B C : St} (h : LW51 A B) (g : LW51 B C) : LW51 A C := fun j hj => (g j hj).trans (h j hj)
theorem LW51.st {A B : St} {j i : Nat} {v : Int} (h : LW51 A B) (hj : 51 ≤ j) : LW51 A (stA B j i v) := fun j' h' => (stA_ne _ _ (by omega)).trans (h j' h')
theorem low_bar {A u : St} (h : fk [72, 103] [] A u) : LW51 A u := by
  intro j hj
  funext k
  refine h j k ?_ rfl
  cases hc : ([72, 103] : List Nat).contains j with
  | false => rfl
  | true =>
    have := List.contains_iff_mem.mp hc
    simp at this
    omega
theorem low_go {t : Nat} {x1 x2 z : Int} {A u : St} (hT : isT t) (h : q_X9_goThrough t x1 x2 A z u) : LW51 A u := by
  have t51 : 51 ≤ t := by rcases hT with e | e <;> omega
  obtain ⟨_, _, h⟩ := (h.1 : tr_r_X9_goThrough t x1 x2 A z u)
  rcases h with ⟨_, _, hu⟩ | ⟨_, _, _, h⟩
  · rw [hu]; exact LW51.rf
  rcases h with ⟨_, _, hu⟩ | ⟨_, _, _, h⟩
  · rw [hu]; exact LW51.rf
  rcases h with ⟨_, _, _, _, _, _, _, h⟩ | ⟨_, _, hu⟩
  case inr => rw [hu]; exact LW51.rf
  rcases h with ⟨_, _, hu⟩ | ⟨_, _, _, _, _, h⟩
  · rw [hu]; exact LW51.rf
  rcases h with ⟨_, _, _, _, _, _, _, _, A34, hb, h⟩ | ⟨_, _, hu⟩
  case inr => rw [hu]; exact LW51.rf
  have g := low_bar hb.2.2.1
  rcases h with ⟨_, _, _, A41, e41, _, hu⟩ | ⟨_, _, hu⟩
  · rw [hu, e41]; exact g.st (by omega)
  · rw [hu]; exact g
theorem low_open {t : Nat} {x1 x2 z : Int} {A u : St} (hT : isT t) (h : q_X9_openWith t x1 x2 A z u) : LW51 A u := by
  have t51 : 51 ≤ t := by rcases hT with e | e <;> omega
  obtain ⟨_, _, h⟩ := (h.1 : tr_r_X9_openWith t x1 x2 A z u)
  rcases h with ⟨_, _, _, h⟩ | ⟨_, _, hu⟩
  case inr => rw [hu]; exact LW51.rf
  rcases h with ⟨_, _, hu⟩ | ⟨_, _, _, _, _, h⟩
  · rw [hu]; exact LW51.rf
  rcases h with ⟨_, _, _, A15, e15, _, hu⟩ | ⟨_, _, hu⟩
  · rw [hu, e15]; exact LW51.rf.st (by omega)
  · rw [hu]; exact LW51.rf
theorem low_push {ta : Nat} {x1 x2 z : Int} {A u : St} (hT : 51 ≤ ta) (h : q_X6_push ta x1 x2 A z u) : LW51 A u := by
  rcases (h.1 : tr_r_X6_push ta x1 x2 A z u) with ⟨_, _, hu⟩ | ⟨_, h⟩
  · rw [hu]; exact LW51.rf
  rcases h with ⟨_, _, hu⟩ | ⟨_, _, _, h⟩
  · rw [hu]; exact LW51.rf
  rcases h with ⟨_, _, _, h⟩ | ⟨_, _, hu⟩
  case inr => rw [hu]; exact LW51.rf
  rcases h with ⟨_, A10, e10, A11, e11, _, hu⟩ | ⟨_, _, hu⟩
  · rw [hu, e11, e10]; exact (LW51.rf.st (by omega)).st (by omega)
  · rw [hu]; exact LW51.rf
theorem low_shut {t : Nat} {x1 x2 x3 z : Int} {A u : St} (hT : isT t) (h : q_X9_shutWith t x1 x2 x3 A z u) : LW51 A u := by
  have t51 : 51 ≤ t := by rcases hT with e | e <;> omega
  obtain ⟨_, _, h⟩ := (h.1 : tr_r_X9_shutWith t x1 x2 x3 A z u)
  rcases h with ⟨_, _, hu⟩ | ⟨_, _, _, _, _, h⟩
  · rw [hu]; exact LW51.rf
  rcases h with ⟨_, _, hu⟩ | ⟨_, _, A11, hp, h⟩
  · rw [hu]; exact LW51.rf
  have g := low_push (by omega) hp
  rcases h with ⟨_, _, _, _, hu⟩ | ⟨_, _, hu⟩
  · rw [hu]; exact g
  · rw [hu]; exact g
theorem low_told {t : Nat} {x1 x2 x3 z : Int} {A u : St} (hT : isT t) (h : q_X9_toldAct t x1 x2 x3 A z u) : LW51 A u := by
  rcases (h.1 : tr_r_X9_toldAct t x1 x2 x3 A z u) with ⟨_, _, hu⟩ | ⟨_, _, _, hg, _, hu⟩ | ⟨_, _, _, hg, _, hu⟩ | ⟨_, _, _, _, _, hg, _, hu⟩
  · rw [hu]; exact LW51.rf
  · rw [hu]; exact low_go hT hg
  · rw [hu]; exact low_open hT hg
  · rw [hu]; exact low_shut hT hg
theorem low_first {A u : St} {z : Int} (hT : isT (51 + 31 * (A 0 9).toNat)) : ∀ (nn : Nat) (i n : Int) (C : St), d_X11_firstImpossible_1 A z u nn i n C → LW51 C u := by
  intro nn
  induction nn with
  | zero => intro i n C h; exact h.elim
  | succ nn ih =>
    intro i n C h
    obtain ⟨_, _, _, h⟩ := (h : tr_d_X11_firstImpossible_1 A z u (fun z1 z2 A4 => d_X11_firstImpossible_1 A z u nn z1 z2 A4) i n C)
    rcases h with ⟨_, _, hu⟩ | ⟨_, h⟩
    · rw [hu]; exact LW51.rf
    rcases h with ⟨_, t19, et, _, _, _, _, _, _, _, A30, ht, h⟩ | ⟨_, _, hu⟩
    · rw [← et] at hT
      have g := low_told hT ht
      rcases h with ⟨_, _, _, h⟩ | ⟨_, _, hu⟩
      · exact g.trans (ih _ _ A30 h)
      · rw [hu]; exact g
    · rw [hu]; exact LW51.rf
/-- the reference's notes, and back -/
theorem M_notes3 {b : Nat} {A u : St} (hb : A 0 12 = (b : Int)) : ∀ (nn i : Nat) (C : St), i ≤ 40 → d_X12_notes_3 A u nn (i : Int) C → (∀ i', i' < i → u 46 i' = C 46 i') ∧ (∀ i', i ≤ i' → i' < 40 → u 46 i' = C 15 (40 * b + i')) ∧ u 44 = C 44 ∧ u 45 = C 45 := by
  intro nn
  induction nn with
  | zero => intro i C _ h; exact h.elim
  | succ nn ih =>
    intro i C hi h
    obtain ⟨_, _, h⟩ := (h : tr_d_X12_notes_3 A u (fun z21 A23 => d_X12_notes_3 A u nn z21 A23) (i : Int) C)
    rcases h with ⟨c, hu⟩ | ⟨c, z31, e31, A32, e32, h⟩
    · rw [hu]
      exact ⟨fun _ _ => rfl, fun i' h1 h2 => by omega, rfl, rfl⟩
    · rw [hb, show (40 * (b : Int) + (i : Int)).toNat = 40 * b + i by omega] at e31
      rw [Int.toNat_natCast] at e32
      obtain ⟨a1, a2, a3, a4⟩ := ih (i + 1) A32 (by omega) (by rw [show ((i + 1 : Nat) : Int) = (i : Int) + 1 by omega]; exact h)
      have r46 : A32 46 = up (C 46) i z31 := by rw [e32, stA_same]
      have r15 : A32 15 = C 15 := by rw [e32, stA_ne _ _ (by decide)]
      refine ⟨fun i' h1 => ?_, fun i' h1 h2 => ?_, by rw [a3, e32, stA_ne _ _ (by decide)], by rw [a4, e32, stA_ne _ _ (by decide)]⟩
      · rw [a1 i' (by omega), r46, up_ne _ _ (by omega)]
      · by_cases e : i' = i
        · subst e
          rw [a1 i' (by omega), r46, up_same, e31]
        · rw [a2 i' (by omega) h2, r15]
theorem M_notes2 {b : Nat} {A u : St} (hb : A 0 12 = (b : Int)) : ∀ (nn k : Nat) (C : St), k ≤ 4 → d_X12_notes_2 A u nn (k : Int) C → (∀ k', k' < k → u 45 k' = C 45 k') ∧ (∀ k', k ≤ k' → k' < 4 → u 45 k' = C 14 (4 * b + k')) ∧ (∀ i, i < 40 → u 46 i = C 15 (40 * b + i)) ∧ u 44 = C 44 := by
  intro nn
  induction nn with
  | zero => intro k C _ h; exact h.elim
  | succ nn ih =>
    intro k C hk h
    obtain ⟨_, _, h⟩ := (h : tr_d_X12_notes_2 A u (fun z11 A13 => d_X12_notes_2 A u nn z11 A13) (k : Int) C)
    rcases h with ⟨c, n3, h⟩ | ⟨c, _, _, z36, e36, A37, e37, h⟩
    · obtain ⟨a1, a2, a3, a4⟩ := M_notes3 hb n3 0 C (by decide) h
      exact ⟨fun k' _ => by rw [a4], fun k' h1 h2 => by omega, fun i hi => a2 i (Nat.zero_le i) hi, a3⟩
    · rw [hb, show (4 * (b : Int) + (k : Int)).toNat = 4 * b + k by omega] at e36
      rw [Int.toNat_natCast] at e37
      obtain ⟨a1, a2, a3, a4⟩ := ih (k + 1) A37 (by omega) (by rw [show ((k + 1 : Nat) : Int) = (k : Int) + 1 by omega]; exact h)
      have r45 : A37 45 = up (C 45) k z36 := by rw [e37, stA_same]
      have r : ∀ j, j ≠ 45 → A37 j = C j := fun j hj => by rw [e37, stA_ne _ _ hj]
      refine ⟨fun k' h1 => ?_, fun k' h1 h2 => ?_, fun i hi => by rw [a3 i hi, r 15 (by decide)], by rw [a4, r 44 (by decide)]⟩
      · rw [a1 k' (by omega), r45, up_ne _ _ (by omega)]
      · by_cases e : k' = k
        · subst e
          rw [a1 k' (by omega), r45, up_same, e36]
        · rw [a2 k' (by omega) h2, r 14 (by decide)]
theorem M_notes1 {b : Nat} {A u : St} (hb : A 0 12 = (b : Int)) : ∀ (nn p : Nat) (C : St), p ≤ 3 → d_X12_notes_1 A u nn (p : Int) C → (∀ p', p' < p → u 44 p' = C 44 p') ∧ (∀ p', p ≤ p' → p' < 3 → u 44 p' = C 18 (3 * b + p')) ∧ (∀ k, k < 4 → u 45 k = C 14 (4 * b + k)) ∧ ∀ i, i < 40 → u 46 i = C 15 (40 * b + i) := by
  intro nn
  induction nn with
  | zero => intro p C _ h; exact h.elim
  | succ nn ih =>
    intro p C hp h
    obtain ⟨_, _, h⟩ := (h : tr_d_X12_notes_1 A u (fun z1 A3 => d_X12_notes_1 A u nn z1 A3) (p : Int) C)
    rcases h with ⟨c, n2, h⟩ | ⟨c, z38, e38, A39, e39, h⟩
    · obtain ⟨a1, a2, a3, a4⟩ := M_notes2 hb n2 0 C (by decide) h
      exact ⟨fun p' _ => by rw [a4], fun p' h1 h2 => by omega, fun k hk => a2 k (Nat.zero_le k) hk, a3⟩
    · rw [hb, show (3 * (b : Int) + (p : Int)).toNat = 3 * b + p by omega] at e38
      rw [Int.toNat_natCast] at e39
      obtain ⟨a1, a2, a3, a4⟩ := ih (p + 1) A39 (by omega) (by rw [show ((p + 1 : Nat) : Int) = (p : Int) + 1 by omega]; exact h)
      have r44 : A39 44 = up (C 44) p z38 := by rw [e39, stA_same]
      have r : ∀ j, j ≠ 44 → A39 j = C j := fun j hj => by rw [e39, stA_ne _ _ hj]
      refine ⟨fun p' h1 => ?_, fun p' h1 h2 => ?_, fun k hk => by rw [a3 k hk, r 14 (by decide)], fun i hi => by rw [a4 i hi, r 15 (by decide)]⟩
      · rw [a1 p' (by omega), r44, up_ne _ _ (by omega)]
      · by_cases e : p' = p
        · subst e
          rw [a1 p' (by omega), r44, up_same, e38]
        · rw [a2 p' (by omega) h2, r 18 (by decide)]
theorem M_back3 {b : Nat} {A u : St} (hb : A 0 12 = (b : Int)) : ∀ (nn i : Nat) (C : St), i ≤ 40 → d_X12_back_3 A u nn (i : Int) C → (∀ i', i' < i → u 15 (40 * b + i') = C 15 (40 * b + i')) ∧ (∀ i', i ≤ i' → i' < 40 → u 15 (40 * b + i') = C 46 i') ∧ u 14 = C 14 ∧ u 18 = C 18 := by
  intro nn
  induction nn with
  | zero => intro i C _ h; exact h.elim
  | succ nn ih =>
    intro i C hi h
    obtain ⟨_, _, h⟩ := (h : tr_d_X12_back_3 A u (fun z21 A23 => d_X12_back_3 A u nn z21 A23) (i : Int) C)
    rcases h with ⟨c, hu⟩ | ⟨c, z31, e31, A32, e32, h⟩
    · rw [hu]
      exact ⟨fun _ _ => rfl, fun i' h1 h2 => by omega, rfl, rfl⟩
    · rw [Int.toNat_natCast] at e31
      rw [hb, show (40 * (b : Int) + (i : Int)).toNat = 40 * b + i by omega] at e32
      obtain ⟨a1, a2, a3, a4⟩ := ih (i + 1) A32 (by omega) (by rw [show ((i + 1 : Nat) : Int) = (i : Int) + 1 by omega]; exact h)
      have r15 : A32 15 = up (C 15) (40 * b + i) z31 := by rw [e32, stA_same]
      have r46 : A32 46 = C 46 := by rw [e32, stA_ne _ _ (by decide)]
      refine ⟨fun i' h1 => ?_, fun i' h1 h2 => ?_, by rw [a3, e32, stA_ne _ _ (by decide)], by rw [a4, e32, stA_ne _ _ (by decide)]⟩
      · rw [a1 i' (by omega), r15, up_ne _ _ (by omega)]
      · by_cases e : i' = i
        · subst e
          rw [a1 i' (by omega), r15, up_same, e31]
        · rw [a2 i' (by omega) h2, r46]
theorem M_back2 {b : Nat} {A u : St} (hb : A 0 12 = (b : Int)) : ∀ (nn k : Nat) (C : St), k ≤ 4 → d_X12_back_2 A u nn (k : Int) C → (∀ k', k' < k → u 14 (4 * b + k') = C 14 (4 * b + k')) ∧ (∀ k', k ≤ k' → k' < 4 → u 14 (4 * b + k') = C 45 k') ∧ (∀ i, i < 40 → u 15 (40 * b + i) = C 46 i) ∧ u 18 = C 18 := by
  intro nn
  induction nn with
  | zero => intro k C _ h; exact h.elim
  | succ nn ih =>
    intro k C hk h
    obtain ⟨_, _, h⟩ := (h : tr_d_X12_back_2 A u (fun z11 A13 => d_X12_back_2 A u nn z11 A13) (k : Int) C)
    rcases h with ⟨c, n3, h⟩ | ⟨c, _, _, z36, e36, A37, e37, h⟩
    · obtain ⟨a1, a2, a3, a4⟩ := M_back3 hb n3 0 C (by decide) h
      exact ⟨fun k' _ => by rw [a3], fun k' h1 h2 => by omega, fun i hi => a2 i (Nat.zero_le i) hi, a4⟩
    · rw [Int.toNat_natCast] at e36
      rw [hb, show (4 * (b : Int) + (k : Int)).toNat = 4 * b + k by omega] at e37
      obtain ⟨a1, a2, a3, a4⟩ := ih (k + 1) A37 (by omega) (by rw [show ((k + 1 : Nat) : Int) = (k : Int) + 1 by omega]; exact h)
      have r14 : A37 14 = up (C 14) (4 * b + k) z36 := by rw [e37, stA_same]
      have r : ∀ j, j ≠ 14 → A37 j = C j := fun j hj => by rw [e37, stA_ne _ _ hj]
      refine ⟨fun k' h1 => ?_, fun k' h1 h2 => ?_, fun i hi => by rw [a3 i hi, r 46 (by decide)], by rw [a4, r 18 (by decide)]⟩
      · rw [a1 k' (by omega), r14, up_ne _ _ (by omega)]
      · by_cases e : k' = k
        · subst e
          rw [a1 k' (by omega), r14, up_same, e36]
        · rw [a2 k' (by omega) h2, r 45 (by decide)]
theorem M_back1 {b : Nat} {A u : St} (hb : A 0 12 = (b : Int)) : ∀ (nn p : Nat) (C : St), p ≤ 3 → d_X12_back_1 A u nn (p : Int) C → (∀ p', p' < p → u 18 (3 * b + p') = C 18 (3 * b + p')) ∧ (∀ p', p ≤ p' → p' < 3 → u 18 (3 * b + p') = C 44 p') ∧ (∀ k, k < 4 → u 14 (4 * b + k) = C 45 k) ∧ ∀ i, i < 40 → u 15 (40 * b + i) = C 46 i := by
  intro nn
  induction nn with
  | zero => intro p C _ h; exact h.elim
  | succ nn ih =>
    intro p C hp h
    obtain ⟨_, _, h⟩ := (h : tr_d_X12_back_1 A u (fun z1 A3 => d_X12_back_1 A u nn z1 A3) (p : Int) C)
    rcases h with ⟨c, n2, h⟩ | ⟨c, z38, e38, A39, e39, h⟩
    · obtain ⟨a1, a2, a3, a4⟩ := M_back2 hb n2 0 C (by decide) h
      exact ⟨fun p' _ => by rw [a4], fun p' h1 h2 => by omega, fun k hk => a2 k (Nat.zero_le k) hk, a3⟩
    · rw [Int.toNat_natCast] at e38
      rw [hb, show (3 * (b : Int) + (p : Int)).toNat = 3 * b + p by omega] at e39
      obtain ⟨a1, a2, a3, a4⟩ := ih (p + 1) A39 (by omega) (by rw [show ((p + 1 : Nat) : Int) = (p : Int) + 1 by omega]; exact h)
      have r18 : A39 18 = up (C 18) (3 * b + p) z38 := by rw [e39, stA_same]
      have r : ∀ j, j ≠ 18 → A39 j = C j := fun j hj => by rw [e39, stA_ne _ _ hj]
      refine ⟨fun p' h1 => ?_, fun p' h1 h2 => ?_, fun k hk => by rw [a3 k hk, r 45 (by decide)], fun i hi => by rw [a4 i hi, r 46 (by decide)]⟩
      · rw [a1 p' (by omega), r18, up_ne _ _ (by omega)]
      · by_cases e : p' = p
        · subst e
          rw [a1 p' (by omega), r18, up_same, e38]
        · rw [a2 p' (by omega) h2, r 44 (by decide)]
theorem M_rowL {A u A2 : St} {z : Int} : ∀ (nn : Nat) (i n : Int) (C : St), fr [14, 15, 18, 42, 43] [] A2 C → d_X12_row_1 A z u nn i n C → ∃ D, fr [14, 15, 18, 42, 43] [] A2 D ∧ q_X12_back D u := by
  intro nn
  induction nn with
  | zero => intro i n C _ h; exact h.elim
  | succ nn ih =>
    intro i n C g h
    have on2 : ∀ (v : Int) (D : St), fr [14, 15, 18, 42, 43] [] A2 D → d_X12_row_2 (fun z5 z6 A8 => d_X12_row_1 A z u nn z5 z6 A8) i z u v D → ∃ D, fr [14, 15, 18, 42, 43] [] A2 D ∧ q_X12_back D u := by
      intro v D gD h
      obtain ⟨_, _, h⟩ := (h : tr_d_X12_row_2 (fun z5 z6 A8 => d_X12_row_1 A z u nn z5 z6 A8) i z u v D)
      rcases h with ⟨_, h⟩ | ⟨_, z41, _, h⟩
      · obtain ⟨_, h⟩ := (h : tr_d_X12_row_3 (fun z5 z6 A8 => d_X12_row_1 A z u nn z5 z6 A8) i D z u (-1))
        exact ih _ _ D gD h
      · obtain ⟨_, h⟩ := (h : tr_d_X12_row_3 (fun z5 z6 A8 => d_X12_row_1 A z u nn z5 z6 A8) i D z u z41)
        exact ih _ _ D gD h
    obtain ⟨_, _, _, h⟩ := (h : tr_d_X12_row_1 A z u (fun z5 z6 A8 => d_X12_row_1 A z u nn z5 z6 A8) i n C)
    rcases h with ⟨_, A17, hb, _, hu⟩ | ⟨_, h⟩
    · rw [hu]; exact ⟨C, g, hb⟩
    rcases h with ⟨_, A17, hb, _, hu⟩ | ⟨_, h⟩
    · rw [hu]; exact ⟨C, g, hb⟩
    rcases h with ⟨_, h⟩ | ⟨_, _, _, _, _, _, _, z29, A30, ht, h⟩
    · exact on2 _ C g h
    · exact on2 _ A30 (fr.trans g ht.2.2.1 rfl rfl) h
theorem row_keep {z1 z2 : Int} {B A u1 u2 : St} (hIK : IK B) (hIM : IM A) (hp : PSs B A) (ha : ACS B A) (h1 : r_X11_row B z1 u1) (hf1 : fk [33, 34, 35, 37, 38, 39, 40, 42, 43, 44, 46, 47, 48, 49, 72, 74, 75, 76, 78, 79, 80, 81, 103, 105, 106, 107, 109, 110, 111, 112] [(1, 1)] B u1) (h2 : q_X12_row A z2 u2) : ACS u1 u2 := by
  have hT := tB hIK
  have hA := ha.act hIM hp
  have l := hA.lim hIM
  have f9 : u1 0 9 = B 0 9 := hf1 0 9 rfl rfl
  have mb := MBc.fr hT ha.2 hf1 rfl rfl h2.2.2.1 rfl
  unfold ACS
  rw [f9, h2.2.2.1.2 12 rfl]
  refine ⟨?_, mb⟩
  have rows := tw_rows hT hf1 [1, 8, 9, 10, 11] rfl rfl
  refine ha.1.el l.2.2.1 l.2.2.2 ⟨⟨rows 1 rfl, rows 8 rfl, rows 9 rfl, rows 10 rfl, rows 11 rfl⟩, ?_⟩ ?_
  · obtain ⟨t, ht, A3, hc1, z6, A7, hfi, A12, hc2, A15, e15, _, hu⟩ := (h1 : tr_r_X11_row B z1 u1)
    rw [← ht] at hT ⊢
    have t51 : t = 51 ∨ t = 82 := hT
    have c1 := K_copy (by unfold DJ; omega) hc1
    have c2 := K_copy (by unfold DJ; omega) hc2
    have e9 : A3 0 9 = B 0 9 := by rw [c1.1 0 (by omega)]
    obtain ⟨nn, hfi⟩ := (hfi.1 : tr_r_X11_firstImpossible A3 z6 A7)
    have lw := low_first (by rw [e9, ← ht]; exact hT) nn 0 0 A3 hfi
    have hi : ∀ j, 51 ≤ j → u1 j = A12 j := fun j hj => by rw [hu, e15, stA_ne _ _ (by omega)]
    refine ⟨fun p hp3 => ?_, fun k hk => ?_⟩
    · show u1 (t + 23) p = B (t + 23) p
      rw [hi _ (by omega)]
      have a := c2.2.1 p hp3
      have b := c1.2.1 p hp3
      rw [lw 42 (by decide)] at a
      exact a.trans b
    · obtain ⟨a1, a2, a3⟩ := c2.2.2 k hk
      obtain ⟨b1, b2, b3⟩ := c1.2.2 k hk
      rw [lw 43 (by decide)] at a1
      rw [lw 44 (by decide)] at a2
      refine ⟨?_, ?_, fun i hi6 => ?_⟩
      · show u1 (t + 24) k = B (t + 24) k
        rw [hi _ (by omega)]
        exact a1.trans b1
      · show u1 (t + 25) k = B (t + 25) k
        rw [hi _ (by omega)]
        exact a2.trans b2
      · show u1 (t + (27 + k)) i = B (t + (27 + k)) i
        have x := a3 i hi6
        have y := b3 i hi6
        rw [lw (41 + 5 + k) (by omega)] at x
        rw [hi _ (by omega), show t + (27 + k) = t + 22 + 5 + k by omega]
        exact x.trans y
  · obtain ⟨b, hb⟩ : ∃ b : Nat, (A 0 12).toNat = b := ⟨_, rfl⟩
    rw [hb] at hA ⊢
    have b12 := hA.1
    obtain ⟨A1, e1, A2, hn, nn, hr⟩ := (h2.1 : tr_r_X12_row A z2 u2)
    obtain ⟨D, gD, hbk⟩ := M_rowL nn 0 (-1) A2 fr.rf hr
    have a1 : ∀ j, j ≠ 0 → A1 j = A j := fun j hj => by rw [e1, stA_ne _ _ hj]
    have f1 : A1 0 12 = (b : Int) := by rw [e1]; exact b12
    have f2 : A2 0 12 = (b : Int) := (hn.2.2.1.2 12 rfl).trans f1
    have fD : D 0 12 = (b : Int) := (gD.2 12 rfl).trans f2
    obtain ⟨n1, hn1⟩ := (hn.1 : tr_r_X12_notes A1 A2)
    obtain ⟨_, x1, x2, x3⟩ := M_notes1 f1 n1 0 A1 (by decide) hn1
    obtain ⟨n2, hn2⟩ := (hbk.1 : tr_r_X12_back D u2)
    obtain ⟨_, y1, y2, y3⟩ := M_back1 fD n2 0 D (by decide) hn2
    refine ⟨fun p hp3 => ?_, fun k hk => ⟨?_, ?_, fun i hi => ?_⟩⟩
    · rw [y1 p (Nat.zero_le p) hp3, gD.1 44 (by decide) rfl, x1 p (Nat.zero_le p) hp3, a1 18 (by decide)]
    · rw [h2.2.2.1.1 13 (by decide) rfl]
    · rw [y2 k hk, gD.1 45 (by decide) rfl, x2 k hk, a1 14 (by decide)]
    · have e : 40 * b + 10 * k + i = 40 * b + (10 * k + i) := by omega
      rw [e, y3 _ (by omega), gD.1 46 (by decide) rfl, x3 _ (by omega), a1 15 (by decide)]
/-! An image that is read in: when it is one, on both sides. -/
theorem and_255 : ∀ k : Fin 256, oAnd ((k.val : Int) - 128) 255 = ((k.val : Int) - 128) % 256 := by decide +kernel
def tp (f : Nat → Int) (N k : Nat) : Int := if k < N then f k else -1
theorem K_at {f : Nat → Int} {N k : Nat} {C : St} {z : Int} (hI : IK C) (hN : C 1 1 = (N : Int)) (hf : ∀ k, k < N → f k = C 2 k % 256) (h : q_X7_at (k : Int) C z) : z = tp f N k := by
  unfold tp
  rcases (h.1 : tr_r_X7_at (k : Int) C z) with ⟨c, -⟩ | ⟨_, h⟩
  · omega
  rcases h with ⟨c, hz⟩ | ⟨c, z5, e5, z6, e6, hz⟩
  · rw [if_neg (by omega)]
    exact hz
  · rw [Int.toNat_natCast] at e5
    have hr : -128 ≤ z5 ∧ z5 ≤ 127 := by rw [e5]; exact irTPb hI
    have t : oAnd ((((z5 + 128).toNat : Nat) : Int) - 128) 255 = ((((z5 + 128).toNat : Nat) : Int) - 128) % 256 := and_255 ⟨(z5 + 128).toNat, by omega⟩
    rw [show (((z5 + 128).toNat : Nat) : Int) - 128 = z5 by omega] at t
    rw [if_pos (by omega), hz, e6, t, hf k (by omega), e5]
def ps (f : Nat → Int) (N P : Nat) : Nat → Nat
  | 0 => P
  | k + 1 => ps f N P k + 2 + (tp f N (ps f N P k + 1)).toNat
theorem ps_ge {f : Nat → Int} {N P : Nat} : ∀ k d, ps f N P k + 2 * d ≤ ps f N P (k + d) := by
  intro k d
  induction d with
  | zero => exact Nat.le_refl _
  | succ d ih =>
    have e : ps f N P (k + (d + 1)) = ps f N P (k + d) + 2 + (tp f N (ps f N P (k + d) + 1)).toNat := rfl
    omega
def rowOk (T : St) (f : Nat → Int) (N a m : Nat) : Prop := (∀ i, i < m → 0 ≤ tp f N (a + i) ∧ tp f N (a + i) < T 1 1) ∧ ∀ i j, i < j → j < m → tp f N (a + i) ≠ tp f N (a + j)
def keyOk (T : St) (f : Nat → Int) (N a : Nat) : Prop := WV T (tp f N a) ∧ (0 ≤ tp f N (a + 1) ∧ tp f N (a + 1) ≤ 6) ∧ rowOk T f N (a + 2) (tp f N (a + 1)).toNat
def sm (f : Nat → Int) (N : Nat) : Nat → Int
  | 0 => 19
  | k + 1 => (3 * sm f N k + tp f N k) % 233
def whole (T : St) (f : Nat → Int) (N : Nat) : Prop := (∀ p : Nat, (p : Int) < T 1 3 → 0 ≤ tp f N p ∧ tp f N p < T 1 0) ∧ (∀ k : Nat, (k : Int) < T 1 2 → keyOk T f N (ps f N (T 1 3).toNat k)) ∧ N = ps f N (T 1 3).toNat (T 1 2).toNat + 1 ∧ tp f N (N - 1) = sm f N (N - 1)
/-- the class's key of an image -/
def UP40 (A u : St) : Prop := ∀ j, (j < 32 ∨ 41 ≤ j) → u j = A j
theorem UP40.rf {A : St} : UP40 A A := fun _ _ => rfl
theorem UP40.trans {A B C : St} (h : UP40 A B) (g : UP40 B C) : UP40 A C := fun j hj => (g j hj).trans (h j hj)
theorem UP40.st {A B : St} {j i : Nat} {v : Int} (h : UP40 A B) (hj : 32 ≤ j ∧ j < 41) : UP40 A (stA B j i v) := fun j' h' => (stA_ne _ _ (by omega)).trans (h j' h')
def DK (f : Nat → Int) (N a k : Nat) (u : St) : Prop := u 34 k = tp f N a ∧ u 35 k = tp f N (a + 1) ∧ ∀ i : Nat, (i : Int) < tp f N (a + 1) → u (37 + k) i = tp f N (a + 2 + i)
def CI40 (f : Nat → Int) (N a k i : Nat) (S C : St) : Prop := UP40 S C ∧ C 33 = S 33 ∧ C 34 = S 34 ∧ (∀ k', k' ≠ k → C 35 k' = S 35 k') ∧ (∀ k', k' ≠ k → k' < 4 → C (37 + k') = S (37 + k')) ∧ C 35 k = (i : Int) ∧ ∀ i', i' < i → C (37 + k) i' = tp f N (a + 2 + i')
theorem K_accL {f : Nat → Int} {N t a k m : Nat} {S u : St} {z : Int} (hT : isT t) (hk : k < 4) (ha : a < 2000) (hm : m ≤ 6) (hN : S 1 1 = (N : Int)) (hf : ∀ k, k < N → f k = S 2 k % 256) : ∀ (nn i : Nat) (C : St), i ≤ m → CI40 f N a k i S C → rowOk (tw t S) f N (a + 2) i → d_X4_acceptKey_1 t (k : Int) (a : Int) (m : Int) z u nn (i : Int) C → (z = 1 ∧ rowOk (tw t S) f N (a + 2) m ∧ CI40 f N a k m S u) ∨ (z = 0 ∧ ¬ rowOk (tw t S) f N (a + 2) m ∧ UP40 S u) := by
  have t51 : t = 51 ∨ t = 82 := hT
  intro nn
  induction nn with
  | zero => intro i C _ _ _ h; exact h.elim
  | succ nn ih =>
    intro i C hi hC hr h
    obtain ⟨hI, _, h⟩ := (h : tr_d_X4_acceptKey_1 t (k : Int) (a : Int) (m : Int) z u (fun z16 A18 => d_X4_acceptKey_1 t (k : Int) (a : Int) (m : Int) z u nn z16 A18) (i : Int) C)
    have hC' := hC
    obtain ⟨c1, c2, c3, c4, c5, c6, c7⟩ := hC
    rcases h with ⟨c, hz, hu⟩ | ⟨c, z25, e25, z26, e26, z27, h27, z30, h30, h⟩
    · have e : i = m := by omega
      subst e
      rw [hu]
      exact Or.inl ⟨hz, hr, hC'⟩
    have him : i < m := by omega
    rw [oWrap_id ⟨by omega, by omega⟩] at e25
    rw [e25, oWrap_id ⟨by omega, by omega⟩] at e26
    have e26 : z26 = ((a + 2 + i : Nat) : Int) := by omega
    rw [e26] at h27
    have e27 := K_at (f := f) hI (by rw [c1 1 (by omega)]; exact hN) (fun k hk => by rw [c1 2 (by omega)]; exact hf k hk) h27
    have k30 := K_there1 h30
    rw [c1 (t + 1) (by (first | omega | (clear h; omega) | (clear h1; omega) | (clear h2; omega) | (clear h h1; omega) | (clear h h2; omega) | (clear h1 h2; omega) | (clear h h1 h2; omega)))] at k30
    rcases h with ⟨c8, hz, hu⟩ | ⟨c8, z34, A35, hp, h⟩
    · refine Or.inr ⟨hz, fun g => ?_, by rw [hu]; exact c1⟩
      have := g.1 i him
      rw [← e27] at this
      have : 0 ≤ z27 ∧ z27 < S (t + 1) 1 := this
      omega
    have v27 : 0 ≤ z27 ∧ z27 < S (t + 1) 1 := by omega
    obtain ⟨d, ed⟩ : ∃ d : Nat, z27 = (d : Int) := ⟨z27.toNat, by omega⟩
    rw [ed] at hp
    rcases (hp.1 : tr_r_X6_push 32 (k : Int) (d : Int) C z34 A35) with ⟨c9, -⟩ | ⟨_, hq⟩
    · omega
    rcases hq with ⟨c9, -⟩ | ⟨_, w3, hw3, hq⟩
    · omega
    have kp := K_placeIn (t := 10) (B := C) hk (by show C 35 k ≤ 6; omega) hw3
    have iin : inR (tw 10 C) k d ↔ ∃ i', i' < i ∧ tp f N (a + 2 + i') = (d : Int) := by
      constructor
      · rintro ⟨i', g1, g2⟩
        have g1 : (i' : Int) < C 35 k := g1
        have g2 : C (10 + (27 + k)) i' = (d : Int) := g2
        rw [show 10 + (27 + k) = 37 + k by omega, c7 i' (by omega)] at g2
        exact ⟨i', by omega, g2⟩
      · rintro ⟨i', g1, g2⟩
        refine ⟨i', ?_, ?_⟩
        · show (i' : Int) < C 35 k
          omega
        · show C (10 + (27 + k)) i' = (d : Int)
          rw [show 10 + (27 + k) = 37 + k by omega, c7 i' g1]
          exact g2
    rcases hq with ⟨c9, w7, e7, hq⟩ | ⟨c9, hz3, hu3⟩
    · have nin : ¬ inR (tw 10 C) k d := by
        rcases kp with g | g
        · exact g.2
        · exact absurd c9 g.1
      rw [Int.toNat_natCast] at e7
      have e7 : w7 = (i : Int) := by rw [e7]; exact c6
      rcases hq with ⟨_, A10, e10, A11, e11, hz3, hu3⟩ | ⟨c10, -⟩
      · rcases h with ⟨_, h⟩ | ⟨c11, -⟩
        · rw [e7, Int.toNat_natCast, Int.toNat_natCast] at e10
          rw [e7, Int.toNat_natCast] at e11
          have e10 : A10 = stA C (37 + k) i (d : Int) := e10
          have e11 : A11 = stA A10 35 k ((i : Int) + 1) := e11
          have lo : ∀ j, j ≠ 35 → j ≠ 37 + k → A35 j = C j := fun j h1 h2 => by rw [hu3, e11, stA_ne _ _ h1, e10, stA_ne _ _ h2]
          have r35 : A35 35 = up (C 35) k ((i : Int) + 1) := by rw [hu3, e11, stA_same, e10, stA_ne _ _ (by omega)]
          have r37 : A35 (37 + k) = up (C (37 + k)) i (d : Int) := by rw [hu3, e11, stA_ne _ _ (by omega), e10, stA_same]
          refine ih (i + 1) A35 (by omega) ⟨fun j hj => (lo j (by omega) (by omega)).trans (c1 j hj), (lo 33 (by decide) (by omega)).trans c2, (lo 34 (by decide) (by omega)).trans c3, fun k' g => ?_, fun k' g g4 => (lo _ (by omega) (by omega)).trans (c5 k' g g4), ?_, fun i' g => ?_⟩ ⟨fun i' g => ?_, fun i' j' g1 g2 => ?_⟩ (by rw [show ((i + 1 : Nat) : Int) = (i : Int) + 1 by omega]; exact h)
          · rw [r35, up_ne _ _ g]
            exact c4 k' g
          · rw [r35, up_same]
            omega
          · rw [r37]
            by_cases e : i' = i
            · rw [e, up_same, ← ed, e27]
            · rw [up_ne _ _ e]
              exact c7 i' (by omega)
          · by_cases e : i' = i
            · rw [e, ← e27]
              exact v27
            · exact hr.1 i' (by omega)
          · by_cases e : j' = i
            · rw [e, ← e27, ed]
              intro g
              exact nin (iin.mpr ⟨i', by omega, g⟩)
            · exact hr.2 i' j' g1 (by omega)
        · omega
      · omega
    · have isin : inR (tw 10 C) k d := by
        rcases kp with g | g
        · exact absurd g.1 c9
        · exact g.2
      rcases h with ⟨c11, -⟩ | ⟨_, hz, hu⟩
      · exact absurd hz3 c11
      · refine Or.inr ⟨hz, fun g => ?_, by rw [hu, hu3]; exact c1⟩
        obtain ⟨i', g1, g2⟩ := iin.mp isin
        exact g.2 i' i g1 him (g2.trans (ed.symm.trans e27))
theorem K_isWhere {t : Nat} {x z : Int} {C : St} (hx : -1 ≤ x ∧ x ≤ 255) (l0 : C (t + 1) 0 ≤ 8) (h : q_X4_isWhere t x C z) : (z = 1 ↔ WV (tw t C) x) ∧ (z = 0 ∨ z = 1) := by
  obtain ⟨z1, h1, h⟩ := (h.1 : tr_r_X4_isWhere t x C z)
  have k1 := K_there3 h1
  have un : WV (tw t C) x ↔ (0 ≤ x ∧ x < C (t + 1) 3) ∨ ((10 ≤ x ∧ x < 10 + C (t + 1) 0) ∨ (20 ≤ x ∧ x < 20 + C (t + 1) 1 ∧ C (t + 10) (x - 20).toNat = 0)) ∨ x = 40 := Iff.rfl
  rw [un]
  rcases h with ⟨c, hz⟩ | ⟨c, z5, e5, z6, h6, h⟩
  · omega
  rw [oWrap_id ⟨by omega, by omega⟩] at e5
  have k6 : (z6 = 1 ↔ 0 ≤ z5 ∧ z5 < C (t + 1) 0) ∧ (z6 = 0 ∨ z6 = 1) := by
    rcases (h6.1 : tr_r_X9_isThere_1_0 t z5 C z6) with ⟨c, e⟩ | ⟨c, z4, e4, h⟩
    · omega
    · have e4 : z4 = C (t + 1) 0 := e4
      rcases h with ⟨c2, e⟩ | ⟨c2, e⟩ <;> omega
  rcases h with ⟨c2, hz⟩ | ⟨c2, z10, e10, z11, h11, h⟩
  · omega
  rw [oWrap_id ⟨by omega, by omega⟩] at e10
  have k11 := K_isBox h11
  rw [e10] at k11
  rcases h with ⟨c3, hz⟩ | ⟨c3, h⟩
  · omega
  rcases h with ⟨c4, hz⟩ | ⟨c4, hz⟩ <;> omega
theorem K_accKey {f : Nat → Int} {N t a k : Nat} {S u : St} {z : Int} (hT : isT t) (hI : IK S) (hk : k < 4) (ha : a < 2000) (l0 : S (t + 1) 0 ≤ 8) (hN : S 1 1 = (N : Int)) (hf : ∀ k, k < N → f k = S 2 k % 256) (h : q_X4_acceptKey t (k : Int) (a : Int) S z u) : (z = 1 ∧ keyOk (tw t S) f N a ∧ DK f N a k u ∧ UP40 S u ∧ u 33 = S 33 ∧ (∀ k', k' ≠ k → k' < 4 → u 34 k' = S 34 k' ∧ u 35 k' = S 35 k' ∧ u (37 + k') = S (37 + k'))) ∨ (z = 0 ∧ ¬ keyOk (tw t S) f N a ∧ UP40 S u) := by
  obtain ⟨z1, h1, z4, e4, z5, h5, z8, h8, h⟩ := (h.1 : tr_r_X4_acceptKey t (k : Int) (a : Int) S z u)
  have e1 := K_at (f := f) hI hN hf h1
  rw [oWrap_id ⟨by omega, by omega⟩] at e4
  have e4 : z4 = ((a + 1 : Nat) : Int) := by omega
  rw [e4] at h5
  have e5 := K_at (f := f) hI hN hf h5
  have k8 := K_isWhere h1.2 l0 h8
  rw [e1] at k8
  rcases h with ⟨c, hz, hu⟩ | ⟨c, h⟩
  · refine Or.inr ⟨hz, fun g => ?_, by rw [hu]; exact UP40.rf⟩
    have := k8.1.mpr g.1
    omega
  have wv := k8.1.mp (by omega)
  rcases h with ⟨c2, hz, hu⟩ | ⟨c2, h⟩
  · refine Or.inr ⟨hz, fun g => ?_, by rw [hu]; exact UP40.rf⟩
    have := g.2.1
    omega
  rcases h with ⟨c3, A14, e14, A15, e15, nn, h⟩ | ⟨c3, hz, hu⟩
  case inr =>
    refine Or.inr ⟨hz, fun g => ?_, by rw [hu]; exact UP40.rf⟩
    have := g.2.1
    omega
  obtain ⟨m, em⟩ : ∃ m : Nat, z5 = (m : Int) := ⟨z5.toNat, by omega⟩
  rw [Int.toNat_natCast] at e14 e15
  have e14 : A14 = stA S 34 k z1 := e14
  have e15 : A15 = stA A14 35 k 0 := e15
  have u15 : UP40 S A15 := by rw [e15, e14]; exact (UP40.rf.st (by decide)).st (by decide)
  have r1 : tw t A15 1 = tw t S 1 := by
    have t51 : t = 51 ∨ t = 82 := hT
    exact u15 (t + 1) (by omega)
  have ci : CI40 f N a k 0 A15 A15 := by
    refine ⟨UP40.rf, rfl, rfl, fun _ _ => rfl, fun _ _ _ => rfl, ?_, fun i' g => absurd g (Nat.not_lt_zero i')⟩
    rw [e15, stA_same, up_same]
    rfl
  rw [em] at h
  have same : ∀ m', rowOk (tw t A15) f N (a + 2) m' ↔ rowOk (tw t S) f N (a + 2) m' := by
    intro m'
    unfold rowOk
    rw [r1]
  have r := K_accL hT hk ha (by omega) (by rw [u15 1 (by omega)]; exact hN) (fun k hk => by rw [u15 2 (by omega)]; exact hf k hk) nn 0 A15 (Nat.zero_le m) ci ⟨fun i g => absurd g (Nat.not_lt_zero i), fun i j _ g => absurd g (Nat.not_lt_zero j)⟩ h
  rcases r with ⟨hz, ok, hc⟩ | ⟨hz, no, hu⟩
  · obtain ⟨c1', c2', c3', c4', c5', c6', c7'⟩ := hc
    refine Or.inl ⟨hz, ⟨wv, by omega, ?_⟩, ⟨?_, ?_, fun i hi => ?_⟩, u15.trans c1', ?_, fun k' g g4 => ⟨?_, ?_, ?_⟩⟩
    · rw [← e5, em, Int.toNat_natCast]
      exact (same m).mp ok
    · rw [c3', e15, stA_ne _ _ (by decide), e14, stA_same, up_same, e1]
    · rw [c6', ← em, e5]
    · exact c7' i (by omega)
    · rw [c2', e15, stA_ne _ _ (by decide), e14, stA_ne _ _ (by decide)]
    · rw [c3', e15, stA_ne _ _ (by decide), e14, stA_same, up_ne _ _ g]
    · rw [c4' k' g, e15, stA_same, up_ne _ _ g, e14, stA_ne _ _ (by decide)]
    · rw [c5' k' g g4, e15, stA_ne _ _ (by omega), e14, stA_ne _ _ (by omega)]
  · refine Or.inr ⟨hz, fun g => no ?_, u15.trans hu⟩
    have := g.2.2
    rw [← e5, em, Int.toNat_natCast] at this
    exact (same m).mpr this
/-- the class's sum -/
theorem K_sumL {f : Nat → Int} {N n : Nat} {C : St} {z : Int} (hI : IK C) (hn : n < N) (hN16 : N ≤ 1600) (h0 : ∀ k, 0 ≤ f k ∧ f k ≤ 255) (hN : C 1 1 = (N : Int)) (hf : ∀ k, k < N → f k = C 2 k % 256) : ∀ (nn k : Nat) (v : Int), k ≤ n → v = sm f N k → (0 ≤ v ∧ v ≤ 232) → d_X4_sumOf_1 (n : Int) C z nn (k : Int) v → z = sm f N n := by
  intro nn
  induction nn with
  | zero => intro k v _ _ _ h; exact h.elim
  | succ nn ih =>
    intro k v hk hv hb h
    obtain ⟨_, _, h⟩ := (h : tr_d_X4_sumOf_1 (n : Int) C z (fun z1 z2 => d_X4_sumOf_1 (n : Int) C z nn z1 z2) (k : Int) v)
    rcases h with ⟨c, hz⟩ | ⟨c, h⟩
    · have e : k = n := by omega
      rw [hz, hv, e]
    rcases h with ⟨c2, -⟩ | ⟨_, z11, h11, z14, h14, h⟩
    · omega
    have e11 := K_at (f := f) hI hN hf h11
    have t0 : tp f N k = f k := by unfold tp; rw [if_pos (by omega)]
    have b := h0 k
    obtain ⟨w1, x1, w2, x2, w3, x3, hz4⟩ := (h14.1 : tr_r_X4_summed v z11 C z14)
    rw [oWrap_id ⟨by omega, by omega⟩] at x1
    rw [oWrap_id ⟨by omega, by omega⟩] at x2
    rw [oRem_nat ⟨by omega, by omega⟩ ⟨by decide, by decide⟩] at x3
    have ev : z14 = sm f N (k + 1) := by
      show z14 = (3 * sm f N k + tp f N k) % 233
      rw [hz4, x3, x2, x1, e11, hv]
    refine ih (k + 1) z14 (by omega) ev (by omega) (by rw [show ((k + 1 : Nat) : Int) = (k : Int) + 1 by omega]; exact h)
/-! The class takes an image, or doesn't. -/
theorem keyOk_cg {T T' : St} {f : Nat → Int} {N a : Nat} (e1 : T' 1 = T 1) (e10 : T' 10 = T 10) : keyOk T' f N a ↔ keyOk T f N a := by
  unfold keyOk WV TW rowOk
  rw [e1, e10]
def FIN (f : Nat → Int) (N t P K : Nat) (B u : St) : Prop := (∀ j, (j < 32 ∨ 41 ≤ j) → (j < t + 23 ∨ t + 31 ≤ j) → u j = B j) ∧ (∀ p, p < P → u (t + 23) p = tp f N p) ∧ (∀ k, k < K → u (t + 24) k = tp f N (ps f N P k) ∧ u (t + 25) k = tp f N (ps f N P k + 1) ∧ ∀ i : Nat, (i : Int) < tp f N (ps f N P k + 1) → u (t + (27 + k)) i = tp f N (ps f N P k + 2 + i)) ∧ ∀ k, K ≤ k → k < 4 → u (t + 25) k = B (t + 25) k
theorem K_accept2 {f : Nat → Int} {N t P K : Nat} {B u : St} {z : Int} (hT : isT t) (hP : B (t + 1) 3 = (P : Int)) (hK : B (t + 1) 2 = (K : Int)) (hK4 : K ≤ 4) (hP3 : P ≤ 3) (l0 : B (t + 1) 0 ≤ 8) (hN : B 1 1 = (N : Int)) (hN16 : N ≤ 1600) (h0 : ∀ k, 0 ≤ f k ∧ f k ≤ 255) (hf : ∀ k, k < N → f k = B 2 k % 256) (pOk : ∀ p : Nat, (p : Int) < B (t + 1) 3 → 0 ≤ tp f N p ∧ tp f N p < B (t + 1) 0) : ∀ (nn k : Nat) (C : St), k ≤ K → UP40 B C → (∀ p, p < P → C 33 p = tp f N p) → (∀ k', k' < k → keyOk (tw t B) f N (ps f N P k') ∧ DK f N (ps f N P k') k' C) → (∀ k', k ≤ k' → k' < 4 → C 35 k' = B (t + 25) k') → ps f N P k ≤ 3 + 8 * k → d_X4_accept_2 t B z u nn (k : Int) ((ps f N P k : Nat) : Int) C → (z = 1 ∧ whole (tw t B) f N ∧ FIN f N t P K B u) ∨ (z = 0 ∧ ¬ whole (tw t B) f N ∧ UP40 B u) := by
  have t51 : t = 51 ∨ t = 82 := hT
  have eP : (tw t B 1 3).toNat = P := by show (B (t + 1) 3).toNat = P; rw [hP]; exact Int.toNat_natCast P
  have eK : (tw t B 1 2).toNat = K := by show (B (t + 1) 2).toNat = K; rw [hK]; exact Int.toNat_natCast K
  intro nn
  induction nn with
  | zero => intro k C _ _ _ _ _ _ h; exact h.elim
  | succ nn ih =>
    intro k C hk up hp hd h35 hps h
    obtain ⟨hI, _, _, z34, e34, h⟩ := (h : tr_d_X4_accept_2 t B z u (fun z21 z22 A24 => d_X4_accept_2 t B z u nn z21 z22 A24) (k : Int) ((ps f N P k : Nat) : Int) C)
    have e34 : z34 = C (t + 1) 2 := e34
    rw [up (t + 1) (by omega), hK] at e34
    have cN : C 1 1 = (N : Int) := by rw [up 1 (by omega)]; exact hN
    have cf : ∀ k, k < N → f k = C 2 k % 256 := fun k hk => by rw [up 2 (by omega)]; exact hf k hk
    rcases h with ⟨c, z40, e40, h⟩ | ⟨c, z52, A53, ha, h⟩
    · have ek : k = K := by omega
      subst ek
      rw [oWrap_id ⟨by omega, by omega⟩] at e40
      rw [hN] at h
      rcases h with ⟨c2, hz, hu⟩ | ⟨c2, z42, h42, z45, h45, h⟩
      · refine Or.inr ⟨hz, fun g => ?_, by rw [hu]; exact up⟩
        have := g.2.2.1
        rw [eP, eK] at this
        omega
      have eN : N = ps f N P k + 1 := by omega
      have e42 := K_at (f := f) hI cN cf h42
      obtain ⟨n5, h45⟩ := (h45.1 : tr_r_X4_sumOf ((ps f N P k : Nat) : Int) C z45)
      have e45 := K_sumL hI (by omega) hN16 h0 cN cf n5 0 19 (Nat.zero_le _) rfl ⟨by decide, by decide⟩ h45
      rcases h with ⟨c3, A49, hc, hz, hu⟩ | ⟨c3, hz, hu⟩
      · refine Or.inl ⟨hz, ⟨pOk, fun k' hk' => ?_, by rw [eP, eK]; exact eN, ?_⟩, ?_⟩
        · rw [eP]
          have hk' : (k' : Int) < B (t + 1) 2 := hk'
          exact (hd k' (by omega)).1
        · rw [show N - 1 = ps f N P k by omega, ← e42, c3, e45]
        · have cp := K_copy (by unfold DJ; omega) hc
          rw [hu]
          refine ⟨fun j h1 h2 => (cp.1 j (by omega)).trans (up j h1), fun p hp2 => ?_, fun k' hk' => ?_, fun k' g1 g2 => ?_⟩
          · have a := cp.2.1 p (by omega)
            have a : A49 (t + 23) p = C 33 p := a
            rw [a]
            exact hp p hp2
          · obtain ⟨a1, a2, a3⟩ := cp.2.2 k' (by omega)
            have a1 : A49 (t + 24) k' = C 34 k' := a1
            have a2 : A49 (t + 25) k' = C 35 k' := a2
            obtain ⟨ok, d1, d2, d3⟩ := hd k' hk'
            refine ⟨a1.trans d1, a2.trans d2, fun i hi => ?_⟩
            have b6 := ok.2.1.2
            have x := a3 i (by omega)
            rw [show t + (27 + k') = t + 22 + 5 + k' by omega, x]
            have y := d3 i hi
            rw [show 32 + 5 + k' = 37 + k' by omega]
            exact y
          · obtain ⟨a1, a2, a3⟩ := cp.2.2 k' g2
            have a2 : A49 (t + 25) k' = C 35 k' := a2
            rw [a2]
            exact h35 k' g1 g2
      · refine Or.inr ⟨hz, fun g => c3 ?_, by rw [hu]; exact up⟩
        have := g.2.2.2
        rw [show N - 1 = ps f N P k by omega] at this
        rw [e42, e45]
        exact this
    · have hkK : k < K := by omega
      have r1 : tw t C 1 = tw t B 1 := up (t + 1) (by omega)
      have r10 : tw t C 10 = tw t B 10 := up (t + 10) (by omega)
      have ka := K_accKey hT hI (by omega) (by omega) (by rw [up (t + 1) (by omega)]; exact l0) cN cf ha
      rcases ka with ⟨y1, y2, y3, y4, y5, y6⟩ | ⟨y1, y2, y4⟩
      · have y2 := (keyOk_cg r1 r10).mp y2
        have b6 := y2.2.1
        rcases h with ⟨_, z57, e57, z58, e58, h⟩ | ⟨c2, -⟩
        · rw [Int.toNat_natCast] at e57
          have e57 : z57 = A53 35 k := e57
          have y32 := y3.2.1
          rw [oWrap_id ⟨by omega, by omega⟩] at e58
          have nx : ps f N P (k + 1) = ps f N P k + 2 + (tp f N (ps f N P k + 1)).toNat := rfl
          have e58 : z58 = ((ps f N P (k + 1) : Nat) : Int) := by omega
          rw [e58] at h
          refine ih (k + 1) A53 (by omega) (up.trans y4) (fun p hp2 => by rw [y5]; exact hp p hp2) (fun k' hk' => ?_) (fun k' g1 g2 => ?_) (by omega) (by rw [show ((k + 1 : Nat) : Int) = (k : Int) + 1 by omega]; exact h)
          · by_cases e : k' = k
            · subst e
              exact ⟨y2, y3⟩
            · obtain ⟨ok, d1, d2, d3⟩ := hd k' (by omega)
              obtain ⟨w1, w2, w3⟩ := y6 k' e (by omega)
              exact ⟨ok, w1.trans d1, w2.trans d2, fun i hi => by rw [w3]; exact d3 i hi⟩
          · rw [(y6 k' (by omega) g2).2.1]
            exact h35 k' (by omega) g2
        · omega
      · rcases h with ⟨c2, -⟩ | ⟨_, hz, hu⟩
        · omega
        · refine Or.inr ⟨hz, fun g => y2 ((keyOk_cg r1 r10).mpr ?_), by rw [hu]; exact up.trans y4⟩
          have := g.2.1 k (by show (k : Int) < B (t + 1) 2; omega)
          rw [eP] at this
          exact this
theorem K_accept1 {f : Nat → Int} {N t P K : Nat} {B u : St} {z : Int} (hT : isT t) (hP : B (t + 1) 3 = (P : Int)) (hK : B (t + 1) 2 = (K : Int)) (hK4 : K ≤ 4) (hP3 : P ≤ 3) (l0 : B (t + 1) 0 ≤ 8) (hN : B 1 1 = (N : Int)) (hN16 : N ≤ 1600) (h0 : ∀ k, 0 ≤ f k ∧ f k ≤ 255) (hf : ∀ k, k < N → f k = B 2 k % 256) : ∀ (nn p : Nat) (C : St), p ≤ P → UP40 B C → (∀ p', p' < p → C 33 p' = tp f N p' ∧ 0 ≤ tp f N p' ∧ tp f N p' < B (t + 1) 0) → (∀ k', k' < 4 → C 35 k' = B (t + 25) k') → d_X4_accept_1 t B z u nn (p : Int) (p : Int) C → (z = 1 ∧ whole (tw t B) f N ∧ FIN f N t P K B u) ∨ (z = 0 ∧ ¬ whole (tw t B) f N ∧ UP40 B u) := by
  have t51 : t = 51 ∨ t = 82 := hT
  intro nn
  induction nn with
  | zero => intro p C _ _ _ _ h; exact h.elim
  | succ nn ih =>
    intro p C hp up hd h35 h
    obtain ⟨hI, _, _, z19, e19, h⟩ := (h : tr_d_X4_accept_1 t B z u (fun z4 z5 A7 => d_X4_accept_1 t B z u nn z4 z5 A7) (p : Int) (p : Int) C)
    have e19 : z19 = C (t + 1) 3 := e19
    rw [up (t + 1) (by omega), hP] at e19
    have cN : C 1 1 = (N : Int) := by rw [up 1 (by omega)]; exact hN
    have cf : ∀ k, k < N → f k = C 2 k % 256 := fun k hk => by rw [up 2 (by omega)]; exact hf k hk
    rcases h with ⟨c, n2, h⟩ | ⟨c, z59, h59, z62, h62, h⟩
    · have e : p = P := by omega
      subst e
      exact K_accept2 hT hP hK hK4 hP3 l0 hN hN16 h0 hf (fun p' hp' => (hd p' (by omega)).2) n2 0 C (Nat.zero_le K) up (fun p' hp' => (hd p' hp').1) (fun k' g => absurd g (Nat.not_lt_zero k')) (fun k' _ g => h35 k' g) (by show p ≤ 3 + 8 * 0; omega) h
    · have e59 := K_at (f := f) hI cN cf h59
      have k62 : (z62 = 1 ↔ 0 ≤ z59 ∧ z59 < B (t + 1) 0) ∧ (z62 = 0 ∨ z62 = 1) := by
        rcases (h62.1 : tr_r_X9_isThere_1_0 t z59 C z62) with ⟨c, e⟩ | ⟨c, z4, e4, h⟩
        · omega
        · have e4 : z4 = C (t + 1) 0 := e4
          rw [up (t + 1) (by (first | omega | (clear h; omega) | (clear h1; omega) | (clear h2; omega) | (clear h h1; omega) | (clear h h2; omega) | (clear h1 h2; omega) | (clear h h1 h2; omega)))] at e4
          rcases h with ⟨c2, e⟩ | ⟨c2, e⟩ <;> omega
      rcases h with ⟨c2, A66, e66, z67, e67, h⟩ | ⟨c2, hz, hu⟩
      · rw [Int.toNat_natCast] at e66
        have e66 : A66 = stA C 33 p z59 := e66
        rw [oWrap_id ⟨by omega, by omega⟩] at e67
        have e67 : z67 = ((p + 1 : Nat) : Int) := by omega
        rw [e67] at h
        have h2 : d_X4_accept_1 t B z u nn ((p + 1 : Nat) : Int) ((p + 1 : Nat) : Int) A66 := h
        refine ih (p + 1) A66 (by omega) (up.trans (by rw [e66]; exact UP40.rf.st (by decide))) (fun p' g => ?_) (fun k' g => ?_) h2
        · by_cases e : p' = p
          · subst e
            refine ⟨?_, by rw [← e59]; omega⟩
            rw [e66, stA_same, up_same, e59]
          · have x := hd p' (by omega)
            refine ⟨?_, x.2⟩
            rw [e66, stA_same, up_ne _ _ e]
            exact x.1
        · rw [e66, stA_ne _ _ (by decide)]
          exact h35 k' g
      · refine Or.inr ⟨hz, fun g => ?_, by rw [hu]; exact up⟩
        have := g.1 p (by show (p : Int) < B (t + 1) 3; omega)
        rw [← e59] at this
        have : 0 ≤ z59 ∧ z59 < B (t + 1) 0 := this
        omega
theorem K_accept {f : Nat → Int} {N t P K : Nat} {B u : St} {z : Int} (hT : isT t) (hP : B (t + 1) 3 = (P : Int)) (hK : B (t + 1) 2 = (K : Int)) (hK4 : K ≤ 4) (hP3 : P ≤ 3) (l0 : B (t + 1) 0 ≤ 8) (hN : B 1 1 = (N : Int)) (hN16 : N ≤ 1600) (h0 : ∀ k, 0 ≤ f k ∧ f k ≤ 255) (hf : ∀ k, k < N → f k = B 2 k % 256) (h : q_X4_accept t B z u) : (z = 1 ∧ whole (tw t B) f N ∧ FIN f N t P K B u) ∨ (z = 0 ∧ ¬ whole (tw t B) f N ∧ UP40 B u) := by
  have t51 : t = 51 ∨ t = 82 := hT
  obtain ⟨A1, hc, nn, h⟩ := (h.1 : tr_r_X4_accept t B z u)
  have cp := K_copy (by unfold DJ; omega) hc
  have up1 : UP40 B A1 := fun j hj => cp.1 j (by omega)
  refine K_accept1 hT hP hK hK4 hP3 l0 hN hN16 h0 hf nn 0 A1 (Nat.zero_le P) up1 (fun p' g => absurd g (Nat.not_lt_zero p')) (fun k' g => ?_) h
  exact (cp.2.2 k' g).2.1
/-! The reference takes an image, or doesn't; then both. -/
theorem tp_in {f : Nat → Int} {N k : Nat} (h : k < N) : tp f N k = f k := by
  unfold tp
  rw [if_pos h]
theorem M_rowIn {f : Nat → Int} {N a i : Nat} {A : St} {z : Int} {K1 : Int → Prop} (hai : a + i < N) (hf : ∀ k, k < N → A 1 k = f k) : ∀ (nn j : Nat), j ≤ i → (∀ j', j' < j → tp f N (a + j') ≠ tp f N (a + i)) → d_X12_isRowAt_2 K1 (a : Int) (i : Int) A z nn (j : Int) → (K1 ((i : Int) + 1) ∧ ∀ j', j' < i → tp f N (a + j') ≠ tp f N (a + i)) ∨ (z = 0 ∧ ∃ j', j' < i ∧ tp f N (a + j') = tp f N (a + i)) := by
  intro nn
  induction nn with
  | zero => intro j _ _ h; exact h.elim
  | succ nn ih =>
    intro j hj no h
    obtain ⟨_, h⟩ := (h : tr_d_X12_isRowAt_2 K1 (a : Int) (i : Int) A z (fun z15 => d_X12_isRowAt_2 K1 (a : Int) (i : Int) A z nn z15) (j : Int))
    rcases h with ⟨c, h⟩ | ⟨c, z23, e23, z24, e24, h⟩
    · have e : j = i := by omega
      subst e
      exact Or.inl ⟨h, no⟩
    · rw [show ((a : Int) + (j : Int)).toNat = a + j by omega, hf _ (by omega), ← tp_in (f := f) (N := N) (show a + j < N by omega)] at e23
      rw [show ((a : Int) + (i : Int)).toNat = a + i by omega, hf _ hai, ← tp_in (f := f) (N := N) hai] at e24
      rcases h with ⟨c2, h⟩ | ⟨c2, hz⟩
      · refine ih (j + 1) (by omega) (fun j' g => ?_) (by rw [show ((j + 1 : Nat) : Int) = (j : Int) + 1 by omega]; exact h)
        by_cases e : j' = j
        · subst e
          rw [← e23, ← e24]
          exact c2
        · exact no j' (by omega)
      · exact Or.inr ⟨hz, j, by omega, by rw [← e23, ← e24]; exact c2⟩
theorem M_rowAtL {f : Nat → Int} {N a m b : Nat} {A T : St} {z : Int} (hI : IM A) (hA : ACT b A T) (ham : a + m ≤ N) (hf : ∀ k, k < N → A 1 k = f k) : ∀ (nn i : Nat), i ≤ m → rowOk T f N a i → d_X12_isRowAt_1 (a : Int) (m : Int) A z nn (i : Int) → (z = 1 ∧ rowOk T f N a m) ∨ (z = 0 ∧ ¬ rowOk T f N a m) := by
  intro nn
  induction nn with
  | zero => intro i _ _ h; exact h.elim
  | succ nn ih =>
    intro i hi ok h
    obtain ⟨_, h⟩ := (h : tr_d_X12_isRowAt_1 (a : Int) (m : Int) A z (fun z1 => d_X12_isRowAt_1 (a : Int) (m : Int) A z nn z1) (i : Int))
    rcases h with ⟨c, hz⟩ | ⟨c, z10, e10, z11, h11, h⟩
    · have e : i = m := by omega
      subst e
      exact Or.inl ⟨hz, ok⟩
    · have him : i < m := by omega
      rw [show ((a : Int) + (i : Int)).toNat = a + i by omega, hf _ (by omega), ← tp_in (f := f) (N := N) (show a + i < N by omega)] at e10
      have md := M_isDoor hI hA h11
      rcases h with ⟨c2, n2, h⟩ | ⟨c2, hz⟩
      · rcases M_rowIn (by omega) hf n2 0 (Nat.zero_le i) (fun j' g => absurd g (Nat.not_lt_zero j')) h with ⟨g1, g2⟩ | ⟨hz, j', g1, g2⟩
        · refine ih (i + 1) (by omega) ⟨fun i' g => ?_, fun i' j' g3 g4 => ?_⟩ (by rw [show ((i + 1 : Nat) : Int) = (i : Int) + 1 by omega]; exact g1)
          · by_cases e : i' = i
            · rw [e, ← e10]
              omega
            · exact ok.1 i' (by omega)
          · by_cases e : j' = i
            · rw [e]
              exact g2 i' (by omega)
            · exact ok.2 i' j' g3 (by omega)
        · exact Or.inr ⟨hz, fun g => g.2 j' i g1 him g2⟩
      · refine Or.inr ⟨hz, fun g => ?_⟩
        have := g.1 i him
        rw [← e10] at this
        omega
theorem M_mayBe {b : Nat} {x z : Int} {A T : St} (hI : IM A) (hA : ACT b A T) (h : q_X12_mayBeAt x A z) : (z = 1 ↔ WV T x) ∧ (z = 0 ∨ z = 1) := by
  obtain ⟨l0, l1, l2, l3⟩ := hA.lim hI
  have un : WV T x ↔ (0 ≤ x ∧ x < T 1 3) ∨ ((10 ≤ x ∧ x < 10 + T 1 0) ∨ (20 ≤ x ∧ x < 20 + T 1 1 ∧ T 10 (x - 20).toNat = 0)) ∨ x = 40 := Iff.rfl
  rw [un]
  rcases (h.1 : tr_r_X12_mayBeAt x A z) with ⟨c, h⟩ | ⟨c, z17, h17, hz⟩
  · rcases h with ⟨c2, h⟩ | ⟨c2, z14, h14, hz⟩
    · rcases h with ⟨c3, hz⟩ | ⟨c3, h⟩
      · omega
      · rcases h with ⟨c4, hz⟩ | ⟨c4, z5, h5, h⟩
        · omega
        · have m5 := M_isDoor hI hA h5
          rcases h with ⟨c5, hz⟩ | ⟨c5, _, _, z12, e12, h⟩
          · omega
          · have nb := hA.st.1 (x - 20).toNat (by omega)
            rw [hA.1, show (10 * (b : Int) + x - 20).toNat = 10 * b + (x - 20).toNat by omega] at e12
            rw [← e12] at nb
            rcases h with ⟨c6, hz⟩ | ⟨c6, hz⟩
            · have := nb.mp c6
              omega
            · have : T 10 (x - 20).toNat = 0 := by
                by_cases g : T 10 (x - 20).toNat = 0
                · exact g
                · exact absurd (nb.mpr g) c6
              omega
    · have m14 := M_isPlace hI hA h14
      omega
  · have m17 := M_isPerson hI hA h17
    omega
theorem M_whole3 {f : Nat → Int} {N b P K : Nat} {A T : St} {z : Int} (hI : IM A) (hA : ACT b A T) (hK : T 1 2 = (K : Int)) (hN1 : 1 ≤ N) (hf : ∀ k, k < N → A 1 k = f k) (h0 : ∀ k, 0 ≤ f k ∧ f k ≤ 255) : ∀ (nn k : Nat), k ≤ K → (∀ k', k' < k → keyOk T f N (ps f N P k')) → d_X12_isWhole_3 (N : Int) A z nn (k : Int) ((ps f N P k : Nat) : Int) → (z = 1 ∧ (∀ k', k' < K → keyOk T f N (ps f N P k')) ∧ N = ps f N P K + 1) ∨ (z = 0 ∧ ¬ ((∀ k', k' < K → keyOk T f N (ps f N P k')) ∧ N = ps f N P K + 1)) := by
  intro nn
  induction nn with
  | zero => intro k _ _ h; exact h.elim
  | succ nn ih =>
    intro k hk ok h
    obtain ⟨_, _, z38, e38, h⟩ := (h : tr_d_X12_isWhole_3 (N : Int) A z (fun z26 z27 => d_X12_isWhole_3 (N : Int) A z nn z26 z27) (k : Int) ((ps f N P k : Nat) : Int))
    rw [hA.1, Int.toNat_natCast, hA.cnt.2.2.1, hK] at e38
    have nx : ps f N P (k + 1) = ps f N P k + 2 + (tp f N (ps f N P k + 1)).toNat := rfl
    rcases h with ⟨c, h⟩ | ⟨c, h⟩
    · have e : k = K := by omega
      subst e
      rcases h with ⟨c2, hz⟩ | ⟨c2, hz⟩
      · exact Or.inr ⟨hz, fun g => c2 (by omega)⟩
      · exact Or.inl ⟨hz, ok, by omega⟩
    · have mono := ps_ge (f := f) (N := N) (P := P) (k + 1) (K - (k + 1))
      rw [show k + 1 + (K - (k + 1)) = K by omega] at mono
      rcases h with ⟨c2, hz⟩ | ⟨c2, z42, e42, z43, h43, h⟩
      · exact Or.inr ⟨hz, fun g => by omega⟩
      rw [Int.toNat_natCast, hf _ (by omega), ← tp_in (f := f) (N := N) (show ps f N P k < N by omega)] at e42
      have m43 := M_mayBe hI hA h43
      rw [e42] at m43
      rcases h with ⟨c3, hz⟩ | ⟨c3, z47, e47, h⟩
      · exact Or.inr ⟨hz, fun g => by have := m43.1.mpr (g.1 k (by omega)).1; omega⟩
      have n1 : (((ps f N P k : Nat) : Int) + 1).toNat = ps f N P k + 1 := by omega
      have t1 := tp_in (f := f) (N := N) (show ps f N P k + 1 < N by omega)
      have b1 := h0 (ps f N P k + 1)
      rw [n1, hf _ (by omega), ← t1] at e47
      rcases h with ⟨c4, z49, e49, h⟩ | ⟨c4, hz⟩
      case inr => exact Or.inr ⟨hz, fun g => by have := (g.1 k (by omega)).2.1; omega⟩
      rw [n1, hf _ (by omega), ← t1] at e49
      rcases h with ⟨c5, hz⟩ | ⟨c5, z51, h51, h⟩
      · exact Or.inr ⟨hz, fun g => by omega⟩
      obtain ⟨m, em⟩ : ∃ m : Nat, z49 = (m : Int) := ⟨z49.toNat, by omega⟩
      have em2 : (tp f N (ps f N P k + 1)).toNat = m := by omega
      obtain ⟨n5, h51⟩ := (h51.1 : tr_r_X12_isRowAt (((ps f N P k : Nat) : Int) + 2) z49 A z51)
      rw [show ((ps f N P k : Nat) : Int) + 2 = ((ps f N P k + 2 : Nat) : Int) by omega, em] at h51
      have mr := M_rowAtL hI hA (by omega) hf n5 0 (Nat.zero_le m) ⟨fun i g => absurd g (Nat.not_lt_zero i), fun i j _ g => absurd g (Nat.not_lt_zero j)⟩ h51
      rcases h with ⟨c6, h⟩ | ⟨c6, hz⟩
      · rcases mr with ⟨_, ro⟩ | ⟨g, _⟩
        · rw [show ((ps f N P k : Nat) : Int) + z49 + 2 = ((ps f N P (k + 1) : Nat) : Int) by omega] at h
          refine ih (k + 1) (by omega) (fun k' g => ?_) (by rw [show ((k + 1 : Nat) : Int) = (k : Int) + 1 by omega]; exact h)
          by_cases e : k' = k
          · subst e
            exact ⟨m43.1.mp (by omega), by omega, by rw [em2]; exact ro⟩
          · exact ok k' (by omega)
        · omega
      · rcases mr with ⟨g, _⟩ | ⟨_, ro⟩
        · omega
        · refine Or.inr ⟨hz, fun g => ro ?_⟩
          have := (g.1 k (by omega)).2.2
          rw [em2] at this
          exact this
theorem M_whole2 {f : Nat → Int} {N b P K : Nat} {A T : St} {z : Int} (hI : IM A) (hA : ACT b A T) (hP : T 1 3 = (P : Int)) (hK : T 1 2 = (K : Int)) (hN1 : 1 ≤ N) (hf : ∀ k, k < N → A 1 k = f k) (h0 : ∀ k, 0 ≤ f k ∧ f k ≤ 255) : ∀ (nn p : Nat), p ≤ P → (∀ p', p' < p → 0 ≤ tp f N p' ∧ tp f N p' < T 1 0) → d_X12_isWhole_2 (N : Int) (P : Int) A z nn (p : Int) → (z = 1 ∧ (∀ p', p' < P → 0 ≤ tp f N p' ∧ tp f N p' < T 1 0) ∧ (∀ k', k' < K → keyOk T f N (ps f N P k')) ∧ N = ps f N P K + 1) ∨ (z = 0 ∧ ¬ ((∀ p', p' < P → 0 ≤ tp f N p' ∧ tp f N p' < T 1 0) ∧ (∀ k', k' < K → keyOk T f N (ps f N P k')) ∧ N = ps f N P K + 1)) := by
  intro nn
  induction nn with
  | zero => intro p _ _ h; exact h.elim
  | succ nn ih =>
    intro p hp ok h
    obtain ⟨_, z24, e24, h⟩ := (h : tr_d_X12_isWhole_2 (N : Int) (P : Int) A z (fun z15 => d_X12_isWhole_2 (N : Int) (P : Int) A z nn z15) (p : Int))
    rw [hA.1, Int.toNat_natCast, hA.cnt.2.2.2, hP] at e24
    rcases h with ⟨c, n3, h⟩ | ⟨c, h⟩
    · have e : p = P := by omega
      subst e
      rcases M_whole3 (P := p) hI hA hK hN1 hf h0 n3 0 (Nat.zero_le K) (fun k' g => absurd g (Nat.not_lt_zero k')) h with ⟨hz, g1, g2⟩ | ⟨hz, g⟩
      · exact Or.inl ⟨hz, ok, g1, g2⟩
      · exact Or.inr ⟨hz, fun x => g x.2⟩
    · have mono := ps_ge (f := f) (N := N) (P := P) 0 K
      rw [Nat.zero_add] at mono
      have e0 : ps f N P 0 = P := rfl
      rcases h with ⟨c2, hz⟩ | ⟨c2, z56, e56, z57, h57, h⟩
      · exact Or.inr ⟨hz, fun g => by have := g.2.2; omega⟩
      rw [Int.toNat_natCast, hf _ (by omega), ← tp_in (f := f) (N := N) (show p < N by omega)] at e56
      have m := M_isPlace hI hA h57
      rcases h with ⟨c3, h⟩ | ⟨c3, hz⟩
      · refine ih (p + 1) (by omega) (fun p' g => ?_) (by rw [show ((p + 1 : Nat) : Int) = (p : Int) + 1 by omega]; exact h)
        by_cases e : p' = p
        · rw [e, ← e56]
          omega
        · exact ok p' (by omega)
      · refine Or.inr ⟨hz, fun g => ?_⟩
        have := g.1 p (by omega)
        rw [← e56] at this
        omega
theorem M_whole1 {f : Nat → Int} {N b P K : Nat} {A T : St} {z : Int} (hI : IM A) (hA : ACT b A T) (hP : T 1 3 = (P : Int)) (hK : T 1 2 = (K : Int)) (hN1 : 1 ≤ N) (hf : ∀ k, k < N → A 1 k = f k) (h0 : ∀ k, 0 ≤ f k ∧ f k ≤ 255) : ∀ (nn k : Nat) (v : Int), k ≤ N - 1 → v = sm f N k → d_X12_isWhole_1 (N : Int) A z nn (k : Int) v → (z = 1 ∧ whole T f N) ∨ (z = 0 ∧ ¬ whole T f N) := by
  have eP : (T 1 3).toNat = P := by rw [hP]; exact Int.toNat_natCast P
  have eK : (T 1 2).toNat = K := by rw [hK]; exact Int.toNat_natCast K
  intro nn
  induction nn with
  | zero => intro k v _ _ h; exact h.elim
  | succ nn ih =>
    intro k v hk hv h
    obtain ⟨_, _, h⟩ := (h : tr_d_X12_isWhole_1 (N : Int) A z (fun z2 z3 => d_X12_isWhole_1 (N : Int) A z nn z2 z3) (k : Int) v)
    rcases h with ⟨c, z12, e12, h⟩ | ⟨c, z61, e61, z62, e62, h⟩
    · have e : k = N - 1 := by omega
      rw [show ((N : Int) - 1).toNat = N - 1 by (first | omega | (clear h; omega) | (clear h1; omega) | (clear h2; omega) | (clear h h1; omega) | (clear h h2; omega) | (clear h1 h2; omega) | (clear h h1 h2; omega)), hf _ (by omega), ← tp_in (f := f) (N := N) (show N - 1 < N by omega)] at e12
      rw [e] at hv
      rcases h with ⟨c2, z14, e14, n2, h⟩ | ⟨c2, hz⟩
      · rw [hA.1, Int.toNat_natCast, hA.cnt.2.2.2, hP] at e14
        rw [e14] at h
        rcases M_whole2 (K := K) hI hA hP hK hN1 hf h0 n2 0 (Nat.zero_le P) (fun p' g => absurd g (Nat.not_lt_zero p')) h with ⟨hz, g1, g2, g3⟩ | ⟨hz, g⟩
        · refine Or.inl ⟨hz, fun p hp => g1 p (by omega), fun k' hk' => ?_, ?_, ?_⟩
          · rw [eP]; exact g2 k' (by omega)
          · rw [eP, eK]; exact g3
          · rw [← e12, c2, hv]
        · refine Or.inr ⟨hz, fun x => g ⟨fun p' hp' => x.1 p' (by omega), fun k' hk' => ?_, ?_⟩⟩
          · have := x.2.1 k' (by omega)
            rw [eP] at this
            exact this
          · have := x.2.2.1
            rw [eP, eK] at this
            exact this
      · refine Or.inr ⟨hz, fun x => c2 ?_⟩
        rw [e12, hv]
        exact x.2.2.2
    · rw [Int.toNat_natCast, hf _ (by omega), ← tp_in (f := f) (N := N) (show k < N by omega)] at e61
      refine ih (k + 1) z62 (by omega) ?_ (by rw [show ((k + 1 : Nat) : Int) = (k : Int) + 1 by omega]; exact h)
      show z62 = (3 * sm f N k + tp f N k) % 233
      rw [e62, hv, e61]
theorem M_isWhole {f : Nat → Int} {N b : Nat} {A T : St} {z : Int} (hI : IM A) (hA : ACT b A T) (h3 : 0 ≤ T 1 3) (h2 : 0 ≤ T 1 2) (hf : ∀ k, k < N → A 1 k = f k) (h0 : ∀ k, 0 ≤ f k ∧ f k ≤ 255) (h : q_X12_isWhole (N : Int) A z) : (z = 1 ∧ whole T f N) ∨ (z = 0 ∧ ¬ whole T f N) := by
  rcases (h.1 : tr_r_X12_isWhole (N : Int) A z) with ⟨c, nn, h⟩ | ⟨c, hz⟩
  · exact M_whole1 (P := (T 1 3).toNat) (K := (T 1 2).toNat) hI hA (by omega) (by omega) (by omega) hf h0 nn 0 19 (Nat.zero_le _) rfl h
  · refine Or.inr ⟨hz, fun g => ?_⟩
    have := g.2.2.1
    omega
/-- what the reference then has -/
def FIM (f : Nat → Int) (N b P K : Nat) (u : St) : Prop := (∀ p, p < P → u 18 (3 * b + p) = f p) ∧ ∀ k, k < K → u 13 (4 * b + k) = f (ps f N P k) ∧ u 14 (4 * b + k) = f (ps f N P k + 1) ∧ ∀ i : Nat, (i : Int) < f (ps f N P k + 1) → u 15 (40 * b + 10 * k + i) = f (ps f N P k + 2 + i)
theorem M_on3 {f : Nat → Int} {N b k a m : Nat} {A u : St} {z : Int} {K2 : Int → Int → St → Prop} (hb : A 0 12 = (b : Int)) (hf : ∀ k, k < N → A 1 k = f k) (ham : a + 2 + m < N) (hm : f (a + 1) = (m : Int)) : ∀ (nn i : Nat) (C : St), i ≤ m → C 1 = A 1 → d_X12_on_3 K2 (k : Int) (a : Int) A z u nn (i : Int) C → ∃ D, K2 ((k : Int) + 1) ((a + 2 + m : Nat) : Int) D ∧ (∀ j, j ≠ 15 → D j = C j) ∧ (∀ i', (i' < 40 * b + 10 * k + i ∨ 40 * b + 10 * k + m ≤ i') → D 15 i' = C 15 i') ∧ ∀ i', i ≤ i' → i' < m → D 15 (40 * b + 10 * k + i') = f (a + 2 + i') := by
  have n1 : ((a : Int) + 1).toNat = a + 1 := by omega
  intro nn
  induction nn with
  | zero => intro i C _ _ h; exact h.elim
  | succ nn ih =>
    intro i C hi h1 h
    obtain ⟨_, _, z57, e57, h⟩ := (h : tr_d_X12_on_3 K2 (k : Int) (a : Int) A z u (fun z47 A49 => d_X12_on_3 K2 (k : Int) (a : Int) A z u nn z47 A49) (i : Int) C)
    rw [n1, h1, hf _ (by omega), hm] at e57
    rcases h with ⟨c, z59, e59, h⟩ | ⟨c, _, _, z63, e63, A64, e64, h⟩
    · rw [n1, h1, hf _ (by omega), hm] at e59
      rw [e59, show (a : Int) + (m : Int) + 2 = ((a + 2 + m : Nat) : Int) by omega] at h
      exact ⟨C, h, fun _ _ => rfl, fun _ _ => rfl, fun i' g1 g2 => by omega⟩
    · rw [show ((a : Int) + (i : Int) + 2).toNat = a + 2 + i by omega, h1, hf _ (by omega)] at e63
      rw [hb, show (40 * (b : Int) + 10 * (k : Int) + (i : Int)).toNat = 40 * b + 10 * k + i by omega] at e64
      obtain ⟨D, g1, g2, g3, g4⟩ := ih (i + 1) A64 (by omega) (by rw [e64, stA_ne _ _ (by decide)]; exact h1) (by rw [show ((i + 1 : Nat) : Int) = (i : Int) + 1 by omega]; exact h)
      have r15 : A64 15 = up (C 15) (40 * b + 10 * k + i) z63 := by rw [e64, stA_same]
      refine ⟨D, g1, fun j hj => by rw [g2 j hj, e64, stA_ne _ _ hj], fun i' g => ?_, fun i' x1 x2 => ?_⟩
      · rw [g3 i' (by omega), r15, up_ne _ _ (by omega)]
      · by_cases e : i' = i
        · subst e
          rw [g3 _ (by omega), r15, up_same, e63]
        · exact g4 i' (by omega) x2
theorem M_on2 {f : Nat → Int} {N b P K : Nat} {A u : St} {z : Int} (hb : A 0 12 = (b : Int)) (h11 : A 11 b = (K : Int)) (hf : ∀ k, k < N → A 1 k = f k) (ok : ∀ k, k < K → ps f N P k + 2 + (tp f N (ps f N P k + 1)).toNat < N ∧ 0 ≤ f (ps f N P k + 1) ∧ f (ps f N P k + 1) ≤ 6) : ∀ (nn k : Nat) (C : St), k ≤ K → C 1 = A 1 → C 11 = A 11 → (∀ k', k' < k → C 13 (4 * b + k') = f (ps f N P k') ∧ C 14 (4 * b + k') = f (ps f N P k' + 1) ∧ ∀ i : Nat, (i : Int) < f (ps f N P k' + 1) → C 15 (40 * b + 10 * k' + i) = f (ps f N P k' + 2 + i)) → d_X12_on_2 A z u nn (k : Int) ((ps f N P k : Nat) : Int) C → z = 1 ∧ u 18 = C 18 ∧ ∀ k', k' < K → u 13 (4 * b + k') = f (ps f N P k') ∧ u 14 (4 * b + k') = f (ps f N P k' + 1) ∧ ∀ i : Nat, (i : Int) < f (ps f N P k' + 1) → u 15 (40 * b + 10 * k' + i) = f (ps f N P k' + 2 + i) := by
  intro nn
  induction nn with
  | zero => intro k C _ _ _ _ h; exact h.elim
  | succ nn ih =>
    intro k C hk c1 c11 hd h
    obtain ⟨_, _, _, z35, e35, h⟩ := (h : tr_d_X12_on_2 A z u (fun z22 z23 A25 => d_X12_on_2 A z u nn z22 z23 A25) (k : Int) ((ps f N P k : Nat) : Int) C)
    rw [hb, Int.toNat_natCast, c11, h11] at e35
    rcases h with ⟨c, hz, hu⟩ | ⟨c, _, _, z40, e40, A41, e41, _, _, z45, e45, A46, e46, n3, h⟩
    · rw [hu]
      exact ⟨hz, rfl, fun k' g => hd k' (by omega)⟩
    · have hkK : k < K := by omega
      obtain ⟨o1, o2, o3⟩ := ok k hkK
      have t1 := tp_in (f := f) (N := N) (show ps f N P k + 1 < N by omega)
      rw [t1] at o1
      have n4 : (4 * (b : Int) + (k : Int)).toNat = 4 * b + k := by omega
      rw [Int.toNat_natCast, c1, hf _ (by omega)] at e40
      rw [hb, n4] at e41 e46
      have a1 : A41 1 = A 1 := by rw [e41, stA_ne _ _ (by decide)]; exact c1
      rw [show (((ps f N P k : Nat) : Int) + 1).toNat = ps f N P k + 1 by omega, a1, hf _ (by omega)] at e45
      have b1 : A46 1 = A 1 := by rw [e46, stA_ne _ _ (by decide)]; exact a1
      obtain ⟨m, em⟩ : ∃ m : Nat, f (ps f N P k + 1) = (m : Int) := ⟨(f (ps f N P k + 1)).toNat, by omega⟩
      obtain ⟨D, g1, g2, g3, g4⟩ := M_on3 hb hf (show ps f N P k + 2 + m < N by omega) em n3 0 A46 (Nat.zero_le m) b1 h
      have nx : ps f N P (k + 1) = ps f N P k + 2 + m := by
        show ps f N P k + 2 + (tp f N (ps f N P k + 1)).toNat = _
        rw [t1, em, Int.toNat_natCast]
      rw [← nx] at g1
      have r13 : A46 13 = up (C 13) (4 * b + k) z40 := by rw [e46, stA_ne _ _ (by decide), e41, stA_same]
      have r14 : A46 14 = up (C 14) (4 * b + k) z45 := by rw [e46, stA_same, e41, stA_ne _ _ (by decide)]
      have r15 : A46 15 = C 15 := by rw [e46, stA_ne _ _ (by decide), e41, stA_ne _ _ (by decide)]
      have r18 : A46 18 = C 18 := by rw [e46, stA_ne _ _ (by decide), e41, stA_ne _ _ (by decide)]
      have r11 : A46 11 = A 11 := by rw [e46, stA_ne _ _ (by decide), e41, stA_ne _ _ (by decide)]; exact c11
      have q := ih (k + 1) D (by omega) ((g2 1 (by decide)).trans b1) ((g2 11 (by decide)).trans r11) (fun k' g => ?_) (by rw [show ((k + 1 : Nat) : Int) = (k : Int) + 1 by omega]; exact g1)
      · refine ⟨q.1, ?_, q.2.2⟩
        rw [q.2.1, g2 18 (by decide), r18]
      · rw [g2 13 (by decide), g2 14 (by decide), r13, r14]
        by_cases e : k' = k
        · subst e
          rw [up_same, up_same]
          exact ⟨e40, e45, fun i hi => g4 i (Nat.zero_le i) (by omega)⟩
        · obtain ⟨d1, d2, d3⟩ := hd k' (by omega)
          obtain ⟨_, _, o6⟩ := ok k' (by omega)
          rw [up_ne _ _ (by omega), up_ne _ _ (by omega)]
          refine ⟨d1, d2, fun i hi => ?_⟩
          rw [g3 _ (by omega), r15]
          exact d3 i hi
theorem M_on1 {f : Nat → Int} {N b P K : Nat} {A u : St} {z : Int} (hb : A 0 12 = (b : Int)) (h16 : A 16 b = (P : Int)) (h11 : A 11 b = (K : Int)) (hP : P < N) (hf : ∀ k, k < N → A 1 k = f k) (ok : ∀ k, k < K → ps f N P k + 2 + (tp f N (ps f N P k + 1)).toNat < N ∧ 0 ≤ f (ps f N P k + 1) ∧ f (ps f N P k + 1) ≤ 6) : ∀ (nn p : Nat) (C : St), p ≤ P → C 1 = A 1 → C 11 = A 11 → C 16 = A 16 → (∀ p', p' < p → C 18 (3 * b + p') = f p') → d_X12_on_1 A z u nn (p : Int) C → z = 1 ∧ FIM f N b P K u := by
  intro nn
  induction nn with
  | zero => intro p C _ _ _ _ _ h; exact h.elim
  | succ nn ih =>
    intro p C hp c1 c11 c16 hd h
    obtain ⟨_, _, z19, e19, h⟩ := (h : tr_d_X12_on_1 A z u (fun z9 A11 => d_X12_on_1 A z u nn z9 A11) (p : Int) C)
    rw [hb, Int.toNat_natCast, c16, h16] at e19
    rcases h with ⟨c, z21, e21, n2, h⟩ | ⟨c, z65, e65, A66, e66, h⟩
    · rw [hb, Int.toNat_natCast, c16, h16] at e21
      rw [e21] at h
      obtain ⟨q1, q2, q3⟩ := M_on2 (P := P) hb h11 hf ok n2 0 C (Nat.zero_le K) c1 c11 (fun k' g => absurd g (Nat.not_lt_zero k')) h
      exact ⟨q1, fun p' g => by rw [q2]; exact hd p' (by omega), q3⟩
    · rw [Int.toNat_natCast, c1, hf _ (by omega)] at e65
      rw [hb, show (3 * (b : Int) + (p : Int)).toNat = 3 * b + p by omega] at e66
      refine ih (p + 1) A66 (by omega) (by rw [e66, stA_ne _ _ (by decide)]; exact c1) (by rw [e66, stA_ne _ _ (by decide)]; exact c11) (by rw [e66, stA_ne _ _ (by decide)]; exact c16) (fun p' g => ?_) (by rw [show ((p + 1 : Nat) : Int) = (p : Int) + 1 by omega]; exact h)
      rw [e66, stA_same]
      by_cases e : p' = p
      · rw [e, up_same, e65]
      · rw [up_ne _ _ (by omega)]
        exact hd p' (by omega)
/-! An image that is read in: both alike. -/
theorem on_act {z1 z2 : Int} {B A u1 u2 : St} (hIK : IK B) (hIM : IM A) (he : B 1 1 = A 0 1) (hT : TB B A) (hp : PSs B A) (ha : ACS B A) (h1 : r_X11_on B z1 u1) (hf1 : fk [33, 34, 35, 37, 38, 39, 40, 42, 43, 44, 46, 47, 48, 49, 50, 74, 75, 76, 78, 79, 80, 81, 105, 106, 107, 109, 110, 111, 112] [(1, 1)] B u1) (h2 : q_X12_on A z2 u2) : z1 = z2 ∧ ACS u1 u2 := by
  have hTt := tB hIK
  have hA := ha.act hIM hp
  have l := hA.lim hIM
  have f9 : u1 0 9 = B 0 9 := hf1 0 9 rfl rfl
  have mb := MBc.fr hTt ha.2 hf1 rfl rfl h2.2.2.1 rfl
  have rows := tw_rows hTt hf1 [1, 8, 9, 10, 11] rfl rfl
  have fr2 := h2.2.2.1
  obtain ⟨b, hb⟩ : ∃ b : Nat, (A 0 12).toNat = b := ⟨_, rfl⟩
  obtain ⟨t, ht⟩ : ∃ t : Nat, t = 51 + 31 * (B 0 9).toNat := ⟨_, rfl⟩
  unfold ACS
  rw [f9, fr2.2 12 rfl]
  rw [hb] at hA mb ⊢
  rw [← ht] at hA l mb rows hTt ⊢
  have t51 : t = 51 ∨ t = 82 := hTt
  have hv := hA.2.2.2.2
  have l0 : B (t + 1) 0 ≤ 8 := l.1
  have l1 : B (t + 1) 1 ≤ 10 := l.2.1
  have l2 : B (t + 1) 2 ≤ 4 := l.2.2.1
  have l3 : B (t + 1) 3 ≤ 3 := l.2.2.2
  have p3 : 0 ≤ B (t + 1) 3 := hv.1.2.2.2.1
  have p2 : 0 ≤ B (t + 1) 2 := hv.1.2.2.1
  have r01 : (0 : Int) ≤ A 0 1 ∧ A 0 1 ≤ 1600 := hIM 0 1
  obtain ⟨N, hN⟩ : ∃ N : Nat, A 0 1 = (N : Int) := ⟨(A 0 1).toNat, by omega⟩
  obtain ⟨P, hP⟩ : ∃ P : Nat, B (t + 1) 3 = (P : Int) := ⟨(B (t + 1) 3).toNat, by omega⟩
  obtain ⟨K, hK⟩ : ∃ K : Nat, B (t + 1) 2 = (K : Int) := ⟨(B (t + 1) 2).toNat, by omega⟩
  have h0 : ∀ k, 0 ≤ (fun k => B 2 k % 256) k ∧ (fun k => B 2 k % 256) k ≤ 255 := fun k => by
    show 0 ≤ B 2 k % 256 ∧ B 2 k % 256 ≤ 255
    omega
  obtain ⟨f, hfd⟩ : ∃ f : Nat → Int, f = fun k => B 2 k % 256 := ⟨_, rfl⟩
  rw [← hfd] at h0
  have hfK : ∀ k, k < N → f k = B 2 k % 256 := fun k _ => by rw [hfd]
  have hfM : ∀ k, k < N → A 1 k = f k := fun k hk => by rw [hfd]; exact hT k (by omega)
  obtain ⟨t2, ht2, z3, A4, hac, A7, e7, h1⟩ := (h1 : tr_r_X11_on B z1 u1)
  rw [← ht] at ht2
  subst ht2
  have ka := K_accept hTt hP hK (by omega) (by omega) l0 (by rw [he, hN]) (by omega) h0 hfK hac
  obtain ⟨A1, e1, y2, hw, h2⟩ := (h2.1 : tr_r_X12_on A z2 u2)
  have ne : ∀ j, j ≠ 0 → A1 j = A j := fun j hj => by rw [e1, stA_ne _ _ hj]
  have hI1 : IM A1 := by
    rw [e1]
    exact hIM.st (show (0 : Int) ≤ 0 ∧ (0 : Int) ≤ 1600 from ⟨by decide, by decide⟩)
  have b1 : A1 0 12 = (b : Int) := by rw [e1]; exact hA.1
  have hA1 : ACT b A1 (tw t2 B) := by
    refine ⟨b1, MRs.cg hA.2.1 (fun j hj => ne j ?_) (fun _ _ => rfl) rfl, hA.2.2.cg l2 sT.rf ⟨ne 13 (by decide), ne 14 (by decide), ne 15 (by decide), ne 18 (by decide)⟩⟩
    intro e0
    subst e0
    exact absurd hj (by decide)
  rw [hN] at hw
  have mw := M_isWhole hI1 hA1 p3 p2 (fun k hk => by rw [ne 1 (by decide)]; exact hfM k hk) h0 hw
  have end1 : z1 = z3 ∧ ∀ j, 51 ≤ j → u1 j = A4 j := by
    rcases h1 with ⟨_, hz, hu⟩ | ⟨_, z10, A11, hr, hz, hu⟩
    · exact ⟨hz, fun j hj => by rw [hu, e7, stA_ne _ _ (by omega)]⟩
    · refine ⟨hz, fun j hj => ?_⟩
      funext k
      have n50 : ([50] : List Nat).contains j = false := by
        cases hc : ([50] : List Nat).contains j with
        | false => rfl
        | true =>
          have := List.contains_iff_mem.mp hc
          simp at this
          omega
      rw [hu, hr.2.2.1 j k n50 rfl, e7, stA_ne _ _ (by omega)]
  rcases mw with ⟨yz, wh⟩ | ⟨yz, nw⟩
  · rcases ka with ⟨zz, _, fin⟩ | ⟨_, nw, _⟩
    case inr => exact absurd wh nw
    rcases h2 with ⟨_, nn, h2⟩ | ⟨c, -⟩
    case inr => omega
    have eP : (tw t2 B 1 3).toNat = P := by show (B (t2 + 1) 3).toNat = P; omega
    have eK : (tw t2 B 1 2).toNat = K := by show (B (t2 + 1) 2).toNat = K; omega
    obtain ⟨w1, w2, w3, w4⟩ := wh
    rw [eP] at w2
    rw [eP, eK] at w3
    have geP := ps_ge (f := f) (N := N) (P := P) 0 K
    rw [Nat.zero_add] at geP
    have eP0 : ps f N P 0 = P := rfl
    have kOk : ∀ k, k < K → keyOk (tw t2 B) f N (ps f N P k) := fun k hk => w2 k (by show (k : Int) < B (t2 + 1) 2; omega)
    have ok : ∀ k, k < K → ps f N P k + 2 + (tp f N (ps f N P k + 1)).toNat < N ∧ 0 ≤ f (ps f N P k + 1) ∧ f (ps f N P k + 1) ≤ 6 := by
      intro k hk
      have nx : ps f N P (k + 1) = ps f N P k + 2 + (tp f N (ps f N P k + 1)).toNat := rfl
      have mono := ps_ge (f := f) (N := N) (P := P) (k + 1) (K - (k + 1))
      rw [show k + 1 + (K - (k + 1)) = K by omega] at mono
      have b6 := (kOk k hk).2.1
      have t1 := tp_in (f := f) (N := N) (show ps f N P k + 1 < N by omega)
      rw [t1] at b6
      exact ⟨by omega, b6⟩
    have cn := hA1.cnt
    have mo := M_on1 (f := f) (N := N) (P := P) (K := K) (A := A) (u := u2) (z := z2) hA.1 (hA.cnt.2.2.2.trans hP) (hA.cnt.2.2.1.trans hK) (by omega) hfM ok nn 0 A1 (Nat.zero_le P) (ne 1 (by decide)) (ne 11 (by decide)) (ne 16 (by decide)) (fun p' g => absurd g (Nat.not_lt_zero p')) h2
    obtain ⟨z21, m18, mK⟩ := mo
    obtain ⟨f1, f2, f3, f4⟩ := fin
    refine ⟨by rw [end1.1, zz, z21], ?_, mb⟩
    have q1 : tw t2 u1 1 = tw t2 B 1 := rows 1 rfl
    have q8 : tw t2 u1 8 = tw t2 B 8 := rows 8 rfl
    have q9 : tw t2 u1 9 = tw t2 B 9 := rows 9 rfl
    have q10 : tw t2 u1 10 = tw t2 B 10 := rows 10 rfl
    have q11 : tw t2 u1 11 = tw t2 B 11 := rows 11 rfl
    have d23 : ∀ p, p < P → tw t2 u1 23 p = tp f N p := fun p hp2 => by
      show u1 (t2 + 23) p = _
      rw [end1.2 _ (by omega)]
      exact f2 p hp2
    have d24 : ∀ k, k < K → tw t2 u1 24 k = tp f N (ps f N P k) := fun k hk => by
      show u1 (t2 + 24) k = _
      rw [end1.2 _ (by omega)]
      exact (f3 k hk).1
    have d25 : ∀ k, k < K → tw t2 u1 25 k = tp f N (ps f N P k + 1) := fun k hk => by
      show u1 (t2 + 25) k = _
      rw [end1.2 _ (by omega)]
      exact (f3 k hk).2.1
    have d27 : ∀ k, k < K → ∀ i : Nat, (i : Int) < tp f N (ps f N P k + 1) → tw t2 u1 (27 + k) i = tp f N (ps f N P k + 2 + i) := fun k hk i hi => by
      show u1 (t2 + (27 + k)) i = _
      rw [end1.2 _ (by omega)]
      exact (f3 k hk).2.2 i hi
    have d25z : ∀ k, K ≤ k → k < 4 → tw t2 u1 25 k = 0 := fun k g1 g2 => by
      show u1 (t2 + 25) k = 0
      rw [end1.2 _ (by omega), f4 k g1 g2]
      exact hv.2.2.2.2.1 k g2 (by show B (t2 + 1) 2 ≤ (k : Int); omega)
    have pin : ∀ k, k < K → ps f N P k < N := fun k hk => by have := (ok k hk).1; omega
    have G : GR (tw t2 B) (tw t2 u1) := by
      refine ⟨?_, fun k _ => ?_⟩
      · rw [q1]
        exact ⟨Int.le_refl _, Int.le_refl _, Int.le_refl _, Int.le_refl _, Int.le_refl _⟩
      · rw [q8, q9, q10]
        exact ⟨rfl, rfl, rfl⟩
    have c3 : tw t2 B 1 3 = (P : Int) := hP
    have c2 : tw t2 B 1 2 = (K : Int) := hK
    have vt : VT (tw t2 u1) := by
      refine ⟨by rw [q1]; exact hv.1, fun k hk => ?_, fun p hp2 => ?_, fun k hk => ?_, fun k hk g => ?_, fun k hk => ?_⟩
      · rw [q1] at hk
        exact (hv.2.1 k hk).gr hk G
      · rw [q1] at hp2
        rw [q1, d23 p (by omega)]
        exact w1 p hp2
      · rw [q1, c2] at hk
        have hk : k < K := by omega
        obtain ⟨y1, y2, y3, y4⟩ := kOk k hk
        unfold KV
        rw [d24 k hk, d25 k hk, q1]
        refine ⟨y2, fun i hi => ?_, fun i j hij hj => ?_, y1.gr G⟩
        · rw [d27 k hk i hi]
          exact y3 i (by omega)
        · rw [d27 k hk i (by omega), d27 k hk j hj]
          exact y4 i j hij (by omega)
      · rw [q1, c2] at g
        exact d25z k (by omega) hk
      · rw [q1] at hk
        rw [q11]
        exact (hv.2.2.2.2.2 k hk).gr G
    refine ⟨⟨fun k hk => ?_, fun k hk g => ?_⟩, fun p hp2 => ?_, vt⟩
    · rw [q1, c2] at hk
      have hk : k < K := by omega
      obtain ⟨x1, x2, x3⟩ := mK k hk
      have o := ok k hk
      have t0 := tp_in (f := f) (N := N) (pin k hk)
      have t1 := tp_in (f := f) (N := N) (show ps f N P k + 1 < N by omega)
      rw [d24 k hk, d25 k hk, t0, t1]
      refine ⟨x1, x2, fun i hi => ?_⟩
      rw [d27 k hk i (by rw [t1]; exact hi), tp_in (f := f) (N := N) (show ps f N P k + 2 + i < N by rw [t1] at o; omega)]
      exact x3 i hi
    · rw [q1, c2] at g
      exact d25z k (by omega) hk
    · rw [q1, c3] at hp2
      have hp3 : p < P := by omega
      rw [d23 p hp3, tp_in (f := f) (N := N) (show p < N by omega)]
      exact m18 p hp3
  · rcases ka with ⟨_, wh, _⟩ | ⟨zz, _, up⟩
    · exact absurd wh nw
    rcases h2 with ⟨c, -⟩ | ⟨_, y67, A68, hr2, hz2, hu2⟩
    · omega
    refine ⟨by rw [end1.1, zz, hz2], ?_, mb⟩
    have keepM : sM A u2 := by
      rw [hu2]
      refine sM.trans ⟨ne 13 (by decide), ne 14 (by decide), ne 15 (by decide), ne 18 (by decide)⟩ (sM.fr hr2.2.2.1 rfl rfl rfl rfl)
    refine hA.2.2.cg l2 (fun j hj => ?_) keepM
    funext k
    show u1 (t2 + j) k = B (t2 + j) k
    rw [end1.2 _ (by omega), up _ (by omega)]
/-! A told row, act by act. -/
theorem key_first {t b p d : Nat} {B A : St} {z1 z2 : Int} (hI : IM A) (h : ACT b A (tw t B)) (hp : (p : Int) < B (t + 1) 3) : ∀ (n1 n2 k : Nat), d_X9_shuttingKey_1 t (p : Int) (d : Int) B z1 n1 (k : Int) → d_X12_firstKey_1 (p : Int) (d : Int) A z2 n2 (k : Int) → z1 = z2 ∧ (z1 = -1 ∨ (0 ≤ z1 ∧ z1 < B (t + 1) 2)) := by
  have l2 : B (t + 1) 2 ≤ 4 := (h.lim hI).2.2.1
  have hv := h.2.2.2.2
  intro n1
  induction n1 with
  | zero => intro n2 k h1 _; exact h1.elim
  | succ n1 ih =>
    intro n2 k h1 h2
    cases n2 with
    | zero => exact h2.elim
    | succ n2 =>
      obtain ⟨_, z8, e8, h1⟩ := (h1 : tr_d_X9_shuttingKey_1 t (p : Int) (d : Int) B z1 (fun z => d_X9_shuttingKey_1 t (p : Int) (d : Int) B z1 n1 z) (k : Int))
      obtain ⟨_, z9, e9, h2⟩ := (h2 : tr_d_X12_firstKey_1 (p : Int) (d : Int) A z2 (fun z => d_X12_firstKey_1 (p : Int) (d : Int) A z2 n2 z) (k : Int))
      have e8 : z8 = B (t + 1) 2 := e8
      have e9 : z9 = B (t + 1) 2 := by
        rw [h.1, Int.toNat_natCast, h.cnt.2.2.1] at e9
        exact e9
      rcases h1 with ⟨c, hz⟩ | ⟨c, z10, h10, h1⟩
      · rcases h2 with ⟨_, hz2⟩ | ⟨c2, -⟩
        · exact ⟨hz.trans hz2.symm, Or.inl hz⟩
        · omega
      rcases h2 with ⟨c2, -⟩ | ⟨_, _, _, z14, e14, h2⟩
      · omega
      have hk : (k : Int) < B (t + 1) 2 := by omega
      have x := h.2.2.1.1 k hk
      have x13 : A 13 (4 * b + k) = B (t + 24) k := x.1
      rw [h.1, show (4 * (b : Int) + (k : Int)).toNat = 4 * b + k by omega, x13] at e14
      have k10 := K_holds h10
      rw [Int.toNat_natCast] at k10
      have on : d_X9_shuttingKey_2 (fun z => d_X9_shuttingKey_1 t (p : Int) (d : Int) B z1 n1 z) (k : Int) z1 → d_X12_firstKey_2 (fun z => d_X12_firstKey_1 (p : Int) (d : Int) A z2 n2 z) (k : Int) z2 → z1 = z2 ∧ (z1 = -1 ∨ (0 ≤ z1 ∧ z1 < B (t + 1) 2)) := by
        intro g1 g2
        have g1 := (g1 : tr_d_X9_shuttingKey_2 (fun z => d_X9_shuttingKey_1 t (p : Int) (d : Int) B z1 n1 z) (k : Int) z1)
        have g2 := (g2 : tr_d_X12_firstKey_2 (fun z => d_X12_firstKey_1 (p : Int) (d : Int) A z2 n2 z) (k : Int) z2)
        exact ih n2 (k + 1) (by rw [show ((k + 1 : Nat) : Int) = (k : Int) + 1 by omega]; exact g1) (by rw [show ((k + 1 : Nat) : Int) = (k : Int) + 1 by omega]; exact g2)
      rcases h1 with ⟨c3, h1⟩ | ⟨c3, z15, h15, h1⟩
      · rcases h2 with ⟨_, h2⟩ | ⟨c4, -⟩
        · exact on h1 h2
        · omega
      rcases h2 with ⟨c4, -⟩ | ⟨_, z17, h17, h2⟩
      · omega
      have v25 : B (t + 25) k ≤ 6 := (hv.2.2.2.1 k hk).1.2
      have kp := K_placeIn (by omega) v25 h15
      obtain ⟨r1, r2⟩ := M_inRow h.1 hk h.2.2.1 h17
      rcases h1 with ⟨c5, h1⟩ | ⟨c5, hz⟩
      · have isin : inR (tw t B) k d := by
          rcases kp with g | g
          · exact absurd g.1 c5
          · exact g.2
        rcases h2 with ⟨_, h2⟩ | ⟨c6, -⟩
        · exact on h1 h2
        · have := r1.mpr isin
          omega
      · have nin : ¬ inR (tw t B) k d := by
          rcases kp with g | g
          · exact g.2
          · exact absurd c5 g.1
        rcases h2 with ⟨c6, -⟩ | ⟨_, hz2⟩
        · exact absurd (r1.mp (by omega)) nin
        · exact ⟨hz.trans hz2.symm, Or.inr (by omega)⟩
theorem told_eq {t b : Nat} {B A u1 u2 : St} {x1 x2 x3 z1 z2 : Int} (hT : isT t) (hI : IM A) (h : ACT b A (tw t B)) (hC : MBc b A (tw t B)) (h1 : q_X9_toldAct t x1 x2 x3 B z1 u1) (h2 : q_X12_told x1 x2 x3 A z2 u2) : z1 = z2 ∧ AC b u2 (tw t u1) := by
  have l2 : B (t + 1) 2 ≤ 4 := (h.lim hI).2.2.1
  have same : z1 = -1 → u1 = B → z2 = -1 → u2 = A → z1 = z2 ∧ AC b u2 (tw t u1) := fun g1 g2 g3 g4 => ⟨g1.trans g3.symm, by rw [g2, g4]; exact h.2.2⟩
  obtain ⟨y1, hy1, h2⟩ := (h2.1 : tr_r_X12_told x1 x2 x3 A z2 u2)
  have m3 : (y1 = 1 ↔ 0 ≤ x1 ∧ x1 < B (t + 1) 3) ∧ (y1 = 0 ∨ y1 = 1) := M_isPerson hI h hy1
  -- what fails in the class leaves its town
  have goF : ∀ {z : Int} {u : St}, ¬ ((0 ≤ x1 ∧ x1 < B (t + 1) 3) ∧ (0 ≤ x3 ∧ x3 < B (t + 1) 1)) → q_X9_goThrough t x1 x3 B z u → z = -1 ∧ u = B := by
    intro z u g hg
    obtain ⟨a3, ha3, hg⟩ := (hg.1 : tr_r_X9_goThrough t x1 x3 B z u)
    have k3 := K_there3 ha3
    rcases hg with ⟨_, hz, hu⟩ | ⟨c, a5, ha5, hg⟩
    · exact ⟨hz, hu⟩
    have k1 := K_there1 ha5
    rcases hg with ⟨_, hz, hu⟩ | ⟨c4, -⟩
    · exact ⟨hz, hu⟩
    · exact absurd ⟨by omega, by omega⟩ g
  have opF : ∀ {z : Int} {u : St}, ¬ ((0 ≤ x1 ∧ x1 < B (t + 1) 3) ∧ (0 ≤ x3 ∧ x3 < B (t + 1) 2)) → q_X9_openWith t x1 x3 B z u → z = -1 ∧ u = B := by
    intro z u g hg
    obtain ⟨a1, ha1, hg⟩ := (hg.1 : tr_r_X9_openWith t x1 x3 B z u)
    have kh := K_holds ha1
    rcases hg with ⟨c, -⟩ | ⟨_, hz, hu⟩
    · exact absurd ⟨by omega, by omega⟩ g
    · exact ⟨hz, hu⟩
  have shF : ∀ {k z : Int} {u : St}, ¬ ((0 ≤ x1 ∧ x1 < B (t + 1) 3) ∧ (0 ≤ k ∧ k < B (t + 1) 2) ∧ (0 ≤ x3 ∧ x3 < B (t + 1) 1)) → q_X9_shutWith t x1 k x3 B z u → z = -1 ∧ u = B := by
    intro k z u g hg
    obtain ⟨a1, ha1, hg⟩ := (hg.1 : tr_r_X9_shutWith t x1 k x3 B z u)
    have kh := K_holds ha1
    rcases hg with ⟨_, hz, hu⟩ | ⟨c, a5, _, a6, ha6, hg⟩
    · exact ⟨hz, hu⟩
    have k6 := K_isAt ha6
    rcases hg with ⟨_, hz, hu⟩ | ⟨c2, -⟩
    · exact ⟨hz, hu⟩
    · exact absurd ⟨by omega, by omega, by omega⟩ g
  rcases h2 with ⟨cp, h2⟩ | ⟨cp, hz2, hu2⟩
  case inr =>
    rcases (h1.1 : tr_r_X9_toldAct t x1 x2 x3 B z1 u1) with ⟨_, hz, hu⟩ | ⟨_, w, A3, hg, hz, hu⟩ | ⟨_, w, A7, hg, hz, hu⟩ | ⟨_, w0, _, w, A14, hg, hz, hu⟩
    · exact same hz hu hz2 hu2
    · obtain ⟨g1, g2⟩ := goF (fun g => by omega) hg
      exact same (hz.trans g1) (hu.trans g2) hz2 hu2
    · obtain ⟨g1, g2⟩ := opF (fun g => by omega) hg
      exact same (hz.trans g1) (hu.trans g2) hz2 hu2
    · obtain ⟨g1, g2⟩ := shF (fun g => by omega) hg
      exact same (hz.trans g1) (hu.trans g2) hz2 hu2
  obtain ⟨p, rfl⟩ : ∃ p : Nat, x1 = (p : Int) := ⟨x1.toNat, by omega⟩
  have hp : (p : Int) < B (t + 1) 3 := by omega
  rcases h2 with ⟨c0, h2⟩ | ⟨c0, y30, hy30, h2⟩
  · rcases h2 with ⟨c1, h2⟩ | ⟨c1, y22, hy22, h2⟩
    · rcases h2 with ⟨c2, hz2, hu2⟩ | ⟨c2, y9, hy9, h2⟩
      · rcases (h1.1 : tr_r_X9_toldAct t (p : Int) x2 x3 B z1 u1) with ⟨_, hz, hu⟩ | ⟨g, _⟩ | ⟨g, _⟩ | ⟨g, _⟩
        · exact same hz hu hz2 hu2
        · omega
        · omega
        · omega
      · rcases (h1.1 : tr_r_X9_toldAct t (p : Int) x2 x3 B z1 u1) with ⟨g, _⟩ | ⟨g, _⟩ | ⟨g, _⟩ | ⟨_, k, hk, w, A14, hg, hz, hu⟩
        · omega
        · omega
        · omega
        have m9 : (y9 = 1 ↔ 0 ≤ x3 ∧ x3 < B (t + 1) 1) ∧ (y9 = 0 ∨ y9 = 1) := M_isDoor hI h hy9
        rcases h2 with ⟨c3, hz2, hu2⟩ | ⟨c3, y14, hy14, h2⟩
        · obtain ⟨g1, g2⟩ := shF (fun g => by omega) hg
          exact same (hz.trans g1) (hu.trans g2) hz2 hu2
        obtain ⟨d, rfl⟩ : ∃ d : Nat, x3 = (d : Int) := ⟨x3.toNat, by omega⟩
        have hd : (d : Int) < B (t + 1) 1 := by omega
        obtain ⟨n1, hk⟩ := (hk.1 : tr_r_X9_shuttingKey t (p : Int) (d : Int) B k)
        obtain ⟨n2, hy14⟩ := (hy14.1 : tr_r_X12_firstKey (p : Int) (d : Int) A y14)
        obtain ⟨ek, bk⟩ := key_first hI h hp n1 n2 0 hk hy14
        rcases h2 with ⟨c4, y18, A19, hcl, hz2, hu2⟩ | ⟨c4, hz2, hu2⟩
        · obtain ⟨q, eq⟩ : ∃ q : Nat, k = (q : Int) := ⟨k.toNat, by omega⟩
          rw [← ek, eq] at hcl
          rw [eq] at hg
          obtain ⟨e, ac⟩ := closed_eqK hI h hp (by omega) hd hg hcl
          rw [hz, hz2, hu, hu2]
          exact ⟨e, ac⟩
        · obtain ⟨g1, g2⟩ := shF (fun g => by omega) hg
          exact same (hz.trans g1) (hu.trans g2) hz2 hu2
    · rcases (h1.1 : tr_r_X9_toldAct t (p : Int) x2 x3 B z1 u1) with ⟨g, _⟩ | ⟨g, _⟩ | ⟨_, w, A7, hg, hz, hu⟩ | ⟨g, _⟩
      · omega
      · omega
      · have m22 : (y22 = 1 ↔ 0 ≤ x3 ∧ x3 < B (t + 1) 2) ∧ (y22 = 0 ∨ y22 = 1) := M_isKey hI h hy22
        rcases h2 with ⟨c2, hz2, hu2⟩ | ⟨c2, y26, A27, ho, hz2, hu2⟩
        · obtain ⟨g1, g2⟩ := opF (fun g => by omega) hg
          exact same (hz.trans g1) (hu.trans g2) hz2 hu2
        · obtain ⟨k, rfl⟩ : ∃ k : Nat, x3 = (k : Int) := ⟨x3.toNat, by omega⟩
          obtain ⟨e, ac⟩ := opened_eq hI h hp (by omega) hg ho
          rw [hz, hz2, hu, hu2]
          exact ⟨e, ac⟩
      · omega
  · rcases (h1.1 : tr_r_X9_toldAct t (p : Int) x2 x3 B z1 u1) with ⟨g, _⟩ | ⟨_, w, A3, hg, hz, hu⟩ | ⟨g, _⟩ | ⟨g, _⟩
    · omega
    · have m30 : (y30 = 1 ↔ 0 ≤ x3 ∧ x3 < B (t + 1) 1) ∧ (y30 = 0 ∨ y30 = 1) := M_isDoor hI h hy30
      rcases h2 with ⟨c2, hz2, hu2⟩ | ⟨c2, y34, A35, hgo, hz2, hu2⟩
      · obtain ⟨g1, g2⟩ := goF (fun g => by omega) hg
        exact same (hz.trans g1) (hu.trans g2) hz2 hu2
      · obtain ⟨d, rfl⟩ : ∃ d : Nat, x3 = (d : Int) := ⟨x3.toNat, by omega⟩
        obtain ⟨e, ac⟩ := gone_eq hT hI h hC hp (by omega) hg hgo
        rw [hz, hz2, hu, hu2]
        exact ⟨e, ac⟩
    · omega
    · omega
/-- the acts one after another -/
theorem rowL {f : Nat → Int} {N t b : Nat} {B A u1 u2 : St} {z1 z2 : Int} (hT : isT t) (hN : B 1 1 = (N : Int)) (hN16 : N ≤ 1600) (hNA : A 0 1 = (N : Int)) (e9 : t = 51 + 31 * (B 0 9).toNat) : ∀ (n1 n2 n : Nat) (C D : St), IM D → (∀ k, k < N → f k = C 2 k % 256) → C 1 1 = (N : Int) → (∀ k, k < N → D 1 k = f k) → ACT b D (tw t C) → MBc b D (tw t C) → d_X11_firstImpossible_1 B z1 u1 n1 (3 * (n : Int)) (n : Int) C → d_X12_row_1 A z2 u2 n2 (3 * (n : Int)) (-1) D → z1 = z2 := by
  intro n1
  induction n1 with
  | zero => intro n2 n C D _ _ _ _ _ _ h1 _; exact h1.elim
  | succ n1 ih =>
    intro n2 n C D hI hf hC1 hD hA hC h1 h2
    cases n2 with
    | zero => exact h2.elim
    | succ n2 =>
      obtain ⟨hIK, _, _, h1⟩ := (h1 : tr_d_X11_firstImpossible_1 B z1 u1 (fun z1' z2' A4 => d_X11_firstImpossible_1 B z1 u1 n1 z1' z2' A4) (3 * (n : Int)) (n : Int) C)
      obtain ⟨_, _, _, h2⟩ := (h2 : tr_d_X12_row_1 A z2 u2 (fun z5 z6 A8 => d_X12_row_1 A z2 u2 n2 z5 z6 A8) (3 * (n : Int)) (-1) D)
      rw [hN] at h1
      rw [hNA] at h2
      -- the reference goes once more and ends
      have last : ∀ (v : Int) (m : Nat) (i : Int) (X : St), ¬ v = -1 → d_X12_row_1 A z2 u2 m i v X → z2 = v := by
        intro v m i X hv h
        cases m with
        | zero => exact h.elim
        | succ m =>
          obtain ⟨_, _, _, h⟩ := (h : tr_d_X12_row_1 A z2 u2 (fun z5 z6 A8 => d_X12_row_1 A z2 u2 m z5 z6 A8) i v X)
          rcases h with ⟨_, _, _, hz, _⟩ | ⟨_, h⟩
          · exact hz
          rcases h with ⟨_, _, _, hz, _⟩ | ⟨c, -⟩
          · exact hz
          · exact absurd c hv
      have stop : ∀ X : St, d_X12_row_2 (fun z5 z6 A8 => d_X12_row_1 A z2 u2 n2 z5 z6 A8) (3 * (n : Int)) z2 u2 (-1) X → z2 = (n : Int) := by
        intro X h
        obtain ⟨_, _, h⟩ := (h : tr_d_X12_row_2 (fun z5 z6 A8 => d_X12_row_1 A z2 u2 n2 z5 z6 A8) (3 * (n : Int)) z2 u2 (-1) X)
        rcases h with ⟨c, -⟩ | ⟨_, z41, e41, h⟩
        · exact absurd rfl c
        · obtain ⟨_, h⟩ := (h : tr_d_X12_row_3 (fun z5 z6 A8 => d_X12_row_1 A z2 u2 n2 z5 z6 A8) (3 * (n : Int)) X z2 u2 z41)
          have := last z41 n2 _ X (by omega) h
          omega
      rcases h1 with ⟨c, hz, _⟩ | ⟨c, h1⟩
      · rcases h2 with ⟨_, _, _, hz2, _⟩ | ⟨c2, -⟩
        · exact hz.trans hz2.symm
        · omega
      rcases h2 with ⟨c2, -⟩ | ⟨_, h2⟩
      · omega
      rcases h2 with ⟨c2, -⟩ | ⟨_, h2⟩
      · exact absurd rfl c2
      rcases h1 with ⟨c3, t19, et, z20, h20, z23, h23, z26, h26, z29, A30, ht, h1⟩ | ⟨c3, hz, _⟩
      case inr =>
        rcases h2 with ⟨_, h2⟩ | ⟨c4, -⟩
        · rw [hz, stop D h2]
        · omega
      rcases h2 with ⟨c4, -⟩ | ⟨_, w26, e26, w27, e27, w28, e28, w29, D30, htm, h2⟩
      · omega
      rw [← e9] at et
      subst et
      have i0 : 3 * (n : Int) = ((3 * n : Nat) : Int) := by omega
      have i1 : 3 * (n : Int) + 1 = ((3 * n + 1 : Nat) : Int) := by omega
      have i2 : 3 * (n : Int) + 2 = ((3 * n + 2 : Nat) : Int) := by omega
      rw [i0] at h20
      rw [i1] at h23
      rw [i2] at h26
      have a0 := (K_at (f := f) hIK hC1 hf h20).trans (tp_in (by omega))
      have a1 := (K_at (f := f) hIK hC1 hf h23).trans (tp_in (by omega))
      have a2 := (K_at (f := f) hIK hC1 hf h26).trans (tp_in (by omega))
      rw [show (3 * (n : Int)).toNat = 3 * n by omega, hD _ (by omega), ← a0] at e26
      rw [show (3 * (n : Int) + 1).toNat = 3 * n + 1 by omega, hD _ (by omega), ← a1] at e27
      rw [show (3 * (n : Int) + 2).toNat = 3 * n + 2 by omega, hD _ (by omega), ← a2] at e28
      rw [e26, e27, e28] at htm
      obtain ⟨ez, ac⟩ := told_eq hT hI hA hC ht htm
      have b30 : D30 0 12 = (b : Int) := (htm.2.2.1.2 12 rfl).trans hA.1
      have ms : MRs b D30 (tw t19 A30) := by
        refine MRs.cg hA.2.1 (fun j hj => htm.2.2.1.1 j ?_ ?_) (fun j hj => ?_) ?_
        · intro e0
          subst e0
          exact absurd hj (by decide)
        · have : statM.all (fun j => !([14, 15, 18, 42, 43] : List Nat).contains j) = true := by decide
          have := List.all_eq_true.mp this j (List.contains_iff_mem.mp hj)
          simpa using this
        · exact tw_rows hT ht.2.2.1 statT (by decide) rfl j hj
        · exact congrFun (tw_rows hT ht.2.2.1 [0] (by decide) rfl 0 rfl) 15
      have mb := MBc.fr hT hC ht.2.2.1 (by decide) rfl htm.2.2.1 rfl
      rcases h1 with ⟨c5, z34, e34, h1⟩ | ⟨c5, hz, _⟩
      · obtain ⟨_, _, h2⟩ := (h2 : tr_d_X12_row_2 (fun z5 z6 A8 => d_X12_row_1 A z2 u2 n2 z5 z6 A8) (3 * (n : Int)) z2 u2 w29 D30)
        rcases h2 with ⟨_, h2⟩ | ⟨c6, -⟩
        · obtain ⟨_, h2⟩ := (h2 : tr_d_X12_row_3 (fun z5 z6 A8 => d_X12_row_1 A z2 u2 n2 z5 z6 A8) (3 * (n : Int)) D30 z2 u2 (-1))
          rw [oWrap_id ⟨by omega, by omega⟩] at e34
          have j0 : 3 * ((n + 1 : Nat) : Int) = 3 * (n : Int) + 3 := by omega
          refine ih n2 (n + 1) A30 D30 htm.2.1 (fun k hk => ?_) ?_ (fun k hk => ?_) ⟨b30, ms, ac⟩ mb (by rw [j0, show ((n + 1 : Nat) : Int) = z34 by omega]; exact h1) (by rw [j0]; exact h2)
          · rw [ht.2.2.1 2 k rfl rfl]
            exact hf k hk
          · rw [ht.2.2.1 1 1 rfl rfl]
            exact hC1
          · rw [htm.2.2.1.1 1 (by decide) rfl]
            exact hD k hk
        · omega
      · rw [← ez, c5] at h2
        rw [hz, stop D30 h2]
theorem row_eq {z1 z2 : Int} {B A u1 u2 : St} (hIK : IK B) (hIM : IM A) (he : B 1 1 = A 0 1) (hT : TB B A) (hp : PSs B A) (ha : ACS B A) (h1 : r_X11_row B z1 u1) (h2 : q_X12_row A z2 u2) : z1 = z2 := by
  have hTt := tB hIK
  have hA := ha.act hIM hp
  have hC := ha.2
  obtain ⟨b, hb⟩ : ∃ b : Nat, (A 0 12).toNat = b := ⟨_, rfl⟩
  rw [hb] at hA hC
  obtain ⟨t, ht, A3, hc1, z6, A7, hfi, A12, _, A15, _, hz, _⟩ := (h1 : tr_r_X11_row B z1 u1)
  rw [← ht] at hA hC hTt
  have t51 : t = 51 ∨ t = 82 := hTt
  have r01 : (0 : Int) ≤ A 0 1 ∧ A 0 1 ≤ 1600 := hIM 0 1
  obtain ⟨N, hN⟩ : ∃ N : Nat, A 0 1 = (N : Int) := ⟨(A 0 1).toNat, by omega⟩
  have c1 := K_copy (by unfold DJ; omega) hc1
  obtain ⟨nn, hfi⟩ := (hfi.1 : tr_r_X11_firstImpossible A3 z6 A7)
  obtain ⟨A1, e1, A2, hn, n2, hr⟩ := (h2.1 : tr_r_X12_row A z2 u2)
  have k3 : ∀ j, (j < 42 ∨ 50 ≤ j) → A3 j = B j := fun j hj => c1.1 j (by omega)
  have tw3 : tw t A3 = tw t B := by
    funext j
    exact k3 (t + j) (by omega)
  have ne : ∀ j, j ≠ 0 → A1 j = A j := fun j hj => by rw [e1, stA_ne _ _ hj]
  have m2 : ∀ j, j ≠ 0 → ([44, 45, 46] : List Nat).contains j = false → A2 j = A j := fun j h0 hj => (hn.2.2.1.1 j h0 hj).trans (ne j h0)
  have b2 : A2 0 12 = (b : Int) := by
    rw [hn.2.2.1.2 12 rfl, e1]
    exact hA.1
  have l2 : B (t + 1) 2 ≤ 4 := (hA.lim hIM).2.2.1
  have hA2 : ACT b A2 (tw t A3) := by
    rw [tw3]
    refine ⟨b2, MRs.cg hA.2.1 (fun j hj => m2 j ?_ ?_) (fun _ _ => rfl) rfl, hA.2.2.cg l2 sT.rf ⟨m2 13 (by decide) rfl, m2 14 (by decide) rfl, m2 15 (by decide) rfl, m2 18 (by decide) rfl⟩⟩
    · intro e0
      subst e0
      exact absurd hj (by decide)
    · have : statM.all (fun j => !([44, 45, 46] : List Nat).contains j) = true := by decide
      have := List.all_eq_true.mp this j (List.contains_iff_mem.mp hj)
      simpa using this
  have hC2 : MBc b A2 (tw t A3) := by
    rw [tw3]
    intro k hk
    exact (hC k hk).cg (m2 31 (by decide) rfl) (m2 32 (by decide) rfl) (m2 33 (by decide) rfl) (m2 34 (by decide) rfl) rfl rfl rfl rfl
  rw [hz]
  refine rowL (f := fun k => B 2 k % 256) (N := N) (B := A3) hTt (by rw [k3 1 (by omega), he, hN]) (by omega) hN (by rw [k3 0 (by omega)]; exact ht) nn n2 0 A3 A2 hn.2.1 (fun k _ => by rw [k3 2 (by omega)]) (by rw [k3 1 (by omega), he, hN]) (fun k hk => ?_) hA2 hC2 hfi hr
  rw [m2 1 (by decide) rfl]
  exact hT k (by omega)
