/-! The calls that act: the same answer, the same change. -/
theorem go_no {A u : St} {z : Int} (h : d_X12_go_2 z u (-1) A) : z = -1 ∧ sM A u := by
  obtain ⟨_, _, h⟩ := (h : tr_d_X12_go_2 z u (-1) A)
  rcases h with ⟨c, -⟩ | ⟨_, z23, A24, hr, hz, hu⟩
  · exact absurd rfl c
  · rw [hz, hu]
    exact ⟨hr.2.2.2, sM.fr hr.2.2.1 rfl rfl rfl rfl⟩
theorem gone_eq {t b p d : Nat} {B A u1 A12 : St} {z1 y11 : Int} (hT : isT t) (hI : IM A) (h : ACT b A (tw t B)) (hC : MBc b A (tw t B)) (hp : (p : Int) < B (t + 1) 3) (hd : (d : Int) < B (t + 1) 1) (h1 : q_X9_goThrough t (p : Int) (d : Int) B z1 u1) (hg : q_X12_gone (p : Int) (d : Int) A y11 A12) : z1 = y11 ∧ AC b A12 (tw t u1) := by
  obtain ⟨l0, l1, l2, l3⟩ := h.lim hI
  have l0 : B (t + 1) 0 ≤ 8 := l0
  have l1 : B (t + 1) 1 ≤ 10 := l1
  have l2 : B (t + 1) 2 ≤ 4 := l2
  have l3 : B (t + 1) 3 ≤ 3 := l3
  have hv := h.2.2.2.2
  have rb := hv.rb l1
  obtain ⟨nb, dr, ls⟩ := h.st
  have h15 : 0 ≤ B t 15 ∧ B t 15 < 1024 := ls.1
  have no : ∀ A', sM A A' → sT (tw t B) (tw t u1) → z1 = -1 → y11 = -1 → A12 = A' → z1 = y11 ∧ AC b A12 (tw t u1) := fun A' g1 g2 g3 g4 g5 => ⟨g3.trans g4.symm, by rw [g5]; exact h.2.2.cg l2 g2 g1⟩
  obtain ⟨a3, ha3, h1⟩ := (h1.1 : tr_r_X9_goThrough t (p : Int) (d : Int) B z1 u1)
  have k3 := K_there3 ha3
  rcases h1 with ⟨c, -⟩ | ⟨c, a5, ha5, h1⟩
  · omega
  have k1 := K_there1 ha5
  rcases h1 with ⟨c4, -⟩ | ⟨c4, a9, ha9, h1⟩
  · omega
  have kb := K_isBox ha9
  rw [Int.toNat_natCast] at kb
  have nbd : A 8 (10 * b + d) = 0 ↔ B (t + 10) d ≠ 0 := nb d hd
  obtain ⟨s, hs, _, _, w7, e7, hg'⟩ := (hg.1 : tr_r_X12_gone (p : Int) (d : Int) A y11 A12)
  have es : s = B (t + 23) p := M_spotOf h.1 h.2.2.2.1 hp hs
  have bs : 0 ≤ s ∧ s ≤ 7 := hs.2
  rw [h.1, show (10 * (b : Int) + (d : Int)).toNat = 10 * b + d by omega] at e7
  rcases h1 with ⟨c5, a13, e13, a14, h14, a17, h17, h1⟩ | ⟨c5, hz, hu⟩
  case inr =>
    rcases hg' with ⟨_, hz2, hu2⟩ | ⟨c6, -⟩
    · exact no A sM.rf (by rw [hu]; exact sT.rf) hz hz2 hu2
    · exact absurd (nbd.mp (by omega)) (by omega)
  rcases hg' with ⟨c6, -⟩ | ⟨_, y9, hy9, hg'⟩
  · exact absurd (nbd.mpr (by (first | omega | (clear h1; omega) | (clear h2; omega) | (clear hg'; omega) | (clear h1 h2; omega) | (clear h1 hg'; omega)))) (by omega)
  rw [Int.toNat_natCast] at e13
  have e13 : a13 = B (t + 23) p := e13
  rw [← es] at e13
  subst e13
  have k17 := K_isAt h17
  rw [Int.toNat_natCast] at k17
  have m9 : (y9 = 1 ↔ B (t + 8) d = a13 ∨ B (t + 9) d = a13) ∧ (y9 = 0 ∨ y9 = 1) := M_isAt h hd hy9
  rcases h1 with ⟨c7, hz, hu⟩ | ⟨c7, a21, e21, a22, e22, h1⟩
  · rcases hg' with ⟨_, hz2, hu2⟩ | ⟨c8, -⟩
    · exact no A sM.rf (by rw [hu]; exact sT.rf) hz hz2 hu2
    · omega
  rcases hg' with ⟨c8, -⟩ | ⟨_, y13, hy13, hg'⟩
  · (first | omega | (clear h1; omega) | (clear h2; omega) | (clear hg'; omega) | (clear h1 h2; omega) | (clear h1 hg'; omega))
  obtain ⟨q1, q2⟩ := K_shutMask rb l2 h15 h14
  have m13 := M_isShut h.1 h.cnt.2.2.1 h.2.2.1 hd ls hy13
  have bi := bit_iff (d := d) q1 (by omega)
  rw [← e21, ← e22] at bi
  have q2d := q2 d (by omega)
  rcases h1 with ⟨c9, a24, h24, a27, h27, a30, h30, a33, A34, h33, h1⟩ | ⟨c9, hz, hu⟩
  case inr =>
    rcases hg' with ⟨_, hz2, hu2⟩ | ⟨c10, -⟩
    · exact no A sM.rf (by rw [hu]; exact sT.rf) hz hz2 hu2
    · exfalso
      have : a14.toNat.testBit d = true := by
        cases hc : a14.toNat.testBit d with
        | true => rfl
        | false => exact absurd (bi.mpr hc) c9
      have := m13.1.mpr (q2d.mp this)
      omega
  rcases hg' with ⟨c10, -⟩ | ⟨_, y17, hy17, y20, hy20, y23, hy23, y26, A27, hy26, hg'⟩
  · exfalso
    have e := q2d.mpr (m13.1.mp (by (first | omega | (clear h1; omega) | (clear h2; omega) | (clear hg'; omega) | (clear h1 h2; omega) | (clear h1 hg'; omega))))
    rw [bi.mp c9] at e
    exact absurd e Bool.false_ne_true
  have kk := K_keysOf l2 h24
  have mk := M_keysOf h.1 h.cnt.2.2.1 l2 h.2.2.1 hy17
  have ek : a24 = y17 := same_bits kk.1.1 mk.1.1 (fun d => (kk.2 d).trans (mk.2 d).symm)
  have eheld : a27 = cd (fun k => a24.toNat.testBit k) 10 := by
    have e : a24 = ((a24.toNat : Nat) : Int) := by have := kk.1; omega
    rw [e] at h27
    have := K_bits (by have := kk.1; omega) h27
    exact this
  have eheld2 : y20 = cd (fun k => a24.toNat.testBit k) 10 := by
    have e : y17 = ((a24.toNat : Nat) : Int) := by have := kk.1; omega
    rw [e] at hy20
    exact M_bits (by have := kk.1; omega) hy20
  have ecl : a30 = y23 := closed_eq hI h h14 h30 hy23
  rw [eheld2, ← eheld] at hy26
  rw [← ecl] at hy26
  have cbh := cd_b (p := fun k => a24.toNat.testBit k) 10
  have cbc : 0 ≤ a30 ∧ a30 ≤ 10 := by
    have e : a14 = ((a14.toNat : Nat) : Int) := by omega
    rw [e] at h30
    rw [K_bits (by omega) h30]
    exact cd_b 10
  rw [← eheld] at cbh
  have bars : ∀ k : Nat, (k : Int) < B (t + 1) 7 → A 30 (6 * b + k) = B (t + 16) k := by
    obtain ⟨_, ⟨_, _, _, _, _, _, _, _, _, mb⟩, _⟩ := h
    exact mb
  have c7' : A 29 b = B (t + 1) 7 := by
    obtain ⟨_, ⟨_, mc, _⟩, _⟩ := h
    exact mc.2.2
  have eb := barred_eq hT c7' h.1 bars hC ⟨⟨by omega, by omega⟩, ⟨by omega, by omega⟩, ⟨by omega, by omega⟩, by omega, by omega⟩ h33 hy26
  have g34 : sT (tw t B) (tw t A34) := sT.fk hT h33.2.2.1 rfl rfl
  have g27 : sM A A27 := sM.fr hy26.2.2.1 rfl rfl rfl rfl
  rcases h1 with ⟨c11, a38, h38, A41, e41, hz, hu⟩ | ⟨c11, hz, hu⟩
  · rcases hg' with ⟨_, y32, hy32, A35, e35, y36, hy36, hz2, hu2⟩ | ⟨c12, -⟩
    · have r1 : A34 (t + 1) = B (t + 1) := g34 1 rfl
      have r8 : A34 (t + 8) = B (t + 8) := g34 8 rfl
      have r9 : A34 (t + 9) = B (t + 9) := g34 9 rfl
      have o1 := K_other (by rw [r1]; exact hd) h38
      rw [r8, r9] at o1
      have b27 : A27 0 12 = (b : Int) := (hy26.2.2.1.2 12 rfl).trans h.1
      have dr27 : MDr b A27 (tw t B) := by
        intro k hk
        rw [hy26.2.2.1.1 6 (by decide) rfl, hy26.2.2.1.1 7 (by decide) rfl, hy26.2.2.1.1 9 (by decide) rfl]
        exact dr k hk
      have o2 : y32 = if B (t + 8) d = a13 then B (t + 9) d else B (t + 8) d := M_other b27 dr27 hd hy32
      have o3 : y32 = a38 := o2.trans o1.symm
      have dv := hv.2.1 d hd
      have dv8 : 0 ≤ B (t + 8) d ∧ B (t + 8) d < B (t + 1) 0 := dv.1
      have dv9 : 0 ≤ B (t + 9) d ∧ B (t + 9) d < B (t + 1) 0 := dv.2.1
      have bv : 0 ≤ a38 ∧ a38 < B (t + 1) 0 := by
        rw [o1]
        split
        · exact dv9
        · exact dv8
      have e35 : A35 = stA A27 18 (3 * b + p) a38 := by
        rw [e35, h.1, show (3 * (b : Int) + (p : Int)).toNat = 3 * b + p by omega, o3]
      have b35 : A35 0 12 = (b : Int) := by rw [e35]; exact b27
      obtain ⟨y37, e37, hy36⟩ := (hy36.1 : tr_r_X12_placeOf (p : Int) A35 y36)
      rw [b35, show (3 * (b : Int) + (p : Int)).toNat = 3 * b + p by omega, e35, stA_same, up_same] at e37
      rw [Int.toNat_natCast] at e41
      have e41 : A41 = stA A34 (t + 23) p a38 := e41
      refine ⟨by rw [hz, hz2, hy36, e37], ?_⟩
      rw [hu2, hu, e35, e41, tw_st]
      have ac : AC b A27 (tw t A34) := h.2.2.cg l2 g34 g27
      refine AC_spot ac ?_
      show 0 ≤ a38 ∧ a38 < A34 (t + 1) 0
      rw [r1]
      exact bv
    · omega
  · rcases hg' with ⟨c12, -⟩ | ⟨_, hz2, hu2⟩
    · omega
    · exact no A27 g27 (by rw [hu]; exact g34) hz hz2 hu2
theorem go_eq {t b : Nat} {B A u1 u2 : St} {x1 x2 z1 z2 : Int} (hT : isT t) (hI : IM A) (h : ACT b A (tw t B)) (hC : MBc b A (tw t B)) (qq1 : q_X9_goThrough t x1 x2 B z1 u1) (qq2 : q_X12_go x1 x2 A z2 u2) : z1 = z2 ∧ AC b u2 (tw t u1) := by
  have l2 : B (t + 1) 2 ≤ 4 := (h.lim hI).2.2.1
  have q1 := qq1
  have no : sT (tw t B) (tw t u1) → z1 = -1 → d_X12_go_2 z2 u2 (-1) A → z1 = z2 ∧ AC b u2 (tw t u1) := fun g2 g3 g4 => ⟨g3.trans (go_no g4).1.symm, h.2.2.cg l2 g2 (go_no g4).2⟩
  obtain ⟨a3, ha3, h1⟩ := (qq1.1 : tr_r_X9_goThrough t x1 x2 B z1 u1)
  obtain ⟨y1, hy1, h2⟩ := (qq2.1 : tr_r_X12_go x1 x2 A z2 u2)
  have k3 := K_there3 ha3
  have m3 : (y1 = 1 ↔ 0 ≤ x1 ∧ x1 < B (t + 1) 3) ∧ (y1 = 0 ∨ y1 = 1) := M_isPerson hI h hy1
  rcases h1 with ⟨c, hz, hu⟩ | ⟨c, a5, ha5, h1⟩
  · rcases h2 with ⟨_, h2⟩ | ⟨c2, -⟩
    · exact no (by rw [hu]; exact sT.rf) hz h2
    · omega
  rcases h2 with ⟨c2, -⟩ | ⟨_, y7, hy7, h2⟩
  · (first | omega | (clear h1; omega) | (clear h2; omega) | (clear hg'; omega) | (clear h1 h2; omega) | (clear h1 hg'; omega))
  have k1 := K_there1 ha5
  have m1 : (y7 = 1 ↔ 0 ≤ x2 ∧ x2 < B (t + 1) 1) ∧ (y7 = 0 ∨ y7 = 1) := M_isDoor hI h hy7
  rcases h1 with ⟨c4, hz, hu⟩ | ⟨c4, -⟩
  · rcases h2 with ⟨_, h2⟩ | ⟨c2, -⟩
    · exact no (by rw [hu]; exact sT.rf) hz h2
    · omega
  rcases h2 with ⟨c2, -⟩ | ⟨_, y11, A12, hg, h2⟩
  · omega
  obtain ⟨p, rfl⟩ : ∃ p : Nat, x1 = (p : Int) := ⟨x1.toNat, by omega⟩
  obtain ⟨d, rfl⟩ : ∃ d : Nat, x2 = (d : Int) := ⟨x2.toNat, by omega⟩
  obtain ⟨e, ac⟩ := gone_eq hT hI h hC (by omega) (by omega) q1 hg
  have s1 : tw t u1 1 2 ≤ 4 := by
    have r1 : u1 (t + 1) 2 = B (t + 1) 2 := by
      rcases hT with e0 | e0
      · rw [e0]; exact q1.2.2.1 52 2 rfl rfl
      · rw [e0]; exact q1.2.2.1 83 2 rfl rfl
    show u1 (t + 1) 2 ≤ 4
    rw [r1]
    exact l2
  obtain ⟨_, _, h2⟩ := (h2 : tr_d_X12_go_2 z2 u2 y11 A12)
  rcases h2 with ⟨_, hz3, hu3⟩ | ⟨c13, y23, A24, hr, hz3, hu3⟩
  · rw [hu3]
    exact ⟨e.trans hz3.symm, ac⟩
  · rw [hu3]
    exact ⟨by rw [e, c13, hz3, hr.2.2.2], ac.cg s1 sT.rf (sM.fr hr.2.2.1 rfl rfl rfl rfl)⟩
/-- to have a key -/
theorem K_holds {t : Nat} {x k z : Int} {B : St} (h : q_X9_holdsKey t x k B z) : (z = 1 ↔ (0 ≤ x ∧ x < B (t + 1) 3) ∧ (0 ≤ k ∧ k < B (t + 1) 2) ∧ B (t + 24) k.toNat = x) ∧ (z = 0 ∨ z = 1) := by
  obtain ⟨a1, h1, h⟩ := (h.1 : tr_r_X9_holdsKey t x k B z)
  have k1 := K_there3 h1
  rcases h with ⟨c, e⟩ | ⟨c, a5, h5, h⟩
  · omega
  · have k5 := K_there2 h5
    rcases h with ⟨c2, e⟩ | ⟨c2, a9, e9, h⟩
    · omega
    · have e9 : a9 = B (t + 24) k.toNat := e9
      rcases h with ⟨c3, e⟩ | ⟨c3, e⟩ <;> omega
theorem K_keyTop {t k : Nat} {z : Int} {B : St} (hk : k < 4) (h0 : 0 ≤ B (t + 25) k) (h : q_X6_topOf (t + 22) (k : Int) B z) : (B (t + 25) k = 0 ∧ z = -1) ∨ (0 < B (t + 25) k ∧ z = B (t + (27 + k)) (B (t + 25) k - 1).toNat) := by
  rcases (h.1 : tr_r_X6_topOf (t + 22) (k : Int) B z) with ⟨c, -⟩ | ⟨_, h⟩
  · omega
  rcases h with ⟨c, -⟩ | ⟨_, a3, e3, a4, h4, hz⟩
  · omega
  rw [Int.toNat_natCast] at e3
  have e3 : a3 = B (t + 25) k := e3
  by_cases c : B (t + 25) k = 0
  · refine Or.inl ⟨c, ?_⟩
    rcases (h4.1 : tr_r_X6_inRow (t + 22) (k : Int) (a3 - 1) B a4) with ⟨c1, e⟩ | ⟨_, h⟩
    · rw [hz, e]
    rcases h with ⟨_, e⟩ | ⟨_, h⟩
    · rw [hz, e]
    rcases h with ⟨_, e⟩ | ⟨c3, -⟩
    · rw [hz, e]
    · omega
  · obtain ⟨n, en⟩ : ∃ n : Nat, a3 - 1 = (n : Int) := ⟨(a3 - 1).toNat, by omega⟩
    rw [en] at h4
    rcases K_inRow hk h4 with ⟨g1, g2⟩ | ⟨g1, _⟩
    · exact Or.inr ⟨by omega, by rw [hz, g2, show (B (t + 25) k - 1).toNat = n by omega]⟩
    · omega
theorem M_top {b k : Nat} {z : Int} {A T : St} (hb : A 0 12 = (b : Int)) (hK : MKy b A T) (hk : (k : Int) < T 1 2) (h0 : 0 ≤ T 25 k) (h : q_X12_topOf (k : Int) A z) : (T 25 k = 0 ∧ z = -1) ∨ (0 < T 25 k ∧ z = T (27 + k) (T 25 k - 1).toNat) := by
  have x := hK.1 k hk
  obtain ⟨_, _, z4, e4, h⟩ := (h.1 : tr_r_X12_topOf (k : Int) A z)
  rw [hb, show (4 * (b : Int) + (k : Int)).toNat = 4 * b + k by omega, x.2.1] at e4
  rcases h with ⟨c, _, _, _, _, z12, e12, z13, e13, hz⟩ | ⟨c, hz⟩
  · rw [hb, show (4 * (b : Int) + (k : Int)).toNat = 4 * b + k by omega, x.2.1] at e12
    rw [hb, show (40 * (b : Int) + 10 * (k : Int) + z12 - 1).toNat = 40 * b + 10 * k + (T 25 k - 1).toNat by omega, x.2.2 _ (by omega)] at e13
    exact Or.inr ⟨by omega, by rw [hz, e13]⟩
  · exact Or.inl ⟨by omega, hz⟩
/-- a key opens -/
theorem open_no {A u : St} {z : Int} (h : d_X12_open_2 z u (-1) A) : z = -1 ∧ sM A u := by
  obtain ⟨_, _, h⟩ := (h : tr_d_X12_open_2 z u (-1) A)
  rcases h with ⟨c, -⟩ | ⟨_, z23, A24, hr, hz, hu⟩
  · exact absurd rfl c
  · rw [hz, hu]
    exact ⟨hr.2.2.2, sM.fr hr.2.2.1 rfl rfl rfl rfl⟩
theorem opened_eq {t b p k : Nat} {B A u1 A12 : St} {z1 y11 : Int} (hI : IM A) (h : ACT b A (tw t B)) (hp : (p : Int) < B (t + 1) 3) (hk : (k : Int) < B (t + 1) 2) (h1 : q_X9_openWith t (p : Int) (k : Int) B z1 u1) (ho : q_X12_opened (p : Int) (k : Int) A y11 A12) : z1 = y11 ∧ AC b A12 (tw t u1) := by
  obtain ⟨l0, l1, l2, l3⟩ := h.lim hI
  have l1 : B (t + 1) 1 ≤ 10 := l1
  have l2 : B (t + 1) 2 ≤ 4 := l2
  have hv := h.2.2.2.2
  have no : ∀ A', sM A A' → sT (tw t B) (tw t u1) → z1 = -1 → y11 = -1 → A12 = A' → z1 = y11 ∧ AC b A12 (tw t u1) := fun A' g1 g2 g3 g4 g5 => ⟨g3.trans g4.symm, by rw [g5]; exact h.2.2.cg l2 g2 g1⟩
  obtain ⟨a1, ha1, h1⟩ := (h1.1 : tr_r_X9_openWith t (p : Int) (k : Int) B z1 u1)
  have kh := K_holds ha1
  rw [Int.toNat_natCast] at kh
  have x := h.2.2.1.1 k hk
  have x13 : A 13 (4 * b + k) = B (t + 24) k := x.1
  have x14 : A 14 (4 * b + k) = B (t + 25) k := x.2.1
  have kv := hv.2.2.2.1 k hk
  have v25 : 0 ≤ B (t + 25) k ∧ B (t + 25) k ≤ 6 := kv.1
  obtain ⟨w1, hw1, _, _, w7, e7, ho⟩ := (ho.1 : tr_r_X12_opened (p : Int) (k : Int) A y11 A12)
  rw [h.1, show (4 * (b : Int) + (k : Int)).toNat = 4 * b + k by omega, x13] at e7
  have mt : (B (t + 25) k = 0 ∧ w1 = -1) ∨ (0 < B (t + 25) k ∧ w1 = B (t + (27 + k)) (B (t + 25) k - 1).toNat) := M_top h.1 h.2.2.1 hk v25.1 hw1
  rcases ho with ⟨c4, hz2, hu2⟩ | ⟨c4, ho⟩
  · rcases h1 with ⟨c, -⟩ | ⟨c, hz, hu⟩
    · omega
    · exact no A sM.rf (by rw [hu]; exact sT.rf) hz hz2 hu2
  rcases h1 with ⟨c, a5, h5, h1⟩ | ⟨c, -⟩
  case inr => (clear ho; omega)
  have kt := K_keyTop (by omega) v25.1 h5
  rcases ho with ⟨c5, hz2, hu2⟩ | ⟨c5, w10, hw10, w13, hw13, ho⟩
  · rcases h1 with ⟨_, hz, hu⟩ | ⟨c6, -⟩
    · exact no A sM.rf (by rw [hu]; exact sT.rf) hz hz2 hu2
    · rcases mt with g | g <;> rcases kt with g2 | g2 <;> omega
  have n0 : 0 < B (t + 25) k := by rcases mt with g | g <;> omega
  have e5 : a5 = w1 := by rcases mt with g | g <;> rcases kt with g2 | g2 <;> omega
  have vr : 0 ≤ B (t + (27 + k)) (B (t + 25) k - 1).toNat ∧ B (t + (27 + k)) (B (t + 25) k - 1).toNat < B (t + 1) 1 := kv.2.1 _ (by show (((B (t + 25) k - 1).toNat : Nat) : Int) < B (t + 25) k; omega)
  rcases h1 with ⟨c6, -⟩ | ⟨_, a9, e9, a10, h10, h1⟩
  · rcases mt with g | g <;> omega
  obtain ⟨d, ed⟩ : ∃ d : Nat, w1 = (d : Int) := ⟨w1.toNat, by rcases mt with g | g <;> omega⟩
  have hd : (d : Int) < B (t + 1) 1 := by rcases mt with g | g <;> omega
  rw [Int.toNat_natCast] at e9
  have e9 : a9 = B (t + 23) p := e9
  have es : w10 = B (t + 23) p := M_spotOf h.1 h.2.2.2.1 hp hw10
  rw [e5, ed] at h10
  rw [ed] at hw13
  have k10 := K_isAt h10
  rw [Int.toNat_natCast] at k10
  have m13 : (w13 = 1 ↔ B (t + 8) d = w10 ∨ B (t + 9) d = w10) ∧ (w13 = 0 ∨ w13 = 1) := M_isAt h hd hw13
  rw [e9] at k10
  rw [es] at m13
  rcases h1 with ⟨c7, a14, e14, A15, e15, hz, hu⟩ | ⟨c7, hz, hu⟩
  · rcases ho with ⟨_, _, _, w20, e20, hz2, hu2⟩ | ⟨c8, -⟩
    · rw [Int.toNat_natCast] at e14 e15
      have e14 : a14 = B (t + 25) k := e14
      have e15 : A15 = stA B (t + 25) k (a14 - 1) := e15
      rw [h.1, show (4 * (b : Int) + (k : Int)).toNat = 4 * b + k by omega] at e20 hu2
      rw [x14] at e20
      refine ⟨by rw [hz, hz2, e5], ?_⟩
      rw [hu2, hu, e15, tw_st, e20, e14]
      exact AC_pop h.2.2 hk ⟨by omega, by show B (t + 25) k - 1 ≤ B (t + 25) k; omega⟩
    · omega
  · rcases ho with ⟨c8, -⟩ | ⟨_, hz2, hu2⟩
    · omega
    · exact no A sM.rf (by rw [hu]; exact sT.rf) hz hz2 hu2
theorem open_eq {t b : Nat} {B A u1 u2 : St} {x1 x2 z1 z2 : Int} (hT : isT t) (hI : IM A) (h : ACT b A (tw t B)) (qq1 : q_X9_openWith t x1 x2 B z1 u1) (qq2 : q_X12_open x1 x2 A z2 u2) : z1 = z2 ∧ AC b u2 (tw t u1) := by
  have l2 : B (t + 1) 2 ≤ 4 := (h.lim hI).2.2.1
  have q1 := qq1
  have no : sT (tw t B) (tw t u1) → z1 = -1 → d_X12_open_2 z2 u2 (-1) A → z1 = z2 ∧ AC b u2 (tw t u1) := fun g2 g3 g4 => ⟨g3.trans (open_no g4).1.symm, h.2.2.cg l2 g2 (open_no g4).2⟩
  obtain ⟨a1, ha1, h1⟩ := (qq1.1 : tr_r_X9_openWith t x1 x2 B z1 u1)
  have kh := K_holds ha1
  obtain ⟨y1, hy1, h2⟩ := (qq2.1 : tr_r_X12_open x1 x2 A z2 u2)
  have m3 : (y1 = 1 ↔ 0 ≤ x1 ∧ x1 < B (t + 1) 3) ∧ (y1 = 0 ∨ y1 = 1) := M_isPerson hI h hy1
  rcases h2 with ⟨c2, h2⟩ | ⟨c2, y7, hy7, h2⟩
  · rcases h1 with ⟨c, -⟩ | ⟨c, hz, hu⟩
    · omega
    · exact no (by rw [hu]; exact sT.rf) hz h2
  have m2 : (y7 = 1 ↔ 0 ≤ x2 ∧ x2 < B (t + 1) 2) ∧ (y7 = 0 ∨ y7 = 1) := M_isKey hI h hy7
  rcases h2 with ⟨c3, h2⟩ | ⟨c3, y11, A12, ho, h2⟩
  · rcases h1 with ⟨c, -⟩ | ⟨c, hz, hu⟩
    · omega
    · exact no (by rw [hu]; exact sT.rf) hz h2
  obtain ⟨p, rfl⟩ : ∃ p : Nat, x1 = (p : Int) := ⟨x1.toNat, by omega⟩
  obtain ⟨k, rfl⟩ : ∃ k : Nat, x2 = (k : Int) := ⟨x2.toNat, by (first | omega | (clear h1; omega) | (clear h2; omega) | (clear hg'; omega) | (clear h1 h2; omega) | (clear h1 hg'; omega))⟩
  obtain ⟨e, ac⟩ := opened_eq hI h (by (first | omega | (clear h1; omega) | (clear h2; omega) | (clear hg'; omega) | (clear h1 h2; omega) | (clear h1 hg'; omega))) (by (first | omega | (clear h1; omega) | (clear h2; omega) | (clear hg'; omega) | (clear h1 h2; omega) | (clear h1 hg'; omega))) q1 ho
  have s1 : tw t u1 1 2 ≤ 4 := by
    have r1 : u1 (t + 1) 2 = B (t + 1) 2 := by
      rcases hT with e0 | e0
      · rw [e0]; exact q1.2.2.1 52 2 rfl rfl
      · rw [e0]; exact q1.2.2.1 83 2 rfl rfl
    show u1 (t + 1) 2 ≤ 4
    rw [r1]
    exact l2
  obtain ⟨_, _, h2⟩ := (h2 : tr_d_X12_open_2 z2 u2 y11 A12)
  rcases h2 with ⟨_, hz3, hu3⟩ | ⟨c13, y23, A24, hr, hz3, hu3⟩
  · rw [hu3]
    exact ⟨e.trans hz3.symm, ac⟩
  · rw [hu3]
    exact ⟨by rw [e, c13, hz3, hr.2.2.2], ac.cg s1 sT.rf (sM.fr hr.2.2.1 rfl rfl rfl rfl)⟩
