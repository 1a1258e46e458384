/-! Bars: both tests are worth the same. -/
theorem M_readsC {f : Nat → Int} {N b p : Nat} {A u T : St} (hu : u 0 8 = 0) (h : MS f N b p A) (h46 : 0 ≤ A 0 46) (hT : T 19 2 ≤ (p : Int)) (hp : 1 ≤ p) (hq : q_X12_reads 1 A u) : ∃ a R C, sTestN f N 8 T p = some a ∧ EW b A u R ∧ a.1 = apT T C ∧ Sem V1 30 C R := by
  rcases (hq.1 : tr_r_X12_reads 1 A u) with ⟨_, A2, e2, h2⟩ | ⟨c, _⟩
  · rcases h2 with ⟨c, _⟩ | ⟨_, h2⟩
    · exact absurd c (by decide)
    · obtain ⟨_, A9, hpu, nn, h2⟩ := (h2 : tr_d_X12_reads_1 A2 u 1)
      obtain ⟨A1, e1, e9⟩ := (hpu.1 : tr_r_X12_pushes 1 A2 A9)
      have d2 : A2 0 53 = 0 := by rw [e2]; rfl
      rw [d2] at e1
      have s9 : MS f N b p A9 := by
        rw [e9, e1, e2]
        refine h.fr rfl (fun k hk => ?_)
        show stA (stA (stA (stA (stA (stA (stA (stA (stA A 0 53 0) 0 54 0) 0 56 0) 0 57 0) 35 _ 1) 36 _ 0) 37 _ 1) 39 _ _) 0 53 _ 0 k = A 0 k
        rw [st0_k (by decide) (by decide) hk]
        show stA (stA (stA (stA A 0 53 0) 0 54 0) 0 56 0) 0 57 0 0 k = A 0 k
        rw [st0_k (by decide) (by decide) hk, st0_k (by decide) (by decide) hk, st0_k (by decide) (by decide) hk, st0_k (by decide) (by decide) hk]
      have f53 : A9 0 53 = ((1 : Nat) : Int) := by rw [e9, e1]; rfl
      have f54 : A9 0 54 = 0 := by rw [e9, e1, e2]; rfl
      have f57 : A9 0 57 = 0 := by rw [e9, e1, e2]; rfl
      have f56 : A9 0 56 = ((0 : Nat) : Int) := by rw [e9, e1, e2]; rfl
      have f46 : A9 0 46 = A 0 46 := by rw [e9, e1, e2]; rfl
      have r35 : A9 35 0 = 1 := by rw [e9, e1]; rfl
      have r36 : A9 36 0 = 0 := by rw [e9, e1]; rfl
      have r37 : A9 37 0 = 1 := by rw [e9, e1]; rfl
      have r39 : A9 39 0 = ((0 : Nat) : Int) := by rw [e9, e1, e2]; rfl
      have r33 : A9 33 = A 33 := by rw [e9, e1, e2]; rfl
      have r34 : A9 34 = A 34 := by rw [e9, e1, e2]; rfl
      obtain ⟨a, A', sa, ms, hr, m57, tq, m37, m36, m36t, na, q, cd, R, P, C, x1, x2, x3, x4, x5, x6, x7, x8⟩ := (Sim_testNC (f := f) (N := N) (b := b) (u := u) hu 8) A9 T p 1 0 s9 ⟨nn, h2⟩ f57 f53 (by decide) (by rw [f54]; rfl) (Or.inl r35) (by show ¬ A9 37 0 = 0; rw [r37]; decide) r36 hT hp ⟨by rw [f46]; exact h46, f56, Or.inl r39⟩
      have k1 : A' 35 0 = 1 := (tq.2.2.1 0 (by decide)).trans r35
      have d1 : A' 0 53 = ((1 : Nat) : Int) := tq.1.trans f53
      obtain ⟨z, v, hg, h3⟩ := RN_go hr (by rw [m57]; decide)
      have m36 : ¬ A' 36 0 = 0 := m36
      have g8 : d_X12_goesOn_8 A' z v 1 A' := by
        rcases G_base (D := 1) ms d1 (by decide) hg with ⟨g1, g2, _⟩ | ⟨_, z2, hz2, g2⟩
        · exact absurd g2 (m36t g1)
        · have hz2 : (z2 = 1 ∧ (A' 35 0 = 1 ∨ A' 35 0 = 5)) ∨ (z2 = 0 ∧ ¬ (A' 35 0 = 1 ∨ A' 35 0 = 5)) := hz2
          have g2 : d_X12_goesOn_2 A' z v (A' 35 0) z2 := g2
          rw [k1] at hz2 g2
          have e2 : z2 = 1 := by
            rcases hz2 with ⟨g, _⟩ | ⟨_, g⟩
            · exact g
            · exact absurd (Or.inl rfl) g
          rcases G_cmp (D := 1) ms d1 (by decide) (Or.inl e2) g2 with ⟨_, g, _⟩ | ⟨_, g2⟩
          · exact absurd g m36
          · rcases G_andor (D := 1) ms d1 (by decide) (Or.inl e2) g2 with ⟨_, g, _⟩ | ⟨_, g2⟩
            · rcases g with g | g
              · exact absurd g na.1
              · exact absurd g na.2
            · rcases G_end (D := 1) ms d1 (by decide) (Or.inl e2) g2 with ⟨_, g, _⟩ | ⟨_, g2⟩
              · exact absurd g m36
              · exact g2
      have gk := G_k1 (by decide) ms.ns g8
      have eu : u = v := by
        rcases h3 with ⟨_, e⟩ | ⟨c, _⟩ | ⟨c, _⟩
        · exact e
        · exact absurd gk.1 c
        · exact absurd gk.1 c
      have hj := J_k1 (by decide) ms.ns g8
      rw [← eu] at hj
      have ew1 : EW b A A' R := EW.rw3 (B := A9) r33 r34 f46 x1
      have j := q_joins_ew (D := 1) (m := 0) d1 (by decide) ms.bk (ew1.nn h46) x2 x3 x4 (Or.inl ((x6 0 (by decide)).1.trans r39)) hj
      exact ⟨a, R ++ P.map sc, C, sa, EW.trans h46 ew1 j.1, x7, x8.mono (by decide)⟩
  · exact absurd (Int.le_of_eq h.ns) c
/-- a bar's test as both keep it -/
def BC (b k : Nat) (A T : St) : Prop := ∃ C R : List Int, 0 ≤ T 17 k ∧ T 18 k = T 17 k + (C.length : Int) ∧ T 18 k ≤ T 19 2 ∧ (∀ i, i < C.length → T 20 ((T 17 k).toNat + i) = C.getD i 0) ∧ 0 ≤ A 31 (6 * b + k) ∧ A 32 (6 * b + k) = A 31 (6 * b + k) + (R.length : Int) ∧ A 32 (6 * b + k) ≤ 1600 ∧ (∀ i, i < R.length → ENC (A 33 (1600 * b + (A 31 (6 * b + k)).toNat + i)) (A 34 (1600 * b + (A 31 (6 * b + k)).toNat + i)) (R.getD i 0)) ∧ Sem V1 30 C R
def MBc (b : Nat) (A T : St) : Prop := ∀ k : Nat, (k : Int) < T 1 7 → BC b k A T
/-- the same while a town is read -/
def MBw (b : Nat) (A T : St) : Prop := 0 ≤ A 0 46 ∧ ∀ k : Nat, (k : Int) < T 1 7 → BC b k A T ∧ A 32 (6 * b + k) ≤ A 0 46
theorem MBw.c {b : Nat} {A T : St} (h : MBw b A T) : MBc b A T := fun k hk => (h.2 k hk).1
theorem BC.cg {b k : Nat} {A A' T T' : St} (h : BC b k A T) (a1 : A' 31 = A 31) (a2 : A' 32 = A 32) (a3 : A' 33 = A 33) (a4 : A' 34 = A 34) (t1 : T' 17 = T 17) (t2 : T' 18 = T 18) (t3 : T' 19 2 = T 19 2) (t4 : T' 20 = T 20) : BC b k A' T' := by
  unfold BC
  rw [a1, a2, a3, a4, t1, t2, t3, t4]
  exact h
/-- nothing of the bars' tests is touched -/
def KA (A A' : St) : Prop := A' 31 = A 31 ∧ A' 32 = A 32 ∧ A' 33 = A 33 ∧ A' 34 = A 34 ∧ A' 0 46 = A 0 46
def KT (T T' : St) : Prop := T' 1 7 = T 1 7 ∧ T' 17 = T 17 ∧ T' 18 = T 18 ∧ T' 19 = T 19 ∧ T' 20 = T 20
theorem KA.rf {A : St} : KA A A := ⟨rfl, rfl, rfl, rfl, rfl⟩
theorem KA.trans {A B C : St} (h : KA A B) (g : KA B C) : KA A C := ⟨g.1.trans h.1, g.2.1.trans h.2.1, g.2.2.1.trans h.2.2.1, g.2.2.2.1.trans h.2.2.2.1, g.2.2.2.2.trans h.2.2.2.2⟩
theorem KA.fr {M' N' : List Nat} {A B : St} (h : fr M' N' A B) (hM : (M'.contains 31 || M'.contains 32 || M'.contains 33 || M'.contains 34) = false) (hN : N'.contains 46 = false) : KA A B := by
  simp only [Bool.or_eq_false_iff] at hM
  obtain ⟨⟨⟨m1, m2⟩, m3⟩, m4⟩ := hM
  exact ⟨h.1 31 (by decide) m1, h.1 32 (by decide) m2, h.1 33 (by decide) m3, h.1 34 (by decide) m4, h.2 46 hN⟩
theorem MBw.cg {b : Nat} {A A' T T' : St} (h : MBw b A T) (g : KA A A') (t : KT T T') : MBw b A' T' := by
  obtain ⟨g1, g2, g3, g4, g5⟩ := g
  obtain ⟨t1, t2, t3, t4, t5⟩ := t
  refine ⟨by rw [g5]; exact h.1, fun k hk => ?_⟩
  rw [t1] at hk
  have x := h.2 k hk
  refine ⟨x.1.cg g1 g2 g3 g4 t2 t3 (by rw [t4]) t5, ?_⟩
  rw [g2, g5]
  exact x.2
/-- one bar more -/
theorem MBw.add {b n : Nat} {A u T : St} {R C : List Int} {d : Int} (h : MBw b A T) (hn : T 1 7 = (n : Int)) (h0 : 0 ≤ T 19 2) (h16 : A 0 46 + (R.length : Int) ≤ 1600) (h46 : u 0 46 = A 0 46 + (R.length : Int)) (u31 : u 31 = up (A 31) (6 * b + n) (A 0 46)) (u32 : u 32 = up (A 32) (6 * b + n) (A 0 46 + (R.length : Int))) (hlo : ∀ k : Nat, (k : Int) < 1600 * (b : Int) + A 0 46 → u 33 k = A 33 k ∧ u 34 k = A 34 k) (hhi : ∀ i, i < R.length → ENC (u 33 (1600 * b + (A 0 46).toNat + i)) (u 34 (1600 * b + (A 0 46).toNat + i)) (R.getD i 0)) (hs : Sem V1 30 C R) : MBw b u (sBarAdd (apT T C) d (T 19 2) (apT T C 19 2)) := by
  have c17 : ∀ W : List Int, ∀ T : St, (∀ j, j ≠ 19 → j ≠ 20 → apT T W j = T j) := by
    intro W
    induction W with
    | nil => intro T j _ _; rfl
    | cons w W ih =>
      intro T j h1 h2
      refine (ih _ j h1 h2).trans ?_
      rw [stA_ne _ _ h1, stA_ne _ _ h2]
  have e1 : apT T C 1 = T 1 := c17 C T 1 (by decide) (by decide)
  have e17 : apT T C 17 = T 17 := c17 C T 17 (by decide) (by decide)
  have e18 : apT T C 18 = T 18 := c17 C T 18 (by decide) (by decide)
  have e7 : (apT T C 1 7).toNat = n := by rw [e1, hn]; exact Int.toNat_natCast n
  have sz := apT_sz C T
  obtain ⟨T', eT⟩ : ∃ T', T' = sBarAdd (apT T C) d (T 19 2) (apT T C 19 2) := ⟨_, rfl⟩
  rw [← eT]
  have t7 : T' 1 7 = (n : Int) + 1 := by
    rw [eT]
    show up (apT T C 1) 7 (apT T C 1 7 + 1) 7 = _
    rw [up_same, e1, hn]
  have t17 : T' 17 = up (T 17) n (T 19 2) := by
    rw [eT]
    show up (apT T C 17) (apT T C 1 7).toNat (T 19 2) = _
    rw [e7, e17]
  have t18 : T' 18 = up (T 18) n (T 19 2 + (C.length : Int)) := by
    rw [eT]
    show up (apT T C 18) (apT T C 1 7).toNat (apT T C 19 2) = _
    rw [e7, e18, sz]
  have t19 : T' 19 2 = T 19 2 + (C.length : Int) := by
    rw [eT]
    exact sz
  have t20 : T' 20 = apT T C 20 := by rw [eT]; rfl
  have a0 := h.1
  refine ⟨by omega, fun k hk => ?_⟩
  rw [t7] at hk
  by_cases e : k = n
  · subst e
    refine ⟨⟨C, R, ?_, ?_, ?_, fun i hi => ?_, ?_, ?_, ?_, fun i hi => ?_, hs⟩, ?_⟩
    · rw [t17, up_same]; exact h0
    · rw [t17, t18, up_same, up_same]
    · rw [t18, up_same, t19]; exact Int.le_refl _
    · rw [t17, up_same, t20]
      exact apT_at C T h0 hi
    · rw [u31, up_same]; exact a0
    · rw [u31, u32, up_same, up_same]
    · rw [u32, up_same]; exact h16
    · rw [u31, up_same]
      exact hhi i hi
    · rw [u32, up_same, h46]; exact Int.le_refl _
  · have hk2 : (k : Int) < T 1 7 := by rw [hn]; omega
    obtain ⟨⟨C2, R2, x1, x2, x3, x4, x5, x6, x7, x8, x9⟩, y⟩ := h.2 k hk2
    have k17 : T' 17 k = T 17 k := by rw [t17, up_ne _ _ e]
    have k18 : T' 18 k = T 18 k := by rw [t18, up_ne _ _ e]
    have k31 : u 31 (6 * b + k) = A 31 (6 * b + k) := by rw [u31, up_ne _ _ (by omega)]
    have k32 : u 32 (6 * b + k) = A 32 (6 * b + k) := by rw [u32, up_ne _ _ (by omega)]
    refine ⟨⟨C2, R2, by rw [k17]; exact x1, by rw [k17, k18]; exact x2, by rw [k18, t19]; omega, fun i hi => ?_, by rw [k31]; exact x5, by rw [k31, k32]; exact x6, by rw [k32]; exact x7, fun i hi => ?_, x9⟩, by rw [k32, h46]; omega⟩
    · rw [k17, t20, apT_lo C T (by omega)]
      exact x4 i hi
    · have g := hlo (1600 * b + (A 31 (6 * b + k)).toNat + i) (by omega)
      rw [k31, g.1, g.2]
      exact x8 i hi
