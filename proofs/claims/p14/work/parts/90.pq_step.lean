/-! The reference's tests: what a turn of its loop does. -/
def RN (u A : St) : Prop := ∃ nn, d_X12_reads_2 u nn 1 A
theorem RN_0 {u A : St} {nn : Nat} (h : d_X12_reads_2 u nn 0 A) : u = A := by
  cases nn with
  | zero => exact h.elim
  | succ nn =>
    obtain ⟨_, _, h⟩ := (h : tr_d_X12_reads_2 u (fun z12 A14 => d_X12_reads_2 u nn z12 A14) 0 A)
    rcases h with ⟨_, e⟩ | ⟨c, _⟩
    · exact e
    · exact absurd rfl c
theorem RN_op {u A : St} (h : RN u A) (h0 : A 0 57 = 0) : ∃ (z : Int) (B : St), q_X12_operand A z B ∧ ((¬ B 0 8 = 0 ∧ u = stA B 0 57 z) ∨ (B 0 8 = 0 ∧ RN u (stA B 0 57 z))) := by
  obtain ⟨nn, h⟩ := h
  cases nn with
  | zero => exact h.elim
  | succ nn =>
    obtain ⟨_, _, h⟩ := (h : tr_d_X12_reads_2 u (fun z12 A14 => d_X12_reads_2 u nn z12 A14) 1 A)
    rcases h with ⟨c, _⟩ | ⟨_, h⟩
    · exact absurd c (by decide)
    · rcases h with ⟨c, _⟩ | ⟨_, z31, A32, hq, A36, hA, h⟩
      · exact absurd h0 c
      · refine ⟨z31, A32, hq, ?_⟩
        rw [← hA]
        rcases h with ⟨c, h⟩ | ⟨c, h⟩
        · exact Or.inl ⟨c, RN_0 h⟩
        · exact Or.inr ⟨c, nn, h⟩
theorem RN_go {u A : St} (h : RN u A) (h0 : ¬ A 0 57 = 0) : ∃ (z : Int) (B : St), q_X12_goesOn A z B ∧ ((z = 0 ∧ u = B) ∨ (¬ z = 0 ∧ ¬ B 0 8 = 0 ∧ u = B) ∨ (¬ z = 0 ∧ B 0 8 = 0 ∧ RN u B)) := by
  obtain ⟨nn, h⟩ := h
  cases nn with
  | zero => exact h.elim
  | succ nn =>
    obtain ⟨_, _, h⟩ := (h : tr_d_X12_reads_2 u (fun z12 A14 => d_X12_reads_2 u nn z12 A14) 1 A)
    rcases h with ⟨c, _⟩ | ⟨_, h⟩
    · exact absurd c (by decide)
    · rcases h with ⟨_, z24, A25, hq, h⟩ | ⟨c, _⟩
      · refine ⟨z24, A25, hq, ?_⟩
        rcases h with ⟨c, h⟩ | ⟨c, h⟩
        · exact Or.inl ⟨c, RN_0 h⟩
        · rcases h with ⟨c2, h⟩ | ⟨c2, h⟩
          · exact Or.inr (Or.inl ⟨c, c2, RN_0 h⟩)
          · exact Or.inr (Or.inr ⟨c, c2, nn, h⟩)
      · exact absurd c h0
/-- the same but for codes, operations held back and pairs -/
def SB (A B : St) : Prop := fr [33, 34, 38, 40] [46, 56] A B
theorem SB.of {M' N' : List Nat} {A B : St} (h : fr M' N' A B) (hM : M'.all (fun j => [33, 34, 38, 40].contains j) = true) (hN : N'.all (fun j => [46, 56].contains j) = true) : SB A B := fr.rf.trans h hM hN
theorem SB.rf {A : St} : SB A A := fr.rf
theorem SB.trans {A B C : St} (h : SB A B) (g : SB B C) : SB A C := fr.trans h g rfl rfl
theorem SB.r {A B : St} (h : SB A B) (j : Nat) (h0 : j ≠ 0) (hj : ([33, 34, 38, 40] : List Nat).contains j = false) : B j = A j := h.1 j h0 hj
theorem SB.k {A B : St} (h : SB A B) (j : Nat) (hj : ([46, 56] : List Nat).contains j = false) : B 0 j = A 0 j := h.2 j hj
theorem k9 {k : Nat} (h : k < 9 ∨ k = 47) : ([46, 56] : List Nat).contains k = false := by
  rcases h with h | h
  · rcases (show k = 0 ∨ k = 1 ∨ k = 2 ∨ k = 3 ∨ k = 4 ∨ k = 5 ∨ k = 6 ∨ k = 7 ∨ k = 8 by omega) with rfl | rfl | rfl | rfl | rfl | rfl | rfl | rfl | rfl <;> rfl
  · subst h; rfl
theorem MS.sb {f : Nat → Int} {N b p : Nat} {A B : St} (h : MS f N b p A) (g : SB A B) : MS f N b p B := h.fr (g.r 1 (by decide) rfl) (fun k hk => g.k k (k9 hk))
theorem MG.sb {f : Nat → Int} {N b e : Nat} {A B : St} (h : MG f N b e A) (g : SB A B) : MG f N b e B := by
  refine h.fr (g.r 1 (by decide) rfl) (fun k hk => g.k k ?_)
  rcases hk with rfl | rfl | rfl | rfl <;> rfl
theorem MO.s57 {f : Nat → Int} {N b e : Nat} {A : St} {x : Int} (h : MO f N b e A) : MO f N b e (stA A 0 57 x) := by
  rcases h with ⟨h, g⟩ | ⟨h, g⟩
  · exact Or.inl ⟨h, g⟩
  · refine Or.inr ⟨h, g.fr rfl (fun k hk => ?_)⟩
    rcases hk with hk | hk
    · rcases (show k = 0 ∨ k = 1 ∨ k = 2 ∨ k = 3 ∨ k = 4 ∨ k = 5 ∨ k = 6 ∨ k = 7 ∨ k = 8 by omega) with rfl | rfl | rfl | rfl | rfl | rfl | rfl | rfl | rfl <;> rfl
    · subst hk; rfl
theorem leafA {f : Nat → Int} {N b e : Nat} {B A' : St} (hG : MG f N b e B) (ha : q_X12_ahead B A') : MO f N b e A' ∧ rq A' B ∧ A' 0 53 = B 0 53 ∧ A' 0 54 = B 0 54 ∧ A' 0 57 = B 0 57 := by
  have g := hG.ahead ha
  exact ⟨g.1, g.2, ha.2.2.1.2 53 rfl, ha.2.2.1.2 54 rfl, ha.2.2.1.2 57 rfl⟩
/-- the token behind p -/
abbrev tsg (f : Nat → Int) (N p : Nat) (c : Int) : Prop := tKind f N p = 3 ∧ f (sAt f N p) = c
abbrev tow (f : Nat → Int) (N p k : Nat) : Prop := tKind f N p = 1 ∧ wv f N p = own5 k
abbrev tari (f : Nat → Int) (N p : Nat) : Prop := tsg f N p 43 ∨ tsg f N p 45 ∨ tsg f N p 42 ∨ tsg f N p 47 ∨ tsg f N p 37
/-- behind a turn: a token more, the operand's mark x -/
def AF (f : Nat → Int) (N b e : Nat) (x : Int) (B v : St) : Prop := MO f N b e v ∧ v 0 53 = B 0 53 ∧ v 0 54 = B 0 54 ∧ v 0 57 = x ∧ v 35 = B 35 ∧ v 36 = B 36 ∧ v 37 = B 37
theorem AF.mk {f : Nat → Int} {N b e : Nat} {x : Int} {B A' v : St} (hG : MG f N b e B) (ha : q_X12_ahead B A') (hv : v = stA A' 0 57 x) : AF f N b e x B v := by
  obtain ⟨g1, g2, g3, g4, _⟩ := leafA hG ha
  subst hv
  exact ⟨g1.s57, g3, g4, rfl, g2 35 (by decide), g2 36 (by decide), g2 37 (by decide)⟩
theorem AF.mk0 {f : Nat → Int} {N b e : Nat} {x : Int} {B v : St} (hG : MG f N b e B) (ha : q_X12_ahead B v) (hx : B 0 57 = x) : AF f N b e x B v := by
  obtain ⟨g1, g2, g3, g4, g5⟩ := leafA hG ha
  exact ⟨g1, g3, g4, g5.trans hx, g2 35 (by decide), g2 36 (by decide), g2 37 (by decide)⟩
theorem AF.cg {f : Nat → Int} {N b e : Nat} {x : Int} {A B v : St} (h : AF f N b e x B v) (g : SB A B) : AF f N b e x A v := by
  obtain ⟨h1, h2, h3, h4, h5, h6, h7⟩ := h
  exact ⟨h1, h2.trans (g.k 53 rfl), h3.trans (g.k 54 rfl), h4, h5.trans (g.r 35 (by decide) rfl), h6.trans (g.r 36 (by decide) rfl), h7.trans (g.r 37 (by decide) rfl)⟩
theorem q_joins_sb {x : Int} {A u : St} (h : q_X12_joins x A u) : SB A u := SB.of h.2.2.1 rfl rfl
theorem q_holds_sb {x : Int} {A u : St} (h : q_X12_holdsBack x A u) : SB A u := SB.of h.2.2.1 rfl rfl
theorem q_add_sb {x y : Int} {A u : St} (h : q_X12_add x y A u) : SB A u := SB.of h.2.2.1 rfl rfl
theorem isTest_iff {x z : Int} {A : St} (h : q_X12_isTest x A z) : (z = 1 ∧ (x = 1 ∨ x = 5)) ∨ (z = 0 ∧ ¬ (x = 1 ∨ x = 5)) := by
  rcases (h.1 : tr_r_X12_isTest x A z) with ⟨c, hz⟩ | ⟨c, h⟩
  · exact Or.inl ⟨hz, Or.inl c⟩
  · rcases h with ⟨c2, hz⟩ | ⟨c2, hz⟩
    · refine Or.inr ⟨hz, ?_⟩
      rintro (g | g)
      · exact c g
      · exact c2 g
    · exact Or.inl ⟨hz, Or.inr c2⟩
theorem G_base {f : Nat → Int} {N b p D : Nat} {A v : St} {z : Int} (h : MS f N b p A) (hD : A 0 53 = (D : Int)) (h1 : 1 ≤ D) (hq : q_X12_goesOn A z v) : (A 36 (D - 1) < 2 ∧ tari f N p ∧ z = 1 ∧ AF f N b (tEnd f N p) 0 A v) ∨ (¬ (A 36 (D - 1) < 2 ∧ tari f N p) ∧ ∃ z2, ((z2 = 1 ∧ (A 35 (D - 1) = 1 ∨ A 35 (D - 1) = 5)) ∨ (z2 = 0 ∧ ¬ (A 35 (D - 1) = 1 ∨ A 35 (D - 1) = 5))) ∧ d_X12_goesOn_2 A z v (A 35 (D - 1)) z2) := by
  have ix : (A 0 53 - 1).toNat = D - 1 := by omega
  obtain ⟨z1, hz1, z2, ht, z5, hz5, h2⟩ := (hq.1 : tr_r_X12_goesOn A z v)
  rw [ix] at hz1 hz5
  have ht := isTest_iff ht
  subst hz1 hz5
  have d1 : A 36 (D - 1) < 2 → tari f N p → d_X12_goesOn_1 A z v (A 35 (D - 1)) z2 → (A 36 (D - 1) < 2 ∧ tari f N p ∧ z = 1 ∧ AF f N b (tEnd f N p) 0 A v) := by
    intro hp ha h2
    refine ⟨hp, ha, ?_⟩
    have fin : ∀ (B B1 A' : St) (x : Int), SB A B → q_X12_holdsBack x B B1 → q_X12_ahead B1 A' → (∃ A49 : St, A49 = stA A' 0 57 0 ∧ (z = 1 ∧ v = A49)) → z = 1 ∧ AF f N b (tEnd f N p) 0 A v := by
      intro B B1 A' x s1 s2 ha2 h3
      obtain ⟨A49, e, hz, hv⟩ := h3
      have s := s1.trans (q_holds_sb s2)
      exact ⟨hz, (AF.mk (h.go.sb s) ha2 (hv.trans e)).cg s⟩
    obtain ⟨z30, _, h2⟩ := (h2 : tr_d_X12_goesOn_1 A z v (A 35 (D - 1)) z2)
    rcases h2 with ⟨_, A34, hj, z39, _, A43, hh, A46, ha2, h3⟩ | ⟨_, z78, _, h2⟩
    · exact fin A34 A43 A46 _ (q_joins_sb hj) hh ha2 h3
    · rcases h2 with ⟨_, A82, hj, z87, _, z91, _, z95, _, h2⟩ | ⟨_, A208, hj, z213, _, z217, _, A221, hh, A224, ha2, h3⟩
      · rcases h2 with ⟨_, z99, _, h2⟩ | ⟨_, A173, hh, A176, ha2, h3⟩
        · rcases h2 with ⟨_, A103, hh, A106, ha2, h3⟩ | ⟨_, A138, hh, A141, ha2, h3⟩
          · exact fin A82 A103 A106 _ (q_joins_sb hj) hh ha2 h3
          · exact fin A82 A138 A141 _ (q_joins_sb hj) hh ha2 h3
        · exact fin A82 A173 A176 _ (q_joins_sb hj) hh ha2 h3
      · exact fin A208 A221 A224 _ (q_joins_sb hj) hh ha2 h3
  rcases h2 with ⟨c, h2⟩ | ⟨c, z8, i43, h2⟩
  · exact Or.inr ⟨fun g => by have := g.1; omega, z2, ht, h2⟩
  · have hp : A 36 (D - 1) < 2 := by omega
    rcases h2 with ⟨c1, h2⟩ | ⟨c1, z13, i45, h2⟩
    · rcases h.isS i43 with ⟨_, g⟩ | ⟨g, _⟩
      · exact Or.inl (d1 hp (Or.inl g) h2)
      · exact absurd g c1
    · have n43 : ¬ tsg f N p 43 := by
        rcases h.isS i43 with ⟨g, _⟩ | ⟨_, g⟩
        · omega
        · exact g
      rcases h2 with ⟨c2, h2⟩ | ⟨c2, z17, i42, h2⟩
      · rcases h.isS i45 with ⟨_, g⟩ | ⟨g, _⟩
        · exact Or.inl (d1 hp (Or.inr (Or.inl g)) h2)
        · exact absurd g c2
      · have n45 : ¬ tsg f N p 45 := by
          rcases h.isS i45 with ⟨g, _⟩ | ⟨_, g⟩
          · omega
          · exact g
        rcases h2 with ⟨c3, h2⟩ | ⟨c3, z21, i47, h2⟩
        · rcases h.isS i42 with ⟨_, g⟩ | ⟨g, _⟩
          · exact Or.inl (d1 hp (Or.inr (Or.inr (Or.inl g))) h2)
          · exact absurd g c3
        · have n42 : ¬ tsg f N p 42 := by
            rcases h.isS i42 with ⟨g, _⟩ | ⟨_, g⟩
            · omega
            · exact g
          rcases h2 with ⟨c4, h2⟩ | ⟨c4, z25, i37, h2⟩
          · rcases h.isS i47 with ⟨_, g⟩ | ⟨g, _⟩
            · exact Or.inl (d1 hp (Or.inr (Or.inr (Or.inr (Or.inl g)))) h2)
            · exact absurd g c4
          · have n47 : ¬ tsg f N p 47 := by
              rcases h.isS i47 with ⟨g, _⟩ | ⟨_, g⟩
              · omega
              · exact g
            rcases h2 with ⟨c5, h2⟩ | ⟨c5, h2⟩
            · have n37 : ¬ tsg f N p 37 := by
                rcases h.isS i37 with ⟨g, _⟩ | ⟨_, g⟩
                · omega
                · exact g
              refine Or.inr ⟨fun g => ?_, z2, ht, h2⟩
              rcases g.2 with g | g | g | g | g
              · exact n43 g
              · exact n45 g
              · exact n42 g
              · exact n47 g
              · exact n37 g
            · rcases h.isS i37 with ⟨_, g⟩ | ⟨g, _⟩
              · exact Or.inl (d1 hp (Or.inr (Or.inr (Or.inr (Or.inr g)))) h2)
              · exact absurd g c5
abbrev tcmp (f : Nat → Int) (N p : Nat) : Prop := tsg f N p 60 ∨ tsg f N p 62 ∨ tsg f N p 61
theorem G_cmp {f : Nat → Int} {N b p D : Nat} {A v : St} {z z2 k : Int} (h : MS f N b p A) (hD : A 0 53 = (D : Int)) (h1 : 1 ≤ D) (h01 : z2 = 1 ∨ z2 = 0) (hq : d_X12_goesOn_2 A z v k z2) : (z2 = 1 ∧ A 36 (D - 1) = 0 ∧ tcmp f N p ∧ z = 1 ∧ ∃ B, B = stA A 36 (D - 1) 1 ∧ AF f N b (tEnd f N p) 0 B v) ∨ (¬ (z2 = 1 ∧ A 36 (D - 1) = 0 ∧ tcmp f N p) ∧ d_X12_goesOn_4 A z v k z2) := by
  have ix : (A 0 53 - 1).toNat = D - 1 := by omega
  have d3 : z2 = 1 → A 36 (D - 1) = 0 → tcmp f N p → d_X12_goesOn_3 A z v k z2 → (z2 = 1 ∧ A 36 (D - 1) = 0 ∧ tcmp f N p ∧ z = 1 ∧ ∃ B, B = stA A 36 (D - 1) 1 ∧ AF f N b (tEnd f N p) 0 B v) := by
    intro e2 hp hc h2
    refine ⟨e2, hp, hc, ?_⟩
    have fin : ∀ (B B1 B2 A' : St) (x : Int), SB A B → q_X12_holdsBack x B B1 → B2 = stA B1 36 (D - 1) 1 → q_X12_ahead B2 A' → (∃ A49 : St, A49 = stA A' 0 57 0 ∧ (z = 1 ∧ v = A49)) → z = 1 ∧ ∃ B, B = stA A 36 (D - 1) 1 ∧ AF f N b (tEnd f N p) 0 B v := by
      intro B B1 B2 A' x s1 s2 eB ha2 h3
      obtain ⟨A49, e, hz, hv⟩ := h3
      have s := s1.trans (q_holds_sb s2)
      have hG : MG f N b (tEnd f N p) B2 := by
        rw [eB]
        exact (h.go.sb s).fr rfl (fun _ _ => rfl)
      obtain ⟨a1, a2, a3, a4, a5, a6, a7⟩ := AF.mk hG ha2 (hv.trans e)
      refine ⟨hz, _, rfl, a1, ?_, ?_, a4, ?_, ?_, ?_⟩
      · rw [a2, eB]; exact s.k 53 rfl
      · rw [a3, eB]; exact s.k 54 rfl
      · rw [a5, eB]; exact s.r 35 (by decide) rfl
      · rw [a6, eB, stA_same, stA_same, s.r 36 (by decide) rfl]
      · rw [a7, eB]; exact s.r 37 (by decide) rfl
    obtain ⟨A275, hj, z280, _, h2⟩ := (h2 : tr_d_X12_goesOn_3 A z v k z2)
    rw [ix] at h2
    rcases h2 with ⟨_, z284, _, h2⟩ | ⟨_, A378, hh, A381, e, A382, ha2, h3⟩
    · rcases h2 with ⟨_, A288, hh, A291, e, A292, ha2, h3⟩ | ⟨_, A333, hh, A336, e, A337, ha2, h3⟩
      · exact fin A275 A288 A291 A292 _ (q_joins_sb hj) hh e ha2 h3
      · exact fin A275 A333 A336 A337 _ (q_joins_sb hj) hh e ha2 h3
    · exact fin A275 A378 A381 A382 _ (q_joins_sb hj) hh e ha2 h3
  rcases (hq : tr_d_X12_goesOn_2 A z v k z2) with ⟨c, h2⟩ | ⟨c, z259, hz, h2⟩
  · exact Or.inr ⟨fun g => by have := g.1; omega, h2⟩
  · have e2 : z2 = 1 := h01.resolve_right c
    rw [ix] at hz
    rcases h2 with ⟨c1, h2⟩ | ⟨c1, z261, i60, h2⟩
    · exact Or.inr ⟨fun g => c1 (hz.trans g.2.1), h2⟩
    · have hp : A 36 (D - 1) = 0 := by omega
      rcases h2 with ⟨c2, h2⟩ | ⟨c2, z266, i62, h2⟩
      · rcases h.isS i60 with ⟨_, g⟩ | ⟨g, _⟩
        · exact Or.inl (d3 e2 hp (Or.inl g) h2)
        · exact absurd g c2
      · have n60 : ¬ tsg f N p 60 := by
          rcases h.isS i60 with ⟨g, _⟩ | ⟨_, g⟩
          · omega
          · exact g
        rcases h2 with ⟨c3, h2⟩ | ⟨c3, z270, i61, h2⟩
        · rcases h.isS i62 with ⟨_, g⟩ | ⟨g, _⟩
          · exact Or.inl (d3 e2 hp (Or.inr (Or.inl g)) h2)
          · exact absurd g c3
        · have n62 : ¬ tsg f N p 62 := by
            rcases h.isS i62 with ⟨g, _⟩ | ⟨_, g⟩
            · omega
            · exact g
          rcases h2 with ⟨c4, h2⟩ | ⟨c4, h2⟩
          · have n61 : ¬ tsg f N p 61 := by
              rcases h.isS i61 with ⟨g, _⟩ | ⟨_, g⟩
              · omega
              · exact g
            refine Or.inr ⟨fun g => ?_, h2⟩
            rcases g.2.2 with g | g | g
            · exact n60 g
            · exact n62 g
            · exact n61 g
          · rcases h.isS i61 with ⟨_, g⟩ | ⟨g, _⟩
            · exact Or.inl (d3 e2 hp (Or.inr (Or.inr g)) h2)
            · exact absurd g c4
