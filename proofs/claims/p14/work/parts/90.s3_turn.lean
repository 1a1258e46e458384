/-! The reference's turns once more: what they write. -/
theorem cs57 {A : St} {x : Int} : CSm A (stA A 0 57 x) := ⟨rfl, rfl, rfl, rfl, rfl, rfl, rfl⟩
theorem isS_no {f : Nat → Int} {N b p : Nat} {A : St} {c z : Int} (h : MS f N b p A) (hq : q_X12_isSign c A z) (hz : z = 0) : ¬ tsg f N p c := by
  rcases h.isS hq with ⟨g, _⟩ | ⟨_, g⟩
  · omega
  · exact g
theorem isS_yes {f : Nat → Int} {N b p : Nat} {A : St} {c z : Int} (h : MS f N b p A) (hq : q_X12_isSign c A z) (hz : ¬ z = 0) : tsg f N p c := by
  rcases h.isS hq with ⟨_, g⟩ | ⟨g, _⟩
  · exact g
  · exact absurd g hz
theorem J_arith {f : Nat → Int} {N b p D : Nat} {A v : St} {z : Int} (h : MS f N b p A) (hD : A 0 53 = (D : Int)) (h1 : 1 ≤ D) (hph : A 36 (D - 1) < 2) (ha : tari f N p) (hq : q_X12_goesOn A z v) : ∃ (l x : Int) (B B1 : St), ((tsg f N p 43 ∧ l = 5 ∧ x = 10) ∨ (tsg f N p 45 ∧ l = 5 ∧ x = 11) ∨ (tsg f N p 42 ∧ l = 6 ∧ x = 12) ∨ (tsg f N p 47 ∧ l = 6 ∧ x = 13) ∨ (tsg f N p 37 ∧ l = 6 ∧ x = 14)) ∧ q_X12_joins l A B ∧ q_X12_holdsBack x B B1 ∧ CSm B1 v := by
  have ix : (A 0 53 - 1).toNat = D - 1 := by omega
  obtain ⟨z1, hz1, z2, ht, z5, hz5, h2⟩ := (hq.1 : tr_r_X12_goesOn A z v)
  rw [ix] at hz1 hz5
  have d1 : d_X12_goesOn_1 A z v z1 z2 → ∃ (l x : Int) (B B1 : St), ((tsg f N p 43 ∧ l = 5 ∧ x = 10) ∨ (tsg f N p 45 ∧ l = 5 ∧ x = 11) ∨ (tsg f N p 42 ∧ l = 6 ∧ x = 12) ∨ (tsg f N p 47 ∧ l = 6 ∧ x = 13) ∨ (tsg f N p 37 ∧ l = 6 ∧ x = 14)) ∧ q_X12_joins l A B ∧ q_X12_holdsBack x B B1 ∧ CSm B1 v := by
    intro h2
    have end1 : ∀ (B1 A' A49 : St), q_X12_ahead B1 A' → A49 = stA A' 0 57 0 → v = A49 → CSm B1 v := by
      intro B1 A' A49 h1 h2 h3
      rw [h3, h2]
      exact (ahead_cs h1).trans cs57
    obtain ⟨z30, i43, h2⟩ := (h2 : tr_d_X12_goesOn_1 A z v z1 z2)
    rcases h2 with ⟨c, A34, hj, z39, _, A43, hh, A46, ha2, A49, e, _, hv⟩ | ⟨c, z78, i45, h2⟩
    · exact ⟨5, 10, A34, A43, Or.inl ⟨isS_yes h i43 c, rfl, rfl⟩, hj, hh, end1 _ _ _ ha2 e hv⟩
    · have n43 := isS_no h i43 c
      rcases h2 with ⟨c2, A82, hj, z87, _, z91, _, z95, i42, h2⟩ | ⟨c2, A208, hj, z213, _, z217, _, A221, hh, A224, ha2, A227, e, _, hv⟩
      · have n45 := isS_no h i45 c2
        have s82 := h.sb (q_joins_sb hj)
        rcases h2 with ⟨c3, z99, i47, h2⟩ | ⟨c3, A173, hh, A176, ha2, A179, e, _, hv⟩
        · have n42 := isS_no s82 i42 c3
          rcases h2 with ⟨c4, A103, hh, A106, ha2, A109, e, _, hv⟩ | ⟨c4, A138, hh, A141, ha2, A144, e, _, hv⟩
          · have n47 := isS_no s82 i47 c4
            have y37 : tsg f N p 37 := by
              rcases ha with g | g | g | g | g
              · exact absurd g n43
              · exact absurd g n45
              · exact absurd g n42
              · exact absurd g n47
              · exact g
            exact ⟨6, 14, A82, A103, Or.inr (Or.inr (Or.inr (Or.inr ⟨y37, rfl, rfl⟩))), hj, hh, end1 _ _ _ ha2 e hv⟩
          · exact ⟨6, 13, A82, A138, Or.inr (Or.inr (Or.inr (Or.inl ⟨isS_yes s82 i47 c4, rfl, rfl⟩))), hj, hh, end1 _ _ _ ha2 e hv⟩
        · exact ⟨6, 12, A82, A173, Or.inr (Or.inr (Or.inl ⟨isS_yes s82 i42 c3, rfl, rfl⟩)), hj, hh, end1 _ _ _ ha2 e hv⟩
      · exact ⟨5, 11, A208, A221, Or.inr (Or.inl ⟨isS_yes h i45 c2, rfl, rfl⟩), hj, hh, end1 _ _ _ ha2 e hv⟩
  rcases h2 with ⟨c, _⟩ | ⟨c, z8, i43, h2⟩
  · omega
  · rcases h2 with ⟨_, h2⟩ | ⟨c1, z13, i45, h2⟩
    · exact d1 h2
    · rcases h2 with ⟨_, h2⟩ | ⟨c2, z17, i42, h2⟩
      · exact d1 h2
      · rcases h2 with ⟨_, h2⟩ | ⟨c3, z21, i47, h2⟩
        · exact d1 h2
        · rcases h2 with ⟨_, h2⟩ | ⟨c4, z25, i37, h2⟩
          · exact d1 h2
          · rcases h2 with ⟨c5, _⟩ | ⟨_, h2⟩
            · rcases ha with g | g | g | g | g
              · exact absurd g (isS_no h i43 c1)
              · exact absurd g (isS_no h i45 c2)
              · exact absurd g (isS_no h i42 c3)
              · exact absurd g (isS_no h i47 c4)
              · exact absurd g (isS_no h i37 c5)
            · exact d1 h2
theorem J_cmp {f : Nat → Int} {N b p D : Nat} {A v : St} {z z2 k : Int} (h : MS f N b p A) (hD : A 0 53 = (D : Int)) (h1 : 1 ≤ D) (e2 : z2 = 1) (hp : A 36 (D - 1) = 0) (hc : tcmp f N p) (hq : d_X12_goesOn_2 A z v k z2) : ∃ (x : Int) (B B1 : St), ((tsg f N p 60 ∧ x = 17) ∨ (tsg f N p 62 ∧ x = 18) ∨ (tsg f N p 61 ∧ x = 19)) ∧ q_X12_joins 5 A B ∧ q_X12_holdsBack x B B1 ∧ CSm B1 v := by
  have ix : (A 0 53 - 1).toNat = D - 1 := by omega
  have d3 : d_X12_goesOn_3 A z v k z2 → ∃ (x : Int) (B B1 : St), ((tsg f N p 60 ∧ x = 17) ∨ (tsg f N p 62 ∧ x = 18) ∨ (tsg f N p 61 ∧ x = 19)) ∧ q_X12_joins 5 A B ∧ q_X12_holdsBack x B B1 ∧ CSm B1 v := by
    intro h2
    have end1 : ∀ (B1 B2 A' A49 : St) (j : Nat) (y : Int), B2 = stA B1 36 j y → q_X12_ahead B2 A' → A49 = stA A' 0 57 0 → v = A49 → CSm B1 v := by
      intro B1 B2 A' A49 j y e1 h1 h2 h3
      rw [h3, h2]
      have g : CSm B1 B2 := by rw [e1]; exact ⟨rfl, rfl, rfl, rfl, rfl, rfl, rfl⟩
      exact (g.trans (ahead_cs h1)).trans cs57
    obtain ⟨A275, hj, z280, i60, h2⟩ := (h2 : tr_d_X12_goesOn_3 A z v k z2)
    have s := h.sb (q_joins_sb hj)
    rcases h2 with ⟨c1, z284, i62, h2⟩ | ⟨c1, A378, hh, A381, e, A382, ha2, A385, e5, _, hv⟩
    · rcases h2 with ⟨c2, A288, hh, A291, e, A292, ha2, A295, e5, _, hv⟩ | ⟨c2, A333, hh, A336, e, A337, ha2, A340, e5, _, hv⟩
      · have y61 : tsg f N p 61 := by
          rcases hc with g | g | g
          · exact absurd g (isS_no s i60 c1)
          · exact absurd g (isS_no s i62 c2)
          · exact g
        exact ⟨19, A275, A288, Or.inr (Or.inr ⟨y61, rfl⟩), hj, hh, end1 _ _ _ _ _ _ e ha2 e5 hv⟩
      · exact ⟨18, A275, A333, Or.inr (Or.inl ⟨isS_yes s i62 c2, rfl⟩), hj, hh, end1 _ _ _ _ _ _ e ha2 e5 hv⟩
    · exact ⟨17, A275, A378, Or.inl ⟨isS_yes s i60 c1, rfl⟩, hj, hh, end1 _ _ _ _ _ _ e ha2 e5 hv⟩
  rcases (hq : tr_d_X12_goesOn_2 A z v k z2) with ⟨c, _⟩ | ⟨c, z259, hz, h2⟩
  · exact absurd (e2.symm.trans c) (by decide)
  · rw [ix, hp] at hz
    rcases h2 with ⟨c1, _⟩ | ⟨_, z261, i60, h2⟩
    · exact absurd hz c1
    · rcases h2 with ⟨_, h2⟩ | ⟨c2, z266, i62, h2⟩
      · exact d3 h2
      · rcases h2 with ⟨_, h2⟩ | ⟨c3, z270, i61, h2⟩
        · exact d3 h2
        · rcases h2 with ⟨c4, _⟩ | ⟨_, h2⟩
          · rcases hc with g | g | g
            · exact absurd g (isS_no h i60 c2)
            · exact absurd g (isS_no h i62 c3)
            · exact absurd g (isS_no h i61 c4)
          · exact d3 h2
theorem J_andor {f : Nat → Int} {N b p D : Nat} {A v : St} {z z2 k : Int} (h : MS f N b p A) (hD : A 0 53 = (D : Int)) (h1 : 1 ≤ D) (e2 : z2 = 1) (hp : ¬ A 36 (D - 1) = 0) (hw : tow f N p 17 ∨ tow f N p 16) (hq : d_X12_goesOn_4 A z v k z2) : ∃ (l x : Int) (B B1 : St), ((tow f N p 17 ∧ l = 2 ∧ x = 20) ∨ (tow f N p 16 ∧ l = 1 ∧ x = 21)) ∧ q_X12_joins l A B ∧ q_X12_holdsBack x B B1 ∧ CSm B1 v := by
  have ix : (A 0 53 - 1).toNat = D - 1 := by omega
  have d5 : d_X12_goesOn_5 A z v k z2 → ∃ (l x : Int) (B B1 : St), ((tow f N p 17 ∧ l = 2 ∧ x = 20) ∨ (tow f N p 16 ∧ l = 1 ∧ x = 21)) ∧ q_X12_joins l A B ∧ q_X12_holdsBack x B B1 ∧ CSm B1 v := by
    intro h2
    have end1 : ∀ (B1 B2 A' A49 : St) (j j' : Nat) (y y' : Int), B2 = stA (stA B1 36 j y) 37 j' y' → q_X12_ahead B2 A' → A49 = stA A' 0 57 0 → v = A49 → CSm B1 v := by
      intro B1 B2 A' A49 j j' y y' e1 h1 h2 h3
      rw [h3, h2]
      have g : CSm B1 B2 := by rw [e1]; exact ⟨rfl, rfl, rfl, rfl, rfl, rfl, rfl⟩
      exact (g.trans (ahead_cs h1)).trans cs57
    obtain ⟨z436, hz, h2⟩ := (h2 : tr_d_X12_goesOn_5 A z v k z2)
    rw [ix] at hz
    rcases h2 with ⟨_, h2⟩ | ⟨c, _⟩
    · obtain ⟨_, h2⟩ := (h2 : tr_d_X12_goesOn_6 A z v k z2 A)
      rcases h2 with ⟨_, z445, ia, h2⟩ | ⟨c, _⟩
      · have ia := h.isW (WR_own17 : WR 6385252 4545) ia
        rcases h2 with ⟨c1, A449, hj, A455, hh, A458, e, A459, ha2, A462, e5, _, hv⟩ | ⟨c1, A499, hj, A505, hh, A508, e, A509, ha2, A512, e5, _, hv⟩
        · have y16 : tow f N p 16 := by
            rcases hw with g | g
            · rcases ia with ⟨g2, _⟩ | ⟨_, g2⟩
              · exact absurd (g2.symm.trans c1) (by decide)
              · exact absurd g g2
            · exact g
          exact ⟨1, 21, A449, A455, Or.inr ⟨y16, rfl, rfl⟩, hj, hh, end1 _ _ _ _ _ _ _ _ e ha2 e5 hv⟩
        · have y17 : tow f N p 17 := by
            rcases ia with ⟨_, g⟩ | ⟨g, _⟩
            · exact g
            · exact absurd g c1
          exact ⟨2, 20, A499, A505, Or.inl ⟨y17, rfl, rfl⟩, hj, hh, end1 _ _ _ _ _ _ _ _ e ha2 e5 hv⟩
      · exact absurd (Int.le_of_eq h.ns) c
    · exact absurd (hz.symm.trans c) hp
  rcases (hq : tr_d_X12_goesOn_4 A z v k z2) with ⟨c, _⟩ | ⟨c, z426, ia, h2⟩
  · exact absurd (e2.symm.trans c) (by decide)
  · have ia := h.isW (WR_own17 : WR 6385252 4545) ia
    rcases h2 with ⟨_, h2⟩ | ⟨c1, z431, io, h2⟩
    · exact d5 h2
    · have io := h.isW (WR_own16 : WR 28530 591) io
      rcases h2 with ⟨c2, _⟩ | ⟨_, h2⟩
      · rcases hw with g | g
        · rcases ia with ⟨g2, _⟩ | ⟨_, g2⟩
          · exact absurd (g2.symm.trans c1) (by decide)
          · exact absurd g g2
        · rcases io with ⟨g2, _⟩ | ⟨_, g2⟩
          · exact absurd (g2.symm.trans c2) (by decide)
          · exact absurd g g2
      · exact d5 h2
theorem J_k1 {A v : St} {z k : Int} (hk : k < 2) (h8 : A 0 8 = 0) (h : d_X12_goesOn_8 A z v k A) : q_X12_joins 1 A v := by
  obtain ⟨_, h⟩ := (h : tr_d_X12_goesOn_8 A z v k A)
  rcases h with ⟨c, _⟩ | ⟨_, h⟩
  · omega
  · rcases h with ⟨c, _⟩ | ⟨_, A754, hj, _, hv⟩
    · exact absurd h8 c
    · rw [hv]; exact hj
theorem J_k3 {f : Nat → Int} {N b p : Nat} {A v : St} {z : Int} (h : MS f N b p A) (y : tsg f N p 44) (hq : d_X12_goesOn_8 A z v 3 A) : ∃ B, q_X12_joins 1 A B ∧ CSm B v := by
  obtain ⟨_, hq⟩ := (hq : tr_d_X12_goesOn_8 A z v 3 A)
  rcases hq with ⟨_, hq⟩ | ⟨c, _⟩
  · rcases hq with ⟨c, _⟩ | ⟨_, z703, is, hq⟩
    · exact absurd rfl c
    · rcases hq with ⟨_, hq⟩ | ⟨c1, _⟩
      · obtain ⟨_, hq⟩ := (hq : tr_d_X12_goesOn_11 A z v A)
        rcases hq with ⟨_, A716, hj, A721, e, A722, ha2, A725, e2, _, hv⟩ | ⟨c, _⟩
        · refine ⟨A716, hj, ?_⟩
          rw [hv, e2]
          have g : CSm A716 A721 := by rw [e]; exact ⟨rfl, rfl, rfl, rfl, rfl, rfl, rfl⟩
          exact (g.trans (ahead_cs ha2)).trans cs57
        · exact absurd (Int.le_of_eq h.ns) c
      · exact absurd y (isS_no h is c1)
  · exact absurd c (by decide)
theorem J_kc {f : Nat → Int} {N b p D : Nat} {A v : St} {z k x : Int} (hk : (k = 2 ∧ x = 41) ∨ (k = 4 ∧ x = 41) ∨ (k = 5 ∧ x = 93)) (h : MS f N b p A) (hD : A 0 53 = (D : Int)) (h1 : 2 ≤ D) (y : tsg f N p x) (hq : d_X12_goesOn_8 A z v k A) : ∃ B B', q_X12_joins 1 A B ∧ CSm B B' ∧ B' 0 47 = B 0 47 ∧ ((¬ k = 4 ∧ CSm B' v) ∨ (k = 4 ∧ ∃ B2, q_X12_add (B 38 (D - 1)) 0 B' B2 ∧ CSm B2 v)) := by
  have ix1 : (A 0 53 - 1).toNat = D - 1 := by omega
  obtain ⟨_, hq⟩ := (hq : tr_d_X12_goesOn_8 A z v k A)
  have d9 : d_X12_goesOn_9 k A A z v x := by
    rcases hq with ⟨_, hq⟩ | ⟨c, _⟩
    · rcases hq with ⟨c, hq⟩ | ⟨c, _⟩
      · rcases hq with ⟨c2, hq⟩ | ⟨c2, hq⟩
        · rcases hk with ⟨_, hx⟩ | ⟨_, hx⟩ | ⟨hk, _⟩
          · rw [hx]; exact hq
          · rw [hx]; exact hq
          · exact absurd hk c2
        · rcases hk with ⟨hk, _⟩ | ⟨hk, _⟩ | ⟨_, hx⟩
          · rw [hk] at c2; exact absurd c2 (by decide)
          · rw [hk] at c2; exact absurd c2 (by decide)
          · rw [hx]; exact hq
      · rcases hk with ⟨hk, _⟩ | ⟨hk, _⟩ | ⟨hk, _⟩ <;> · rw [hk] at c; exact absurd c (by decide)
    · rcases hk with ⟨hk, _⟩ | ⟨hk, _⟩ | ⟨hk, _⟩ <;> · rw [hk] at c; exact absurd c (by decide)
  obtain ⟨_, z567, is, hq⟩ := (d9 : tr_d_X12_goesOn_9 k A A z v x)
  rcases hq with ⟨_, hq⟩ | ⟨c1, _⟩
  · obtain ⟨_, hq⟩ := (hq : tr_d_X12_goesOn_10 A z v k A)
    rw [ix1] at hq
    rcases hq with ⟨_, A579, hj, A584, e, hq⟩ | ⟨c, _⟩
    · have g : CSm A579 A584 := by rw [e]; exact ⟨rfl, rfl, rfl, rfl, rfl, rfl, rfl⟩
      refine ⟨A579, A584, hj, g, by rw [e]; rfl, ?_⟩
      rcases hq with ⟨k4, hq⟩ | ⟨k4, z657, e7, A658, had, A663, ha2, _, hv⟩
      · refine Or.inl ⟨k4, ?_⟩
        rcases hq with ⟨_, A587, ha2, _, hv⟩ | ⟨_, A616, e6, A617, ha2, _, hv⟩
        · rw [hv]; exact ahead_cs ha2
        · rw [hv]
          have g6 : CSm A584 A616 := by rw [e6]; exact ⟨rfl, rfl, rfl, rfl, rfl, rfl, rfl⟩
          exact g6.trans (ahead_cs ha2)
      · refine Or.inr ⟨k4, A658, ?_, by rw [hv]; exact ahead_cs ha2⟩
        rw [← g.2.2.1, ← e7]
        exact had
    · exact absurd (Int.le_of_eq h.ns) c
  · exact absurd y (isS_no h is c1)
/-- behind an opening bracket nothing is written, and what is held back begins anew -/
def COp (D : Nat) (A v : St) : Prop := v 33 = A 33 ∧ v 34 = A 34 ∧ v 38 = A 38 ∧ v 39 = up (A 39) D (A 0 56) ∧ v 40 = A 40 ∧ v 0 46 = A 0 46 ∧ v 0 56 = A 0 56
theorem J_opens {A v : St} {k : Int} {D : Nat} (h8 : A 0 8 = 0) (h54 : ¬ A 0 54 = 8) (hD : A 0 53 = (D : Int)) (hq : q_X12_opens k A v) : COp D A v := by
  rcases (hq.1 : tr_r_X12_opens k A v) with ⟨_, h2⟩ | ⟨c, _⟩
  · obtain ⟨_, h2⟩ := (h2 : tr_d_X12_opens_1 k A v A)
    rcases h2 with ⟨_, A11, e11, A12, ha, A15, hp, hv⟩ | ⟨c2, _⟩
    · have g : CSm A A11 := by rw [e11]; exact ⟨rfl, rfl, rfl, rfl, rfl, rfl, rfl⟩
      obtain ⟨g1, g2, g3, g4, g5, g6, g7⟩ := g.trans (ahead_cs ha)
      have d12 : A12 0 53 = (D : Int) := by
        rw [ha.2.2.1.2 53 rfl, e11]
        exact hD
      obtain ⟨A1, e1, e2⟩ := (hp.1 : tr_r_X12_pushes k A12 A15)
      rw [d12, Int.toNat_natCast] at e1
      rw [hv, e2, e1]
      refine ⟨g1, g2, g3, ?_, g5, g6, g7⟩
      show up (A12 39) D (A12 0 56) = up (A 39) D (A 0 56)
      rw [g4, g7]
    · omega
  · exact absurd c h54
theorem J_leaf {f : Nat → Int} {N b p : Nat} {A B v : St} {z : Int} (h : MS f N b p B) (hA : A 0 3 = B 0 3) (hl : tlf f N p) (hq : d_X12_operand_5 A B z v) : ∃ (x : Int) (C : St), ((tKind f N p = 2 ∧ x = 0) ∨ (tow f N p 20 ∧ x = 1) ∨ (tow f N p 21 ∧ x = 2) ∨ (tow f N p 22 ∧ x = 3) ∨ (tow f N p 23 ∧ x = 4)) ∧ q_X12_add x (A 0 6) B C ∧ CSm C v := by
  have d6 : ∀ x : Int, ¬ x = -1 → d_X12_operand_6 A B z v x → ∃ C, q_X12_add x (A 0 6) B C ∧ CSm C v := by
    intro x hx h2
    obtain ⟨_, h2⟩ := (h2 : tr_d_X12_operand_6 A B z v x)
    rcases h2 with ⟨_, h2⟩ | ⟨c, _⟩
    · obtain ⟨_, h2⟩ := (h2 : tr_d_X12_operand_7 x A z v B)
      rcases h2 with ⟨_, A166, had, A170, ha, _, hv⟩ | ⟨c, _⟩
      · exact ⟨A166, had, by rw [hv]; exact ahead_cs ha⟩
      · exact absurd (Int.le_of_eq h.ns) c
    · exact absurd c hx
  have nt : ∀ {k : Nat}, tow f N p k → tsg f N p 40 → False := fun g1 g2 => by have := g1.1; have := g2.1; omega
  have l40 : tsg f N p 40 → False := by
    intro g2
    rcases hl with g | g | g | g | g
    · have := g2.1; omega
    · exact nt g g2
    · exact nt g g2
    · exact nt g g2
    · exact nt g g2
  have lmm : ∀ {k : Nat}, k < 26 → 24 ≤ k → tow f N p k → False := by
    intro k hk hk2 g2
    rcases hl with g | g | g | g | g
    · have := g2.1; omega
    · exact tow_ne g (by decide) hk (by omega) g2
    · exact tow_ne g (by decide) hk (by omega) g2
    · exact tow_ne g (by decide) hk (by omega) g2
    · exact tow_ne g (by decide) hk (by omega) g2
  have no : ∀ {k : Nat} {z0 : Int}, (z0 = 1 ∧ tow f N p k) ∨ (z0 = 0 ∧ ¬ tow f N p k) → z0 = 0 → ¬ tow f N p k := by
    intro k z0 i hz
    rcases i with ⟨g, _⟩ | ⟨_, g⟩
    · exact absurd (g.symm.trans hz) (by decide)
    · exact g
  have yes : ∀ {k : Nat} {z0 : Int}, (z0 = 1 ∧ tow f N p k) ∨ (z0 = 0 ∧ ¬ tow f N p k) → ¬ z0 = 0 → tow f N p k := by
    intro k z0 i hz
    rcases i with ⟨_, g⟩ | ⟨g, _⟩
    · exact g
    · exact absurd g hz
  obtain ⟨z120, i40, h2⟩ := (hq : tr_d_X12_operand_5 A B z v)
  rcases h2 with ⟨_, z124, im, h2⟩ | ⟨c1, _⟩
  · have im := h.isW (WR_own24 : WR 7170414 14637) im
    rcases h2 with ⟨c2, _⟩ | ⟨_, z129, ix, h2⟩
    · exact (lmm (by decide) (by decide) (yes (k := 24) im c2)).elim
    · have ix := h.isW (WR_own25 : WR 7168376 24621) ix
      rcases h2 with ⟨_, h2⟩ | ⟨c3, _⟩
      · rcases h2 with ⟨c4, z135, i20, h2⟩ | ⟨c4, h2⟩
        · have n2 : ¬ tKind f N p = 2 := fun g => c4 (by rw [hA, h.sg]; exact g)
          have i20 := h.isW (WR_own20 : WR 7825519 15639) i20
          rcases h2 with ⟨c5, z139, i21, h2⟩ | ⟨c5, h2⟩
          · have n20 := no (k := 20) i20 c5
            have i21 := h.isW (WR_own21 : WR 1936748404 671251) i21
            rcases h2 with ⟨c6, z143, i22, h2⟩ | ⟨c6, h2⟩
            · have n21 := no (k := 21) i21 c6
              have i22 := h.isW (WR_own22 : WR 1801812339 648363) i22
              rcases h2 with ⟨c7, z147, i23, h2⟩ | ⟨c7, h2⟩
              · have n22 := no (k := 22) i22 c7
                have i23 := h.isW (WR_own23 : WR 109317377451364 140098947) i23
                rcases h2 with ⟨c8, _⟩ | ⟨c8, h2⟩
                · have n23 := no (k := 23) i23 c8
                  rcases hl with g | g | g | g | g
                  · exact absurd g n2
                  · exact absurd g n20
                  · exact absurd g n21
                  · exact absurd g n22
                  · exact absurd g n23
                · obtain ⟨C, e1, e2⟩ := d6 _ (by decide) h2
                  exact ⟨4, C, Or.inr (Or.inr (Or.inr (Or.inr ⟨yes (k := 23) i23 c8, rfl⟩))), e1, e2⟩
              · obtain ⟨C, e1, e2⟩ := d6 _ (by decide) h2
                exact ⟨3, C, Or.inr (Or.inr (Or.inr (Or.inl ⟨yes (k := 22) i22 c7, rfl⟩))), e1, e2⟩
            · obtain ⟨C, e1, e2⟩ := d6 _ (by decide) h2
              exact ⟨2, C, Or.inr (Or.inr (Or.inl ⟨yes (k := 21) i21 c6, rfl⟩)), e1, e2⟩
          · obtain ⟨C, e1, e2⟩ := d6 _ (by decide) h2
            exact ⟨1, C, Or.inr (Or.inl ⟨yes (k := 20) i20 c5, rfl⟩), e1, e2⟩
        · have t2 : tKind f N p = 2 := by rw [← h.sg, ← hA]; exact c4
          obtain ⟨C, e1, e2⟩ := d6 _ (by decide) h2
          exact ⟨0, C, Or.inl ⟨t2, rfl⟩, e1, e2⟩
      · exact (lmm (by decide) (by decide) (yes (k := 25) ix c3)).elim
  · exact (l40 (isS_yes h i40 c1)).elim
theorem J_mm {f : Nat → Int} {N b p D : Nat} {A B v : St} {z : Int} (h : MS f N b p B) (hD : B 0 53 = (D : Int)) (hm : tow f N p 24 ∨ tow f N p 25) (h8 : v 0 8 = 0) (h54 : ¬ B 0 54 = 8) (hq : d_X12_operand_5 A B z v) : ∃ (x : Int) (C E : St), ((tow f N p 24 ∧ x = 15) ∨ (tow f N p 25 ∧ x = 16)) ∧ CSm B C ∧ COp D C E ∧ v = stA E 38 D x := by
  have d8 : d_X12_operand_8 B z v → ∃ (x : Int) (C E : St), ((tow f N p 24 ∧ x = 15) ∨ (tow f N p 25 ∧ x = 16)) ∧ CSm B C ∧ COp D C E ∧ v = stA E 38 D x := by
    intro h2
    have d9 : ∀ x : Int, d_X12_operand_9 B z v x → ∃ C E : St, CSm B C ∧ COp D C E ∧ v = stA E 38 D x := by
      intro x h2
      obtain ⟨_, A204, ha, z215, is, h2⟩ := (h2 : tr_d_X12_operand_9 B z v x)
      have d10f : ∀ A224 : St, 1 ≤ A224 0 8 → d_X12_operand_10 x z v A224 → False := by
        intro A224 f1 h2
        obtain ⟨_, A227, ho, h2⟩ := (h2 : tr_d_X12_operand_10 x z v A224)
        have f2 := X_opens f1 ho
        rcases h2 with ⟨_, _, hv⟩ | ⟨c, _⟩
        · rw [hv] at h8; omega
        · omega
      obtain ⟨g1, _, g3, g4, _⟩ := leafA h.go ha
      rcases h2 with ⟨_, h2⟩ | ⟨_, A220, hb, h2⟩
      · rcases g1 with ⟨_, f1⟩ | ⟨_, s⟩
        · exact (d10f A204 f1 h2).elim
        · obtain ⟨_, A227, ho, h2⟩ := (h2 : tr_d_X12_operand_10 x z v A204)
          have op := J_opens (D := D) s.ns (by rw [g4]; exact h54) (g3.trans hD) ho
          rcases O_opens (D := D) s (g3.trans hD) ho with ⟨o8, _⟩ | ⟨_, _, o2, _⟩
          · exact absurd (g4.symm.trans o8) h54
          · rcases h2 with ⟨c, _, hv⟩ | ⟨_, A231, e, _, hv⟩
            · rw [hv] at h8; exact absurd h8 c
            · refine ⟨A204, A227, ahead_cs ha, op, ?_⟩
              rw [hv, e, show (A227 0 53 - 1).toNat = D by omega]
      · exact (d10f A220 hb.2.2.2 h2).elim
    obtain ⟨z195, im, h2⟩ := (h2 : tr_d_X12_operand_8 B z v)
    have im := h.isW (WR_own24 : WR 7170414 14637) im
    rcases h2 with ⟨c, h2⟩ | ⟨c, h2⟩
    · obtain ⟨C, E, g⟩ := d9 _ h2
      refine ⟨16, C, E, Or.inr ⟨?_, rfl⟩, g⟩
      rcases hm with g | g
      · rcases im with ⟨g2, _⟩ | ⟨_, g2⟩
        · exact absurd (g2.symm.trans c) (by decide)
        · exact absurd g g2
      · exact g
    · obtain ⟨C, E, g⟩ := d9 _ h2
      refine ⟨15, C, E, Or.inl ⟨?_, rfl⟩, g⟩
      rcases im with ⟨_, g2⟩ | ⟨g2, _⟩
      · exact g2
      · exact absurd g2 c
  have t1 : tKind f N p = 1 := by rcases hm with g | g <;> exact g.1
  obtain ⟨z120, i40, h2⟩ := (hq : tr_d_X12_operand_5 A B z v)
  rcases h2 with ⟨_, z124, im, h2⟩ | ⟨c1, _⟩
  · have im := h.isW (WR_own24 : WR 7170414 14637) im
    rcases h2 with ⟨_, h2⟩ | ⟨c2, z129, ix, h2⟩
    · exact d8 h2
    · have ix := h.isW (WR_own25 : WR 7168376 24621) ix
      rcases h2 with ⟨c3, _⟩ | ⟨_, h2⟩
      · rcases hm with g | g
        · rcases im with ⟨g2, _⟩ | ⟨_, g2⟩
          · exact absurd (g2.symm.trans c2) (by decide)
          · exact absurd g g2
        · rcases ix with ⟨g2, _⟩ | ⟨_, g2⟩
          · exact absurd (g2.symm.trans c3) (by decide)
          · exact absurd g g2
      · exact d8 h2
  · have := (isS_yes h i40 c1).1
    omega
/-- a not; all -/
theorem J_first {f : Nat → Int} {N b p D : Nat} {A v : St} {z : Int} (h : MS f N b p A) (hD : A 0 53 = (D : Int)) (h1 : 1 ≤ D) (hf : fst1 D A) (hq : q_X12_operand A z v) : (tow f N p 18 → ∃ B, q_X12_holdsBack 22 A B ∧ CSm B v) ∧ (tow f N p 19 → ∃ B, q_X12_add 9 0 (stA A 37 (D - 1) 0) B ∧ CSm B v) := by
  have ix : (A 0 53 - 1).toNat = D - 1 := by omega
  have s49 : MS f N b p (stA A 37 (D - 1) 0) := h.fr rfl (fun _ _ => rfl)
  obtain ⟨z1, hz1, z2, ht, h2⟩ := (hq.1 : tr_r_X12_operand A z v)
  rw [ix] at hz1
  have ht := isTest_iff ht
  rw [hz1] at ht
  rcases h2 with ⟨c, _⟩ | ⟨_, z8, hz8, h2⟩
  · rcases ht with ⟨g2, _⟩ | ⟨_, g2⟩
    · exact absurd (g2.symm.trans c) (by decide)
    · exact absurd hf.1 g2
  · rw [ix] at hz8
    rcases h2 with ⟨c2, _⟩ | ⟨_, h2⟩
    · exact absurd (hz8.symm.trans c2) hf.2
    · obtain ⟨_, h2⟩ := (h2 : tr_d_X12_operand_2 A z v 1)
      rcases h2 with ⟨c3, _⟩ | ⟨_, z18, i18, h2⟩
      · exact absurd c3 (by decide)
      · have i18 := h.isW (WR_own18 : WR 7237492 20974) i18
        rcases h2 with ⟨c4, h2⟩ | ⟨c4, A22, hh, A25, ha, _, hv⟩
        · have n18 : ¬ tow f N p 18 := by
            rcases i18 with ⟨g, _⟩ | ⟨_, g⟩
            · exact absurd (g.symm.trans c4) (by decide)
            · exact g
          refine ⟨fun g => absurd g n18, fun y => ?_⟩
          obtain ⟨A49, e, h2⟩ := (h2 : tr_d_X12_operand_3 1 A z v)
          rw [ix] at e
          rw [← e] at s49 ⊢
          rcases h2 with ⟨c5, _⟩ | ⟨_, z59, i91, h2⟩
          · exact absurd c5 (by decide)
          · rcases h2 with ⟨_, h2⟩ | ⟨c6, _⟩
            · rcases (h2 : tr_d_X12_operand_4 1 A A49 z v) with ⟨c7, _⟩ | ⟨_, z76, i19, h2⟩
              · exact absurd c7 (by decide)
              · have i19 := s49.isW (WR_own19 : WR 6384748 12673) i19
                rcases h2 with ⟨c8, _⟩ | ⟨_, A80, had, A84, e84, A85, ha, _, hv⟩
                · rcases i19 with ⟨g, _⟩ | ⟨_, g⟩
                  · exact absurd (g.symm.trans c8) (by decide)
                  · exact absurd y g
                · refine ⟨A80, had, ?_⟩
                  rw [hv]
                  have g : CSm A80 A84 := by rw [e84]; exact ⟨rfl, rfl, rfl, rfl, rfl, rfl, rfl⟩
                  exact g.trans (ahead_cs ha)
            · have := (isS_yes s49 i91 c6).1
              have := y.1
              omega
        · have y18 : tow f N p 18 := by
            rcases i18 with ⟨_, g⟩ | ⟨g, _⟩
            · exact g
            · exact absurd g c4
          exact ⟨fun _ => ⟨A22, hh, by rw [hv]; exact ahead_cs ha⟩, fun y => absurd y (tow_ne y18 (by decide) (by decide) (by decide))⟩
