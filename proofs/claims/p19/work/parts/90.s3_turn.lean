/-! The reference's turns once more: what they write. -/
theorem cs57 {A : St} {x : Int} : CSm A (stA A 0 57 x) := ⟨rfl, rfl, rfl, rfl, rfl, rfl, rfl⟩
theorem isS_no {f : Nat → Int} {N b p : Nat} {A : St} {c z : Int} (h : MS f N b p A) (hq : q_X12_isSign c A z) (hz : z = 0) : ¬ tsg f N p c := by
  rcases h.isS hq with ⟨g, _⟩ | ⟨_, g⟩
  · omega
  · exact g
theorem isS_yes {f : Nat → Int} {N b p : Nat} {A : St} {c z : Int} (h : MS f N b p A) (hq : q_X12_isSign c A z) (hz : ¬ z = 0) : tsg f N p c := by
  rcases h.isS hq with ⟨_, g⟩ | ⟨g, _⟩
  · exact g
  · exact absurd g hz
theorem J_arith {f : Nat → Int} {N b p D : Nat} {A v : St} {z : Int} (h : MS f N b p A) (hD : A 0 53 = (D : Int)) (h1 : 1 ≤ D) (hph : A 36 (D - 1) < 2) (ha : tari f N p) (hq : q_X12_goesOn A z v) : ∃ (l x : Int) (B B1 : St), ((tsg f N p 43 ∧ l = 5 ∧ x = 10) ∨ (tsg f N p 45 ∧ l = 5 ∧ x = 11) ∨ (tsg f N p 42 ∧ l = 6 ∧ x = 12) ∨ (tsg f N p 47 ∧ l = 6 ∧ x = 13) ∨ (tsg f N p 37 ∧ l = 6 ∧ x = 14)) ∧ q_X12_joins l A B ∧ q_X12_holdsBack x B B1 ∧ CSm B1 v := by
  have ix : (A 0 53 - 1).toNat = D - 1 := by omega
  obtain ⟨z1, hz1, z2, ht, z5, hz5, h2⟩ := (hq.1 : tr_r_X12_goesOn A z v)
  rw [ix] at hz1 hz5
  have d1 : d_X12_goesOn_1 A z v z1 z2 → ∃ (l x : Int) (B B1 : St), ((tsg f N p 43 ∧ l = 5 ∧ x = 10) ∨ (tsg f N p 45 ∧ l = 5 ∧ x = 11) ∨ (tsg f N p 42 ∧ l = 6 ∧ x = 12) ∨ (tsg f N p 47 ∧ l = 6 ∧ x = 13) ∨ (tsg f N p 37 ∧ l = 6 ∧ x = 14)) ∧ q_X12_joins l A B ∧ q_X12_holdsBack x B B1 ∧ CSm B1 v := by
    intro h2
    have end1 : ∀ (B1 A' A49 : St), q_X12_ahead B1 A' → A49 = stA A' 0 57 0 → v = A49 → CSm B1 v := by
      intro B1 A' A49 h1 h2 h3
      rw [h3, h2]
      exact (ahead_cs h1).trans cs57
    obtain ⟨z30, i43, h2⟩ := (h2 : tr_d_X12_goesOn_1 A z v z1 z2)
    rcases h2 with ⟨c, A34, hj, z39, _, A43, hh, A46, ha2, A49, e, _, hv⟩ | ⟨c, z78, i45, h2⟩
    · exact ⟨5, 10, A34, A43, Or.inl ⟨isS_yes h i43 c, rfl, rfl⟩, hj, hh, end1 _ _ _ ha2 e hv⟩
    · have n43 := isS_no h i43 c
      rcases h2 with ⟨c2, A82, hj, z87, _, z91, _, z95, i42, h2⟩ | ⟨c2, A208, hj, z213, _, z217, _, A221, hh, A224, ha2, A227, e, _, hv⟩
      · have n45 := isS_no h i45 c2
        have s82 := h.sb (q_joins_sb hj)
        rcases h2 with ⟨c3, z99, i47, h2⟩ | ⟨c3, A173, hh, A176, ha2, A179, e, _, hv⟩
        · have n42 := isS_no s82 i42 c3
          rcases h2 with ⟨c4, A103, hh, A106, ha2, A109, e, _, hv⟩ | ⟨c4, A138, hh, A141, ha2, A144, e, _, hv⟩
          · have n47 := isS_no s82 i47 c4
            have y37 : tsg f N p 37 := by
              rcases ha with g | g | g | g | g
              · exact absurd g n43
              · exact absurd g n45
              · exact absurd g n42
              · exact absurd g n47
              · exact g
            exact ⟨6, 14, A82, A103, Or.inr (Or.inr (Or.inr (Or.inr ⟨y37, rfl, rfl⟩))), hj, hh, end1 _ _ _ ha2 e hv⟩
          · exact ⟨6, 13, A82, A138, Or.inr (Or.inr (Or.inr (Or.inl ⟨isS_yes s82 i47 c4, rfl, rfl⟩))), hj, hh, end1 _ _ _ ha2 e hv⟩
        · exact ⟨6, 12, A82, A173, Or.inr (Or.inr (Or.inl ⟨isS_yes s82 i42 c3, rfl, rfl⟩)), hj, hh, end1 _ _ _ ha2 e hv⟩
      · exact ⟨5, 11, A208, A221, Or.inr (Or.inl ⟨isS_yes h i45 c2, rfl, rfl⟩), hj, hh, end1 _ _ _ ha2 e hv⟩
  rcases h2 with ⟨c, _⟩ | ⟨c, z8, i43, h2⟩
  · omega
  · rcases h2 with ⟨_, h2⟩ | ⟨c1, z13, i45, h2⟩
    · exact d1 h2
    · rcases h2 with ⟨_, h2⟩ | ⟨c2, z17, i42, h2⟩
      · exact d1 h2
      · rcases h2 with ⟨_, h2⟩ | ⟨c3, z21, i47, h2⟩
        · exact d1 h2
        · rcases h2 with ⟨_, h2⟩ | ⟨c4, z25, i37, h2⟩
          · exact d1 h2
          · rcases h2 with ⟨c5, _⟩ | ⟨_, h2⟩
            · rcases ha with g | g | g | g | g
              · exact absurd g (isS_no h i43 c1)
              · exact absurd g (isS_no h i45 c2)
              · exact absurd g (isS_no h i42 c3)
              · exact absurd g (isS_no h i47 c4)
              · exact absurd g (isS_no h i37 c5)
            · exact d1 h2
theorem J_cmp {f : Nat → Int} {N b p D : Nat} {A v : St} {z z2 k : Int} (h : MS f N b p A) (hD : A 0 53 = (D : Int)) (h1 : 1 ≤ D) (e2 : z2 = 1) (hp : A 36 (D - 1) = 0) (hc : tcmp f N p) (hq : d_X12_goesOn_2 A z v k z2) : ∃ (x : Int) (B B1 : St), ((tsg f N p 60 ∧ x = 17) ∨ (tsg f N p 62 ∧ x = 18) ∨ (tsg f N p 61 ∧ x = 19)) ∧ q_X12_joins 5 A B ∧ q_X12_holdsBack x B B1 ∧ CSm B1 v := by
  have ix : (A 0 53 - 1).toNat = D - 1 := by omega
  have d3 : d_X12_goesOn_3 A z v k z2 → ∃ (x : Int) (B B1 : St), ((tsg f N p 60 ∧ x = 17) ∨ (tsg f N p 62 ∧ x = 18) ∨ (tsg f N p 61 ∧ x = 19)) ∧ q_X12_joins 5 A B ∧ q_X12_holdsBack x B B1 ∧ CSm B1 v := by
    intro h2
    have end1 : ∀ (B1 B2 A' A49 : St) (j : Nat) (y : Int), B2 = stA B1 36 j y → q_X12_ahead B2 A' → A49 = stA A' 0 57 0 → v = A49 → CSm B1 v := by
      intro B1 B2 A' A49 j y e1 h1 h2 h3
      rw [h3, h2]
      have g : CSm B1 B2 := by rw [e1]; exact ⟨rfl, rfl, rfl, rfl, rfl, rfl, rfl⟩
      exact (g.trans (ahead_cs h1)).trans cs57
    obtain ⟨A275, hj, z280, i60, h2⟩ := (h2 : tr_d_X12_goesOn_3 A z v k z2)
    have s := h.sb (q_joins_sb hj)
    rcases h2 with ⟨c1, z284, i62, h2⟩ | ⟨c1, A378, hh, A381, e, A382, ha2, A385, e5, _, hv⟩
    · rcases h2 with ⟨c2, A288, hh, A291, e, A292, ha2, A295, e5, _, hv⟩ | ⟨c2, A333, hh, A336, e, A337, ha2, A340, e5, _, hv⟩
      · have y61 : tsg f N p 61 := by
          rcases hc with g | g | g
          · exact absurd g (isS_no s i60 c1)
          · exact absurd g (isS_no s i62 c2)
          · exact g
        exact ⟨19, A275, A288, Or.inr (Or.inr ⟨y61, rfl⟩), hj, hh, end1 _ _ _ _ _ _ e ha2 e5 hv⟩
      · exact ⟨18, A275, A333, Or.inr (Or.inl ⟨isS_yes s i62 c2, rfl⟩), hj, hh, end1 _ _ _ _ _ _ e ha2 e5 hv⟩
    · exact ⟨17, A275, A378, Or.inl ⟨isS_yes s i60 c1, rfl⟩, hj, hh, end1 _ _ _ _ _ _ e ha2 e5 hv⟩
  rcases (hq : tr_d_X12_goesOn_2 A z v k z2) with ⟨c, _⟩ | ⟨c, z259, hz, h2⟩
  · exact absurd (e2.symm.trans c) (by decide)
  · rw [ix, hp] at hz
    rcases h2 with ⟨c1, _⟩ | ⟨_, z261, i60, h2⟩
    · exact absurd hz c1
    · rcases h2 with ⟨_, h2⟩ | ⟨c2, z266, i62, h2⟩
      · exact d3 h2
      · rcases h2 with ⟨_, h2⟩ | ⟨c3, z270, i61, h2⟩
        · exact d3 h2
        · rcases h2 with ⟨c4, _⟩ | ⟨_, h2⟩
          · rcases hc with g | g | g
            · exact absurd g (isS_no h i60 c2)
            · exact absurd g (isS_no h i62 c3)
            · exact absurd g (isS_no h i61 c4)
          · exact d3 h2
theorem J_andor {f : Nat → Int} {N b p D : Nat} {A v : St} {z z2 k : Int} (h : MS f N b p A) (hD : A 0 53 = (D : Int)) (h1 : 1 ≤ D) (e2 : z2 = 1) (hp : ¬ A 36 (D - 1) = 0) (hw : tow f N p 17 ∨ tow f N p 16) (hq : d_X12_goesOn_4 A z v k z2) : ∃ (l x : Int) (B B1 : St), ((tow f N p 17 ∧ l = 2 ∧ x = 20) ∨ (tow f N p 16 ∧ l = 1 ∧ x = 21)) ∧ q_X12_joins l A B ∧ q_X12_holdsBack x B B1 ∧ CSm B1 v := by
  have ix : (A 0 53 - 1).toNat = D - 1 := by omega
  have d5 : d_X12_goesOn_5 A z v k z2 → ∃ (l x : Int) (B B1 : St), ((tow f N p 17 ∧ l = 2 ∧ x = 20) ∨ (tow f N p 16 ∧ l = 1 ∧ x = 21)) ∧ q_X12_joins l A B ∧ q_X12_holdsBack x B B1 ∧ CSm B1 v := by
    intro h2
    have end1 : ∀ (B1 B2 A' A49 : St) (j j' : Nat) (y y' : Int), B2 = stA (stA B1 36 j y) 37 j' y' → q_X12_ahead B2 A' → A49 = stA A' 0 57 0 → v = A49 → CSm B1 v := by
      intro B1 B2 A' A49 j j' y y' e1 h1 h2 h3
      rw [h3, h2]
      have g : CSm B1 B2 := by rw [e1]; exact ⟨rfl, rfl, rfl, rfl, rfl, rfl, rfl⟩
      exact (g.trans (ahead_cs h1)).trans cs57
    obtain ⟨z436, hz, h2⟩ := (h2 : tr_d_X12_goesOn_5 A z v k z2)
    rw [ix] at hz
    rcases h2 with ⟨_, h2⟩ | ⟨c, _⟩
    · obtain ⟨_, h2⟩ := (h2 : tr_d_X12_goesOn_6 A z v k z2 A)
      rcases h2 with ⟨_, z445, ia, h2⟩ | ⟨c, _⟩
      · have ia := h.isW (WR_own17 : WR 6385252 4545) ia
        rcases h2 with ⟨c1, A449, hj, A455, hh, A458, e, A459, ha2, A462, e5, _, hv⟩ | ⟨c1, A499, hj, A505, hh, A508, e, A509, ha2, A512, e5, _, hv⟩
        · have y16 : tow f N p 16 := by
            rcases hw with g | g
            · rcases ia with ⟨g2, _⟩ | ⟨_, g2⟩
              · exact absurd (g2.symm.trans c1) (by decide)
              · exact absurd g g2
            · exact g
          exact ⟨1, 21, A449, A455, Or.inr ⟨y16, rfl, rfl⟩, hj, hh, end1 _ _ _ _ _ _ _ _ e ha2 e5 hv⟩
        · have y17 : tow f N p 17 := by
            rcases ia with ⟨_, g⟩ | ⟨g, _⟩
            · exact g
            · exact absurd g c1
          exact ⟨2, 20, A499, A505, Or.inl ⟨y17, rfl, rfl⟩, hj, hh, end1 _ _ _ _ _ _ _ _ e ha2 e5 hv⟩
      · exact absurd (Int.le_of_eq h.ns) c
    · exact absurd (hz.symm.trans c) hp
  rcases (hq : tr_d_X12_goesOn_4 A z v k z2) with ⟨c, _⟩ | ⟨c, z426, ia, h2⟩
  · exact absurd (e2.symm.trans c) (by decide)
  · have ia := h.isW (WR_own17 : WR 6385252 4545) ia
    rcases h2 with ⟨_, h2⟩ | ⟨c1, z431, io, h2⟩
    · exact d5 h2
    · have io := h.isW (WR_own16 : WR 28530 591) io
      rcases h2 with ⟨c2, _⟩ | ⟨_, h2⟩
      · rcases hw with g | g
        · rcases ia with ⟨g2, _⟩ | ⟨_, g2⟩
          · exact absurd (g2.symm.trans c1) (by decide)
          · exact absurd g g2
        · rcases io with ⟨g2, _⟩ | ⟨_, g2⟩
          · exact absurd (g2.symm.trans c2) (by decide)
          · exact absurd g g2
      · exact d5 h2
theorem J_k1 {A v : St} {z k : Int} (hk : k < 2) (h8 : A 0 8 = 0) (h : d_X12_goesOn_8 A z v k A) : q_X12_joins 1 A v := by
  obtain ⟨_, h⟩ := (h : tr_d_X12_goesOn_8 A z v k A)
  rcases h with ⟨c, _⟩ | ⟨_, h⟩
  · omega
  · rcases h with ⟨c, _⟩ | ⟨_, A754, hj, _, hv⟩
    · exact absurd h8 c
    · rw [hv]; exact hj
theorem J_k3 {f : Nat → Int} {N b p : Nat} {A v : St} {z : Int} (h : MS f N b p A) (y : tsg f N p 44) (hq : d_X12_goesOn_8 A z v 3 A) : ∃ B, q_X12_joins 1 A B ∧ CSm B v := by
  obtain ⟨_, hq⟩ := (hq : tr_d_X12_goesOn_8 A z v 3 A)
  rcases hq with ⟨_, hq⟩ | ⟨c, _⟩
  · rcases hq with ⟨c, _⟩ | ⟨_, z703, is, hq⟩
    · exact absurd rfl c
    · rcases hq with ⟨_, hq⟩ | ⟨c1, _⟩
      · obtain ⟨_, hq⟩ := (hq : tr_d_X12_goesOn_11 A z v A)
        rcases hq with ⟨_, A716, hj, A721, e, A722, ha2, A725, e2, _, hv⟩ | ⟨c, _⟩
        · refine ⟨A716, hj, ?_⟩
          rw [hv, e2]
          have g : CSm A716 A721 := by rw [e]; exact ⟨rfl, rfl, rfl, rfl, rfl, rfl, rfl⟩
          exact (g.trans (ahead_cs ha2)).trans cs57
        · exact absurd (Int.le_of_eq h.ns) c
      · exact absurd y (isS_no h is c1)
  · exact absurd c (by decide)
theorem J_kc {f : Nat → Int} {N b p D : Nat} {A v : St} {z k x : Int} (hk : (k = 2 ∧ x = 41) ∨ (k = 4 ∧ x = 41) ∨ (k = 5 ∧ x = 93)) (h : MS f N b p A) (hD : A 0 53 = (D : Int)) (h1 : 2 ≤ D) (y : tsg f N p x) (hq : d_X12_goesOn_8 A z v k A) : ∃ B B', q_X12_joins 1 A B ∧ CSm B B' ∧ B' 0 47 = B 0 47 ∧ ((¬ k = 4 ∧ CSm B' v) ∨ (k = 4 ∧ ∃ B2, q_X12_add (B 38 (D - 1)) 0 B' B2 ∧ CSm B2 v)) := by
  have ix1 : (A 0 53 - 1).toNat = D - 1 := by omega
  obtain ⟨_, hq⟩ := (hq : tr_d_X12_goesOn_8 A z v k A)
  have d9 : d_X12_goesOn_9 k A A z v x := by
    rcases hq with ⟨_, hq⟩ | ⟨c, _⟩
    · rcases hq with ⟨c, hq⟩ | ⟨c, _⟩
      · rcases hq with ⟨c2, hq⟩ | ⟨c2, hq⟩
        · rcases hk with ⟨_, hx⟩ | ⟨_, hx⟩ | ⟨hk, _⟩
          · rw [hx]; exact hq
          · rw [hx]; exact hq
          · exact absurd hk c2
        · rcases hk with ⟨hk, _⟩ | ⟨hk, _⟩ | ⟨_, hx⟩
          · rw [hk] at c2; exact absurd c2 (by decide)
          · rw [hk] at c2; exact absurd c2 (by decide)
          · rw [hx]; exact hq
      · rcases hk with ⟨hk, _⟩ | ⟨hk, _⟩ | ⟨hk, _⟩ <;> · rw [hk] at c; exact absurd c (by decide)
    · rcases hk with ⟨hk, _⟩ | ⟨hk, _⟩ | ⟨hk, _⟩ <;> · rw [hk] at c; exact absurd c (by decide)
  obtain ⟨_, z567, is, hq⟩ := (d9 : tr_d_X12_goesOn_9 k A A z v x)
  rcases hq with ⟨_, hq⟩ | ⟨c1, _⟩
  · obtain ⟨_, hq⟩ := (hq : tr_d_X12_goesOn_10 A z v k A)
    rw [ix1] at hq
    rcases hq with ⟨_, A579, hj, A584, e, hq⟩ | ⟨c, _⟩
    · have g : CSm A579 A584 := by rw [e]; exact ⟨rfl, rfl, rfl, rfl, rfl, rfl, rfl⟩
      refine ⟨A579, A584, hj, g, by rw [e]; rfl, ?_⟩
      rcases hq with ⟨k4, hq⟩ | ⟨k4, z657, e7, A658, had, A663, ha2, _, hv⟩
      · refine Or.inl ⟨k4, ?_⟩
        rcases hq with ⟨_, A587, ha2, _, hv⟩ | ⟨_, A616, e6, A617, ha2, _, hv⟩
        · rw [hv]; exact ahead_cs ha2
        · rw [hv]
          have g6 : CSm A584 A616 := by rw [e6]; exact ⟨rfl, rfl, rfl, rfl, rfl, rfl, rfl⟩
          exact g6.trans (ahead_cs ha2)
      · refine Or.inr ⟨k4, A658, ?_, by rw [hv]; exact ahead_cs ha2⟩
        rw [← g.2.2.1, ← e7]
        exact had
    · exact absurd (Int.le_of_eq h.ns) c
  · exact absurd y (isS_no h is c1)
/-- behind an opening bracket nothing is written, and what is held back begins anew -/
def COp (D : Nat) (A v : St) : Prop := v 33 = A 33 ∧ v 34 = A 34 ∧ v 38 = A 38 ∧ v 39 = up (A 39) D (A 0 56) ∧ v 40 = A 40 ∧ v 0 46 = A 0 46 ∧ v 0 56 = A 0 56
theorem J_opens {A v : St} {k : Int} {D : Nat} (h8 : A 0 8 = 0) (h54 : ¬ A 0 54 = 8) (hD : A 0 53 = (D : Int)) (hq : q_X12_opens k A v) : COp D A v := by
  rcases (hq.1 : tr_r_X12_opens k A v) with ⟨_, h2⟩ | ⟨c, _⟩
  · obtain ⟨_, h2⟩ := (h2 : tr_d_X12_opens_1 k A v A)
    rcases h2 with ⟨_, A11, e11, A12, ha, A15, hp, hv⟩ | ⟨c2, _⟩
    · have g : CSm A A11 := by rw [e11]; exact ⟨rfl, rfl, rfl, rfl, rfl, rfl, rfl⟩
      obtain ⟨g1, g2, g3, g4, g5, g6, g7⟩ := g.trans (ahead_cs ha)
      have d12 : A12 0 53 = (D : Int) := by
        rw [ha.2.2.1.2 53 rfl, e11]
        exact hD
      obtain ⟨A1, e1, e2⟩ := (hp.1 : tr_r_X12_pushes k A12 A15)
      rw [d12, Int.toNat_natCast] at e1
      rw [hv, e2, e1]
      refine ⟨g1, g2, g3, ?_, g5, g6, g7⟩
      show up (A12 39) D (A12 0 56) = up (A 39) D (A 0 56)
      rw [g4, g7]
    · omega
  · exact absurd c h54
theorem J_leaf {f : Nat → Int} {N b p : Nat} {A B v : St} {z : Int} (h : MS f N b p B) (hA : A 0 3 = B 0 3) (hl : tlf f N p) (hq : d_X12_operand_5 A B z v) : ∃ (x : Int) (C : St), ((tKind f N p = 2 ∧ x = 0) ∨ (tow f N p 20 ∧ x = 1) ∨ (tow f N p 21 ∧ x = 2) ∨ (tow f N p 22 ∧ x = 3) ∨ (tow f N p 23 ∧ x = 4)) ∧ q_X12_add x (A 0 6) B C ∧ CSm C v := by
  have d6 : ∀ x : Int, ¬ x = -1 → d_X12_operand_6 A B z v x → ∃ C, q_X12_add x (A 0 6) B C ∧ CSm C v := by
    intro x hx h2
    obtain ⟨_, h2⟩ := (h2 : tr_d_X12_operand_6 A B z v x)
    rcases h2 with ⟨_, h2⟩ | ⟨c, _⟩
    · obtain ⟨_, h2⟩ := (h2 : tr_d_X12_operand_7 x A z v B)
      rcases h2 with ⟨_, A166, had, A170, ha, _, hv⟩ | ⟨c, _⟩
      · exact ⟨A166, had, by rw [hv]; exact ahead_cs ha⟩
      · exact absurd (Int.le_of_eq h.ns) c
    · exact absurd c hx
  have nt : ∀ {k : Nat}, tow f N p k → tsg f N p 40 → False := fun g1 g2 => by have := g1.1; have := g2.1; omega
  have l40 : tsg f N p 40 → False := by
    intro g2
    rcases hl with g | g | g | g | g
    · have := g2.1; omega
    · exact nt g g2
    · exact nt g g2
    · exact nt g g2
    · exact nt g g2
  have lmm : ∀ {k : Nat}, k < 26 → 24 ≤ k → tow f N p k → False := by
    intro k hk hk2 g2
    rcases hl with g | g | g | g | g
    · have := g2.1; omega
    · exact tow_ne g (by decide) hk (by omega) g2
    · exact tow_ne g (by decide) hk (by omega) g2
    · exact tow_ne g (by decide) hk (by omega) g2
    · exact tow_ne g (by decide) hk (by omega) g2
  have no : ∀ {k : Nat} {z0 : Int}, (z0 = 1 ∧ tow f N p k) ∨ (z0 = 0 ∧ ¬ tow f N p k) → z0 = 0 → ¬ tow f N p k := by
    intro k z0 i hz
    rcases i with ⟨g, _⟩ | ⟨_, g⟩
    · exact absurd (g.symm.trans hz) (by decide)
    · exact g
  have yes : ∀ {k : Nat} {z0 : Int}, (z0 = 1 ∧ tow f N p k) ∨ (z0 = 0 ∧ ¬ tow f N p k) → ¬ z0 = 0 → tow f N p k := by
    intro k z0 i hz
    rcases i with ⟨_, g⟩ | ⟨g, _⟩
    · exact g
    · exact absurd g hz
  obtain ⟨z120, i40, h2⟩ := (hq : tr_d_X12_operand_5 A B z v)
  rcases h2 with ⟨_, z124, im, h2⟩ | ⟨c1, _⟩
  · have im := h.isW (WR_own24 : WR 7170414 14637) im
    rcases h2 with ⟨c2, _⟩ | ⟨_, z129, ix, h2⟩
    · exact (lmm (by decide) (by decide) (yes (k := 24) im c2)).elim
    · have ix := h.isW (WR_own25 : WR 7168376 24621) ix
      rcases h2 with ⟨_, h2⟩ | ⟨c3, _⟩
      · rcases h2 with ⟨c4, z135, i20, h2⟩ | ⟨c4, h2⟩
        · have n2 : ¬ tKind f N p = 2 := fun g => c4 (by rw [hA, h.sg]; exact g)
          have i20 := h.isW (WR_own20 : WR 7825519 15639) i20
          rcases h2 with ⟨c5, z139, i21, h2⟩ | ⟨c5, h2⟩
          · have n20 := no (k := 20) i20 c5
            have i21 := h.isW (WR_own21 : WR 1936748404 671251) i21
            rcases h2 with ⟨c6, z143, i22, h2⟩ | ⟨c6, h2⟩
            · have n21 := no (k := 21) i21 c6
              have i22 := h.isW (WR_own22 : WR 1801812339 648363) i22
              rcases h2 with ⟨c7, z147, i23, h2⟩ | ⟨c7, h2⟩
              · have n22 := no (k := 22) i22 c7
                have i23 := h.isW (WR_own23 : WR 109317377451364 140098947) i23
                rcases h2 with ⟨c8, _⟩ | ⟨c8, h2⟩
                · have n23 := no (k := 23) i23 c8
                  rcases hl with g | g | g | g | g
                  · exact absurd g n2
                  · exact absurd g n20
                  · exact absurd g n21
                  · exact absurd g n22
                  · exact absurd g n23
                · obtain ⟨C, e1, e2⟩ := d6 _ (by decide) h2
                  exact ⟨4, C, Or.inr (Or.inr (Or.inr (Or.inr ⟨yes (k := 23) i23 c8, rfl⟩))), e1, e2⟩
              · obtain ⟨C, e1, e2⟩ := d6 _ (by decide) h2
                exact ⟨3, C, Or.inr (Or.inr (Or.inr (Or.inl ⟨yes (k := 22) i22 c7, rfl⟩))), e1, e2⟩
            · obtain ⟨C, e1, e2⟩ := d6 _ (by decide) h2
              exact ⟨2, C, Or.inr (Or.inr (Or.inl ⟨yes (k := 21) i21 c6, rfl⟩)), e1, e2⟩
          · obtain ⟨C, e1, e2⟩ := d6 _ (by decide) h2
            exact ⟨1, C, Or.inr (Or.inl ⟨yes (k := 20) i20 c5, rfl⟩), e1, e2⟩
        · have t2 : tKind f N p = 2 := by rw [← h.sg, ← hA]; exact c4
          obtain ⟨C, e1, e2⟩ := d6 _ (by decide) h2
          exact ⟨0, C, Or.inl ⟨t2, rfl⟩, e1, e2⟩
      · exact (lmm (by decide) (by decide) (yes (k := 25) ix c3)).elim
  · exact (l40 (isS_yes h i40 c1)).elim
theorem J_mm {f : Nat → Int} {N b p D : Nat} {A B v : St} {z : Int} (h : MS f N b p B) (hD : B 0 53 = (D : Int)) (hm : tow f N p 24 ∨ tow f N p 25) (h8 : v 0 8 = 0) (h54 : ¬ B 0 54 = 8) (hq : d_X12_operand_5 A B z v) : ∃ (x : Int) (C E : St), ((tow f N p 24 ∧ x = 15) ∨ (tow f N p 25 ∧ x = 16)) ∧ CSm B C ∧ COp D C E ∧ v = stA E 38 D x := by
  have d8 : d_X12_operand_8 B z v → ∃ (x : Int) (C E : St), ((tow f N p 24 ∧ x = 15) ∨ (tow f N p 25 ∧ x = 16)) ∧ CSm B C ∧ COp D C E ∧ v = stA E 38 D x := by
    intro h2
    have d9 : ∀ x : Int, d_X12_operand_9 B z v x → ∃ C E : St, CSm B C ∧ COp D C E ∧ v = stA E 38 D x := by
      intro x h2
      obtain ⟨_, A204, ha, z215, is, h2⟩ := (h2 : tr_d_X12_operand_9 B z v x)
      have d10f : ∀ A224 : St, 1 ≤ A224 0 8 → d_X12_operand_10 x z v A224 → False := by
        intro A224 f1 h2
        obtain ⟨_, A227, ho, h2⟩ := (h2 : tr_d_X12_operand_10 x z v A224)
        have f2 := X_opens f1 ho
        rcases h2 with ⟨_, _, hv⟩ | ⟨c, _⟩
        · rw [hv] at h8; omega
        · omega
      obtain ⟨g1, _, g3, g4, _⟩ := leafA h.go ha
      rcases h2 with ⟨_, h2⟩ | ⟨_, A220, hb, h2⟩
      · rcases g1 with ⟨_, f1⟩ | ⟨_, s⟩
        · exact (d10f A204 f1 h2).elim
        · obtain ⟨_, A227, ho, h2⟩ := (h2 : tr_d_X12_operand_10 x z v A204)
          have op := J_opens (D := D) s.ns (by rw [g4]; exact h54) (g3.trans hD) ho
          rcases O_opens (D := D) s (g3.trans hD) ho with ⟨o8, _⟩ | ⟨_, _, o2, _⟩
          · exact absurd (g4.symm.trans o8) h54
          · rcases h2 with ⟨c, _, hv⟩ | ⟨_, A231, e, _, hv⟩
            · rw [hv] at h8; exact absurd h8 c
            · refine ⟨A204, A227, ahead_cs ha, op, ?_⟩
              rw [hv, e, show (A227 0 53 - 1).toNat = D by omega]
      · exact (d10f A220 hb.2.2.2 h2).elim
    obtain ⟨z195, im, h2⟩ := (h2 : tr_d_X12_operand_8 B z v)
    have im := h.isW (WR_own24 : WR 7170414 14637) im
    rcases h2 with ⟨c, h2⟩ | ⟨c, h2⟩
    · obtain ⟨C, E, g⟩ := d9 _ h2
      refine ⟨16, C, E, Or.inr ⟨?_, rfl⟩, g⟩
      rcases hm with g | g
      · rcases im with ⟨g2, _⟩ | ⟨_, g2⟩
        · exact absurd (g2.symm.trans c) (by decide)
        · exact absurd g g2
      · exact g
    · obtain ⟨C, E, g⟩ := d9 _ h2
      refine ⟨15, C, E, Or.inl ⟨?_, rfl⟩, g⟩
      rcases im with ⟨_, g2⟩ | ⟨g2, _⟩
      · exact g2
      · exact absurd g2 c
  have t1 : tKind f N p = 1 := by rcases hm with g | g <;> exact g.1
  obtain ⟨z120, i40, h2⟩ := (hq : tr_d_X12_operand_5 A B z v)
  rcases h2 with ⟨_, z124, im, h2⟩ | ⟨c1, _⟩
  · have im := h.isW (WR_own24 : WR 7170414 14637) im
    rcases h2 with ⟨_, h2⟩ | ⟨c2, z129, ix, h2⟩
    · exact d8 h2
    · have ix := h.isW (WR_own25 : WR 7168376 24621) ix
      rcases h2 with ⟨c3, _⟩ | ⟨_, h2⟩
      · rcases hm with g | g
        · rcases im with ⟨g2, _⟩ | ⟨_, g2⟩
          · exact absurd (g2.symm.trans c2) (by decide)
          · exact absurd g g2
        · rcases ix with ⟨g2, _⟩ | ⟨_, g2⟩
          · exact absurd (g2.symm.trans c3) (by decide)
          · exact absurd g g2
      · exact d8 h2
  · have := (isS_yes h i40 c1).1
    omega
/-- a not; all -/
theorem J_first {f : Nat → Int} {N b p D : Nat} {A v : St} {z : Int} (h : MS f N b p A) (hD : A 0 53 = (D : Int)) (h1 : 1 ≤ D) (hf : fst1 D A) (hq : q_X12_operand A z v) : (tow f N p 18 → ∃ B, q_X12_holdsBack 22 A B ∧ CSm B v) ∧ (tow f N p 19 → ∃ B, q_X12_add 9 0 (stA A 37 (D - 1) 0) B ∧ CSm B v) := by
  have ix : (A 0 53 - 1).toNat = D - 1 := by omega
  have s49 : MS f N b p (stA A 37 (D - 1) 0) := h.fr rfl (fun _ _ => rfl)
  obtain ⟨z1, hz1, z2, ht, h2⟩ := (hq.1 : tr_r_X12_operand A z v)
  rw [ix] at hz1
  have ht := isTest_iff ht
  rw [hz1] at ht
  rcases h2 with ⟨c, _⟩ | ⟨_, z8, hz8, h2⟩
  · rcases ht with ⟨g2, _⟩ | ⟨_, g2⟩
    · exact absurd (g2.symm.trans c) (by decide)
    · exact absurd hf.1 g2
  · rw [ix] at hz8
    rcases h2 with ⟨c2, _⟩ | ⟨_, h2⟩
    · exact absurd (hz8.symm.trans c2) hf.2
    · obtain ⟨_, h2⟩ := (h2 : tr_d_X12_operand_2 A z v 1)
      rcases h2 with ⟨c3, _⟩ | ⟨_, z18, i18, h2⟩
      · exact absurd c3 (by decide)
      · have i18 := h.isW (WR_own18 : WR 7237492 20974) i18
        rcases h2 with ⟨c4, h2⟩ | ⟨c4, A22, hh, A25, ha, _, hv⟩
        · have n18 : ¬ tow f N p 18 := by
            rcases i18 with ⟨g, _⟩ | ⟨_, g⟩
            · exact absurd (g.symm.trans c4) (by decide)
            · exact g
          refine ⟨fun g => absurd g n18, fun y => ?_⟩
          obtain ⟨A49, e, h2⟩ := (h2 : tr_d_X12_operand_3 1 A z v)
          rw [ix] at e
          rw [← e] at s49 ⊢
          rcases h2 with ⟨c5, _⟩ | ⟨_, z59, i91, h2⟩
          · exact absurd c5 (by decide)
          · rcases h2 with ⟨_, h2⟩ | ⟨c6, _⟩
            · rcases (h2 : tr_d_X12_operand_4 1 A A49 z v) with ⟨c7, _⟩ | ⟨_, z76, i19, h2⟩
              · exact absurd c7 (by decide)
              · have i19 := s49.isW (WR_own19 : WR 6384748 12673) i19
                rcases h2 with ⟨c8, _⟩ | ⟨_, A80, had, A84, e84, A85, ha, _, hv⟩
                · rcases i19 with ⟨g, _⟩ | ⟨_, g⟩
                  · exact absurd (g.symm.trans c8) (by decide)
                  · exact absurd y g
                · refine ⟨A80, had, ?_⟩
                  rw [hv]
                  have g : CSm A80 A84 := by rw [e84]; exact ⟨rfl, rfl, rfl, rfl, rfl, rfl, rfl⟩
                  exact g.trans (ahead_cs ha)
            · have := (isS_yes s49 i91 c6).1
              have := y.1
              omega
        · have y18 : tow f N p 18 := by
            rcases i18 with ⟨_, g⟩ | ⟨g, _⟩
            · exact g
            · exact absurd g c4
          exact ⟨fun _ => ⟨A22, hh, by rw [hv]; exact ahead_cs ha⟩, fun y => absurd y (tow_ne y18 (by decide) (by decide) (by decide))⟩
/-! Sums: both rows of codes are worth the same. -/
def OutC (f : Nat → Int) (N b : Nat) (u : St) (D m : Nat) (lo : Int) (k : Nat) (VB : Int → Prop) (A0 T0 A T : St) (p q : Nat) (X : Nat → Prop) (r : Option (St × Nat)) : Prop := ∃ a A', r = some a ∧ MS f N b a.2 A' ∧ RN u A' ∧ A' 0 57 = 1 ∧ TP D A A' ∧ X a.2 ∧ q ≤ a.2 ∧ (a.1 19 2 + (p : Int) ≤ T 19 2 + (a.2 : Int)) ∧ CX b D m lo k VB A0 A' T0 a.1
def SimSC (f : Nat → Int) (N b : Nat) (u : St) (o : Int) (k : Nat) (S : PT) : Prop := ∀ (A T : St) (p D m : Nat), MS f N b p A → RN u A → A 0 57 = 0 → A 0 53 = (D : Int) → 1 ≤ D → A 0 54 = o → pln f N p D A → A 36 (D - 1) < 2 → T 19 2 ≤ (p : Int) → 1 ≤ p → LO 5 m D A → OutC f N b u D m 5 k VN A T A T p (p + 1) (fun e => ¬ tari f N e) (S T p)
abbrev LFC (f : Nat → Int) (N p : Nat) (x : Int) : Prop := (tKind f N p = 2 ∧ x = 0) ∨ (tow f N p 20 ∧ x = 1) ∨ (tow f N p 21 ∧ x = 2) ∨ (tow f N p 22 ∧ x = 3) ∨ (tow f N p 23 ∧ x = 4)
theorem sPart_lfC {f : Nat → Int} {N p : Nat} {x v : Int} (hx : LFC f N p x) (hv : tKind f N p = 2 → v = nv f N p) : ∃ w, (∀ n S T, sPart f N n S T p = sAd2 (some (T, tEnd f N p)) w) ∧ (-4 ≤ w ∧ w ≤ 9999) ∧ ENC x v w := by
  rcases hx with ⟨h, rfl⟩ | ⟨h, rfl⟩ | ⟨h, rfl⟩ | ⟨h, rfl⟩ | ⟨h, rfl⟩
  · have b := nv_b h
    exact ⟨nv f N p, fun n S T => by unfold sPart; rw [if_pos h], ⟨by omega, b.2⟩, Or.inl ⟨rfl, (hv h).symm, by rw [hv h]; exact b.1, by rw [hv h]; exact b.2⟩⟩
  · refine ⟨-1, fun n S T => ?_, by decide, Or.inr ⟨by decide, by decide, by decide, Or.inl (by decide)⟩⟩
    unfold sPart
    rw [if_neg (by have := h.1; omega), sSign_neg (tow_sg h), sOwn_pos h]
  · refine ⟨-2, fun n S T => ?_, by decide, Or.inr ⟨by decide, by decide, by decide, Or.inl (by decide)⟩⟩
    unfold sPart
    rw [if_neg (by have := h.1; omega), sSign_neg (tow_sg h), sOwn_neg (tow_ne h (by decide) (by decide) (by decide)), sOwn_pos h]
  · refine ⟨-3, fun n S T => ?_, by decide, Or.inr ⟨by decide, by decide, by decide, Or.inl (by decide)⟩⟩
    unfold sPart
    rw [if_neg (by have := h.1; omega), sSign_neg (tow_sg h), sOwn_neg (tow_ne h (by decide) (by decide) (by decide)), sOwn_neg (tow_ne h (by decide) (by decide) (by decide)), sOwn_pos h]
  · refine ⟨-4, fun n S T => ?_, by decide, Or.inr ⟨by decide, by decide, by decide, Or.inl (by decide)⟩⟩
    unfold sPart
    rw [if_neg (by have := h.1; omega), sSign_neg (tow_sg h), sOwn_neg (tow_ne h (by decide) (by decide) (by decide)), sOwn_neg (tow_ne h (by decide) (by decide) (by decide)), sOwn_neg (tow_ne h (by decide) (by decide) (by decide)), sOwn_pos h]
theorem sPart_mmC {f : Nat → Int} {N p : Nat} {x : Int} (h : (tow f N p 24 ∧ x = 15) ∨ (tow f N p 25 ∧ x = 16)) : (∀ n S T, sPart f N n S T p = sAd2 (sPair f N n S T (tEnd f N p)) (sc x)) ∧ 15 ≤ x ∧ x ≤ 16 := by
  rcases h with ⟨h, rfl⟩ | ⟨h, rfl⟩
  · refine ⟨fun n S T => ?_, by decide, by decide⟩
    rw [show sc 15 = -17 by decide]
    unfold sPart
    rw [if_neg (by have := h.1; omega), sSign_neg (tow_sg h), sOwn_neg (tow_ne h (by decide) (by decide) (by decide)), sOwn_neg (tow_ne h (by decide) (by decide) (by decide)), sOwn_neg (tow_ne h (by decide) (by decide) (by decide)), sOwn_neg (tow_ne h (by decide) (by decide) (by decide)), sOwn_pos h]
  · refine ⟨fun n S T => ?_, by decide, by decide⟩
    rw [show sc 16 = -18 by decide]
    unfold sPart
    rw [if_neg (by have := h.1; omega), sSign_neg (tow_sg h), sOwn_neg (tow_ne h (by decide) (by decide) (by decide)), sOwn_neg (tow_ne h (by decide) (by decide) (by decide)), sOwn_neg (tow_ne h (by decide) (by decide) (by decide)), sOwn_neg (tow_ne h (by decide) (by decide) (by decide)), sOwn_neg (tow_ne h (by decide) (by decide) (by decide)), sOwn_pos h]
theorem EW.rw3 {b : Nat} {A B C : St} {W : List Int} (h33 : B 33 = A 33) (h34 : B 34 = A 34) (h46 : B 0 46 = A 0 46) (h : EW b B C W) : EW b A C W := by
  unfold EW at h ⊢
  rw [h33, h34, h46] at h
  exact h
theorem C_closeC {f : Nat → Int} {N b D m : Nat} {u A B A2 : St} {o : Int} {a : St × Nat} {kk : Int} {P : List Int} (hu : u 0 8 = 0) (h1 : 1 ≤ D) (hA53 : A 0 53 = (D : Int)) (hA54 : A 0 54 = o) (b54 : B 0 54 = o + 1) (b53 : B 0 53 = (D : Int) + 1) (hb : ∀ i, i < D → B 35 i = A 35 i ∧ B 36 i = A 36 i) (hb7 : ∀ i, i + 1 < D → B 37 i = A 37 i) (hb70 : B 37 (D - 1) = 0) (hs : MS f N b a.2 A2) (hr : RN u A2) (h57 : A2 0 57 = 1) (ht : TP (D + 1) B A2) (hX : ¬ tari f N a.2) (hkk : A2 35 D = kk) (hk24 : kk = 2 ∨ kk = 4) (h46 : 0 ≤ A2 0 46) (h56 : A2 0 56 = ((m + P.length : Nat) : Int)) (hP : PD m (A2 40) P) (hR : RG 5 P) (h39 : A2 39 D = (m : Int)) : tsg f N a.2 41 ∧ ∃ A', MS f N b (tEnd f N a.2) A' ∧ RN u A' ∧ A' 0 57 = 1 ∧ TP D A A' ∧ A' 0 56 = (m : Int) ∧ A' 38 = A2 38 ∧ A' 39 = A2 39 ∧ A' 40 = A2 40 ∧ ((kk = 2 ∧ EW b A2 A' (P.map sc)) ∨ (kk = 4 ∧ (10 ≤ A2 38 D ∧ A2 38 D ≤ 22 → EW b A2 A' (P.map sc ++ [sc (A2 38 D)])))) := by
  obtain ⟨z, C, hg, h3⟩ := RN_go hr (by rw [h57]; decide)
  have d2 : A2 0 53 = ((D + 1 : Nat) : Int) := by rw [ht.1, b53]; rfl
  have ed : D + 1 - 1 = D := by omega
  have g8 := G_in (D := D + 1) hs d2 (by omega) (by rw [ed, hkk]; omega) hX hg
  rw [ed, hkk] at g8
  have hk : (kk = 2 ∧ (41 : Int) = 41) ∨ (kk = 4 ∧ (41 : Int) = 41) ∨ (kk = 5 ∧ (41 : Int) = 93) := by
    rcases hk24 with g | g
    · exact Or.inl ⟨g, rfl⟩
    · exact Or.inr (Or.inl ⟨g, rfl⟩)
  rcases G_kc hk hs d2 (by omega) g8 with ⟨n, hz, f1⟩ | ⟨y, hz, mo, c53, c54, c57, c35, c36, c37⟩
  · exfalso
    rcases h3 with ⟨_, e⟩ | ⟨c, _⟩ | ⟨c, _⟩
    · rw [e] at hu; omega
    · exact absurd hz c
    · exact absurd hz c
  · have nz : ¬ z = 0 := by rw [hz]; decide
    rcases h3 with ⟨c, _⟩ | ⟨_, c8, e⟩ | ⟨_, c8, hr2⟩
    · exact absurd c nz
    · exfalso
      rw [e] at hu
      exact c8 hu
    · obtain ⟨Bj, Bk, hj, cs, e47, hc⟩ := J_kc hk hs d2 (by omega) y g8
      obtain ⟨j1, j2, j3, j4, j5, j6⟩ := q_joins_ew (D := D + 1) d2 (by omega) hs.bk h46 h56 hP (hR.mono (by decide)) (Or.inl (by rw [ed]; exact h39)) hj
      have jk := j1.cs cs
      obtain ⟨k1, k2, k3, k4, k5, k6, k7⟩ := cs
      have fin : A2 38 = A2 38 → C 0 56 = (m : Int) ∧ C 38 = A2 38 ∧ C 39 = A2 39 ∧ C 40 = A2 40 ∧ ((kk = 2 ∧ EW b A2 C (P.map sc)) ∨ (kk = 4 ∧ (10 ≤ A2 38 D ∧ A2 38 D ≤ 22 → EW b A2 C (P.map sc ++ [sc (A2 38 D)])))) := by
        intro _
        rcases hc with ⟨n4, c1⟩ | ⟨y4, B2, had, c1⟩
        · have jc := jk.cs c1
          obtain ⟨_, _, m3, m4, m5, _, m7⟩ := c1
          exact ⟨m7.trans (k7.trans j5), m3.trans (k3.trans j2), m4.trans (k4.trans j3), m5.trans (k5.trans j4), Or.inl ⟨by omega, jc⟩⟩
        · rw [j2, show D + 1 - 1 = D by omega] at had
          have b47 : Bk 0 47 = (b : Int) := by rw [e47, j6]; exact hs.bk
          have e46 := jk.nn h46
          obtain ⟨A1, q1, q2⟩ := (had.1 : tr_r_X12_add (A2 38 D) 0 Bk B2)
          have w38 : B2 38 = Bk 38 := by rw [q2, q1]; rfl
          have w39 : B2 39 = Bk 39 := by rw [q2, q1]; rfl
          have w40 : B2 40 = Bk 40 := by rw [q2, q1]; rfl
          have w56 : B2 0 56 = Bk 0 56 := by rw [q2, q1]; rfl
          refine ⟨?_, ?_, ?_, ?_, Or.inr ⟨y4, fun hx => ?_⟩⟩
          · rw [c1.2.2.2.2.2.2, w56, k7, j5]
          · rw [c1.2.2.1, w38, k3, j2]
          · rw [c1.2.2.2.1, w39, k4, j3]
          · rw [c1.2.2.2.2.1, w40, k5, j4]
          · exact EW.trans h46 jk ((add_ew b47 e46 (enc_op hx) had).1.cs c1)
      refine ⟨y, C, mo.nf c8, hr2, c57.trans h57, ⟨?_, ?_, fun i hi => ?_, fun i hi => ?_, ?_⟩, fin rfl⟩
      · rw [c53, hA53]
        show ((D + 1 : Nat) : Int) - 1 = (D : Int)
        omega
      · rw [c54, ht.2.1, b54, hA54]; omega
      · have t := ht.2.2.1 i (by omega)
        rw [c35, c36, if_neg (by omega)]
        exact ⟨t.1.trans (hb i hi).1, t.2.trans (hb i hi).2⟩
      · rw [c37, ht.2.2.2.1 i (by omega)]
        exact hb7 i hi
      · rw [c37, ht.2.2.2.1 (D - 1) (by omega)]
        exact hb70
theorem Sim_partC {f : Nat → Int} {N b n : Nat} {u : St} {o : Int} {S : PT} (hu : u 0 8 = 0) (hn : (n : Int) + o = 8) (hS : 0 < n → SimSC f N b u (o + 1) (3 * n) S) {A T : St} {p D m : Nat} (h : MS f N b p A) (hr : RN u A) (h57 : A 0 57 = 0) (hD : A 0 53 = (D : Int)) (h1 : 1 ≤ D) (h54 : A 0 54 = o) (hpl : pln f N p D A) (hT : T 19 2 ≤ (p : Int)) (hp : 1 ≤ p) (hL : LO 7 m D A) : OutC f N b u D m 7 (3 * n + 1) VN A T A T p (p + 1) (fun _ => True) (sPart f N n S T p) := by
  obtain ⟨z, B, hq, h2⟩ := RN_op hr h57
  have s49 : MS f N b p (stA A 37 (D - 1) 0) := h.fr rfl (fun _ _ => rfl)
  have tb := tEnd_b (f := f) h.le
  have N16 : N ≤ 1600 := h.1.2.1
  have B8 : B 0 8 = 0 := by
    rcases h2 with ⟨c, e⟩ | ⟨c, _⟩
    · rw [e] at hu; exact hu
    · exact c
  have hr2 : RN u (stA B 0 57 z) := by
    rcases h2 with ⟨c, _⟩ | ⟨_, g⟩
    · exact absurd B8 c
    · exact g
  obtain ⟨l0, l1, l2⟩ := hL
  rcases O_base h hD h1 hq with ⟨g, g2, _⟩ | ⟨g, g2, _⟩ | ⟨g, g2, _⟩ | ⟨_, h5⟩
  · exact absurd g2 (hpl g).1
  · exact absurd g2 (hpl g).2.1
  · exact absurd g2 (hpl g).2.2
  · have r5 := O_5 (D := D) s49 rfl rfl hD h5
    have e57 : stA A 37 (D - 1) 0 0 57 = 0 := h57
    have e54 : stA A 37 (D - 1) 0 0 54 = o := h54
    rw [e57, e54] at r5
    have r37 : ∀ i, i + 1 < D → up (A 37) (D - 1) 0 i = A 37 i := fun i hi => up_ne _ _ (by omega)
    rcases r5 with ⟨lf, hz, a1, a2, a3, a4, a5, a6, a7⟩ | ⟨_, y, hz, ho⟩ | ⟨nlf, n40, mm, hz, pr⟩ | ⟨nlf, n40, nmm, hz, f1⟩
    · obtain ⟨x, C, hx, had, cs⟩ := J_leaf s49 rfl lf h5
      obtain ⟨w, sx, wb, we⟩ := sPart_lfC (v := A 0 6) hx (fun g => h.rt.2.2.2.2.1 g)
      have tk0 : tKind f N p ≠ 0 := by
        rcases lf with g | g | g | g | g
        · omega
        · have := g.1; omega
        · have := g.1; omega
        · have := g.1; omega
        · have := g.1; omega
      have lt := tb.2.2.2 tk0
      rw [sx, sAd2_ap (by omega)]
      have ad := add_ew (show stA A 37 (D - 1) 0 0 47 = (b : Int) from h.bk) (show 0 ≤ stA A 37 (D - 1) 0 0 46 from l0) we had
      obtain ⟨w1, w2, w3, w4, w5, _⟩ := ad
      have cs2 : CSm C (stA B 0 57 z) := cs.trans cs57
      have ew : EW b A (stA B 0 57 z) [w] := EW.rw3 (B := stA A 37 (D - 1) 0) rfl rfl rfl (w1.cs cs2)
      obtain ⟨_, _, k3, k4, k5, _, k7⟩ := cs2
      refine ⟨(apT T [w], tEnd f N p), stA B 0 57 z, rfl, (a1.nf B8).fr rfl (fun k hk => st0_k (by decide) (by decide) hk), hr2, hz, ⟨a2, a3, fun i hi => ?_, fun i hi => ?_, ?_⟩, trivial, by show p + 1 ≤ tEnd f N p; omega, ?_, [w], [], [w], ew, ?_, True.intro, fun x hx => absurd hx List.not_mem_nil, fun i hi => ?_, fun i hi => ⟨?_, ?_⟩, rfl, ?_⟩
      · show B 35 i = A 35 i ∧ B 36 i = A 36 i
        rw [a5, a6]
        exact ⟨rfl, rfl⟩
      · show B 37 i = A 37 i
        rw [a7]
        exact r37 i hi
      · show B 37 (D - 1) = 0
        rw [a7, stA_same, up_same]
      · have z19 := apT_sz [w] T
        show apT T [w] 19 2 + (p : Int) ≤ T 19 2 + (tEnd f N p : Int)
        rw [z19]
        show T 19 2 + ((1 : Nat) : Int) + (p : Int) ≤ _
        omega
      · exact k7.trans (w5.trans l1)
      · rw [k5, w4]; rfl
      · rw [k4, w3]; rfl
      · rw [k3, w2]; rfl
      · exact (Sem_leaf wb.1 wb.2).mono (by omega)
    · rw [sPart_br y]
      have lt := tb.2.2.2 (by have := y.1; omega)
      rcases O_opens s49 hD ho with ⟨o8, f1⟩ | ⟨o8, op⟩
      · omega
      · rw [e54] at o8
        rw [e54, e57] at op
        have n0 : 0 < n := by omega
        rw [if_neg (by omega)]
        have hS := hS n0
        have cop := J_opens (D := D) s49.ns (by rw [e54]; exact o8) hD ho
        have hop : OP f N b (tEnd f N p) D o 0 2 (stA A 37 (D - 1) 0) (stA B 0 57 z) := by
          obtain ⟨a1, a2, a3, a4, a5, a6, a7⟩ := op
          exact ⟨a1.fr rfl (fun k hk => st0_k (by decide) (by decide) hk), a2, a3, hz, a5, a6, a7⟩
        obtain ⟨a1, a2, a3, a4, a5, a6, a7⟩ := hop
        have ed : D + 1 - 1 = D := by omega
        have c39 : stA B 0 57 z 39 = up (A 39) D (m : Int) := by
          show B 39 = _
          rw [cop.2.2.2.1]
          show up (A 39) D (A 0 56) = _
          rw [l1]
        have c40 : stA B 0 57 z 40 = A 40 := cop.2.2.2.2.1
        have c38 : stA B 0 57 z 38 = A 38 := cop.2.2.1
        have c56 : stA B 0 57 z 0 56 = (m : Int) := cop.2.2.2.2.2.2.trans l1
        have c46 : stA B 0 57 z 0 46 = A 0 46 := cop.2.2.2.2.2.1
        obtain ⟨a, A2, sa, ms, hr3, m57, tp, na, q, cd, R, P, C, x1, x2, x3, x4, x5, x6, x7, x8⟩ := hS (stA B 0 57 z) T (tEnd f N p) (D + 1) m (a1.nf B8) hr2 a4 (by rw [a2]; rfl) (by omega) a3 (fun g => by have := g.1; rw [a5, ed, up_same] at this; exact absurd this (by decide)) (by rw [a6, ed, up_same]; decide) (show T 19 2 ≤ (tEnd f N p : Int) by omega) (by omega) ⟨by rw [c46]; exact l0, c56, Or.inl (by rw [c39, ed, up_same])⟩
        rw [sa]
        show OutC f N b u D m 7 (3 * n + 1) VN A T A T p (p + 1) (fun _ => True) ((sSign f N 41 a.2).bind fun p2 => some (a.1, p2))
        have tb2 := tEnd_b (f := f) ms.le
        have ew1 : EW b A A2 R := EW.rw3 (B := stA B 0 57 z) cop.1 cop.2.1 c46 x1
        obtain ⟨y2, A', s', r', x', t', e56, e38, e39, e40, cc⟩ := C_closeC (m := m) (P := P) (kk := 2) hu h1 hD h54 a3 a2 (fun i hi => by rw [a5, a6, up_lt hi, up_lt hi]; exact ⟨rfl, rfl⟩) (fun i hi => by rw [a7, up_lt (by omega)]; exact r37 i hi) (by rw [a7, up_lt (by omega), stA_same, up_same]) ms hr3 m57 tp na (by rw [(tp.2.2.1 D (by omega)).1, a5, up_same]) (Or.inl rfl) (ew1.nn l0) x2 x3 x4 (by rw [(x6 D (by omega)).1, c39, up_same])
        rw [sSign_pos y2]
        have e1 : EW b A2 A' (P.map sc) := by
          rcases cc with ⟨_, g⟩ | ⟨g, _⟩
          · exact g
          · exact absurd g (by decide)
        refine ⟨(a.1, tEnd f N a.2), A', rfl, s', r', x', t', trivial, ?_, ?_, R ++ P.map sc, [], C, EW.trans l0 ew1 e1, e56, True.intro, fun x hx => absurd hx List.not_mem_nil, fun i hi => ?_, fun i hi => ⟨?_, ?_⟩, x7, ?_⟩
        · show p + 1 ≤ tEnd f N a.2; omega
        · show a.1 19 2 + (p : Int) ≤ T 19 2 + (tEnd f N a.2 : Int)
          omega
        · rw [e40, x5 i hi, c40]
        · rw [e39, (x6 i (by omega)).1, c39, up_lt hi]
        · rw [e38, (x6 i (by omega)).2, c38]
        · rw [List.map_nil, List.append_nil]
          exact x8.mono (by omega)
    · rcases pr with ⟨f1, g⟩ | ⟨y, o8, f8, op⟩
      · omega
      · have n0 : 0 < n := by omega
        have hS := hS n0
        obtain ⟨x, C0, E0, hx, cs0, cop, eB⟩ := J_mm (D := D) s49 hD mm B8 (by rw [e54]; exact o8) h5
        have lt := tb.2.2.2 (by rcases mm with g | g <;> · have := g.1; omega)
        have sm := sPart_mmC hx
        rw [sm.1]
        have sp : sPair f N n S T (tEnd f N p) = (S T (tEnd f N (tEnd f N p))).bind fun a => (sSign f N 44 a.2).bind fun p2 => (S a.1 p2).bind fun b => (sSign f N 41 b.2).bind fun p3 => some (b.1, p3) := by
          unfold sPair
          rw [sSign_pos y]
          show (if n = 0 then none else _) = _
          rw [if_neg (by omega)]
        rw [sp]
        have tb1 := tEnd_b (f := f) (p := tEnd f N p) tb.2.2.1
        have lt1 := tb1.2.2.2 (by have := y.1; omega)
        have hop : OP f N b (tEnd f N (tEnd f N p)) D o 0 3 (stA A 37 (D - 1) 0) (stA B 0 57 z) := by
          obtain ⟨a1, a2, a3, a4, a5, a6, a7⟩ := op
          exact ⟨a1.fr rfl (fun k hk => st0_k (by decide) (by decide) hk), a2, a3, hz, a5, a6, a7⟩
        obtain ⟨a1, a2, a3, a4, a5, a6, a7⟩ := hop
        have ed : D + 1 - 1 = D := by omega
        obtain ⟨q1, q2, q3, q4, q5, q6, q7⟩ := cs0
        obtain ⟨p1, p2, p3, p4, p5, p6, p7⟩ := cop
        have c33 : stA B 0 57 z 33 = A 33 := by
          show B 33 = _
          rw [eB]
          exact p1.trans q1
        have c34 : stA B 0 57 z 34 = A 34 := by
          show B 34 = _
          rw [eB]
          exact p2.trans q2
        have c46 : stA B 0 57 z 0 46 = A 0 46 := by
          show B 0 46 = _
          rw [eB]
          exact p6.trans q6
        have c56 : stA B 0 57 z 0 56 = (m : Int) := by
          show B 0 56 = _
          rw [eB]
          exact (p7.trans q7).trans l1
        have c40 : stA B 0 57 z 40 = A 40 := by
          show B 40 = _
          rw [eB]
          exact p5.trans q5
        have c39 : stA B 0 57 z 39 = up (A 39) D (m : Int) := by
          show B 39 = _
          rw [eB]
          show E0 39 = _
          rw [p4, q4, q7]
          show up (A 39) D (A 0 56) = _
          rw [l1]
        have c38 : stA B 0 57 z 38 = up (A 38) D x := by
          show B 38 = _
          rw [eB]
          show up (E0 38) D x = _
          rw [p3, q3]
          rfl
        obtain ⟨a, A2, sa, ms, hr3, m57, tp, na, q, cd, R, P, C, x1, x2, x3, x4, x5, x6, x7, x8⟩ := hS (stA B 0 57 z) T (tEnd f N (tEnd f N p)) (D + 1) m (a1.nf B8) hr2 a4 (by rw [a2]; rfl) (by omega) a3 (fun g => by have := g.1; rw [a5, ed, up_same] at this; exact absurd this (by decide)) (by rw [a6, ed, up_same]; decide) (by omega) (by omega) ⟨by rw [c46]; exact l0, c56, Or.inl (by rw [c39, ed, up_same])⟩
        rw [sa]
        show OutC f N b u D m 7 (3 * n + 1) VN A T A T p (p + 1) (fun _ => True) (sAd2 ((sSign f N 44 a.2).bind fun p2 => (S a.1 p2).bind fun b => (sSign f N 41 b.2).bind fun p3 => some (b.1, p3)) (sc x))
        have ew1 : EW b A A2 R := EW.rw3 (B := stA B 0 57 z) c33 c34 c46 x1
        have d2 : A2 0 53 = ((D + 1 : Nat) : Int) := by rw [tp.1, a2]; rfl
        have k3 : A2 35 D = 3 := by rw [(tp.2.2.1 D (by omega)).1, a5, up_same]
        have ph0 : A2 36 D = 0 := by rw [(tp.2.2.1 D (by omega)).2, a6, up_same]
        obtain ⟨z3, Cc, hg, h3⟩ := RN_go hr3 (by rw [m57]; decide)
        have g8 := G_in (D := D + 1) ms d2 (by omega) (by rw [ed, k3]; decide) na hg
        rw [ed, k3] at g8
        have tb2 := tEnd_b (f := f) ms.le
        rcases G_k3 (D := D + 1) ms d2 (by omega) g8 with ⟨n44, hz3, f1⟩ | ⟨y44, hz3, Bc, eBc, c1, c2, c3, c4, c5, c6, c7⟩
        · exfalso
          rcases h3 with ⟨_, e⟩ | ⟨c, _⟩ | ⟨c, _⟩
          · rw [e] at hu; omega
          · exact absurd hz3 c
          · exact absurd hz3 c
        · rw [sSign_pos y44]
          show OutC f N b u D m 7 (3 * n + 1) VN A T A T p (p + 1) (fun _ => True) (sAd2 ((S a.1 (tEnd f N a.2)).bind fun b => (sSign f N 41 b.2).bind fun p3 => some (b.1, p3)) (sc x))
          have nz : ¬ z3 = 0 := by rw [hz3]; decide
          have lt2 := tb2.2.2.2 (by have := y44.1; omega)
          rcases h3 with ⟨c, _⟩ | ⟨_, c8, e⟩ | ⟨_, c8, hr4⟩
          · exact absurd c nz
          · exfalso
            rw [e] at hu
            exact c8 hu
          · obtain ⟨Bj, hj, csj⟩ := J_k3 ms y44 g8
            have n46 := ew1.nn l0
            obtain ⟨j1, j2, j3, j4, j5, _⟩ := q_joins_ew (D := D + 1) (m := m) d2 (by omega) ms.bk n46 x2 x3 (x4.mono (by decide)) (Or.inl (by rw [ed, (x6 D (by omega)).1, c39, up_same])) hj
            have jc := j1.cs csj
            obtain ⟨_, _, t3, t4, t5, _, t7⟩ := csj
            have d39 : Cc 39 = A2 39 := t4.trans j3
            have d38 : Cc 38 = A2 38 := t3.trans j2
            have d40 : Cc 40 = A2 40 := t5.trans j4
            have C35 : Cc 35 = up (A2 35) D 4 := by rw [c5, eBc, ed]; rfl
            have C36 : Cc 36 = A2 36 := by rw [c6, eBc]; rfl
            have C37 : Cc 37 = A2 37 := by rw [c7, eBc]; rfl
            have C53 : Cc 0 53 = ((D + 1 : Nat) : Int) := by rw [c2, eBc]; exact d2
            have C54 : Cc 0 54 = o + 1 := by
              rw [c3, eBc]
              show A2 0 54 = o + 1
              rw [tp.2.1, a3]
            obtain ⟨b2, A4, sb2, ms4, hr5, m574, tp4, na4, q4, cd4, R2, P2, C2, y1, y2, y3, y4, y5, y6, y7, y8⟩ := hS Cc a.1 (tEnd f N a.2) (D + 1) m (c1.nf c8) hr4 c4 C53 (by omega) C54 (fun g => by have := g.1; rw [ed, C35, up_same] at this; exact absurd this (by decide)) (by rw [ed, C36, ph0]; decide) (by omega) (by omega) ⟨jc.nn n46, t7.trans j5, Or.inl (by rw [d39, ed, (x6 D (by omega)).1, c39, up_same])⟩
            rw [sb2]
            show OutC f N b u D m 7 (3 * n + 1) VN A T A T p (p + 1) (fun _ => True) (sAd2 ((sSign f N 41 b2.2).bind fun p3 => some (b2.1, p3)) (sc x))
            have tb4 := tEnd_b (f := f) ms4.le
            have ew2 : EW b A A4 (R ++ P.map sc ++ R2) := EW.trans l0 (EW.trans l0 ew1 jc) y1
            have p38 : A4 38 D = x := by rw [(y6 D (by omega)).2, d38, (x6 D (by omega)).2, c38, up_same]
            obtain ⟨yc, A', s', r', x', t', e56, e38, e39, e40, cc⟩ := C_closeC (m := m) (P := P2) (kk := 4) (B := Cc) hu h1 hD h54 C54 (by rw [C53]; rfl) (fun i hi => by
              have t := tp.2.2.1 i (by omega)
              rw [C35, C36, up_lt hi, t.1, t.2, a5, a6, up_lt hi, up_lt hi]
              exact ⟨rfl, rfl⟩) (fun i hi => by
              rw [C37, tp.2.2.2.1 i (by omega), a7, up_lt (by omega)]
              exact r37 i hi) (by rw [C37, tp.2.2.2.1 (D - 1) (by omega), a7, up_lt (by omega), stA_same, up_same]) ms4 hr5 m574 tp4 na4 (by rw [(tp4.2.2.1 D (by omega)).1, C35, up_same]) (Or.inr rfl) (ew2.nn l0) y2 y3 y4 (by rw [(y6 D (by omega)).1, d39, (x6 D (by omega)).1, c39, up_same])
            rw [sSign_pos yc]
            have e1 : EW b A4 A' (P2.map sc ++ [sc x]) := by
              rcases cc with ⟨g, _⟩ | ⟨_, g⟩
              · exact absurd g (by decide)
              · rw [p38] at g
                exact g ⟨by omega, by omega⟩
            show OutC f N b u D m 7 (3 * n + 1) VN A T A T p (p + 1) (fun _ => True) (sAd2 (some (b2.1, tEnd f N b2.2)) (sc x))
            rw [sAd2_ap (by omega)]
            refine ⟨(apT b2.1 [sc x], tEnd f N b2.2), A', rfl, s', r', x', t', trivial, ?_, ?_, R ++ P.map sc ++ R2 ++ (P2.map sc ++ [sc x]), [], C ++ C2 ++ [sc x], EW.trans l0 ew2 e1, e56, True.intro, fun x hx => absurd hx List.not_mem_nil, fun i hi => ?_, fun i hi => ⟨?_, ?_⟩, ?_, ?_⟩
            · show p + 1 ≤ tEnd f N b2.2; omega
            · have z19 := apT_sz [sc x] b2.1
              show apT b2.1 [sc x] 19 2 + (p : Int) ≤ T 19 2 + (tEnd f N b2.2 : Int)
              rw [z19]
              show b2.1 19 2 + ((1 : Nat) : Int) + (p : Int) ≤ _
              omega
            · rw [e40, y5 i hi, d40, x5 i hi, c40]
            · rw [e39, (y6 i (by omega)).1, d39, (x6 i (by omega)).1, c39, up_lt hi]
            · rw [e38, (y6 i (by omega)).2, d38, (x6 i (by omega)).2, c38, up_lt hi]
            · rw [apT_app, apT_app, ← x7, y7]
            · have sw : -18 ≤ sc x ∧ sc x ≤ -12 := by
                rcases hx with ⟨_, rfl⟩ | ⟨_, rfl⟩ <;> decide
              have g := Sem_bin (VB := VN) (k := 3 * n + 1) (w := sc x) x8 y8 (by omega) ⟨by omega, by omega⟩ (fun a c ha hc => jn_vn sw ha hc)
              have e : R ++ P.map sc ++ R2 ++ (P2.map sc ++ [sc x]) ++ ([] : List Int).map sc = (R ++ P.map sc) ++ (R2 ++ P2.map sc) ++ [sc x] := by
                rw [List.map_nil, List.append_nil]
                simp only [List.append_assoc]
              rw [e]
              exact g
    · omega
abbrev OPC (c l x : Int) : Prop := (c = 43 ∧ l = 5 ∧ x = 10) ∨ (c = 45 ∧ l = 5 ∧ x = 11) ∨ (c = 42 ∧ l = 6 ∧ x = 12) ∨ (c = 47 ∧ l = 6 ∧ x = 13) ∨ (c = 37 ∧ l = 6 ∧ x = 14)
theorem A_stepC {f : Nat → Int} {N b p D : Nat} {u A : St} {c l x : Int} (hu : u 0 8 = 0) (h : MS f N b p A) (hr : RN u A) (h57 : A 0 57 = 1) (hD : A 0 53 = (D : Int)) (h1 : 1 ≤ D) (hph : A 36 (D - 1) < 2) (hc : OPC c l x) (y : tsg f N p c) : ∃ v, MS f N b (tEnd f N p) v ∧ RN u v ∧ v 0 57 = 0 ∧ v 0 53 = A 0 53 ∧ v 0 54 = A 0 54 ∧ v 35 = A 35 ∧ v 36 = A 36 ∧ v 37 = A 37 ∧ ∃ B B1, q_X12_joins l A B ∧ q_X12_holdsBack x B B1 ∧ CSm B1 v := by
  have ha : tari f N p := by
    rcases hc with ⟨e, _⟩ | ⟨e, _⟩ | ⟨e, _⟩ | ⟨e, _⟩ | ⟨e, _⟩
    · rw [e] at y; exact Or.inl y
    · rw [e] at y; exact Or.inr (Or.inl y)
    · rw [e] at y; exact Or.inr (Or.inr (Or.inl y))
    · rw [e] at y; exact Or.inr (Or.inr (Or.inr (Or.inl y)))
    · rw [e] at y; exact Or.inr (Or.inr (Or.inr (Or.inr y)))
  obtain ⟨z, v, hg, h3⟩ := RN_go hr (by rw [h57]; decide)
  rcases G_base h hD h1 hg with ⟨_, _, hz, a1, a2, a3, a4, a5, a6, a7⟩ | ⟨g, _⟩
  · have nz : ¬ z = 0 := by rw [hz]; decide
    rcases h3 with ⟨c, _⟩ | ⟨_, c8, e⟩ | ⟨_, c8, hr2⟩
    · exact absurd c nz
    · exfalso
      rw [e] at hu
      exact c8 hu
    · obtain ⟨l', x', B, B1, hd, hj, hh, cs⟩ := J_arith h hD h1 hph ha hg
      have e : l' = l ∧ x' = x := by
        have y2 := y.2
        rcases hd with ⟨g, e1, e2⟩ | ⟨g, e1, e2⟩ | ⟨g, e1, e2⟩ | ⟨g, e1, e2⟩ | ⟨g, e1, e2⟩
        · have := g.2; omega
        · have := g.2; omega
        · have := g.2; omega
        · have := g.2; omega
        · have := g.2; omega
      rw [e.1] at hj
      rw [e.2] at hh
      exact ⟨v, a1.nf c8, hr2, a4, a2, a3, a5, a6, a7, B, B1, hj, hh, cs⟩
  · exact absurd ⟨hph, ha⟩ g
theorem Sim_prodLC {f : Nat → Int} {N b n m : Nat} {u : St} {o : Int} {S : PT} (hu : u 0 8 = 0) (hn : (n : Int) + o = 8) (hS : 0 < n → SimSC f N b u (o + 1) (3 * n) S) {D : Nat} (h1 : 1 ≤ D) {A0 T0 : St} (hL : LO 6 m D A0) : ∀ (k : Nat) (A T : St) (p : Nat), MS f N b p A → RN u A → A 0 57 = 1 → A 0 53 = (D : Int) → A 0 54 = o → A 36 (D - 1) < 2 → A 37 (D - 1) = 0 → T 19 2 ≤ (p : Int) → 1 ≤ p → N < k + p → CX b D m 6 (3 * n + 2) VN A0 A T0 T → OutC f N b u D m 6 (3 * n + 2) VN A0 T0 A T p p (nmul f N) (sProdL f N n S k T p) := by
  intro k
  induction k with
  | zero =>
    intro A T p h _ _ _ _ _ _ _ _ hN _
    have := h.le
    omega
  | succ k ih =>
    intro A T p h hr h57 hD h54 hph h37 hT hp hN hC
    have tb := tEnd_b (f := f) h.le
    have N16 : N ≤ 1600 := h.1.2.1
    have turn : ∀ (c x : Int), OPC c 6 x → tsg f N p c → OutC f N b u D m 6 (3 * n + 2) VN A0 T0 A T p p (nmul f N) ((sAd2 (sPart f N n S T (tEnd f N p)) (sc x)).bind fun a => sProdL f N n S k a.1 a.2) := by
      intro c x hc y
      have lt := tb.2.2.2 (by have := y.1; omega)
      obtain ⟨v, sv, rv, v57, v53, v54, v35, v36, v37, B, B1, hj, hh, cs⟩ := A_stepC hu h hr h57 hD h1 hph hc y
      have hx : x = 12 ∨ x = 13 ∨ x = 14 := by
        rcases hc with ⟨_, e, _⟩ | ⟨_, e, _⟩ | ⟨_, _, e⟩ | ⟨_, _, e⟩ | ⟨_, _, e⟩ <;> omega
      have rx : rk x = 6 := by rcases hx with rfl | rfl | rfl <;> rfl
      have sx : -18 ≤ sc x ∧ sc x ≤ -12 := by rcases hx with rfl | rfl | rfl <;> decide
      have tl := CX_turn (lo2 := 7) (lo' := 6) (k2 := 3 * n + 1) (k' := 3 * n + 2) (VB := VN) (A' := v) (T2 := T) h.bk hD h1 hL (by omega) hC (by decide) hj hh cs
      obtain ⟨a, A', sa, ms, hr2, m57, tp, _, q, cd, cx⟩ := Sim_partC (T := T) (D := D) (m := m + 1) hu hn hS sv rv v57 (v53.trans hD) h1 (v54.trans h54) (fun g => absurd (by rw [v37]; exact h37) g.2) (by omega) (by omega) (tl.1 7 (by omega))
      rw [sa]
      rw [show sAd2 (some a) (sc x) = some (apT a.1 [sc x], a.2) from sAd2_ap (T := a.1) (e := a.2) (x := sc x) (by have := ms.le; omega)]
      show OutC f N b u D m 6 (3 * n + 2) VN A0 T0 A T p p (nmul f N) (sProdL f N n S k (apT a.1 [sc x]) a.2)
      have tp' := tp.cg v53 v54 v35 v36 v37
      have z19 := apT_sz [sc x] a.1
      have z19 : apT a.1 [sc x] 19 2 = a.1 19 2 + 1 := z19
      have cx2 := (CX_turn (lo2 := 7) (lo' := 6) (k2 := 3 * n + 1) (k' := 3 * n + 2) (VB := VN) h.bk hD h1 hL (by omega) hC (by decide) hj hh cs).2 cx ⟨by decide, by omega⟩ ⟨by omega, by omega⟩ (by omega) (fun a c ha hc => jn_vn sx ha hc)
      obtain ⟨c2, A2, sc2, ms2, hr3, m572, tp2, X2, q2, cd2, cx3⟩ := ih A' (apT a.1 [sc x]) a.2 ms hr2 m57 (tp'.1.trans hD) (tp'.2.1.trans h54) (by rw [(tp'.2.2.1 (D - 1) (by omega)).2]; exact hph) tp'.2.2.2.2 (by omega) (by omega) (by omega) cx2
      exact ⟨c2, A2, sc2, ms2, hr3, m572, tp'.trans tp2, X2, by omega, by omega, cx3⟩
    by_cases y47 : tsg f N p 47
    · have := turn 47 13 (Or.inr (Or.inr (Or.inr (Or.inl ⟨rfl, rfl, rfl⟩)))) y47
      unfold sProdL
      rw [sSign_pos y47]
      exact this
    · by_cases y37 : tsg f N p 37
      · have := turn 37 14 (Or.inr (Or.inr (Or.inr (Or.inr ⟨rfl, rfl, rfl⟩)))) y37
        unfold sProdL
        rw [sSign_neg y47, sSign_pos y37]
        exact this
      · by_cases y42 : tsg f N p 42
        · have := turn 42 12 (Or.inr (Or.inr (Or.inl ⟨rfl, rfl, rfl⟩))) y42
          unfold sProdL
          rw [sSign_neg y47, sSign_neg y37, sSign_pos y42]
          exact this
        · unfold sProdL
          rw [sSign_neg y47, sSign_neg y37, sSign_neg y42]
          exact ⟨(T, p), A, rfl, h, hr, h57, TP.rf h37, ⟨y47, y37, y42⟩, Nat.le_refl p, Int.le_refl _, hC⟩
theorem Sim_prodC {f : Nat → Int} {N b n m : Nat} {u : St} {o : Int} {S : PT} (hu : u 0 8 = 0) (hn : (n : Int) + o = 8) (hS : 0 < n → SimSC f N b u (o + 1) (3 * n) S) {A T : St} {p D : Nat} (h : MS f N b p A) (hr : RN u A) (h57 : A 0 57 = 0) (hD : A 0 53 = (D : Int)) (h1 : 1 ≤ D) (h54 : A 0 54 = o) (hpl : pln f N p D A) (hph : A 36 (D - 1) < 2) (hT : T 19 2 ≤ (p : Int)) (hp : 1 ≤ p) (hL : LO 6 m D A) : OutC f N b u D m 6 (3 * n + 2) VN A T A T p (p + 1) (nmul f N) (sProd f N n S T p) := by
  have N16 : N ≤ 1600 := h.1.2.1
  unfold sProd
  obtain ⟨a, A', sa, ms, hr2, m57, tp, _, q, cd, cx⟩ := Sim_partC hu hn hS h hr h57 hD h1 h54 hpl hT hp (hL.mono (by decide))
  rw [sa]
  show OutC f N b u D m 6 (3 * n + 2) VN A T A T p (p + 1) (nmul f N) (sProdL f N n S 1600 a.1 a.2)
  obtain ⟨c2, A2, sc2, ms2, hr3, m572, tp2, X2, q2, cd2, cx2⟩ := Sim_prodLC hu hn hS h1 hL 1600 A' a.1 a.2 ms hr2 m57 (tp.1.trans hD) (tp.2.1.trans h54) (by rw [(tp.2.2.1 (D - 1) (by omega)).2]; exact hph) tp.2.2.2.2 (by omega) (by omega) (by omega) (cx.mono (by decide) (by omega))
  exact ⟨c2, A2, sc2, ms2, hr3, m572, tp.trans tp2, X2, by omega, by omega, cx2⟩
theorem Sim_sumLC {f : Nat → Int} {N b n m : Nat} {u : St} {o : Int} {S : PT} (hu : u 0 8 = 0) (hn : (n : Int) + o = 8) (hS : 0 < n → SimSC f N b u (o + 1) (3 * n) S) {D : Nat} (h1 : 1 ≤ D) {A0 T0 : St} (hL : LO 5 m D A0) : ∀ (k : Nat) (A T : St) (p : Nat), MS f N b p A → RN u A → A 0 57 = 1 → A 0 53 = (D : Int) → A 0 54 = o → A 36 (D - 1) < 2 → A 37 (D - 1) = 0 → T 19 2 ≤ (p : Int) → 1 ≤ p → N < k + p → nmul f N p → CX b D m 5 (3 * n + 3) VN A0 A T0 T → OutC f N b u D m 5 (3 * n + 3) VN A0 T0 A T p p (fun e => ¬ tari f N e) (sSumL f N n S k T p) := by
  intro k
  induction k with
  | zero =>
    intro A T p h _ _ _ _ _ _ _ _ hN _ _
    have := h.le
    omega
  | succ k ih =>
    intro A T p h hr h57 hD h54 hph h37 hT hp hN hnm hC
    have tb := tEnd_b (f := f) h.le
    have N16 : N ≤ 1600 := h.1.2.1
    have turn : ∀ (c x : Int), OPC c 5 x → tsg f N p c → OutC f N b u D m 5 (3 * n + 3) VN A0 T0 A T p p (fun e => ¬ tari f N e) ((sAd2 (sProd f N n S T (tEnd f N p)) (sc x)).bind fun a => sSumL f N n S k a.1 a.2) := by
      intro c x hc y
      have lt := tb.2.2.2 (by have := y.1; omega)
      obtain ⟨v, sv, rv, v57, v53, v54, v35, v36, v37, B, B1, hj, hh, cs⟩ := A_stepC hu h hr h57 hD h1 hph hc y
      have hx : x = 10 ∨ x = 11 := by
        rcases hc with ⟨_, _, e⟩ | ⟨_, _, e⟩ | ⟨_, e, _⟩ | ⟨_, e, _⟩ | ⟨_, e, _⟩ <;> omega
      have rx : rk x = 5 := by rcases hx with rfl | rfl <;> rfl
      have sx : -18 ≤ sc x ∧ sc x ≤ -12 := by rcases hx with rfl | rfl <;> decide
      have tl := CX_turn (lo2 := 6) (lo' := 5) (k2 := 3 * n + 2) (k' := 3 * n + 3) (VB := VN) (A' := v) (T2 := T) h.bk hD h1 hL (by omega) hC (by decide) hj hh cs
      obtain ⟨a, A', sa, ms, hr2, m57, tp, X1, q, cd, cx⟩ := Sim_prodC (T := T) (D := D) (m := m + 1) hu hn hS sv rv v57 (v53.trans hD) h1 (v54.trans h54) (fun g => absurd (by rw [v37]; exact h37) g.2) (by rw [v36]; exact hph) (by omega) (by omega) (tl.1 6 (by omega))
      rw [sa]
      rw [show sAd2 (some a) (sc x) = some (apT a.1 [sc x], a.2) from sAd2_ap (T := a.1) (e := a.2) (x := sc x) (by have := ms.le; omega)]
      show OutC f N b u D m 5 (3 * n + 3) VN A0 T0 A T p p (fun e => ¬ tari f N e) (sSumL f N n S k (apT a.1 [sc x]) a.2)
      have tp' := tp.cg v53 v54 v35 v36 v37
      have z19 := apT_sz [sc x] a.1
      have z19 : apT a.1 [sc x] 19 2 = a.1 19 2 + 1 := z19
      have cx2 := (CX_turn (lo2 := 6) (lo' := 5) (k2 := 3 * n + 2) (k' := 3 * n + 3) (VB := VN) h.bk hD h1 hL (by omega) hC (by decide) hj hh cs).2 cx ⟨by decide, by omega⟩ ⟨by omega, by omega⟩ (by omega) (fun a c ha hc => jn_vn sx ha hc)
      obtain ⟨c2, A2, sc2, ms2, hr3, m572, tp2, X2, q2, cd2, cx3⟩ := ih A' (apT a.1 [sc x]) a.2 ms hr2 m57 (tp'.1.trans hD) (tp'.2.1.trans h54) (by rw [(tp'.2.2.1 (D - 1) (by omega)).2]; exact hph) tp'.2.2.2.2 (by omega) (by omega) (by omega) X1 cx2
      exact ⟨c2, A2, sc2, ms2, hr3, m572, tp'.trans tp2, X2, by omega, by omega, cx3⟩
    by_cases y45 : tsg f N p 45
    · have := turn 45 11 (Or.inr (Or.inl ⟨rfl, rfl, rfl⟩)) y45
      unfold sSumL
      rw [sSign_pos y45]
      exact this
    · by_cases y43 : tsg f N p 43
      · have := turn 43 10 (Or.inl ⟨rfl, rfl, rfl⟩) y43
        unfold sSumL
        rw [sSign_neg y45, sSign_pos y43]
        exact this
      · unfold sSumL
        rw [sSign_neg y45, sSign_neg y43]
        refine ⟨(T, p), A, rfl, h, hr, h57, TP.rf h37, ?_, Nat.le_refl p, Int.le_refl _, hC⟩
        rintro (g | g | g | g | g)
        · exact y43 g
        · exact y45 g
        · exact hnm.2.2 g
        · exact hnm.1 g
        · exact hnm.2.1 g
theorem Sim_sumC {f : Nat → Int} {N b n : Nat} {u : St} {o : Int} {S : PT} (hu : u 0 8 = 0) (hn : (n : Int) + o = 8) (hS : 0 < n → SimSC f N b u (o + 1) (3 * n) S) : SimSC f N b u o (3 * n + 3) (sSum f N n S) := by
  intro A T p D m h hr h57 hD h1 h54 hpl hph hT hp hL
  have N16 : N ≤ 1600 := h.1.2.1
  unfold sSum
  obtain ⟨a, A', sa, ms, hr2, m57, tp, X1, q, cd, cx⟩ := Sim_prodC hu hn hS h hr h57 hD h1 h54 hpl hph hT hp (hL.mono (by decide))
  rw [sa]
  show OutC f N b u D m 5 (3 * n + 3) VN A T A T p (p + 1) (fun e => ¬ tari f N e) (sSumL f N n S 1600 a.1 a.2)
  obtain ⟨c2, A2, sc2, ms2, hr3, m572, tp2, X2, q2, cd2, cx2⟩ := Sim_sumLC hu hn hS h1 hL 1600 A' a.1 a.2 ms hr2 m57 (tp.1.trans hD) (tp.2.1.trans h54) (by rw [(tp.2.2.1 (D - 1) (by omega)).2]; exact hph) tp.2.2.2.2 (by omega) (by omega) (by omega) X1 (cx.mono (by decide) (by omega))
  exact ⟨c2, A2, sc2, ms2, hr3, m572, tp.trans tp2, X2, by omega, by omega, cx2⟩
theorem Sim_sumNC {f : Nat → Int} {N b : Nat} {u : St} (hu : u 0 8 = 0) : ∀ n : Nat, SimSC f N b u (8 - (n : Int)) (3 * n + 3) (sSumN f N n)
  | 0 => Sim_sumC (n := 0) hu (by omega) (fun h => absurd h (by omega))
  | n + 1 => Sim_sumC (n := n + 1) hu (by omega) (fun _ => by
    have := Sim_sumNC (f := f) (N := N) (b := b) (u := u) hu n
    rw [show 8 - ((n + 1 : Nat) : Int) + 1 = 8 - (n : Int) by omega, show 3 * (n + 1) = 3 * n + 3 by omega]
    exact this)
/-! Tests: both rows of codes are worth the same. -/
def OutFC (f : Nat → Int) (N b : Nat) (u : St) (D m : Nat) (lo : Int) (k : Nat) (A0 T0 A T : St) (p q : Nat) (X : Nat → Prop) (r : Option (St × Nat)) : Prop := ∃ a A', r = some a ∧ MS f N b a.2 A' ∧ RN u A' ∧ A' 0 57 = 1 ∧ TQ D A A' ∧ A' 37 (D - 1) = 0 ∧ ¬ A' 36 (D - 1) = 0 ∧ (A' 36 (D - 1) < 2 → ¬ tari f N a.2) ∧ X a.2 ∧ q ≤ a.2 ∧ (a.1 19 2 + (p : Int) ≤ T 19 2 + (a.2 : Int)) ∧ CX b D m lo k V1 A0 A' T0 a.1
def SimTC (f : Nat → Int) (N b : Nat) (u : St) (o : Int) (k : Nat) (S : PT) : Prop := ∀ (A T : St) (p D m : Nat), MS f N b p A → RN u A → A 0 57 = 0 → A 0 53 = (D : Int) → 1 ≤ D → A 0 54 = o → (A 35 (D - 1) = 1 ∨ A 35 (D - 1) = 5) → ¬ A 37 (D - 1) = 0 → A 36 (D - 1) = 0 → T 19 2 ≤ (p : Int) → 1 ≤ p → LO 1 m D A → OutFC f N b u D m 1 k A T A T p (p + 1) (nao f N) (S T p)
theorem sCmpC {f : Nat → Int} {N p : Nat} {x : Int} (h : (tsg f N p 60 ∧ x = 17) ∨ (tsg f N p 62 ∧ x = 18) ∨ (tsg f N p 61 ∧ x = 19)) : sCmp f N p = some (sc x, tEnd f N p) := by
  unfold sCmp
  rcases h with ⟨h, rfl⟩ | ⟨h, rfl⟩ | ⟨h, rfl⟩
  · rw [sSign_pos h]; rfl
  · rw [sSign_neg (tsg_ne h (by decide)), sSign_pos h]; rfl
  · rw [sSign_neg (tsg_ne h (by decide)), sSign_neg (tsg_ne h (by decide)), sSign_pos h]; rfl
theorem Sim_factBC {f : Nat → Int} {N b n : Nat} {u : St} {o : Int} {S S2 : PT} (hu : u 0 8 = 0) (hn : (n : Int) + o = 8) (hS : SimSC f N b u o (3 * n + 3) S) (hS2 : 0 < n → SimTC f N b u (o + 1) (3 * n + 3) S2) {A T : St} {p D m : Nat} (h : MS f N b p A) (hr : RN u A) (h57 : A 0 57 = 0) (hD : A 0 53 = (D : Int)) (h1 : 1 ≤ D) (h54 : A 0 54 = o) (hk : A 35 (D - 1) = 1 ∨ A 35 (D - 1) = 5) (h37 : ¬ A 37 (D - 1) = 0) (h36 : A 36 (D - 1) = 0) (n18 : ¬ tow f N p 18) (hT : T 19 2 ≤ (p : Int)) (hp : 1 ≤ p) (hL : LO 4 m D A) : OutFC f N b u D m 4 (3 * n + 4) A T A T p (p + 1) (fun _ => True) (sFactB f N n S S2 T p) := by
  have tb := tEnd_b (f := f) h.le
  have N16 : N ≤ 1600 := h.1.2.1
  have s49 : MS f N b p (stA A 37 (D - 1) 0) := h.fr rfl (fun _ _ => rfl)
  have fs : fst1 D A := ⟨hk, h37⟩
  obtain ⟨l0, l1, l2⟩ := id hL
  by_cases y19 : tow f N p 19
  · obtain ⟨z, B, hq, h2⟩ := RN_op hr h57
    have lt := tb.2.2.2 (by have := y19.1; omega)
    unfold sFactB
    rw [sOwn_pos y19]
    show OutFC f N b u D m 4 (3 * n + 4) A T A T p (p + 1) (fun _ => True) (sAd2 (some (T, tEnd f N p)) (-5))
    rw [sAd2_ap (by omega)]
    rcases O_base h hD h1 hq with ⟨_, g, _⟩ | ⟨_, g, _⟩ | ⟨_, _, hz, a1, a2, a3, a4, a5, a6, a7⟩ | ⟨g, _⟩
    · exact absurd g n18
    · exact absurd g (tow_sg y19)
    · rcases h2 with ⟨c, e⟩ | ⟨c, hr2⟩
      · exfalso
        rw [e] at hu
        exact c hu
      · obtain ⟨C, had, cs⟩ := (J_first h hD h1 fs hq).2 y19
        have ad := add_ew (w := -5) (show stA A 37 (D - 1) 0 0 47 = (b : Int) from h.bk) (show 0 ≤ stA A 37 (D - 1) 0 0 46 from l0) (Or.inr ⟨by decide, by decide, by decide, Or.inr (by decide)⟩) had
        obtain ⟨w1, w2, w3, w4, w5, _⟩ := ad
        have cs2 : CSm C (stA B 0 57 z) := cs.trans cs57
        have ew : EW b A (stA B 0 57 z) [-5] := EW.rw3 (B := stA A 37 (D - 1) 0) rfl rfl rfl (w1.cs cs2)
        obtain ⟨_, _, k3, k4, k5, _, k7⟩ := cs2
        have r36 : stA B 0 57 z 36 = up (A 36) (D - 1) 2 := a6
        have r37 : stA B 0 57 z 37 = up (A 37) (D - 1) 0 := a7
        have r35 : stA B 0 57 z 35 = A 35 := a5
        have z19 := apT_sz [-5] T
        have z19 : apT T [-5] 19 2 = T 19 2 + 1 := z19
        refine ⟨(apT T [-5], tEnd f N p), stA B 0 57 z, rfl, (a1.nf c).fr rfl (fun k hk => st0_k (by decide) (by decide) hk), hr2, hz, ⟨a2, a3, fun i hi => by rw [r35], fun i hi => ?_⟩, by rw [r37, up_same], by rw [r36, up_same]; decide, fun g => ?_, trivial, by show p + 1 ≤ tEnd f N p; omega, by show apT T [-5] 19 2 + (p : Int) ≤ T 19 2 + (tEnd f N p : Int); omega, [-5], [], [-5], ew, ?_, True.intro, fun x hx => absurd hx List.not_mem_nil, fun i hi => ?_, fun i hi => ⟨?_, ?_⟩, rfl, ?_⟩
        · rw [r36, r37, up_ne _ _ (by omega), up_ne _ _ (by omega)]
          exact ⟨rfl, rfl⟩
        · rw [r36, up_same] at g
          exact absurd g (by decide)
        · exact k7.trans (w5.trans l1)
        · rw [k5, w4]; rfl
        · rw [k4, w3]; rfl
        · rw [k3, w2]; rfl
        · exact Sem_all.mono (by omega)
    · exact absurd y19 (g fs).2.2
  · by_cases y91 : tsg f N p 91
    · obtain ⟨z, B, hq, h2⟩ := RN_op hr h57
      have lt := tb.2.2.2 (by have := y91.1; omega)
      unfold sFactB
      rw [sOwn_neg y19, sSign_pos y91]
      show OutFC f N b u D m 4 (3 * n + 4) A T A T p (p + 1) (fun _ => True) (if n = 0 then none else (S2 T (tEnd f N p)).bind fun a => (sSign f N 93 a.2).bind fun p2 => some (a.1, p2))
      have B8 : B 0 8 = 0 := by
        rcases h2 with ⟨c, e⟩ | ⟨c, _⟩
        · rw [e] at hu; exact hu
        · exact c
      have hr2 : RN u (stA B 0 57 z) := by
        rcases h2 with ⟨c, _⟩ | ⟨_, g⟩
        · exact absurd B8 c
        · exact g
      rcases O_base h hD h1 hq with ⟨_, g, _⟩ | ⟨_, _, hz, ho⟩ | ⟨_, g, _⟩ | ⟨g, _⟩
      · exact absurd y91 (tow_sg g)
      · have e57 : stA A 37 (D - 1) 0 0 57 = 0 := h57
        have e54 : stA A 37 (D - 1) 0 0 54 = o := h54
        rcases O_opens s49 hD ho with ⟨o8, f1⟩ | ⟨o8, op⟩
        · omega
        · rw [e54] at o8
          rw [e54, e57] at op
          rw [if_neg (by omega)]
          have hS2 := hS2 (by omega)
          have cop := J_opens (D := D) s49.ns (by rw [e54]; exact o8) hD ho
          have hop : OP f N b (tEnd f N p) D o 0 5 (stA A 37 (D - 1) 0) (stA B 0 57 z) := by
            obtain ⟨a1, a2, a3, a4, a5, a6, a7⟩ := op
            exact ⟨a1.fr rfl (fun k hk => st0_k (by decide) (by decide) hk), a2, a3, hz, a5, a6, a7⟩
          have c39 : stA B 0 57 z 39 = up (A 39) D (m : Int) := by
            show B 39 = _
            rw [cop.2.2.2.1]
            show up (A 39) D (A 0 56) = _
            rw [l1]
          have c40 : stA B 0 57 z 40 = A 40 := cop.2.2.2.2.1
          have c38 : stA B 0 57 z 38 = A 38 := cop.2.2.1
          have c56 : stA B 0 57 z 0 56 = (m : Int) := cop.2.2.2.2.2.2.trans l1
          have c46 : stA B 0 57 z 0 46 = A 0 46 := cop.2.2.2.2.2.1
          have c33 : stA B 0 57 z 33 = A 33 := cop.1
          have c34 : stA B 0 57 z 34 = A 34 := cop.2.1
          obtain ⟨B1, eB1⟩ : ∃ B1, B1 = stA B 0 57 z := ⟨_, rfl⟩
          have c1 : B1 0 8 = 0 := by rw [eB1]; exact B8
          rw [← eB1] at hop hr2 c39 c40 c38 c56 c46 c33 c34
          obtain ⟨a1, a2, a3, a4, a5, a6, a7⟩ := hop
          have ed : D + 1 - 1 = D := by omega
          obtain ⟨a, A2, sa, ms, hr3, m57, tq, m37, m36, m36t, na, q, cd, R, P, C, x1, x2, x3, x4, x5, x6, x7, x8⟩ := hS2 B1 T (tEnd f N p) (D + 1) m (a1.nf c1) hr2 a4 (by rw [a2]; rfl) (by omega) a3 (Or.inr (by rw [a5, ed, up_same])) (by rw [a7, ed, up_same]; decide) (by rw [a6, ed, up_same]) (by omega) (by omega) ⟨by rw [c46]; exact l0, c56, Or.inl (by rw [c39, ed, up_same])⟩
          rw [sa]
          show OutFC f N b u D m 4 (3 * n + 4) A T A T p (p + 1) (fun _ => True) ((sSign f N 93 a.2).bind fun p2 => some (a.1, p2))
          rw [ed] at m37 m36 m36t
          have tb2 := tEnd_b (f := f) ms.le
          have d2 : A2 0 53 = ((D + 1 : Nat) : Int) := by rw [tq.1, a2]; rfl
          have k5 : A2 35 D = 5 := by rw [tq.2.2.1 D (by omega), a5, up_same]
          obtain ⟨z3, C0, hg, h3⟩ := RN_go hr3 (by rw [m57]; decide)
          have g8 : d_X12_goesOn_8 A2 z3 C0 5 A2 := by
            rcases G_base (D := D + 1) ms d2 (by omega) hg with ⟨g1, g2, _⟩ | ⟨_, z2, hz2, g2⟩
            · rw [ed] at g1
              exact absurd g2 (m36t g1)
            · rw [ed, k5] at hz2 g2
              have e2 : z2 = 1 := by
                rcases hz2 with ⟨g, _⟩ | ⟨_, g⟩
                · exact g
                · exact absurd (Or.inr rfl) g
              rcases G_cmp (D := D + 1) ms d2 (by omega) (Or.inl e2) g2 with ⟨_, g, _⟩ | ⟨_, g2⟩
              · rw [ed] at g; exact absurd g m36
              · rcases G_andor (D := D + 1) ms d2 (by omega) (Or.inl e2) g2 with ⟨_, g, _⟩ | ⟨_, g2⟩
                · rcases g with g | g
                  · exact absurd g na.1
                  · exact absurd g na.2
                · rcases G_end (D := D + 1) ms d2 (by omega) (Or.inl e2) g2 with ⟨_, g, _⟩ | ⟨_, g2⟩
                  · rw [ed] at g; exact absurd g m36
                  · exact g2
          have ew1 : EW b A A2 R := EW.rw3 (B := B1) c33 c34 c46 x1
          have n46 := ew1.nn l0
          rcases G_kc (x := 93) (D := D + 1) (Or.inr (Or.inr ⟨rfl, rfl⟩)) ms d2 (by omega) g8 with ⟨n93, hz3, f1⟩ | ⟨y93, hz3, mo, c53, c54, c57, c35, c36, c37⟩
          · exfalso
            rcases h3 with ⟨_, e⟩ | ⟨c, _⟩ | ⟨c, _⟩
            · rw [e] at hu; omega
            · exact absurd hz3 c
            · exact absurd hz3 c
          · rw [sSign_pos y93]
            have nz : ¬ z3 = 0 := by rw [hz3]; decide
            rcases h3 with ⟨c, _⟩ | ⟨_, c8, e⟩ | ⟨_, c8, hr4⟩
            · exact absurd c nz
            · exfalso
              rw [e] at hu
              exact c8 hu
            · rw [if_pos rfl, show D + 1 - 2 = D - 1 by omega] at c36
              obtain ⟨Bj, Bk, hj, cs, _, hc⟩ := J_kc (x := 93) (D := D + 1) (Or.inr (Or.inr ⟨rfl, rfl⟩)) ms d2 (by omega) y93 g8
              obtain ⟨j1, j2, j3, j4, j5, _⟩ := q_joins_ew (D := D + 1) (m := m) d2 (by omega) ms.bk n46 x2 x3 x4 (Or.inl (by rw [ed, (x6 D (by omega)).1, c39, up_same])) hj
              have cs2 : CSm Bj C0 := by
                rcases hc with ⟨_, g⟩ | ⟨g, _⟩
                · exact cs.trans g
                · exact absurd g (by decide)
              have jc := j1.cs cs2
              obtain ⟨_, _, t3, t4, t5, _, t7⟩ := cs2
              refine ⟨(a.1, tEnd f N a.2), C0, rfl, mo.nf c8, hr4, c57.trans m57, ⟨?_, ?_, fun i hi => ?_, fun i hi => ?_⟩, ?_, by rw [c36, up_same]; decide, fun g => ?_, trivial, by show p + 1 ≤ tEnd f N a.2; omega, by show a.1 19 2 + (p : Int) ≤ T 19 2 + (tEnd f N a.2 : Int); omega, R ++ P.map sc, [], C, EW.trans l0 ew1 jc, t7.trans j5, True.intro, fun x hx => absurd hx List.not_mem_nil, fun i hi => ?_, fun i hi => ⟨?_, ?_⟩, x7, ?_⟩
              · rw [c53, hD]
                show ((D + 1 : Nat) : Int) - 1 = (D : Int)
                omega
              · rw [c54, tq.2.1, a3, h54]; omega
              · rw [c35, tq.2.2.1 i (by omega), a5, up_lt hi]
                rfl
              · have t := tq.2.2.2 i (by omega)
                rw [c36, c37, up_ne _ _ (by omega), t.1, t.2, a6, a7, up_lt (by omega), up_lt (by omega)]
                refine ⟨rfl, ?_⟩
                show up (A 37) (D - 1) 0 i = A 37 i
                rw [up_ne _ _ (by omega)]
              · have t := tq.2.2.2 (D - 1) (by omega)
                rw [c37, t.2, a7, up_lt (by omega)]
                show up (A 37) (D - 1) 0 (D - 1) = 0
                rw [up_same]
              · rw [c36, up_same] at g
                exact absurd g (by decide)
              · rw [t5, j4, x5 i hi, c40]
              · rw [t4, j3, (x6 i (by omega)).1, c39, up_lt hi]
              · rw [t3, j2, (x6 i (by omega)).2, c38]
              · rw [List.map_nil, List.append_nil]
                exact x8.mono (by omega)
      · exact absurd y91 (tow_sg g)
      · exact absurd y91 (g fs).2.1
    · unfold sFactB
      rw [sOwn_neg y19, sSign_neg y91]
      show OutFC f N b u D m 4 (3 * n + 4) A T A T p (p + 1) (fun _ => True) ((S T p).bind fun a => (sCmp f N a.2).bind fun c => sAd2 (S a.1 c.2) c.1)
      obtain ⟨a, A1, sa, ms, hr2, m57, tp, na, q, cd, cx⟩ := hS A T p D m h hr h57 hD h1 h54 (fun _ => ⟨n18, y91, y19⟩) (by rw [h36]; decide) hT hp (hL.mono (by decide))
      rw [sa]
      show OutFC f N b u D m 4 (3 * n + 4) A T A T p (p + 1) (fun _ => True) ((sCmp f N a.2).bind fun c => sAd2 (S a.1 c.2) c.1)
      have tb2 := tEnd_b (f := f) ms.le
      have d2 : A1 0 53 = (D : Int) := tp.1.trans hD
      have k1 : A1 35 (D - 1) = A 35 (D - 1) := (tp.2.2.1 (D - 1) (by omega)).1
      have p1 : A1 36 (D - 1) = 0 := (tp.2.2.1 (D - 1) (by omega)).2.trans h36
      obtain ⟨z3, v, hg, h3⟩ := RN_go hr2 (by rw [m57]; decide)
      rcases G_base ms d2 h1 hg with ⟨_, g2, _⟩ | ⟨_, z2, hz2, g2⟩
      · exact absurd g2 na
      · have e2 : z2 = 1 := by
          rw [k1] at hz2
          rcases hz2 with ⟨g, _⟩ | ⟨_, g⟩
          · exact g
          · exact absurd hk g
        rcases G_cmp ms d2 h1 (Or.inl e2) g2 with ⟨_, _, yc, hz3, Bc, eBc, c1, c2, c3, c4, c5, c6, c7⟩ | ⟨g, g3⟩
        · obtain ⟨x, B, B1, hx, hj, hh, cs⟩ := J_cmp ms d2 h1 e2 p1 yc g2
          rw [sCmpC hx]
          show OutFC f N b u D m 4 (3 * n + 4) A T A T p (p + 1) (fun _ => True) (sAd2 (S a.1 (tEnd f N a.2)) (sc x))
          have nz : ¬ z3 = 0 := by rw [hz3]; decide
          have lt2 := tb2.2.2.2 (by rcases yc with g | g | g <;> · have := g.1; omega)
          have hx3 : x = 17 ∨ x = 18 ∨ x = 19 := by rcases hx with ⟨_, e⟩ | ⟨_, e⟩ | ⟨_, e⟩ <;> omega
          have rx : rk x = 4 := by rcases hx3 with rfl | rfl | rfl <;> rfl
          have sx : sc x = -9 ∨ sc x = -10 ∨ sc x = -11 := by
            rcases hx3 with rfl | rfl | rfl
            · exact Or.inl (by decide)
            · exact Or.inr (Or.inl (by decide))
            · exact Or.inr (Or.inr (by decide))
          rcases h3 with ⟨c, _⟩ | ⟨_, c8, e⟩ | ⟨_, c8, hr4⟩
          · exact absurd c nz
          · exfalso
            rw [e] at hu
            exact c8 hu
          · have v36 : v 36 = up (A1 36) (D - 1) 1 := by rw [c6, eBc]; rfl
            have v37 : v 37 = A1 37 := by rw [c7, eBc]; rfl
            have v35 : v 35 = A1 35 := by rw [c5, eBc]; rfl
            have v53 : v 0 53 = A1 0 53 := by rw [c2, eBc]; rfl
            have v54 : v 0 54 = A1 0 54 := by rw [c3, eBc]; rfl
            have tl := CX_turn (lo2 := 5) (lo' := 4) (k2 := 3 * n + 3) (k' := 3 * n + 4) (VB := V1) (A' := v) (T2 := T) ms.bk d2 h1 (hL.mono (show (4 : Int) ≤ 5 by decide)) (by omega) cx (by decide) hj hh cs
            obtain ⟨b2, A3, sb2, ms3, hr5, m573, tp3, na3, q3, cd3, cx3⟩ := hS v a.1 (tEnd f N a.2) D (m + 1) (c1.nf c8) hr4 c4 (v53.trans d2) h1 (v54.trans (tp.2.1.trans h54)) (fun g => absurd (by rw [v37]; exact tp.2.2.2.2) g.2) (by rw [v36, up_same]; decide) (by omega) (by omega) (tl.1 5 (by omega))
            rw [sb2]
            rw [show sAd2 (some b2) (sc x) = some (apT b2.1 [sc x], b2.2) from sAd2_ap (T := b2.1) (e := b2.2) (x := sc x) (by have := ms3.le; omega)]
            have z19 := apT_sz [sc x] b2.1
            have z19 : apT b2.1 [sc x] 19 2 = b2.1 19 2 + 1 := z19
            have cx4 := (CX_turn (lo2 := 5) (lo' := 4) (k2 := 3 * n + 3) (k' := 3 * n + 4) (VB := V1) ms.bk d2 h1 (hL.mono (show (4 : Int) ≤ 5 by decide)) (by omega) cx (by decide) hj hh cs).2 cx3 ⟨by decide, by omega⟩ ⟨by omega, by omega⟩ (by omega) (fun a c ha hc => jn_v1c sx ha hc)
            have t3 := tp3.2.2.1 (D - 1) (by omega)
            refine ⟨(apT b2.1 [sc x], b2.2), A3, rfl, ms3, hr5, m573, ⟨?_, ?_, fun i hi => ?_, fun i hi => ?_⟩, tp3.2.2.2.2, by rw [t3.2, v36, up_same]; decide, fun _ => na3, trivial, by show p + 1 ≤ b2.2; omega, by show apT b2.1 [sc x] 19 2 + (p : Int) ≤ T 19 2 + (b2.2 : Int); omega, cx4⟩
            · rw [tp3.1, v53, tp.1]
            · rw [tp3.2.1, v54, tp.2.1]
            · rw [(tp3.2.2.1 i hi).1, v35, (tp.2.2.1 i hi).1]
            · rw [(tp3.2.2.1 i (by omega)).2, tp3.2.2.2.1 i hi, v36, v37, up_ne _ _ (by omega), (tp.2.2.1 i (by omega)).2, tp.2.2.2.1 i hi]
              exact ⟨rfl, rfl⟩
        · exfalso
          have fz : z3 = 0 ∧ 1 ≤ v 0 8 := by
            rcases G_andor ms d2 h1 (Or.inl e2) g3 with ⟨_, _, g⟩ | ⟨_, g2⟩
            · rcases g with ⟨_, g⟩ | ⟨g, _⟩
              · exact g
              · exact absurd p1 g
            · rcases G_end ms d2 h1 (Or.inl e2) g2 with ⟨_, _, g⟩ | ⟨g, _⟩
              · exact g
              · exact absurd ⟨e2, p1⟩ g
          rcases h3 with ⟨_, e⟩ | ⟨c, _⟩ | ⟨c, _⟩
          · rw [e] at hu
            have := fz.2
            omega
          · exact absurd fz.1 c
          · exact absurd fz.1 c
theorem replicate_snoc {x : Int} : ∀ j, List.replicate (j + 1) x = List.replicate j x ++ [x] := by
  intro j
  induction j with
  | zero => rfl
  | succ j ih =>
    show x :: List.replicate (j + 1) x = x :: (List.replicate j x ++ [x])
    rw [ih]
theorem PD_rep {g : Nat → Int} {x : Int} {P : List Int} : ∀ (j m : Nat), PD (m + j) g P → (∀ i, i < j → g (m + i) = x) → PD m g (P ++ List.replicate j x) := by
  intro j
  induction j with
  | zero => intro m h _; rw [show List.replicate 0 x = [] from rfl, List.append_nil]; exact h
  | succ j ih =>
    intro m h e
    rw [replicate_snoc, ← List.append_assoc]
    refine PD.snoc _ (ih (m + 1) ?_ (fun i hi => ?_)) (e 0 (Nat.succ_pos _))
    · rw [show m + 1 + j = m + (j + 1) by omega]; exact h
    · have := e (i + 1) (by omega)
      rw [show m + (i + 1) = m + 1 + i by omega] at this
      exact this
/-- the nots of a fact, all held back -/
theorem Sim_notsC {f : Nat → Int} {N b D : Nat} {u : St} (hu : u 0 8 = 0) (h1 : 1 ≤ D) : ∀ (k : Nat) (A : St) (p m : Nat) (t : Int), MS f N b p A → RN u A → A 0 57 = 0 → A 0 53 = (D : Int) → (A 35 (D - 1) = 1 ∨ A 35 (D - 1) = 5) → ¬ A 37 (D - 1) = 0 → N < k + p → (t = 0 ∨ t = 1) → A 0 56 = (m : Int) → ∃ (A' : St) (j : Nat), MS f N b (sNots f N k t p).2 A' ∧ RN u A' ∧ A' 0 57 = 0 ∧ A' 0 53 = A 0 53 ∧ A' 0 54 = A 0 54 ∧ A' 35 = A 35 ∧ A' 36 = A 36 ∧ A' 37 = A 37 ∧ ¬ tow f N (sNots f N k t p).2 18 ∧ (sNots f N k t p).1 = (if j % 2 = 0 then t else 1 - t) ∧ EW b A A' [] ∧ A' 38 = A 38 ∧ A' 39 = A 39 ∧ A' 0 56 = ((m + j : Nat) : Int) ∧ (∀ i, i < m → A' 40 i = A 40 i) ∧ ∀ i, i < j → A' 40 (m + i) = 22 := by
  intro k
  induction k with
  | zero =>
    intro A p m t h _ _ _ _ _ hN
    have := h.le
    omega
  | succ k ih =>
    intro A p m t h hr h57 hD hk h37 hN ht h56
    have tb := tEnd_b (f := f) h.le
    by_cases y : tow f N p 18
    · have e : sNots f N (k + 1) t p = sNots f N k (if t = 0 then 1 else 0) (tEnd f N p) := by
        show (match sOwn f N 18 p with | some e => sNots f N k (if t = 0 then 1 else 0) e | none => (t, p)) = _
        rw [sOwn_pos y]
      have lt := tb.2.2.2 (by have := y.1; omega)
      rw [e]
      obtain ⟨z, B, hq, h2⟩ := RN_op hr h57
      rcases O_base h hD h1 hq with ⟨fs, _, hz, a1, a2, a3, a4, a5, a6, a7⟩ | ⟨_, g, _⟩ | ⟨_, g, _⟩ | ⟨g, _⟩
      · rcases h2 with ⟨c, e2⟩ | ⟨c, hr2⟩
        · exfalso
          rw [e2] at hu
          exact c hu
        · obtain ⟨C, hh, cs⟩ := (J_first h hD h1 fs hq).1 y
          obtain ⟨w1, w2, w3, w4, w5⟩ := q_holds_ew (b := b) h56 hh
          have cs2 : CSm C (stA B 0 57 z) := cs.trans cs57
          have wb := w1.cs cs2
          obtain ⟨_, _, k3, k4, k5, k6, k7⟩ := cs2
          have r35 : stA B 0 57 z 35 = A 35 := a5
          have r36 : stA B 0 57 z 36 = A 36 := a6
          have r37 : stA B 0 57 z 37 = A 37 := a7
          have t01 : (if t = 0 then (1 : Int) else 0) = 1 - t := by
            rcases ht with rfl | rfl
            · rw [if_pos rfl]; rfl
            · rw [if_neg (by decide)]; rfl
          rw [t01]
          obtain ⟨A', j, b1, b2, b3, b4, b5, b6, b7, b8, b9, b10, b11, b12, b13, b14, b15, b16⟩ := ih (stA B 0 57 z) (tEnd f N p) (m + 1) (1 - t) ((a1.nf c).fr rfl (fun k hk => st0_k (by decide) (by decide) hk)) hr2 hz (a2.trans hD) (by rw [r35]; exact hk) (by rw [r37]; exact h37) (by omega) (by omega) (k7.trans w5)
          have e40 : stA B 0 57 z 40 = up (A 40) m 22 := k5.trans w4
          refine ⟨A', j + 1, b1, b2, b3, b4.trans a2, b5.trans a3, b6.trans r35, b7.trans r36, b8.trans r37, b9, ?_, ?_, b12.trans (k3.trans w2), b13.trans (k4.trans w3), by rw [b14]; omega, fun i hi => ?_, fun i hi => ?_⟩
          · rw [b10]
            by_cases c2 : j % 2 = 0
            · rw [if_pos c2, if_neg (by omega)]
            · rw [if_neg c2, if_pos (by omega)]; omega
          · have g46 : stA B 0 57 z 0 46 = A 0 46 := by
              have := wb.1
              have l0 : (([] : List Int).length : Int) = 0 := rfl
              omega
            refine ⟨?_, fun k hk => ?_, fun i hi => absurd hi (Nat.not_lt_zero i)⟩
            · have := b11.1
              have l0 : (([] : List Int).length : Int) = 0 := rfl
              omega
            · have x1 := b11.2.1 k (by rw [g46]; exact hk)
              have x2 := wb.2.1 k hk
              exact ⟨x1.1.trans x2.1, x1.2.trans x2.2⟩
          · rw [b15 i (by omega), e40, up_ne _ _ (by omega)]
          · by_cases c2 : i = 0
            · subst c2
              rw [Nat.add_zero, b15 m (by omega), e40, up_same]
            · have := b16 (i - 1) (by omega)
              rw [show m + 1 + (i - 1) = m + i by omega] at this
              exact this
      · exact absurd g (tow_sg y)
      · exact absurd g (tow_ne y (by decide) (by decide) (by decide))
      · exact absurd y (g ⟨hk, h37⟩).1
    · have e : sNots f N (k + 1) t p = (t, p) := by
        show (match sOwn f N 18 p with | some e => sNots f N k (if t = 0 then 1 else 0) e | none => (t, p)) = _
        rw [sOwn_neg y]
      rw [e]
      exact ⟨A, 0, h, hr, h57, rfl, rfl, rfl, rfl, rfl, y, rfl, EW.rf, rfl, rfl, h56, fun _ _ => rfl, fun i hi => absurd hi (Nat.not_lt_zero i)⟩
theorem Sim_factC {f : Nat → Int} {N b n : Nat} {u : St} {o : Int} {S S2 : PT} (hu : u 0 8 = 0) (hn : (n : Int) + o = 8) (hS : SimSC f N b u o (3 * n + 3) S) (hS2 : 0 < n → SimTC f N b u (o + 1) (3 * n + 3) S2) {A T : St} {p D m : Nat} (h : MS f N b p A) (hr : RN u A) (h57 : A 0 57 = 0) (hD : A 0 53 = (D : Int)) (h1 : 1 ≤ D) (h54 : A 0 54 = o) (hk : A 35 (D - 1) = 1 ∨ A 35 (D - 1) = 5) (h37 : ¬ A 37 (D - 1) = 0) (h36 : A 36 (D - 1) = 0) (hT : T 19 2 ≤ (p : Int)) (hp : 1 ≤ p) (hL : LO 3 m D A) : OutFC f N b u D m 3 (3 * n + 4) A T A T p (p + 1) (fun _ => True) (sFact f N n S S2 T p) := by
  have N16 : N ≤ 1600 := h.1.2.1
  have nl := sNots_le (f := f) 1600 0 p h.le
  obtain ⟨l0, l1, l2⟩ := id hL
  unfold sFact
  obtain ⟨A', j, b1, b2, b3, b4, b5, b6, b7, b8, b9, b10, b11, b12, b13, b14, b15, b16⟩ := Sim_notsC hu h1 1600 A p m 0 h hr h57 hD hk h37 (by omega) (Or.inl rfl) l1
  have n46 := b11.nn l0
  have hL2 : LO 4 (m + j) D A' := by
    refine ⟨n46, b14, ?_⟩
    rw [b13]
    rcases Nat.eq_zero_or_pos j with e | e
    · subst e
      rcases l2 with g | ⟨g1, g2, g3⟩
      · exact Or.inl g
      · exact Or.inr ⟨g1, g2, by rw [Nat.add_zero, b15 (m - 1) (by omega)]; omega⟩
    · refine Or.inr ⟨by omega, ?_, ?_⟩
      · rcases l2 with g | ⟨g1, g2, g3⟩ <;> omega
      · have := b16 (j - 1) (by omega)
        rw [show m + j - 1 = m + (j - 1) by omega, this]
        decide
  obtain ⟨a, A2, sa, ms, hr2, m57, tq, m37, m36, m36t, _, q, cd, R, P, C, x1, x2, x3, x4, x5, x6, x7, x8⟩ := Sim_factBC (T := T) hu hn hS hS2 b1 b2 b3 (b4.trans hD) h1 (b5.trans h54) (by rw [b6]; exact hk) (by rw [b8]; exact h37) (by rw [b7]; exact h36) b9 (by omega) (by omega) hL2
  rw [sa]
  show OutFC f N b u D m 3 (3 * n + 4) A T A T p (p + 1) (fun _ => True) (if (sNots f N 1600 0 p).1 = 0 then some a else sAd2 (some a) (-6))
  have tq' : TQ D A A2 := by
    unfold TQ
    rw [← b4, ← b5, ← b6, ← b7, ← b8]
    exact tq
  have ew : EW b A A2 R := EW.trans l0 b11 x1
  have pend : ∀ (N1 : List Int) (T' : St), N1 = (if j % 2 = 0 then [] else [-6]) → T' = apT a.1 N1 → CX b D m 3 (3 * n + 4) V1 A A2 T T' := by
    intro N1 T' hN hT'
    refine ⟨R, P ++ List.replicate j 22, C ++ N1, ew, ?_, PD_rep j m x3 (fun i hi => ?_), ?_, fun i hi => ?_, fun i hi => ?_, by rw [apT_app, ← x7]; exact hT', ?_⟩
    · rw [x2, List.length_append, List.length_replicate]; omega
    · rw [x5 (m + i) (by omega)]
      exact b16 i hi
    · refine RG.app (x4.mono (by decide)) (fun x hx => ?_)
      rw [List.eq_of_mem_replicate hx]
      decide
    · rw [x5 i (by omega)]
      exact b15 i hi
    · have g := x6 i hi
      rw [g.1, g.2, b13, b12]
      exact ⟨rfl, rfl⟩
    · have g := Sem_nots x8 j hN
      rw [List.map_append, List.map_replicate, ← List.append_assoc]
      exact g
  by_cases g : (sNots f N 1600 0 p).1 = 0
  · rw [if_pos g]
    have j0 : j % 2 = 0 := by
      rw [b10] at g
      by_cases c : j % 2 = 0
      · exact c
      · rw [if_neg c] at g; exact absurd g (by decide)
    exact ⟨a, A2, rfl, ms, hr2, m57, tq', m37, m36, m36t, trivial, by omega, by omega, pend [] a.1 (by rw [if_pos j0]) rfl⟩
  · rw [if_neg g]
    have l2 := nl.2 g
    have j1 : ¬ j % 2 = 0 := by
      intro c
      rw [b10, if_pos c] at g
      exact g rfl
    rw [show sAd2 (some a) (-6) = some (apT a.1 [-6], a.2) from sAd2_ap (T := a.1) (e := a.2) (x := -6) (by have := ms.le; omega)]
    have z19 := apT_sz [-6] a.1
    have z19 : apT a.1 [-6] 19 2 = a.1 19 2 + 1 := z19
    exact ⟨(apT a.1 [-6], a.2), A2, rfl, ms, hr2, m57, tq', m37, m36, m36t, trivial, by show p + 1 ≤ a.2; omega, by show apT a.1 [-6] 19 2 + (p : Int) ≤ T 19 2 + (a.2 : Int); omega, pend [-6] _ (by rw [if_neg j1]) rfl⟩
theorem W_stepC {f : Nat → Int} {N b p D : Nat} {u A : St} (hu : u 0 8 = 0) (h : MS f N b p A) (hr : RN u A) (h57 : A 0 57 = 1) (hD : A 0 53 = (D : Int)) (h1 : 1 ≤ D) (hk : A 35 (D - 1) = 1 ∨ A 35 (D - 1) = 5) (h36 : ¬ A 36 (D - 1) = 0) (hw : tow f N p 17 ∨ tow f N p 16) : ∃ v, MS f N b (tEnd f N p) v ∧ RN u v ∧ v 0 57 = 0 ∧ TQ D A v ∧ ¬ v 37 (D - 1) = 0 ∧ v 36 (D - 1) = 0 ∧ ∃ (l x : Int) (B B1 : St), ((tow f N p 17 ∧ l = 2 ∧ x = 20) ∨ (tow f N p 16 ∧ l = 1 ∧ x = 21)) ∧ q_X12_joins l A B ∧ q_X12_holdsBack x B B1 ∧ CSm B1 v := by
  obtain ⟨z, v, hg, h3⟩ := RN_go hr (by rw [h57]; decide)
  have tk : tKind f N p = 1 := by rcases hw with g | g <;> exact g.1
  rcases G_base h hD h1 hg with ⟨_, g, _⟩ | ⟨_, z2, hz2, g2⟩
  · exfalso
    rcases g with g | g | g | g | g <;> · have := g.1; omega
  · have e2 : z2 = 1 := by
      rcases hz2 with ⟨g, _⟩ | ⟨_, g⟩
      · exact g
      · exact absurd hk g
    rcases G_cmp h hD h1 (Or.inl e2) g2 with ⟨_, g, _⟩ | ⟨_, g2⟩
    · exact absurd g h36
    · rcases G_andor h hD h1 (Or.inl e2) g2 with ⟨_, _, g⟩ | ⟨g, _⟩
      · rcases g with ⟨g, _⟩ | ⟨_, hz, Bc, eBc, c1, c2, c3, c4, c5, c6, c7⟩
        · exact absurd g h36
        · have nz : ¬ z = 0 := by rw [hz]; decide
          rcases h3 with ⟨c, _⟩ | ⟨_, c8, e⟩ | ⟨_, c8, hr4⟩
          · exact absurd c nz
          · exfalso
            rw [e] at hu
            exact c8 hu
          · have v36 : v 36 = up (A 36) (D - 1) 0 := by rw [c6, eBc]; rfl
            have v37 : v 37 = up (A 37) (D - 1) 1 := by rw [c7, eBc]; rfl
            have v35 : v 35 = A 35 := by rw [c5, eBc]; rfl
            refine ⟨v, c1.nf c8, hr4, c4, ⟨by rw [c2, eBc]; rfl, by rw [c3, eBc]; rfl, fun i hi => by rw [v35], fun i hi => ?_⟩, by rw [v37, up_same]; decide, by rw [v36, up_same], J_andor h hD h1 e2 h36 hw g2⟩
            rw [v36, v37, up_ne _ _ (by omega), up_ne _ _ (by omega)]
            exact ⟨rfl, rfl⟩
      · exact absurd ⟨e2, hw⟩ g
theorem Sim_bothLC {f : Nat → Int} {N b n m : Nat} {u : St} {o : Int} {S S2 : PT} (hu : u 0 8 = 0) (hn : (n : Int) + o = 8) (hS : SimSC f N b u o (3 * n + 3) S) (hS2 : 0 < n → SimTC f N b u (o + 1) (3 * n + 3) S2) {D : Nat} (h1 : 1 ≤ D) {A0 T0 : St} (hL : LO 2 m D A0) : ∀ (k : Nat) (A T : St) (p : Nat), MS f N b p A → RN u A → A 0 57 = 1 → A 0 53 = (D : Int) → A 0 54 = o → (A 35 (D - 1) = 1 ∨ A 35 (D - 1) = 5) → A 37 (D - 1) = 0 → ¬ A 36 (D - 1) = 0 → (A 36 (D - 1) < 2 → ¬ tari f N p) → T 19 2 ≤ (p : Int) → 1 ≤ p → N < k + p → CX b D m 2 (3 * n + 5) V1 A0 A T0 T → OutFC f N b u D m 2 (3 * n + 5) A0 T0 A T p p (fun e => ¬ tow f N e 17) (sBothL f N n S S2 k T p) := by
  intro k
  induction k with
  | zero =>
    intro A T p h _ _ _ _ _ _ _ _ _ _ hN _
    have := h.le
    omega
  | succ k ih =>
    intro A T p h hr h57 hD h54 hk h37 h36 h36t hT hp hN hC
    have tb := tEnd_b (f := f) h.le
    have N16 : N ≤ 1600 := h.1.2.1
    by_cases y : tow f N p 17
    · have lt := tb.2.2.2 (by have := y.1; omega)
      unfold sBothL
      rw [sOwn_pos y]
      show OutFC f N b u D m 2 (3 * n + 5) A0 T0 A T p p (fun e => ¬ tow f N e 17) ((sAd2 (sFact f N n S S2 T (tEnd f N p)) (-8)).bind fun a => sBothL f N n S S2 k a.1 a.2)
      obtain ⟨v, sv, rv, v57, tqv, v37, v36, l, x, B, B1, hd, hj, hh, cs⟩ := W_stepC hu h hr h57 hD h1 hk h36 (Or.inl y)
      have e : l = 2 ∧ x = 20 := by
        rcases hd with ⟨_, e1, e2⟩ | ⟨g, _⟩
        · exact ⟨e1, e2⟩
        · exact absurd g (tow_ne y (by decide) (by decide) (by decide))
      rw [e.1] at hj
      rw [e.2] at hh
      have tl := CX_turn (lo2 := 3) (lo' := 2) (k2 := 3 * n + 4) (k' := 3 * n + 5) (VB := V1) (A' := v) (T2 := T) h.bk hD h1 hL (by decide) hC (by decide) hj hh cs
      obtain ⟨a, A', sa, ms, hr2, m57, tq, m37, m36, m36t, _, q, cd, cx⟩ := Sim_factC (T := T) (m := m + 1) hu hn hS hS2 sv rv v57 (tqv.1.trans hD) h1 (tqv.2.1.trans h54) (by rw [tqv.2.2.1 (D - 1) (by omega)]; exact hk) v37 v36 (by omega) (by omega) (tl.1 3 (by decide))
      rw [sa]
      rw [show sAd2 (some a) (-8) = some (apT a.1 [sc 20], a.2) from sAd2_ap (T := a.1) (e := a.2) (x := -8) (by have := ms.le; omega)]
      show OutFC f N b u D m 2 (3 * n + 5) A0 T0 A T p p (fun e => ¬ tow f N e 17) (sBothL f N n S S2 k (apT a.1 [sc 20]) a.2)
      have tq' := tqv.trans tq
      have z19 := apT_sz [sc 20] a.1
      have z19 : apT a.1 [sc 20] 19 2 = a.1 19 2 + 1 := z19
      have cx2 := (CX_turn (lo2 := 3) (lo' := 2) (k2 := 3 * n + 4) (k' := 3 * n + 5) (VB := V1) h.bk hD h1 hL (by decide) hC (by decide) hj hh cs).2 cx ⟨by decide, by decide⟩ ⟨by omega, by omega⟩ (by decide) (fun a c ha hc => jn_v1l (Or.inr (by decide)) ha hc)
      obtain ⟨c2, A2, sc2, ms2, hr3, m572, tq2, n37, n36, n36t, X2, q2, cd2, cx3⟩ := ih A' (apT a.1 [sc 20]) a.2 ms hr2 m57 (tq'.1.trans hD) (tq'.2.1.trans h54) (by rw [tq'.2.2.1 (D - 1) (by omega)]; exact hk) m37 m36 m36t (by omega) (by omega) (by omega) cx2
      exact ⟨c2, A2, sc2, ms2, hr3, m572, tq'.trans tq2, n37, n36, n36t, X2, by omega, by omega, cx3⟩
    · unfold sBothL
      rw [sOwn_neg y]
      exact ⟨(T, p), A, rfl, h, hr, h57, TQ.rf, h37, h36, h36t, y, Nat.le_refl p, Int.le_refl _, hC⟩
theorem Sim_bothC {f : Nat → Int} {N b n m : Nat} {u : St} {o : Int} {S S2 : PT} (hu : u 0 8 = 0) (hn : (n : Int) + o = 8) (hS : SimSC f N b u o (3 * n + 3) S) (hS2 : 0 < n → SimTC f N b u (o + 1) (3 * n + 3) S2) {A T : St} {p D : Nat} (h : MS f N b p A) (hr : RN u A) (h57 : A 0 57 = 0) (hD : A 0 53 = (D : Int)) (h1 : 1 ≤ D) (h54 : A 0 54 = o) (hk : A 35 (D - 1) = 1 ∨ A 35 (D - 1) = 5) (h37 : ¬ A 37 (D - 1) = 0) (h36 : A 36 (D - 1) = 0) (hT : T 19 2 ≤ (p : Int)) (hp : 1 ≤ p) (hL : LO 2 m D A) : OutFC f N b u D m 2 (3 * n + 5) A T A T p (p + 1) (fun e => ¬ tow f N e 17) (sBoth f N n S S2 T p) := by
  have N16 : N ≤ 1600 := h.1.2.1
  unfold sBoth
  obtain ⟨a, A', sa, ms, hr2, m57, tq, m37, m36, m36t, _, q, cd, cx⟩ := Sim_factC hu hn hS hS2 h hr h57 hD h1 h54 hk h37 h36 hT hp (hL.mono (by decide))
  rw [sa]
  show OutFC f N b u D m 2 (3 * n + 5) A T A T p (p + 1) (fun e => ¬ tow f N e 17) (sBothL f N n S S2 1600 a.1 a.2)
  obtain ⟨c2, A2, sc2, ms2, hr3, m572, tq2, n37, n36, n36t, X2, q2, cd2, cx2⟩ := Sim_bothLC hu hn hS hS2 h1 hL 1600 A' a.1 a.2 ms hr2 m57 (tq.1.trans hD) (tq.2.1.trans h54) (by rw [tq.2.2.1 (D - 1) (by omega)]; exact hk) m37 m36 m36t (by omega) (by omega) (by omega) (cx.mono (by decide) (by omega))
  exact ⟨c2, A2, sc2, ms2, hr3, m572, tq.trans tq2, n37, n36, n36t, X2, by omega, by omega, cx2⟩
theorem Sim_testLC {f : Nat → Int} {N b n m : Nat} {u : St} {o : Int} {S S2 : PT} (hu : u 0 8 = 0) (hn : (n : Int) + o = 8) (hS : SimSC f N b u o (3 * n + 3) S) (hS2 : 0 < n → SimTC f N b u (o + 1) (3 * n + 3) S2) {D : Nat} (h1 : 1 ≤ D) {A0 T0 : St} (hL : LO 1 m D A0) : ∀ (k : Nat) (A T : St) (p : Nat), MS f N b p A → RN u A → A 0 57 = 1 → A 0 53 = (D : Int) → A 0 54 = o → (A 35 (D - 1) = 1 ∨ A 35 (D - 1) = 5) → A 37 (D - 1) = 0 → ¬ A 36 (D - 1) = 0 → (A 36 (D - 1) < 2 → ¬ tari f N p) → T 19 2 ≤ (p : Int) → 1 ≤ p → N < k + p → ¬ tow f N p 17 → CX b D m 1 (3 * n + 6) V1 A0 A T0 T → OutFC f N b u D m 1 (3 * n + 6) A0 T0 A T p p (nao f N) (sTestL f N n S S2 k T p) := by
  intro k
  induction k with
  | zero =>
    intro A T p h _ _ _ _ _ _ _ _ _ _ hN _ _
    have := h.le
    omega
  | succ k ih =>
    intro A T p h hr h57 hD h54 hk h37 h36 h36t hT hp hN n17 hC
    have tb := tEnd_b (f := f) h.le
    have N16 : N ≤ 1600 := h.1.2.1
    by_cases y : tow f N p 16
    · have lt := tb.2.2.2 (by have := y.1; omega)
      unfold sTestL
      rw [sOwn_pos y]
      show OutFC f N b u D m 1 (3 * n + 6) A0 T0 A T p p (nao f N) ((sAd2 (sBoth f N n S S2 T (tEnd f N p)) (-7)).bind fun a => sTestL f N n S S2 k a.1 a.2)
      obtain ⟨v, sv, rv, v57, tqv, v37, v36, l, x, B, B1, hd, hj, hh, cs⟩ := W_stepC hu h hr h57 hD h1 hk h36 (Or.inr y)
      have e : l = 1 ∧ x = 21 := by
        rcases hd with ⟨g, _⟩ | ⟨_, e1, e2⟩
        · exact absurd g n17
        · exact ⟨e1, e2⟩
      rw [e.1] at hj
      rw [e.2] at hh
      have tl := CX_turn (lo2 := 2) (lo' := 1) (k2 := 3 * n + 5) (k' := 3 * n + 6) (VB := V1) (A' := v) (T2 := T) h.bk hD h1 hL (by decide) hC (by decide) hj hh cs
      obtain ⟨a, A', sa, ms, hr2, m57, tq, m37, m36, m36t, X1, q, cd, cx⟩ := Sim_bothC (T := T) (m := m + 1) hu hn hS hS2 sv rv v57 (tqv.1.trans hD) h1 (tqv.2.1.trans h54) (by rw [tqv.2.2.1 (D - 1) (by omega)]; exact hk) v37 v36 (by omega) (by omega) (tl.1 2 (by decide))
      rw [sa]
      rw [show sAd2 (some a) (-7) = some (apT a.1 [sc 21], a.2) from sAd2_ap (T := a.1) (e := a.2) (x := -7) (by have := ms.le; omega)]
      show OutFC f N b u D m 1 (3 * n + 6) A0 T0 A T p p (nao f N) (sTestL f N n S S2 k (apT a.1 [sc 21]) a.2)
      have tq' := tqv.trans tq
      have z19 := apT_sz [sc 21] a.1
      have z19 : apT a.1 [sc 21] 19 2 = a.1 19 2 + 1 := z19
      have cx2 := (CX_turn (lo2 := 2) (lo' := 1) (k2 := 3 * n + 5) (k' := 3 * n + 6) (VB := V1) h.bk hD h1 hL (by decide) hC (by decide) hj hh cs).2 cx ⟨by decide, by decide⟩ ⟨by omega, by omega⟩ (by decide) (fun a c ha hc => jn_v1l (Or.inl (by decide)) ha hc)
      obtain ⟨c2, A2, sc2, ms2, hr3, m572, tq2, n37, n36, n36t, X2, q2, cd2, cx3⟩ := ih A' (apT a.1 [sc 21]) a.2 ms hr2 m57 (tq'.1.trans hD) (tq'.2.1.trans h54) (by rw [tq'.2.2.1 (D - 1) (by omega)]; exact hk) m37 m36 m36t (by omega) (by omega) (by omega) X1 cx2
      exact ⟨c2, A2, sc2, ms2, hr3, m572, tq'.trans tq2, n37, n36, n36t, X2, by omega, by omega, cx3⟩
    · unfold sTestL
      rw [sOwn_neg y]
      exact ⟨(T, p), A, rfl, h, hr, h57, TQ.rf, h37, h36, h36t, ⟨n17, y⟩, Nat.le_refl p, Int.le_refl _, hC⟩
theorem Sim_testC {f : Nat → Int} {N b n : Nat} {u : St} {o : Int} {S S2 : PT} (hu : u 0 8 = 0) (hn : (n : Int) + o = 8) (hS : SimSC f N b u o (3 * n + 3) S) (hS2 : 0 < n → SimTC f N b u (o + 1) (3 * n + 3) S2) : SimTC f N b u o (3 * n + 6) (sTest f N n S S2) := by
  intro A T p D m h hr h57 hD h1 h54 hk h37 h36 hT hp hL
  have N16 : N ≤ 1600 := h.1.2.1
  unfold sTest
  obtain ⟨a, A', sa, ms, hr2, m57, tq, m37, m36, m36t, X1, q, cd, cx⟩ := Sim_bothC hu hn hS hS2 h hr h57 hD h1 h54 hk h37 h36 hT hp (hL.mono (by decide))
  rw [sa]
  show OutFC f N b u D m 1 (3 * n + 6) A T A T p (p + 1) (nao f N) (sTestL f N n S S2 1600 a.1 a.2)
  obtain ⟨c2, A2, sc2, ms2, hr3, m572, tq2, n37, n36, n36t, X2, q2, cd2, cx2⟩ := Sim_testLC hu hn hS hS2 h1 hL 1600 A' a.1 a.2 ms hr2 m57 (tq.1.trans hD) (tq.2.1.trans h54) (by rw [tq.2.2.1 (D - 1) (by omega)]; exact hk) m37 m36 m36t (by omega) (by omega) (by omega) X1 (cx.mono (by decide) (by omega))
  exact ⟨c2, A2, sc2, ms2, hr3, m572, tq.trans tq2, n37, n36, n36t, X2, by omega, by omega, cx2⟩
theorem Sim_testNC {f : Nat → Int} {N b : Nat} {u : St} (hu : u 0 8 = 0) : ∀ n : Nat, SimTC f N b u (8 - (n : Int)) (3 * n + 6) (sTestN f N n)
  | 0 => Sim_testC (n := 0) hu (by omega) (Sim_sumNC hu 0) (fun h => absurd h (by omega))
  | n + 1 => Sim_testC (n := n + 1) hu (by omega) (Sim_sumNC hu (n + 1)) (fun _ => by
    have := Sim_testNC (f := f) (N := N) (b := b) (u := u) hu n
    rw [show 8 - ((n + 1 : Nat) : Int) + 1 = 8 - (n : Int) by omega, show 3 * (n + 1) + 3 = 3 * n + 6 by omega]
    exact this)
/-! Bars: both tests are worth the same. -/
theorem M_readsC {f : Nat → Int} {N b p : Nat} {A u T : St} (hu : u 0 8 = 0) (h : MS f N b p A) (h46 : 0 ≤ A 0 46) (hT : T 19 2 ≤ (p : Int)) (hp : 1 ≤ p) (hq : q_X12_reads 1 A u) : ∃ a R C, sTestN f N 8 T p = some a ∧ EW b A u R ∧ a.1 = apT T C ∧ Sem V1 30 C R := by
  rcases (hq.1 : tr_r_X12_reads 1 A u) with ⟨_, A2, e2, h2⟩ | ⟨c, _⟩
  · rcases h2 with ⟨c, _⟩ | ⟨_, h2⟩
    · exact absurd c (by decide)
    · obtain ⟨_, A9, hpu, nn, h2⟩ := (h2 : tr_d_X12_reads_1 A2 u 1)
      obtain ⟨A1, e1, e9⟩ := (hpu.1 : tr_r_X12_pushes 1 A2 A9)
      have d2 : A2 0 53 = 0 := by rw [e2]; rfl
      rw [d2] at e1
      have s9 : MS f N b p A9 := by
        rw [e9, e1, e2]
        refine h.fr rfl (fun k hk => ?_)
        show stA (stA (stA (stA (stA (stA (stA (stA (stA A 0 53 0) 0 54 0) 0 56 0) 0 57 0) 35 _ 1) 36 _ 0) 37 _ 1) 39 _ _) 0 53 _ 0 k = A 0 k
        rw [st0_k (by decide) (by decide) hk]
        show stA (stA (stA (stA A 0 53 0) 0 54 0) 0 56 0) 0 57 0 0 k = A 0 k
        rw [st0_k (by decide) (by decide) hk, st0_k (by decide) (by decide) hk, st0_k (by decide) (by decide) hk, st0_k (by decide) (by decide) hk]
      have f53 : A9 0 53 = ((1 : Nat) : Int) := by rw [e9, e1]; rfl
      have f54 : A9 0 54 = 0 := by rw [e9, e1, e2]; rfl
      have f57 : A9 0 57 = 0 := by rw [e9, e1, e2]; rfl
      have f56 : A9 0 56 = ((0 : Nat) : Int) := by rw [e9, e1, e2]; rfl
      have f46 : A9 0 46 = A 0 46 := by rw [e9, e1, e2]; rfl
      have r35 : A9 35 0 = 1 := by rw [e9, e1]; rfl
      have r36 : A9 36 0 = 0 := by rw [e9, e1]; rfl
      have r37 : A9 37 0 = 1 := by rw [e9, e1]; rfl
      have r39 : A9 39 0 = ((0 : Nat) : Int) := by rw [e9, e1, e2]; rfl
      have r33 : A9 33 = A 33 := by rw [e9, e1, e2]; rfl
      have r34 : A9 34 = A 34 := by rw [e9, e1, e2]; rfl
      obtain ⟨a, A', sa, ms, hr, m57, tq, m37, m36, m36t, na, q, cd, R, P, C, x1, x2, x3, x4, x5, x6, x7, x8⟩ := (Sim_testNC (f := f) (N := N) (b := b) (u := u) hu 8) A9 T p 1 0 s9 ⟨nn, h2⟩ f57 f53 (by decide) (by rw [f54]; rfl) (Or.inl r35) (by show ¬ A9 37 0 = 0; rw [r37]; decide) r36 hT hp ⟨by rw [f46]; exact h46, f56, Or.inl r39⟩
      have k1 : A' 35 0 = 1 := (tq.2.2.1 0 (by decide)).trans r35
      have d1 : A' 0 53 = ((1 : Nat) : Int) := tq.1.trans f53
      obtain ⟨z, v, hg, h3⟩ := RN_go hr (by rw [m57]; decide)
      have m36 : ¬ A' 36 0 = 0 := m36
      have g8 : d_X12_goesOn_8 A' z v 1 A' := by
        rcases G_base (D := 1) ms d1 (by decide) hg with ⟨g1, g2, _⟩ | ⟨_, z2, hz2, g2⟩
        · exact absurd g2 (m36t g1)
        · have hz2 : (z2 = 1 ∧ (A' 35 0 = 1 ∨ A' 35 0 = 5)) ∨ (z2 = 0 ∧ ¬ (A' 35 0 = 1 ∨ A' 35 0 = 5)) := hz2
          have g2 : d_X12_goesOn_2 A' z v (A' 35 0) z2 := g2
          rw [k1] at hz2 g2
          have e2 : z2 = 1 := by
            rcases hz2 with ⟨g, _⟩ | ⟨_, g⟩
            · exact g
            · exact absurd (Or.inl rfl) g
          rcases G_cmp (D := 1) ms d1 (by decide) (Or.inl e2) g2 with ⟨_, g, _⟩ | ⟨_, g2⟩
          · exact absurd g m36
          · rcases G_andor (D := 1) ms d1 (by decide) (Or.inl e2) g2 with ⟨_, g, _⟩ | ⟨_, g2⟩
            · rcases g with g | g
              · exact absurd g na.1
              · exact absurd g na.2
            · rcases G_end (D := 1) ms d1 (by decide) (Or.inl e2) g2 with ⟨_, g, _⟩ | ⟨_, g2⟩
              · exact absurd g m36
              · exact g2
      have gk := G_k1 (by decide) ms.ns g8
      have eu : u = v := by
        rcases h3 with ⟨_, e⟩ | ⟨c, _⟩ | ⟨c, _⟩
        · exact e
        · exact absurd gk.1 c
        · exact absurd gk.1 c
      have hj := J_k1 (by decide) ms.ns g8
      rw [← eu] at hj
      have ew1 : EW b A A' R := EW.rw3 (B := A9) r33 r34 f46 x1
      have j := q_joins_ew (D := 1) (m := 0) d1 (by decide) ms.bk (ew1.nn h46) x2 x3 x4 (Or.inl ((x6 0 (by decide)).1.trans r39)) hj
      exact ⟨a, R ++ P.map sc, C, sa, EW.trans h46 ew1 j.1, x7, x8.mono (by decide)⟩
  · exact absurd (Int.le_of_eq h.ns) c
/-- a bar's test as both keep it -/
def BC (b k : Nat) (A T : St) : Prop := ∃ C R : List Int, 0 ≤ T 17 k ∧ T 18 k = T 17 k + (C.length : Int) ∧ T 18 k ≤ T 19 2 ∧ (∀ i, i < C.length → T 20 ((T 17 k).toNat + i) = C.getD i 0) ∧ 0 ≤ A 31 (6 * b + k) ∧ A 32 (6 * b + k) = A 31 (6 * b + k) + (R.length : Int) ∧ A 32 (6 * b + k) ≤ 1600 ∧ (∀ i, i < R.length → ENC (A 33 (1600 * b + (A 31 (6 * b + k)).toNat + i)) (A 34 (1600 * b + (A 31 (6 * b + k)).toNat + i)) (R.getD i 0)) ∧ Sem V1 30 C R
def MBc (b : Nat) (A T : St) : Prop := ∀ k : Nat, (k : Int) < T 1 7 → BC b k A T
/-- the same while a town is read -/
def MBw (b : Nat) (A T : St) : Prop := 0 ≤ A 0 46 ∧ ∀ k : Nat, (k : Int) < T 1 7 → BC b k A T ∧ A 32 (6 * b + k) ≤ A 0 46
theorem MBw.c {b : Nat} {A T : St} (h : MBw b A T) : MBc b A T := fun k hk => (h.2 k hk).1
theorem BC.cg {b k : Nat} {A A' T T' : St} (h : BC b k A T) (a1 : A' 31 = A 31) (a2 : A' 32 = A 32) (a3 : A' 33 = A 33) (a4 : A' 34 = A 34) (t1 : T' 17 = T 17) (t2 : T' 18 = T 18) (t3 : T' 19 2 = T 19 2) (t4 : T' 20 = T 20) : BC b k A' T' := by
  unfold BC
  rw [a1, a2, a3, a4, t1, t2, t3, t4]
  exact h
/-- nothing of the bars' tests is touched -/
def KA (A A' : St) : Prop := A' 31 = A 31 ∧ A' 32 = A 32 ∧ A' 33 = A 33 ∧ A' 34 = A 34 ∧ A' 0 46 = A 0 46
def KT (T T' : St) : Prop := T' 1 7 = T 1 7 ∧ T' 17 = T 17 ∧ T' 18 = T 18 ∧ T' 19 = T 19 ∧ T' 20 = T 20
theorem KA.rf {A : St} : KA A A := ⟨rfl, rfl, rfl, rfl, rfl⟩
theorem KA.trans {A B C : St} (h : KA A B) (g : KA B C) : KA A C := ⟨g.1.trans h.1, g.2.1.trans h.2.1, g.2.2.1.trans h.2.2.1, g.2.2.2.1.trans h.2.2.2.1, g.2.2.2.2.trans h.2.2.2.2⟩
theorem KA.fr {M' N' : List Nat} {A B : St} (h : fr M' N' A B) (hM : (M'.contains 31 || M'.contains 32 || M'.contains 33 || M'.contains 34) = false) (hN : N'.contains 46 = false) : KA A B := by
  simp only [Bool.or_eq_false_iff] at hM
  obtain ⟨⟨⟨m1, m2⟩, m3⟩, m4⟩ := hM
  exact ⟨h.1 31 (by decide) m1, h.1 32 (by decide) m2, h.1 33 (by decide) m3, h.1 34 (by decide) m4, h.2 46 hN⟩
theorem MBw.cg {b : Nat} {A A' T T' : St} (h : MBw b A T) (g : KA A A') (t : KT T T') : MBw b A' T' := by
  obtain ⟨g1, g2, g3, g4, g5⟩ := g
  obtain ⟨t1, t2, t3, t4, t5⟩ := t
  refine ⟨by rw [g5]; exact h.1, fun k hk => ?_⟩
  rw [t1] at hk
  have x := h.2 k hk
  refine ⟨x.1.cg g1 g2 g3 g4 t2 t3 (by rw [t4]) t5, ?_⟩
  rw [g2, g5]
  exact x.2
/-- one bar more -/
theorem MBw.add {b n : Nat} {A u T : St} {R C : List Int} {d : Int} (h : MBw b A T) (hn : T 1 7 = (n : Int)) (h0 : 0 ≤ T 19 2) (h16 : A 0 46 + (R.length : Int) ≤ 1600) (h46 : u 0 46 = A 0 46 + (R.length : Int)) (u31 : u 31 = up (A 31) (6 * b + n) (A 0 46)) (u32 : u 32 = up (A 32) (6 * b + n) (A 0 46 + (R.length : Int))) (hlo : ∀ k : Nat, (k : Int) < 1600 * (b : Int) + A 0 46 → u 33 k = A 33 k ∧ u 34 k = A 34 k) (hhi : ∀ i, i < R.length → ENC (u 33 (1600 * b + (A 0 46).toNat + i)) (u 34 (1600 * b + (A 0 46).toNat + i)) (R.getD i 0)) (hs : Sem V1 30 C R) : MBw b u (sBarAdd (apT T C) d (T 19 2) (apT T C 19 2)) := by
  have c17 : ∀ W : List Int, ∀ T : St, (∀ j, j ≠ 19 → j ≠ 20 → apT T W j = T j) := by
    intro W
    induction W with
    | nil => intro T j _ _; rfl
    | cons w W ih =>
      intro T j h1 h2
      refine (ih _ j h1 h2).trans ?_
      rw [stA_ne _ _ h1, stA_ne _ _ h2]
  have e1 : apT T C 1 = T 1 := c17 C T 1 (by decide) (by decide)
  have e17 : apT T C 17 = T 17 := c17 C T 17 (by decide) (by decide)
  have e18 : apT T C 18 = T 18 := c17 C T 18 (by decide) (by decide)
  have e7 : (apT T C 1 7).toNat = n := by rw [e1, hn]; exact Int.toNat_natCast n
  have sz := apT_sz C T
  obtain ⟨T', eT⟩ : ∃ T', T' = sBarAdd (apT T C) d (T 19 2) (apT T C 19 2) := ⟨_, rfl⟩
  rw [← eT]
  have t7 : T' 1 7 = (n : Int) + 1 := by
    rw [eT]
    show up (apT T C 1) 7 (apT T C 1 7 + 1) 7 = _
    rw [up_same, e1, hn]
  have t17 : T' 17 = up (T 17) n (T 19 2) := by
    rw [eT]
    show up (apT T C 17) (apT T C 1 7).toNat (T 19 2) = _
    rw [e7, e17]
  have t18 : T' 18 = up (T 18) n (T 19 2 + (C.length : Int)) := by
    rw [eT]
    show up (apT T C 18) (apT T C 1 7).toNat (apT T C 19 2) = _
    rw [e7, e18, sz]
  have t19 : T' 19 2 = T 19 2 + (C.length : Int) := by
    rw [eT]
    exact sz
  have t20 : T' 20 = apT T C 20 := by rw [eT]; rfl
  have a0 := h.1
  refine ⟨by omega, fun k hk => ?_⟩
  rw [t7] at hk
  by_cases e : k = n
  · subst e
    refine ⟨⟨C, R, ?_, ?_, ?_, fun i hi => ?_, ?_, ?_, ?_, fun i hi => ?_, hs⟩, ?_⟩
    · rw [t17, up_same]; exact h0
    · rw [t17, t18, up_same, up_same]
    · rw [t18, up_same, t19]; exact Int.le_refl _
    · rw [t17, up_same, t20]
      exact apT_at C T h0 hi
    · rw [u31, up_same]; exact a0
    · rw [u31, u32, up_same, up_same]
    · rw [u32, up_same]; exact h16
    · rw [u31, up_same]
      exact hhi i hi
    · rw [u32, up_same, h46]; exact Int.le_refl _
  · have hk2 : (k : Int) < T 1 7 := by rw [hn]; omega
    obtain ⟨⟨C2, R2, x1, x2, x3, x4, x5, x6, x7, x8, x9⟩, y⟩ := h.2 k hk2
    have k17 : T' 17 k = T 17 k := by rw [t17, up_ne _ _ e]
    have k18 : T' 18 k = T 18 k := by rw [t18, up_ne _ _ e]
    have k31 : u 31 (6 * b + k) = A 31 (6 * b + k) := by rw [u31, up_ne _ _ (by omega)]
    have k32 : u 32 (6 * b + k) = A 32 (6 * b + k) := by rw [u32, up_ne _ _ (by omega)]
    refine ⟨⟨C2, R2, by rw [k17]; exact x1, by rw [k17, k18]; exact x2, by rw [k18, t19]; omega, fun i hi => ?_, by rw [k31]; exact x5, by rw [k31, k32]; exact x6, by rw [k32]; exact x7, fun i hi => ?_, x9⟩, by rw [k32, h46]; omega⟩
    · rw [k17, t20, apT_lo C T (by omega)]
      exact x4 i hi
    · have g := hlo (1600 * b + (A 31 (6 * b + k)).toNat + i) (by omega)
      rw [k31, g.1, g.2]
      exact x8 i hi
/-! A whole town: the tests of its bars are worth the same. -/
theorem M_barC {f : Nat → Int} {N b p : Nat} {A u T : St} {a : St × Nat} (hu : u 0 8 = 0) (hI : IM A) (h : MS f N b p A) (hR : MR b A T) (hT : T 19 2 ≤ (p : Int)) (hT0 : 0 ≤ T 19 2) (hw : MBw b A T) (hq : q_X12_barring A u) (hs : (if T 1 7 < 6 then sBar f N T (tEnd f N p) else none) = some a) : MBw b u a.1 ∧ 0 ≤ a.1 19 2 := by
  have hb := h.bk
  have eb : (A 0 47).toNat = b := by rw [hb]; exact Int.toNat_natCast b
  have hct : A 29 b = T 1 7 := hR.2.1.2.2
  have r2 : (0 : Int) ≤ A 29 b ∧ A 29 b ≤ 6 := hI 29 b
  obtain ⟨n, hn⟩ : ∃ n : Nat, T 1 7 = (n : Int) := ⟨(T 1 7).toNat, by omega⟩
  obtain ⟨z1, hz1, h2⟩ := (hq.1 : tr_r_X12_barring A u)
  have lt : T 1 7 < 6 := by
    by_cases g : T 1 7 < 6
    · exact g
    · rw [if_neg g] at hs; exact absurd hs (by simp)
  rw [if_pos lt] at hs
  have d1 : ∀ x, d_X12_barring_1 A u x → MBw b u a.1 ∧ 0 ≤ a.1 19 2 := by
    intro x h2
    obtain ⟨_, z8, A9, hc, h2⟩ := (h2 : tr_d_X12_barring_1 A u x)
    have k9 : KA A A9 := KA.fr hc.2.2.1 rfl rfl
    obtain ⟨q9, g⟩ := M_counts h hc
    rcases h2 with ⟨c1, h2⟩ | ⟨c1, e9⟩
    · rcases g with ⟨_, x0, s9⟩ | ⟨g, _⟩
      · obtain ⟨z14, hz14, h2⟩ := h2
        have e14 : z14 = (n : Int) := by rw [hz14, eb, q9 29 (by decide), hct, hn]
        have hNA := hR.1.rq q9
        have ix : (6 * A 0 47 + z14).toNat = 6 * b + n := by rw [hb, e14]; omega
        have n1 := hNA.2.1
        have f5 : ∀ A76 : St, 1 ≤ A76 0 8 → d_X12_barring_5 z14 A u A76 → 1 ≤ u 0 8 := by
          intro A76 g h3
          obtain ⟨_, A80, e, h3⟩ := (h3 : tr_d_X12_barring_5 z14 A u A76)
          rcases h3 with ⟨_, hu⟩ | ⟨c, _⟩
          · rw [hu, e]; exact g
          · omega
        have f4 : ∀ A39 : St, 1 ≤ A39 0 8 → d_X12_barring_4 z14 A u A39 → 1 ≤ u 0 8 := by
          intro A39 g h3
          obtain ⟨_, z41, A42, hk, A46, e46, A47, hwd, A51, e51, h3⟩ := (h3 : tr_d_X12_barring_4 z14 A u A39)
          have e1 := X_ask_1 g hk
          have g46 : 1 ≤ A46 0 8 := by rw [e46, e1]; exact g
          have e2 := X_wd g46 hwd
          rcases h3 with ⟨_, h3⟩ | ⟨c, _⟩
          · refine f5 A51 ?_ h3
            rw [e51, e2]; exact g46
          · rw [e2] at c; omega
        have sp : ∀ p, sBar f N T p = (sAsk f N T 1 p).bind fun a => if T 10 a.1.toNat = 0 then none else (sOwn f N 15 a.2).bind fun e => (sTestN f N 8 T e).bind fun b => some (sBarAdd b.1 a.1 (T 19 2) (b.1 19 2), b.2) := fun _ => rfl
        rw [sp] at hs
        have d4 : d_X12_barring_4 z14 A u A9 → MBw b u a.1 ∧ 0 ≤ a.1 19 2 := by
          intro h3
          obtain ⟨_, z41, A42, hk, A46, e46, A47, hwd, A51, e51, h3⟩ := (h3 : tr_d_X12_barring_4 z14 A u A9)
          rw [ix] at e46 e51
          obtain ⟨m, q42⟩ := M_ask_1 s9 n1 hk
          have k42 : KA A9 A42 := KA.fr hk.2.2.1 rfl rfl
          have k47 : KA A46 A47 := KA.fr hwd.2.2.1 rfl rfl
          have k46 : KA A42 A46 := by rw [e46]; exact ⟨rfl, rfl, rfl, rfl, rfl⟩
          obtain ⟨x31, x32, x33, x34, x46⟩ := ((k9.trans k42).trans k46).trans k47
          have e518 : A51 0 8 = A47 0 8 := by rw [e51]; rfl
          have f47 : 1 ≤ A47 0 8 → 1 ≤ u 0 8 := by
            intro g
            rcases h3 with ⟨_, h3⟩ | ⟨c, _⟩
            · exact f5 A51 (by omega) h3
            · omega
          rcases m with ⟨m8, a', sa, hz41, s42⟩ | ⟨m8, mb⟩
          · rw [sa] at hs
            have hs : (if T 10 a'.1.toNat = 0 then none else (sOwn f N 15 a'.2).bind fun e => (sTestN f N 8 T e).bind fun b => some (sBarAdd b.1 a'.1 (T 19 2) (b.1 19 2), b.2)) = some a := hs
            have s46 : MS f N b a'.2 A46 := by rw [e46]; exact s42.fr rfl (fun k _ => rfl)
            by_cases t10 : T 10 a'.1.toNat = 0
            · rw [if_pos t10] at hs; exact absurd hs (by simp)
            · rw [if_neg t10] at hs
              obtain ⟨m1, q47⟩ := M_wd (k := 15) (by decide) rfl s46 hwd
              rcases m1 with ⟨m18, e, se, s47⟩ | ⟨m18, mb1⟩
              · rw [se] at hs
                have hs : ((sTestN f N 8 T e).bind fun b => some (sBarAdd b.1 a'.1 (T 19 2) (b.1 19 2), b.2)) = some a := hs
                have s51 : MS f N b e A51 := by rw [e51]; exact s47.fr rfl (fun k _ => rfl)
                have pa : tEnd f N p ≤ a'.2 := by rw [pos_ask sa]; exact tEnd_ge
                have pe : a'.2 + 1 ≤ e := pos_own (s46.le) se
                have pp : p ≤ tEnd f N p := tEnd_ge
                rcases h3 with ⟨c, _⟩ | ⟨_, A71, hre, h3⟩
                · exact absurd m18 c
                · obtain ⟨hI71, A80, e80, h3⟩ := (h3 : tr_d_X12_barring_5 z14 A u A71)
                  rw [ix] at e80
                  rcases h3 with ⟨c, hu'⟩ | ⟨c71, z97, hz97, A98, e98, hu'⟩
                  · exfalso
                    rw [hu', e80] at hu
                    exact c hu
                  · have z46 : A51 0 46 = A 0 46 := by rw [e51]; exact x46
                    obtain ⟨c, R, C, sc, ew, ec, sem⟩ := M_readsC (T := T) c71 s51 (by rw [z46]; exact hw.1) (by omega) (by omega) hre
                    rw [sc] at hs
                    have hs := Option.some.inj hs
                    rw [← hs]
                    show MBw b u (sBarAdd c.1 a'.1 (T 19 2) (c.1 19 2)) ∧ 0 ≤ sBarAdd c.1 a'.1 (T 19 2) (c.1 19 2) 19 2
                    rw [ec]
                    obtain ⟨w1, w2, w3⟩ := ew
                    rw [z46] at w1 w2 w3
                    have r33 : u 33 = A71 33 := by rw [hu', e98, e80]; rfl
                    have r34 : u 34 = A71 34 := by rw [hu', e98, e80]; rfl
                    have r46 : u 0 46 = A71 0 46 := by rw [hu', e98, e80]; rfl
                    have r31 : u 31 = A71 31 := by rw [hu', e98, e80]; rfl
                    have r32 : u 32 = up (A71 32) (6 * b + n) (A71 0 46) := by rw [hu', e98, e80]; rfl
                    have y31 : A71 31 = A51 31 := hre.2.2.1.1 31 (by decide) rfl
                    have y32 : A71 32 = A51 32 := hre.2.2.1.1 32 (by decide) rfl
                    have l71 : A71 0 46 ≤ 1600 := (hI71 0 46).2
                    have z33 : A51 33 = A 33 := by rw [e51]; exact x33
                    have z34 : A51 34 = A 34 := by rw [e51]; exact x34
                    rw [z33, z34] at w2
                    refine ⟨MBw.add hw hn hT0 (by omega) (r46.trans w1) ?_ ?_ (fun k hk => ?_) (fun i hi => ?_) sem, ?_⟩
                    · rw [r31, y31, e51]
                      show up (A47 31) (6 * b + n) (A 0 46) = _
                      rw [x31]
                    · rw [r32, y32, w1, e51]
                      show up (A47 32) (6 * b + n) _ = _
                      rw [x32]
                    · rw [r33, r34]
                      exact w2 k hk
                    · rw [r33, r34]
                      exact w3 i hi
                    · show 0 ≤ apT T C 19 2
                      rw [apT_sz]
                      omega
              · exact absurd (f47 m18) (by omega)
          · have g46 : 1 ≤ A46 0 8 := by rw [e46]; exact m8
            have e2 := X_wd g46 hwd
            exact absurd (f47 (by rw [e2]; exact g46)) (by omega)
        have d3 : d_X12_barring_3 z14 A A9 u (-1) → MBw b u a.1 ∧ 0 ≤ a.1 19 2 := by
          intro h3
          obtain ⟨_, h3⟩ := (h3 : tr_d_X12_barring_3 z14 A A9 u (-1))
          rcases h3 with ⟨_, h3⟩ | ⟨c, _⟩
          · exact d4 h3
          · exact absurd rfl c
        rcases pre_1 (P0 := d_X12_barring_2 z14 A A9 u) (P := fun v => d_X12_barring_3 z14 A A9 u v) s9 n1 h2 with ⟨_, h3⟩ | ⟨v, v1, _, _, _, _, _, h3⟩
        · rcases h3 with h3 | h3
          · exact d3 h3
          · exact d3 h3
        · obtain ⟨_, h3⟩ := (h3 : tr_d_X12_barring_3 z14 A A9 u v)
          rcases h3 with ⟨c, _⟩ | ⟨_, z33, _, h3⟩
          · exact absurd c v1
          · rcases h3 with ⟨_, h3⟩ | ⟨_, A35, hbl, h3⟩
            · exact d4 h3
            · exact absurd (f4 A35 hbl.2.2.2 h3) (by omega)
      · exact absurd g c1
    · rcases g with ⟨g, _⟩ | ⟨_, g8, _⟩
      · omega
      · rw [e9] at hu; omega
  rcases h2 with ⟨_, h2⟩ | ⟨_, h2⟩
  · exact d1 0 h2
  · exact d1 1 h2
def KB (T : St) (r : Option (St × Nat)) : Prop := ∀ a, r = some a → KT T a.1
theorem KB.no {T : St} : KB T none := fun a h => absurd h (by simp)
theorem KB.so {T t : St} {e : Nat} (h : KT T t) : KB T (some (t, e)) := fun a g => by rw [← Option.some.inj g]; exact h
theorem KB.bn {T : St} {α : Type} {r : Option α} {k : α → Option (St × Nat)} (hk : ∀ a, KB T (k a)) : KB T (r.bind k) := by
  cases r with
  | none => exact KB.no
  | some a => exact hk a
theorem KB.if {T : St} {r r' : Option (St × Nat)} {c : Prop} [Decidable c] (h : KB T r) (g : KB T r') : KB T (if c then r else r') := by
  split
  · exact h
  · exact g
theorem KB_stmt {f : Nat → Int} {N p : Nat} {T : St} (h : ¬ tow f N p 8) : KB T (sStmt f N T p) := by
  unfold sStmt
  by_cases tk : tKind f N p ≠ 1
  · rw [if_pos tk]; exact KB.no
  · rw [if_neg tk]
    refine KB.if (KB.if ?_ KB.no) (KB.if (KB.if ?_ KB.no) (KB.if (KB.if ?_ KB.no) (KB.if (KB.if ?_ KB.no) (KB.if (KB.if ?_ KB.no) (KB.if (KB.if ?_ KB.no) (KB.if (KB.if ?_ KB.no) (KB.if (KB.if ?_ KB.no) ?_)))))))
    · exact KB.bn (fun a => KB.so ⟨rfl, rfl, rfl, rfl, rfl⟩)
    · refine KB.bn (fun a => KB.bn (fun b => KB.bn (fun c => ?_)))
      exact KB.if KB.no (KB.bn (fun d => KB.so ⟨rfl, rfl, rfl, rfl, rfl⟩))
    · exact KB.bn (fun a => KB.bn (fun b => KB.bn (fun c => KB.so ⟨rfl, rfl, rfl, rfl, rfl⟩)))
    · exact KB.bn (fun a => KB.bn (fun b => KB.bn (fun c => KB.so ⟨rfl, rfl, rfl, rfl, rfl⟩)))
    · exact KB.bn (fun a => KB.bn (fun b => KB.bn (fun c => KB.so ⟨rfl, rfl, rfl, rfl, rfl⟩)))
    · exact KB.bn (fun a => KB.bn (fun b => KB.bn (fun c => KB.so ⟨rfl, rfl, rfl, rfl, rfl⟩)))
    · refine KB.bn (fun a => KB.if (KB.bn (fun b => KB.if (KB.so ⟨rfl, rfl, rfl, rfl, rfl⟩) KB.no)) KB.no)
    · exact KB.bn (fun a => KB.bn (fun b => KB.bn (fun c => KB.so ⟨rfl, rfl, rfl, rfl, rfl⟩)))
    · by_cases e8 : wv f N p = own5 8
      · exact absurd ⟨by omega, e8⟩ h
      · rw [if_neg e8]
        refine KB.if ?_ (KB.if ?_ (KB.if ?_ KB.no))
        · exact KB.bn (fun a => KB.bn (fun b => KB.if (KB.so ⟨rfl, rfl, rfl, rfl, rfl⟩) KB.no))
        · refine KB.bn (fun a => KB.bn (fun b => KB.bn (fun c => ?_)))
          intro t ht
          unfold sPush at ht
          by_cases g : fnd (T (27 + c.1.toNat)) a.1 (T 25 c.1.toNat).toNat 0 = -1 ∧ T 25 c.1.toNat < 6
          · rw [if_pos g] at ht
            have ht := Option.some.inj ht
            rw [← ht]
            refine ⟨?_, ?_, ?_, ?_, ?_⟩
            · show stA (stA T (27 + c.1.toNat) (T 25 c.1.toNat).toNat a.1) 25 c.1.toNat (T 25 c.1.toNat + 1) 1 7 = T 1 7
              rw [stA_ne _ _ (by omega), stA_ne _ _ (by omega)]
            · show stA (stA T (27 + c.1.toNat) (T 25 c.1.toNat).toNat a.1) 25 c.1.toNat (T 25 c.1.toNat + 1) 17 = T 17
              rw [stA_ne _ _ (by omega), stA_ne _ _ (by omega)]
            · show stA (stA T (27 + c.1.toNat) (T 25 c.1.toNat).toNat a.1) 25 c.1.toNat (T 25 c.1.toNat + 1) 18 = T 18
              rw [stA_ne _ _ (by omega), stA_ne _ _ (by omega)]
            · show stA (stA T (27 + c.1.toNat) (T 25 c.1.toNat).toNat a.1) 25 c.1.toNat (T 25 c.1.toNat + 1) 19 = T 19
              rw [stA_ne _ _ (by omega), stA_ne _ _ (by omega)]
            · show stA (stA T (27 + c.1.toNat) (T 25 c.1.toNat).toNat a.1) 25 c.1.toNat (T 25 c.1.toNat + 1) 20 = T 20
              rw [stA_ne _ _ (by omega), stA_ne _ _ (by omega)]
          · rw [if_neg g] at ht
            exact absurd ht (by simp)
        · exact KB.bn (fun a => KB.if (KB.so ⟨rfl, rfl, rfl, rfl, rfl⟩) KB.no)
theorem M_statementC {f : Nat → Int} {N b p : Nat} {A u T : St} {a : St × Nat} (hu : u 0 8 = 0) (hI : IM A) (h : MS f N b p A) (hR : MR b A T) (hT : T 19 2 ≤ (p : Int)) (hT0 : 0 ≤ T 19 2) (hw : MBw b A T) (hq : q_X12_statement A u) (hs : sSt f N T p = some a) : MBw b u a.1 ∧ 0 ≤ a.1 19 2 := by
  obtain ⟨a', s1, s2⟩ : ∃ a', sStmt f N T p = some a' ∧ a.1 = a'.1 := by
    unfold sSt at hs
    cases hc : sStmt f N T p with
    | none => rw [hc] at hs; exact absurd hs (by simp)
    | some a' =>
      rw [hc] at hs
      have hs : ((sSign f N 59 a'.2).bind fun e => some (a'.1, e)) = some a := hs
      cases hd : sSign f N 59 a'.2 with
      | none => rw [hd] at hs; exact absurd hs (by simp)
      | some e =>
        rw [hd] at hs
        have hs := Option.some.inj hs
        exact ⟨a', rfl, by rw [← hs]⟩
  rw [s2]
  have st1 : ∀ C : St, d_X12_statement_1 u C → C 0 8 = 0 ∧ KA C u := by
    intro C h3
    obtain ⟨_, h3⟩ := (h3 : tr_d_X12_statement_1 u C)
    rcases h3 with ⟨c, e⟩ | ⟨c, A62, hm, e⟩
    · rw [e] at hu; exact absurd hu c
    · rw [e]; exact ⟨c, KA.fr hm.2.2.1 rfl rfl⟩
  have non : ∀ C : St, ¬ tow f N p 8 → KA A C → d_X12_statement_1 u C → MBw b u a'.1 ∧ 0 ≤ a'.1 19 2 := by
    intro C n8 k h3
    have kt := KB_stmt (T := T) n8 a' s1
    refine ⟨hw.cg (k.trans (st1 C h3).2) kt, ?_⟩
    rw [kt.2.2.2.1]
    exact hT0
  have oth : ∀ B : St, q_X12_others A B → d_X12_statement_1 u B → MBw b u a'.1 ∧ 0 ≤ a'.1 19 2 := by
    intro B hq h3
    obtain ⟨z0, i0, h2⟩ := (hq.1 : tr_r_X12_others A B)
    have i0 := h.isW (WR_own10 : WR 1936225652 677139) i0
    have nn : ∀ k, k < 26 → k ≠ 8 → tow f N p k → ¬ tow f N p 8 := fun k hk ne g => tow_ne g hk (by decide) ne
    rcases h2 with ⟨_, z1, i1, h2⟩ | ⟨c0, C, hs, e⟩
    · have i1 := h.isW (WR_own11 : WR 1819243380 675308) i1
      rcases h2 with ⟨_, z2, i2, h2⟩ | ⟨c1, C, hs, e⟩
      · have i2 := h.isW (WR_own5 : WR 499967946343 7808276) i2
        rcases h2 with ⟨_, z3, i3, h2⟩ | ⟨c2, C, hs, e⟩
        · have i3 := h.isW (WR_own6 : WR 512735736947 20592695) i3
          rcases h2 with ⟨_, z4, i4, h2⟩ | ⟨c3, C, hs, e⟩
          · have i4 := h.isW (WR_own7 : WR 1836413812 675501) i4
            rcases h2 with ⟨_, z5, i5, h2⟩ | ⟨c4, C, hs, e⟩
            · have i5 := h.isW (WR_own8 : WR 6447474 18466) i5
              rcases h2 with ⟨_, C, hs, e⟩ | ⟨c5, C, hs, e⟩
              · have := (st1 B h3).1
                rw [e] at this
                have f1 := hs.2.2.2
                omega
              · rcases i5 with ⟨_, g⟩ | ⟨g, _⟩
                · rw [sStmt_8 g.1 g.2] at s1
                  have b8 := st1 B h3
                  rw [e] at b8
                  have g2 := M_barC b8.1 hI h hR hT hT0 hw hs s1
                  exact ⟨g2.1.cg b8.2 ⟨rfl, rfl, rfl, rfl, rfl⟩, g2.2⟩
                · exact absurd g c5
            · rcases i4 with ⟨_, g⟩ | ⟨g, _⟩
              · rw [e] at h3
                exact non C (nn 7 (by decide) (by decide) g) (KA.fr hs.2.2.1 rfl rfl) h3
              · exact absurd g c4
          · rcases i3 with ⟨_, g⟩ | ⟨g, _⟩
            · rw [e] at h3
              exact non C (nn 6 (by decide) (by decide) g) (KA.fr hs.2.2.1 rfl rfl) h3
            · exact absurd g c3
        · rcases i2 with ⟨_, g⟩ | ⟨g, _⟩
          · rw [e] at h3
            exact non C (nn 5 (by decide) (by decide) g) (KA.fr hs.2.2.1 rfl rfl) h3
          · exact absurd g c2
      · rcases i1 with ⟨_, g⟩ | ⟨g, _⟩
        · rw [e] at h3
          exact non C (nn 11 (by decide) (by decide) g) (KA.fr hs.2.2.1 rfl rfl) h3
        · exact absurd g c1
    · rcases i0 with ⟨_, g⟩ | ⟨g, _⟩
      · rw [e] at h3
        exact non C (nn 10 (by decide) (by decide) g) (KA.fr hs.2.2.1 rfl rfl) h3
      · exact absurd g c0
  have nn : ∀ k, k < 26 → k ≠ 8 → tow f N p k → ¬ tow f N p 8 := fun k hk ne g => tow_ne g hk (by decide) ne
  obtain ⟨z0, i0, h2⟩ := (hq.1 : tr_r_X12_statement A u)
  have i0 := h.isW (WR_own0 : WR 482854658917 5342608) i0
  rcases h2 with ⟨_, z1, i1, h2⟩ | ⟨c0, C, hs, h3⟩
  · have i1 := h.isW (WR_own1 : WR 1685024626 605668) i1
    rcases h2 with ⟨_, z2, i2, h2⟩ | ⟨c1, C, hs, h3⟩
    · have i2 := h.isW (WR_own2 : WR 6451064 25058) i2
      rcases h2 with ⟨_, z3, i3, h2⟩ | ⟨c2, C, hs, h3⟩
      · have i3 := h.isW (WR_own3 : WR 7038329 25771) i3
        rcases h2 with ⟨_, z4, i4, h2⟩ | ⟨c3, C, hs, h3⟩
        · have i4 := h.isW (WR_own4 : WR 123581014175598 486131888) i4
          rcases h2 with ⟨_, z5, i5, h2⟩ | ⟨c4, C, hs, h3⟩
          · have i5 := h.isW (WR_own9 : WR 6840691 19496) i5
            rcases h2 with ⟨_, C, hs, h3⟩ | ⟨c5, C, hs, h3⟩
            · exact oth C hs h3
            · rcases i5 with ⟨_, g⟩ | ⟨g, _⟩
              · exact non C (nn 9 (by decide) (by decide) g) (KA.fr hs.2.2.1 rfl rfl) h3
              · exact absurd g c5
          · rcases i4 with ⟨_, g⟩ | ⟨g, _⟩
            · exact non C (nn 4 (by decide) (by decide) g) (KA.fr hs.2.2.1 rfl rfl) h3
            · exact absurd g c4
        · rcases i3 with ⟨_, g⟩ | ⟨g, _⟩
          · exact non C (nn 3 (by decide) (by decide) g) (KA.fr hs.2.2.1 rfl rfl) h3
          · exact absurd g c3
      · rcases i2 with ⟨_, g⟩ | ⟨g, _⟩
        · exact non C (nn 2 (by decide) (by decide) g) (KA.fr hs.2.2.1 rfl rfl) h3
        · exact absurd g c2
    · rcases i1 with ⟨_, g⟩ | ⟨g, _⟩
      · exact non C (nn 1 (by decide) (by decide) g) (KA.fr hs.2.2.1 rfl rfl) h3
      · exact absurd g c1
  · rcases i0 with ⟨_, g⟩ | ⟨g, _⟩
    · exact non C (nn 0 (by decide) (by decide) g) (KA.fr hs.2.2.1 rfl rfl) h3
    · exact absurd g c0
theorem M_townLC {f : Nat → Int} {N b : Nat} {A0 u : St} {z : Int} (hz0 : 0 ≤ z) : ∀ (nn i : Nat) (A T : St) (p : Nat), MS f N b p A → MR b A T → T 19 2 ≤ (p : Int) → i ≤ p → 0 ≤ T 19 2 → MBw b A T → d_X12_town_1 A0 z u nn (i : Int) A → ∃ a, sTownL f N (1601 - i) i T p = some a ∧ MBc b u a.2 := by
  intro nn
  induction nn with
  | zero => intro i A T p _ _ _ _ _ _ hq; exact hq.elim
  | succ nn ih =>
    intro i A T p h hR hT hip hT0 hw hq
    have N16 : N ≤ 1600 := h.1.2.1
    have hpN := h.le
    obtain ⟨k, hk⟩ : ∃ k, 1601 - i = k + 1 := ⟨1600 - i, by omega⟩
    obtain ⟨hI, _, hq⟩ := (hq : tr_d_X12_town_1 A0 z u (fun z5 A7 => d_X12_town_1 A0 z u nn z5 A7) i A)
    rw [hk]
    rcases hq with ⟨c, _⟩ | ⟨_, hq⟩
    · exact absurd h.ns c
    · rcases hq with ⟨c0, hq⟩ | ⟨c0, A19, hst, z24, hz24, hq⟩
      · have tk : tKind f N p = 0 := by rw [← h.sg]; exact c0
        have e : sTownL f N (k + 1) i T p = some (i, T) := by
          show (if tKind f N p = 0 then some (i, T) else _) = _
          rw [if_pos tk]
        rw [e]
        rcases (hq : tr_d_X12_town_2 (i : Int) A0 A z u) with ⟨_, A27, e27, _, hu⟩ | ⟨c, _⟩
        · refine ⟨(i, T), rfl, fun j hj => (hw.c j hj).cg ?_ ?_ ?_ ?_ rfl rfl rfl rfl⟩
          · rw [hu, e27]; rfl
          · rw [hu, e27]; rfl
          · rw [hu, e27]; rfl
          · rw [hu, e27]; rfl
        · exact absurd (Int.le_of_eq h.ns) c
      · have tk : ¬ tKind f N p = 0 := by rw [← h.sg]; exact c0
        rw [sTownL_st tk]
        have e24 : z24 = ((i + 1 : Nat) : Int) := by
          rw [hz24]
          exact oWrap_id ⟨by omega, by omega⟩
        rcases M_statement hI h hR hT hst with ⟨f0, a, sa, mr, ms, cd, pa⟩ | ⟨f1, bd⟩
        · rw [sa]
          show ∃ c, sTownL f N k (i + 1) a.1 a.2 = some c ∧ MBc b u c.2
          rw [show k = 1601 - (i + 1) by omega]
          rw [e24] at hq
          have sc := M_statementC f0 hI h hR hT hT0 hw hst sa
          exact ih (i + 1) A19 a.1 a.2 ms mr cd (by omega) sc.2 sc.1 hq
        · have := town1_f f1 hq
          omega
theorem M_townC {f : Nat → Int} {N b : Nat} {A u T : St} {z : Int} (hz0 : 0 ≤ z) (hN : A 0 1 = (N : Int)) (h16 : N ≤ 1600) (hf : ∀ k, k < N → f k = A 1 k) (hb : -(A 0 12) + 1 = (b : Int)) (hb1 : b ≤ 1) (hq : q_X12_town A z u) : ∃ a, sTown f N T = some a ∧ MBc b u a.2 := by
  obtain ⟨A1, e1, A2, ha, nn, hq⟩ := (hq.1 : tr_r_X12_town A z u)
  rw [hb, Int.toNat_natCast] at e1
  have hG : MG f N b 0 A1 := by
    rw [e1]
    exact ⟨⟨hN, h16, hf⟩, rfl, hb1, rfl, by omega, rfl⟩
  obtain ⟨mo, q⟩ := hG.ahead ha
  unfold sTown
  rcases mo with ⟨t4, f1⟩ | ⟨_, ms⟩
  · have := town1_f f1 hq
    omega
  · have mr : MR b A2 (sClear T) := by
      refine MR.rq (MR_0 ?_) q
      rw [e1]
      exact ⟨up_same _ _ _, up_same _ _ _, up_same _ _ _, up_same _ _ _, up_same _ _ _, up_same _ _ _, up_same _ _ _, up_same _ _ _⟩
    have a46 : A2 0 46 = 0 := by
      rw [ha.2.2.1.2 46 rfl, e1]
      rfl
    exact M_townLC hz0 nn 0 A2 (sClear T) 0 ms mr (by decide : (0 : Int) ≤ 0) (Nat.le_refl 0) (by decide : (0 : Int) ≤ 0) ⟨by rw [a46]; decide, fun k hk => absurd (show (k : Int) < 0 from hk) (by omega)⟩ hq
/-! Both machines run a test's codes as they are worth. -/
theorem fd_prop {a b : Int} (hb : ¬ b = 0) : a.fdiv b = if (0 ≤ a ↔ 0 ≤ b) ∨ a.tdiv b * b = a then a.tdiv b else a.tdiv b - 1 := by
  have td : a.tdiv b * b = a ↔ b ∣ a := ⟨fun h => ⟨a.tdiv b, by rw [Int.mul_comm]; exact h.symm⟩, fun h => Int.tdiv_mul_cancel h⟩
  by_cases d : b ∣ a
  · rw [if_pos (Or.inr (td.mpr d)), Int.fdiv_eq_ediv_of_dvd d, Int.tdiv_eq_ediv_of_dvd d]
  · have nt : ¬ a.tdiv b * b = a := fun g => d (td.mp g)
    have ef := Int.fdiv_eq_ediv (a := a) (b := b)
    have et := Int.tdiv_eq_ediv (a := a) (b := b)
    by_cases ha : 0 ≤ a
    · rw [if_pos (Or.inl ha)] at et
      by_cases h0 : 0 ≤ b
      · rw [if_pos (Or.inl h0)] at ef
        rw [if_pos (Or.inl ⟨fun _ => h0, fun _ => ha⟩)]
        omega
      · rw [if_neg (fun g => g.elim h0 d)] at ef
        rw [if_neg (fun g => g.elim (fun g => h0 (g.mp ha)) nt)]
        omega
    · rw [if_neg (fun g => g.elim ha d)] at et
      by_cases h0 : 0 ≤ b
      · rw [if_pos (Or.inl h0)] at ef
        rw [Int.sign_eq_one_of_pos (by omega)] at et
        rw [if_neg (fun g => g.elim (fun g => ha (g.mpr h0)) nt)]
        omega
      · rw [if_neg (fun g => g.elim h0 d)] at ef
        rw [Int.sign_eq_neg_one_of_neg (by omega)] at et
        rw [if_pos (Or.inl ⟨fun g => absurd g ha, fun g => absurd g h0⟩)]
        omega
theorem oXor_sign {a b : Int} (ha : R32 a) (hb : R32 b) : 0 ≤ oXor a b ↔ (0 ≤ a ↔ 0 ≤ b) := by
  have m : ∀ x : BitVec 32, 0 ≤ x.toInt ↔ x.msb = false := by
    intro x
    rw [BitVec.msb_eq_toInt, decide_eq_false_iff_not]
    omega
  have ma := m (iI a).toBitVec
  have mb := m (iI b).toBitVec
  have ea : (iI a).toBitVec.toInt = a := iI_toInt ha
  have eb : (iI b).toBitVec.toInt = b := iI_toInt hb
  rw [ea] at ma
  rw [eb] at mb
  have e : oXor a b = ((iI a).toBitVec ^^^ (iI b).toBitVec).toInt := rfl
  rw [e, m, BitVec.msb_xor, ma, mb]
  cases (iI a).toBitVec.msb <;> cases (iI b).toBitVec.msb <;> decide
theorem tdiv_vn {a b : Int} (ha : VN a) : VN (a.tdiv b) := by
  have g := Int.natAbs_tdiv_le_natAbs a b
  obtain ⟨a1, a2⟩ := ha
  unfold VN
  omega
theorem oDiv_v {a b : Int} (ha : VN a) (hb : VN b) (h0 : ¬ b = 0) : oDiv a b = a.tdiv b := by
  obtain ⟨a1, a2⟩ := ha
  obtain ⟨b1, b2⟩ := hb
  have ne : iI a ≠ Int32.minValue := by
    intro e
    have e2 := congrArg Int32.toInt e
    rw [iI_toInt ⟨by omega, by omega⟩] at e2
    have m1 : (Int32.minValue).toInt = -2147483648 := by decide +kernel
    omega
  unfold oDiv
  rw [Int32.toInt_div_of_ne_left _ _ ne, iI_toInt ⟨by omega, by omega⟩, iI_toInt ⟨by omega, by omega⟩]
/-- a product of the quotient stays small -/
theorem tdm_vn {a b : Int} (ha : VN a) : VN (a.tdiv b * b) := by
  have e := Int.tmod_add_tdiv_mul a b
  have g : (a.tdiv b * b).natAbs ≤ a.natAbs := by
    rw [Int.natAbs_mul, Int.natAbs_tdiv]
    exact Nat.div_mul_le_self _ _
  obtain ⟨a1, a2⟩ := ha
  unfold VN
  omega
theorem K_fdiv {a b z : Int} {A : St} (ha : VN a) (hb : VN b) (h0 : ¬ b = 0) (h : q_J9_floorDiv_7cf53 a b A z) : z = a.fdiv b := by
  have ra : R32 a := ⟨by have := ha.1; omega, by have := ha.2; omega⟩
  have rb : R32 b := ⟨by have := hb.1; omega, by have := hb.2; omega⟩
  have tv := tdiv_vn (b := b) ha
  have tm := tdm_vn (b := b) ha
  have t1 := tv.1
  have t2 := tv.2
  have m1 := tm.1
  have m2 := tm.2
  obtain ⟨z1, e1, z2, e2, h⟩ := (h.1 : tr_r_J9_floorDiv_7cf53 a b A z)
  rw [oDiv_v ha hb h0] at e1
  have xs := oXor_sign ra rb
  rw [← e2] at xs
  rw [fd_prop h0]
  rcases h with ⟨c, hz⟩ | ⟨c, z4, e4, h⟩
  · rw [if_pos (Or.inl (xs.mp c)), hz, e1]
  · rw [e1, oMul_id ⟨by omega, by omega⟩] at e4
    rcases h with ⟨c2, hz⟩ | ⟨c2, z6, e6, hz⟩
    · rw [if_pos (Or.inr (by rw [← e4]; exact c2)), hz, e1]
    · rw [if_neg (fun g => g.elim (fun g => c (xs.mpr g)) (fun g => c2 (by rw [e4]; exact g))), hz, e6, e1]
      exact oWrap_id ⟨by omega, by omega⟩
theorem K_fmod {a b z : Int} {A : St} (ha : VN a) (hb : VN b) (h0 : ¬ b = 0) (h : q_J9_floorMod_7cf53 a b A z) : z = a.fmod b := by
  have ra : R32 a := ⟨by have := ha.1; omega, by have := ha.2; omega⟩
  have rb : R32 b := ⟨by have := hb.1; omega, by have := hb.2; omega⟩
  have tv := tdiv_vn (b := b) ha
  have tm := tdm_vn (b := b) ha
  have t1 := tv.1
  have t2 := tv.2
  have m1 := tm.1
  have m2 := tm.2
  have a1 := ha.1
  have a2 := ha.2
  have b1 := hb.1
  have b2 := hb.2
  obtain ⟨z1, e1, z2, e2, h⟩ := (h.1 : tr_r_J9_floorMod_7cf53 a b A z)
  have er : oRem a b = a - a.tdiv b * b := by
    have d : iI a / iI b = iI (a.tdiv b) := by
      rw [← oDiv_v ha hb h0]
      exact (iI_of _).symm
    unfold oRem
    rw [d, iI_mul, iI_sub, iI_toInt ⟨by omega, by omega⟩]
  rw [er] at e1
  have xs := oXor_sign ra rb
  rw [← e2] at xs
  have fd := fd_prop (a := a) h0
  have fm := Int.fmod_def a b
  have mc := Int.mul_comm b (a.fdiv b)
  rcases h with ⟨c, hz⟩ | ⟨c, h⟩
  · rw [if_pos (Or.inl (xs.mp c))] at fd
    rw [fd] at fm mc
    omega
  · rcases h with ⟨c2, hz⟩ | ⟨c2, z5, e5, hz⟩
    · rw [if_pos (Or.inr (by omega))] at fd
      rw [fd] at fm mc
      omega
    · rw [if_neg (fun g => g.elim (fun g => c (xs.mpr g)) (fun g => by omega))] at fd
      rw [fd, Int.sub_mul, Int.one_mul] at mc
      rw [fd] at fm
      rw [oWrap_id ⟨by omega, by omega⟩] at e5
      omega
theorem K_bounded {x z : Int} {A : St} (h : q_X8_bounded x A z) : z = bdI x := by
  obtain ⟨z1, ⟨_, c1, c2⟩, h⟩ := (h.1 : tr_r_X8_bounded x A z)
  unfold bdI
  rcases h with ⟨c, z3, ⟨_, d1, d2⟩, h⟩ | ⟨c, hz⟩
  · rw [if_neg (by omega)]
    rcases h with ⟨c3, z5, e5, hz⟩ | ⟨c3, hz⟩
    · rw [if_neg (by omega), hz, e5]
      have rx : R32 x := ⟨by omega, by omega⟩
      unfold oL2i
      have e : (jI x).toInt32 = iI x := by
        show (Int64.ofInt x).toInt32 = Int32.ofInt x
        exact Int64.toInt32_ofInt
      rw [e, iI_toInt rx]
    · rw [if_pos (by omega)]; exact hz
  · rw [if_pos (by omega)]; exact hz
theorem M_bounded {x z : Int} {A : St} (h : q_X12_bounded x A z) : z = bdI x := by
  obtain ⟨z1, ⟨_, c1, c2⟩, h⟩ := (h.1 : tr_r_X12_bounded x A z)
  unfold bdI
  rcases h with ⟨c, z3, ⟨_, d1, d2⟩, h⟩ | ⟨c, hz⟩
  · rw [if_neg (by omega)]
    rcases h with ⟨c3, hz⟩ | ⟨c3, hz⟩
    · rw [if_neg (by omega)]; exact hz
    · rw [if_pos (by omega)]; exact hz
  · rw [if_pos (by omega)]; exact hz
theorem oI2l_id {x : Int} (h : R32 x) : oI2l x = x := by
  unfold oI2l
  rw [Int32.toInt_toInt64, iI_toInt h]
theorem pAdd_id {a b : Int} (h : R64 (a + b)) : pAdd a b = a + b := by
  unfold pAdd
  have e : jI a + jI b = jI (a + b) := (Int64.ofInt_add a b).symm
  rw [e, jI_toInt h]
theorem pSub_id {a b : Int} (h : R64 (a - b)) : pSub a b = a - b := by
  unfold pSub
  have e : jI a - jI b = jI (a - b) := (Int64.ofInt_sub a b).symm
  rw [e, jI_toInt h]
theorem pMul_id {a b : Int} (h : R64 (a * b)) : pMul a b = a * b := by
  unfold pMul
  have e : jI a * jI b = jI (a * b) := (Int64.ofInt_mul a b).symm
  rw [e, jI_toInt h]
theorem mul_vn {a b : Int} (ha : VN a) (hb : VN b) : -1000000000000 ≤ a * b ∧ a * b ≤ 1000000000000 := by
  have na : a.natAbs ≤ 1000000 := by have := ha.1; have := ha.2; omega
  have nb : b.natAbs ≤ 1000000 := by have := hb.1; have := hb.2; omega
  have g : (a * b).natAbs ≤ 1000000 * 1000000 := by
    rw [Int.natAbs_mul]
    exact Nat.mul_le_mul na nb
  omega
theorem pDiv_v {a b : Int} (ha : VN a) (hb : VN b) (h0 : ¬ b = 0) : pDiv a b = a.tdiv b := by
  obtain ⟨a1, a2⟩ := ha
  obtain ⟨b1, b2⟩ := hb
  have ne : jI a ≠ Int64.minValue := by
    intro e
    have e2 := congrArg Int64.toInt e
    rw [jI_toInt ⟨by omega, by omega⟩] at e2
    have m1 : (Int64.minValue).toInt = -9223372036854775808 := by decide +kernel
    omega
  unfold pDiv
  rw [Int64.toInt_div_of_ne_left _ _ ne, jI_toInt ⟨by omega, by omega⟩, jI_toInt ⟨by omega, by omega⟩]
theorem pRem_v {a b : Int} (ha : VN a) (hb : VN b) (h0 : ¬ b = 0) : pRem a b = a - a.tdiv b * b := by
  have tm := tdm_vn (b := b) ha
  have m1 := tm.1
  have m2 := tm.2
  have a1 := ha.1
  have a2 := ha.2
  have d : jI a / jI b = jI (a.tdiv b) := by
    rw [← pDiv_v ha hb h0]
    exact (jI_of _).symm
  have e1 : jI (a.tdiv b) * jI b = jI (a.tdiv b * b) := (Int64.ofInt_mul _ _).symm
  have e2 : jI a - jI (a.tdiv b * b) = jI (a - a.tdiv b * b) := (Int64.ofInt_sub _ _).symm
  unfold pRem
  rw [d, e1, e2, jI_toInt ⟨by omega, by omega⟩]
theorem M_over {a b z : Int} {A : St} (ha : VN a) (hb : VN b) (h0 : ¬ b = 0) (h : q_X12_over a b A z) : z = a.fdiv b := by
  have tv := tdiv_vn (b := b) ha
  have t1 := tv.1
  have t2 := tv.2
  obtain ⟨z1, ⟨_, c1, _⟩, h⟩ := (h.1 : tr_r_X12_over a b A z)
  have fd := fd_prop (a := a) h0
  rcases h with ⟨_, z3, e3, z4, e4, z5, ⟨_, c5, _⟩, h⟩ | ⟨c, _⟩
  · rw [pDiv_v ha hb h0] at e3
    rw [pRem_v ha hb h0] at e4
    rcases h with ⟨c6, hz⟩ | ⟨c6, z7, ⟨_, _, c7⟩, h⟩
    · rw [if_pos (Or.inr (by omega))] at fd
      omega
    · have fin : ∀ (x y : Int), (x = 1 ↔ a < 0) → (x = 0 ∨ x = 1) → (y = 1 ↔ b < 0) → (y = 0 ∨ y = 1) → d_X12_over_2 z3 x z y → z = a.fdiv b := by
        intro x y hx hx2 hy hy2 h
        obtain ⟨_, h⟩ := (h : tr_d_X12_over_2 z3 x z y)
        rcases h with ⟨c8, hz⟩ | ⟨c8, z22, e22, hz⟩
        · rw [if_pos (Or.inl ⟨fun _ => by omega, fun _ => by omega⟩)] at fd
          omega
        · rw [if_neg (fun g => g.elim (fun g => by
            by_cases a0 : 0 ≤ a
            · have := g.mp a0; omega
            · by_cases b0 : 0 ≤ b
              · exact a0 (g.mpr b0)
              · omega) (fun g => by omega))] at fd
          rw [pSub_id ⟨by omega, by omega⟩] at e22
          omega
      have d1 : ∀ x : Int, (x = 1 ↔ a < 0) → (x = 0 ∨ x = 1) → d_X12_over_1 b z3 z x → z = a.fdiv b := by
        intro x hx hx2 h
        obtain ⟨_, z14, ⟨_, _, c14⟩, h⟩ := (h : tr_d_X12_over_1 b z3 z x)
        rcases h with ⟨c9, h⟩ | ⟨c9, h⟩
        · exact fin x 0 hx hx2 ⟨fun g => absurd g (by decide), fun g => by omega⟩ (Or.inl rfl) h
        · exact fin x 1 hx hx2 ⟨fun _ => by omega, fun _ => rfl⟩ (Or.inr rfl) h
      rcases h with ⟨c8, h⟩ | ⟨c8, h⟩
      · exact d1 0 ⟨fun g => absurd g (by decide), fun g => by omega⟩ (Or.inl rfl) h
      · exact d1 1 ⟨fun _ => by omega, fun _ => rfl⟩ (Or.inr rfl) h
  · omega
theorem jn_7 {a b : Int} : jn (-7) a b = (if 0 < a + b then 1 else 0) := by
  unfold jn
  rw [if_pos rfl]
theorem jn_8 {a b : Int} : jn (-8) a b = (a * b) := by
  unfold jn
  rw [if_neg (by decide), if_pos rfl]
theorem jn_9 {a b : Int} : jn (-9) a b = (if a < b then 1 else 0) := by
  unfold jn
  rw [if_neg (by decide), if_neg (by decide), if_pos rfl]
theorem jn_10 {a b : Int} : jn (-10) a b = (if b < a then 1 else 0) := by
  unfold jn
  rw [if_neg (by decide), if_neg (by decide), if_neg (by decide), if_pos rfl]
theorem jn_11 {a b : Int} : jn (-11) a b = (if a = b then 1 else 0) := by
  unfold jn
  rw [if_neg (by decide), if_neg (by decide), if_neg (by decide), if_neg (by decide), if_pos rfl]
theorem jn_12 {a b : Int} : jn (-12) a b = (bdI (a + b)) := by
  unfold jn
  rw [if_neg (by decide), if_neg (by decide), if_neg (by decide), if_neg (by decide), if_neg (by decide), if_pos rfl]
theorem jn_13 {a b : Int} : jn (-13) a b = (bdI (a - b)) := by
  unfold jn
  rw [if_neg (by decide), if_neg (by decide), if_neg (by decide), if_neg (by decide), if_neg (by decide), if_neg (by decide), if_pos rfl]
theorem jn_14 {a b : Int} : jn (-14) a b = (bdI (a * b)) := by
  unfold jn
  rw [if_neg (by decide), if_neg (by decide), if_neg (by decide), if_neg (by decide), if_neg (by decide), if_neg (by decide), if_neg (by decide), if_pos rfl]
theorem jn_15 {a b : Int} : jn (-15) a b = (if b = 0 then 0 else a.fdiv b) := by
  unfold jn
  rw [if_neg (by decide), if_neg (by decide), if_neg (by decide), if_neg (by decide), if_neg (by decide), if_neg (by decide), if_neg (by decide), if_neg (by decide), if_pos rfl]
theorem jn_16 {a b : Int} : jn (-16) a b = (if b = 0 then 0 else a.fmod b) := by
  unfold jn
  rw [if_neg (by decide), if_neg (by decide), if_neg (by decide), if_neg (by decide), if_neg (by decide), if_neg (by decide), if_neg (by decide), if_neg (by decide), if_neg (by decide), if_pos rfl]
theorem jn_17 {a b : Int} : jn (-17) a b = (if a < b then a else b) := by
  unfold jn
  rw [if_neg (by decide), if_neg (by decide), if_neg (by decide), if_neg (by decide), if_neg (by decide), if_neg (by decide), if_neg (by decide), if_neg (by decide), if_neg (by decide), if_neg (by decide), if_pos rfl]
theorem jn_18 {a b : Int} : jn (-18) a b = (if b < a then a else b) := by
  unfold jn
  rw [if_neg (by decide), if_neg (by decide), if_neg (by decide), if_neg (by decide), if_neg (by decide), if_neg (by decide), if_neg (by decide), if_neg (by decide), if_neg (by decide), if_neg (by decide), if_neg (by decide)]
theorem orB : ∀ a b : Fin 2, oOr (a.val : Int) (b.val : Int) = jn (-7) (a.val : Int) (b.val : Int) := by decide +kernel
theorem andB : ∀ a b : Fin 2, oAnd (a.val : Int) (b.val : Int) = jn (-8) (a.val : Int) (b.val : Int) := by decide +kernel
theorem b01 {a : Int} (h : a = 0 ∨ a = 1) : ∃ x : Fin 2, (x.val : Int) = a := by
  rcases h with rfl | rfl
  · exact ⟨0, rfl⟩
  · exact ⟨1, rfl⟩
theorem K_joined {w a b z : Int} {A : St} (hw : w < -6) (ok : okV w a b) (hj : q_X8_joined w a b A z) : z = jn w a b := by
  obtain ⟨ha, hb, hl⟩ := ok
  have mv := mul_vn (a := a) (b := b) ha hb
  have ra : R32 a := ⟨by omega, by omega⟩
  have rb : R32 b := ⟨by omega, by omega⟩
  rcases (hj.1 : tr_r_X8_joined w a b A z) with ⟨c, z2, e2, hz⟩ | ⟨c, z3, e3, hz⟩ | ⟨c, h⟩ | ⟨c, h⟩ | ⟨c, z12, e12, z13, e13, z14, e14, z15, h15, hz⟩ | ⟨c, z18, e18, z19, e19, z20, e20, z21, h21, hz⟩ | ⟨c, z24, e24, z25, e25, z26, e26, z27, h27, hz⟩ | ⟨c, h⟩ | ⟨c, h⟩ | ⟨c, h⟩ | ⟨c, z33, e33, hz⟩ | ⟨c, z34, e34, hz⟩
  · have ej : jn w a b = if b < a then a else b := by
      unfold jn
      rw [if_neg (by omega), if_neg (by omega), if_neg (by omega), if_neg (by omega), if_neg (by omega), if_neg (by omega), if_neg (by omega), if_neg (by omega), if_neg (by omega), if_neg (by omega), if_neg (by omega)]
    rw [ej]
    by_cases g : b < a
    · rw [if_pos g]; omega
    · rw [if_neg g]; omega
  · subst c
    rw [jn_17]
    by_cases g : a < b
    · rw [if_pos g]; omega
    · rw [if_neg g]; omega
  · subst c
    rw [jn_16]
    rcases h with ⟨n0, z5, h5, hz⟩ | ⟨y0, hz⟩
    · rw [if_neg n0, hz]; exact K_fmod ha hb n0 h5
    · rw [if_pos y0]; exact hz
  · subst c
    rw [jn_15]
    rcases h with ⟨n0, z5, h5, hz⟩ | ⟨y0, hz⟩
    · rw [if_neg n0, hz]; exact K_fdiv ha hb n0 h5
    · rw [if_pos y0]; exact hz
  · subst c
    rw [oI2l_id ra] at e12
    rw [oI2l_id rb] at e13
    rw [e12, e13, pMul_id ⟨by omega, by omega⟩] at e14
    rw [hz, K_bounded h15, e14, jn_14]
  · subst c
    rw [oI2l_id ra] at e18
    rw [oI2l_id rb] at e19
    rw [e18, e19, pSub_id ⟨by omega, by omega⟩] at e20
    rw [hz, K_bounded h21, e20, jn_13]
  · subst c
    rw [oI2l_id ra] at e24
    rw [oI2l_id rb] at e25
    rw [e24, e25, pAdd_id ⟨by omega, by omega⟩] at e26
    rw [hz, K_bounded h27, e26, jn_12]
  · subst c
    rw [jn_11]
    rcases h with ⟨n0, hz⟩ | ⟨y0, hz⟩
    · rw [if_neg n0]; exact hz
    · rw [if_pos y0]; exact hz
  · subst c
    rw [jn_10]
    rcases h with ⟨n0, hz⟩ | ⟨y0, hz⟩
    · rw [if_neg (by omega)]; exact hz
    · rw [if_pos (by omega)]; exact hz
  · subst c
    rw [jn_9]
    rcases h with ⟨n0, hz⟩ | ⟨y0, hz⟩
    · rw [if_neg (by omega)]; exact hz
    · rw [if_pos (by omega)]; exact hz
  · subst c
    have l := hl (Or.inr rfl)
    obtain ⟨x, hx⟩ := b01 l.1
    obtain ⟨y, hy⟩ := b01 l.2
    rw [hz, e33, ← hx, ← hy]
    exact andB x y
  · subst c
    have l := hl (Or.inl rfl)
    obtain ⟨x, hx⟩ := b01 l.1
    obtain ⟨y, hy⟩ := b01 l.2
    rw [hz, e34, ← hx, ← hy]
    exact orB x y
