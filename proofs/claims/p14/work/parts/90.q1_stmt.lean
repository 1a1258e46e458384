/-! The reference's statement, and its town. -/
theorem adv_Place {f : Nat → Int} {N p : Nat} {T : St} {a : St × Nat} (h : sPlace f N T p = some a) : a.1 19 = T 19 ∧ p ≤ a.2 := by
  have g1 := tEnd_ge (f := f) (N := N) (p := p)
  obtain ⟨c, hc, e⟩ := Option.bind_eq_some_iff.mp h
  rw [← Option.some.inj e]
  exact ⟨rfl, by show p ≤ c.2; rw [pos_new hc]; exact g1⟩
theorem adv_Key {f : Nat → Int} {N p : Nat} {T : St} {a : St × Nat} (h : sKey f N T p = some a) : a.1 19 = T 19 ∧ p ≤ a.2 := by
  have g1 := tEnd_ge (f := f) (N := N) (p := p)
  obtain ⟨c, hc, e⟩ := Option.bind_eq_some_iff.mp h
  obtain ⟨d, hd, e⟩ := Option.bind_eq_some_iff.mp e
  obtain ⟨k, hk, e⟩ := Option.bind_eq_some_iff.mp e
  rw [← Option.some.inj e]
  refine ⟨rfl, ?_⟩
  show p ≤ k.2
  have h1 := pos_new hc
  have h2 := pos_own0 hd
  have h3 := pos_spot hk
  have g2 := tEnd_ge (f := f) (N := N) (p := c.2)
  have g3 := tEnd_ge (f := f) (N := N) (p := d)
  omega
theorem adv_Thing {f : Nat → Int} {N p : Nat} {T : St} {a : St × Nat} (h : sThing f N T p = some a) : a.1 19 = T 19 ∧ p ≤ a.2 := by
  have g1 := tEnd_ge (f := f) (N := N) (p := p)
  obtain ⟨c, hc, e⟩ := Option.bind_eq_some_iff.mp h
  obtain ⟨d, hd, e⟩ := Option.bind_eq_some_iff.mp e
  obtain ⟨k, hk, e⟩ := Option.bind_eq_some_iff.mp e
  rw [← Option.some.inj e]
  refine ⟨rfl, ?_⟩
  show p ≤ k.2
  have h1 := pos_new hc
  have h2 := pos_own0 hd
  have h3 := pos_spot hk
  have g2 := tEnd_ge (f := f) (N := N) (p := c.2)
  have g3 := tEnd_ge (f := f) (N := N) (p := d)
  omega
theorem adv_Box {f : Nat → Int} {N p : Nat} {T : St} {a : St × Nat} (h : sBox f N T p = some a) : a.1 19 = T 19 ∧ p ≤ a.2 := by
  have g1 := tEnd_ge (f := f) (N := N) (p := p)
  obtain ⟨c, hc, e⟩ := Option.bind_eq_some_iff.mp h
  obtain ⟨d, hd, e⟩ := Option.bind_eq_some_iff.mp e
  obtain ⟨k, hk, e⟩ := Option.bind_eq_some_iff.mp e
  rw [← Option.some.inj e]
  refine ⟨rfl, ?_⟩
  show p ≤ k.2
  have h1 := pos_new hc
  have h2 := pos_own0 hd
  have h3 := pos_ask hk
  have g2 := tEnd_ge (f := f) (N := N) (p := c.2)
  have g3 := tEnd_ge (f := f) (N := N) (p := d)
  omega
theorem adv_Person {f : Nat → Int} {N p : Nat} {T : St} {a : St × Nat} (h : sPerson f N T p = some a) : a.1 19 = T 19 ∧ p ≤ a.2 := by
  have g1 := tEnd_ge (f := f) (N := N) (p := p)
  obtain ⟨c, hc, e⟩ := Option.bind_eq_some_iff.mp h
  obtain ⟨d, hd, e⟩ := Option.bind_eq_some_iff.mp e
  obtain ⟨k, hk, e⟩ := Option.bind_eq_some_iff.mp e
  rw [← Option.some.inj e]
  refine ⟨rfl, ?_⟩
  show p ≤ k.2
  have h1 := pos_new hc
  have h2 := pos_own0 hd
  have h3 := pos_ask hk
  have g2 := tEnd_ge (f := f) (N := N) (p := c.2)
  have g3 := tEnd_ge (f := f) (N := N) (p := d)
  omega
theorem adv_Must {f : Nat → Int} {N p : Nat} {T : St} {a : St × Nat} (h : sMust f N T p = some a) : a.1 19 = T 19 ∧ p ≤ a.2 := by
  have g1 := tEnd_ge (f := f) (N := N) (p := p)
  obtain ⟨c, hc, e⟩ := Option.bind_eq_some_iff.mp h
  obtain ⟨d, hd, e⟩ := Option.bind_eq_some_iff.mp e
  obtain ⟨k, hk, e⟩ := Option.bind_eq_some_iff.mp e
  rw [← Option.some.inj e]
  refine ⟨rfl, ?_⟩
  show p ≤ k.2
  have h1 := pos_ask hc
  have h2 := pos_num hd
  have h3 := pos_num hk
  have g2 := tEnd_ge (f := f) (N := N) (p := c.2)
  have g3 := tEnd_ge (f := f) (N := N) (p := d.2)
  omega
theorem adv_Door {f : Nat → Int} {N p : Nat} {T : St} {a : St × Nat} (h : sDoor f N T p = some a) : a.1 19 = T 19 ∧ p ≤ a.2 := by
  have g1 := tEnd_ge (f := f) (N := N) (p := p)
  obtain ⟨c, hc, e⟩ := Option.bind_eq_some_iff.mp h
  obtain ⟨d, hd, e⟩ := Option.bind_eq_some_iff.mp e
  obtain ⟨k, hk, e⟩ := Option.bind_eq_some_iff.mp e
  by_cases g : k.1 = d.1
  · rw [if_pos g] at e; exact absurd e (by simp)
  · rw [if_neg g] at e
    obtain ⟨m, hm, e⟩ := Option.bind_eq_some_iff.mp e
    rw [← Option.some.inj e]
    refine ⟨rfl, ?_⟩
    show p ≤ m.2
    have h1 := pos_new hc
    have h2 := pos_ask hd
    have h3 := pos_ask hk
    have h4 := pos_num hm
    have g2 := tEnd_ge (f := f) (N := N) (p := c.2)
    have g3 := tEnd_ge (f := f) (N := N) (p := d.2)
    have g4 := tEnd_ge (f := f) (N := N) (p := k.2)
    omega
theorem adv_Has {f : Nat → Int} {N p : Nat} {T : St} {a : St × Nat} (h : sHas f N T p = some a) : a.1 19 = T 19 ∧ p ≤ a.2 := by
  have g1 := tEnd_ge (f := f) (N := N) (p := p)
  obtain ⟨c, hc, e⟩ := Option.bind_eq_some_iff.mp h
  obtain ⟨d, hd, e⟩ := Option.bind_eq_some_iff.mp e
  by_cases g : 10 ≤ T 24 d.1.toNat
  · rw [if_pos g] at e
    rw [← Option.some.inj e]
    refine ⟨rfl, ?_⟩
    show p ≤ d.2
    have h1 := pos_ask hc
    have h2 := pos_ask hd
    have g2 := tEnd_ge (f := f) (N := N) (p := c.2)
    omega
  · rw [if_neg g] at e; exact absurd e (by simp)
theorem adv_Lost {f : Nat → Int} {N p : Nat} {T : St} {a : St × Nat} (h : sLost f N T p = some a) : a.1 19 = T 19 ∧ p ≤ a.2 := by
  have g1 := tEnd_ge (f := f) (N := N) (p := p)
  obtain ⟨c, hc, e⟩ := Option.bind_eq_some_iff.mp h
  by_cases g : oAnd (oShr (T 0 15) c.1) 1 = 0
  · rw [if_pos g] at e
    rw [← Option.some.inj e]
    exact ⟨rfl, by show p ≤ c.2; rw [pos_ask hc]; exact g1⟩
  · rw [if_neg g] at e; exact absurd e (by simp)
theorem adv_Shut {f : Nat → Int} {N p : Nat} {T : St} {a : St × Nat} (h : sShut f N T p = some a) : a.1 19 = T 19 ∧ p ≤ a.2 := by
  have g1 := tEnd_ge (f := f) (N := N) (p := p)
  obtain ⟨c, hc, e⟩ := Option.bind_eq_some_iff.mp h
  obtain ⟨d, hd, e⟩ := Option.bind_eq_some_iff.mp e
  obtain ⟨k, hk, e⟩ := Option.bind_eq_some_iff.mp e
  obtain ⟨t, ht, e⟩ := Option.bind_eq_some_iff.mp e
  rw [← Option.some.inj e]
  refine ⟨?_, ?_⟩
  · show t 19 = T 19
    unfold sPush at ht
    split at ht
    · rw [← Option.some.inj ht, stA_ne _ _ (by decide), stA_ne _ _ (by omega)]
    · exact absurd ht (by simp)
  · show p ≤ k.2
    have h1 := pos_ask hc
    have h2 := pos_own0 hd
    have h3 := pos_ask hk
    have g2 := tEnd_ge (f := f) (N := N) (p := c.2)
    have g3 := tEnd_ge (f := f) (N := N) (p := d)
    omega
theorem adv_Wants {f : Nat → Int} {N p : Nat} {T : St} {a : St × Nat} (h : sWants f N T p = some a) : a.1 19 = T 19 ∧ p ≤ a.2 := by
  have g1 := tEnd_ge (f := f) (N := N) (p := p)
  obtain ⟨c, hc, e⟩ := Option.bind_eq_some_iff.mp h
  by_cases g : bc (T 12 c.1.toNat) < 2
  · rw [if_pos g] at e
    obtain ⟨d, hd, e⟩ := Option.bind_eq_some_iff.mp e
    by_cases g2 : oAnd (oShr (T 12 c.1.toNat) d.1) 1 = 0
    · rw [if_pos g2] at e
      rw [← Option.some.inj e]
      refine ⟨rfl, ?_⟩
      show p ≤ d.2
      have h1 := pos_ask hc
      have h2 := pos_ask hd
      have g2 := tEnd_ge (f := f) (N := N) (p := c.2)
      omega
    · rw [if_neg g2] at e; exact absurd e (by simp)
  · rw [if_neg g] at e; exact absurd e (by simp)
theorem MT.tb {f : Nat → Int} {N b p : Nat} {T u : St} {r : Option (St × Nat)} (h : MT f N b r u) (ha : ∀ a, r = some a → a.1 19 = T 19 ∧ p ≤ a.2) (hT : T 19 2 ≤ (p : Int)) : MTb f N b p r u := by
  rcases h with ⟨h8, a, hr, hm, hs⟩ | h
  · have g := ha a hr
    exact Or.inl ⟨h8, a, hr, hm, hs, by rw [g.1]; omega, g.2⟩
  · exact Or.inr h
theorem adv_if {p q : Nat} {T : St} {r : Option (St × Nat)} {c : Prop} [Decidable c] (h : ∀ a, r = some a → a.1 19 = T 19 ∧ q ≤ a.2) (hq : p ≤ q) : ∀ a, (if c then r else none) = some a → a.1 19 = T 19 ∧ p ≤ a.2 := by
  intro a ha
  by_cases g : c
  · rw [if_pos g] at ha
    have := h a ha
    exact ⟨this.1, by omega⟩
  · rw [if_neg g] at ha; exact absurd ha (by simp)
/-- a statement with its end -/
def sSt (f : Nat → Int) (N : Nat) (T : St) (p : Nat) : Option (St × Nat) := (sStmt f N T p).bind fun a => (sSign f N 59 a.2).bind fun e => some (a.1, e)
theorem M_stmt1 {f : Nat → Int} {N b p : Nat} {A u T : St} {r : Option (St × Nat)} (h : MTb f N b p r A) (hq : d_X12_statement_1 u A) : MTb f N b (p + 1) (r.bind fun a => (sSign f N 59 a.2).bind fun e => some (a.1, e)) u := by
  obtain ⟨_, hq⟩ := (hq : tr_d_X12_statement_1 u A)
  rcases h with ⟨h8, a, hr, hm, hs, hc, hpa⟩ | ⟨h8, bd⟩
  · rw [hr]
    show MTb f N b (p + 1) ((sSign f N 59 a.2).bind fun e => some (a.1, e)) u
    rcases hq with ⟨c, _⟩ | ⟨_, A62, hmu, hu⟩
    · exact absurd h8 c
    · rw [hu]
      obtain ⟨m, q⟩ := M_sign hs hmu
      rcases m with ⟨m8, e, se, ms⟩ | ⟨m8, mb⟩
      · have pe := pos_sign hs.le se
        rw [se]
        exact Or.inl ⟨m8, (a.1, e), rfl, hm.rq q, ms, by show a.1 19 2 ≤ (e : Int); omega, by show p + 1 ≤ e; omega⟩
      · exact Or.inr ⟨m8, mb.bd (fun c hc => Or.inr ⟨(a.1, c), rfl, hc⟩)⟩
  · refine Or.inr ⟨?_, bd.bd (fun a ha => by rw [bad_sign ha]; exact Or.inl rfl)⟩
    rcases hq with ⟨_, hu⟩ | ⟨c, _⟩
    · rw [hu]; exact h8
    · omega
theorem M_statement {f : Nat → Int} {N b p : Nat} {A u T : St} (hI : IM A) (h : MS f N b p A) (hR : MR b A T) (hT : T 19 2 ≤ (p : Int)) (hq : q_X12_statement A u) : MTb f N b (p + 1) (sSt f N T p) u := by
  have gp : p ≤ tEnd f N p := tEnd_ge
  unfold sSt
  have oth : ∀ B : St, (∀ k, k < 12 → (k < 5 ∨ k = 9) → ¬ tow f N p k) → q_X12_others A B → MTb f N b p (sStmt f N T p) B := by
    intro B hno hq
    obtain ⟨z0, i0, h2⟩ := (hq.1 : tr_r_X12_others A B)
    have i0 := h.isW (WR_own10 : WR 1936225652 677139) i0
    rcases h2 with ⟨c0, z1, i1, h2⟩ | ⟨c0, C, hs, hu⟩
    rotate_left
    · rcases i0 with ⟨_, g⟩ | ⟨g, _⟩
      · rw [hu, sStmt_10 g.1 g.2]
        exact (M_shut hI h hR hs).tb (fun a ha => ⟨(adv_Shut ha).1, Nat.le_trans gp (adv_Shut ha).2⟩) hT
      · exact absurd g c0
    have n0 : ¬ tow f N p 10 := by
      rcases i0 with ⟨g, _⟩ | ⟨_, g⟩
      · exact absurd (g.symm.trans c0) (by decide)
      · exact g
    have i1 := h.isW (WR_own11 : WR 1819243380 675308) i1
    rcases h2 with ⟨c1, z2, i2, h2⟩ | ⟨c1, C, hs, hu⟩
    rotate_left
    · rcases i1 with ⟨_, g⟩ | ⟨g, _⟩
      · rw [hu, sStmt_11 g.1 g.2]
        exact (M_lost hI h hR hs).tb (fun a ha => ⟨(adv_Lost ha).1, Nat.le_trans gp (adv_Lost ha).2⟩) hT
      · exact absurd g c1
    have n1 : ¬ tow f N p 11 := by
      rcases i1 with ⟨g, _⟩ | ⟨_, g⟩
      · exact absurd (g.symm.trans c1) (by decide)
      · exact g
    have i2 := h.isW (WR_own5 : WR 499967946343 7808276) i2
    rcases h2 with ⟨c2, z3, i3, h2⟩ | ⟨c2, C, hs, hu⟩
    rotate_left
    · rcases i2 with ⟨_, g⟩ | ⟨g, _⟩
      · rw [hu, sStmt_5 g.1 g.2]
        exact (M_thing hI h hR hs).tb (adv_if (fun a ha => adv_Thing ha) gp) hT
      · exact absurd g c2
    have n2 : ¬ tow f N p 5 := by
      rcases i2 with ⟨g, _⟩ | ⟨_, g⟩
      · exact absurd (g.symm.trans c2) (by decide)
      · exact g
    have i3 := h.isW (WR_own6 : WR 512735736947 20592695) i3
    rcases h2 with ⟨c3, z4, i4, h2⟩ | ⟨c3, C, hs, hu⟩
    rotate_left
    · rcases i3 with ⟨_, g⟩ | ⟨g, _⟩
      · rw [hu, sStmt_6 g.1 g.2]
        exact (M_wants hI h hR hs).tb (adv_if (fun a ha => adv_Wants ha) gp) hT
      · exact absurd g c3
    have n3 : ¬ tow f N p 6 := by
      rcases i3 with ⟨g, _⟩ | ⟨_, g⟩
      · exact absurd (g.symm.trans c3) (by decide)
      · exact g
    have i4 := h.isW (WR_own7 : WR 1836413812 675501) i4
    rcases h2 with ⟨c4, z5, i5, h2⟩ | ⟨c4, C, hs, hu⟩
    rotate_left
    · rcases i4 with ⟨_, g⟩ | ⟨g, _⟩
      · rw [hu, sStmt_7 g.1 g.2]
        exact (M_must hI h hR hs).tb (adv_if (fun a ha => adv_Must ha) gp) hT
      · exact absurd g c4
    have n4 : ¬ tow f N p 7 := by
      rcases i4 with ⟨g, _⟩ | ⟨_, g⟩
      · exact absurd (g.symm.trans c4) (by decide)
      · exact g
    have i5 := h.isW (WR_own8 : WR 6447474 18466) i5
    rcases h2 with ⟨c5, C, hs, hu⟩ | ⟨c5, C, hs, hu⟩
    rotate_left
    · rcases i5 with ⟨_, g⟩ | ⟨g, _⟩
      · rw [hu, sStmt_8 g.1 g.2]
        exact M_bar hI h hR hT hs
      · exact absurd g c5
    have n5 : ¬ tow f N p 8 := by
      rcases i5 with ⟨g, _⟩ | ⟨_, g⟩
      · exact absurd (g.symm.trans c5) (by decide)
      · exact g
    refine Or.inr ⟨by rw [hu]; exact hs.2.2.2, Or.inl (sStmt_none ?_)⟩
    by_cases tk : tKind f N p = 1
    · refine Or.inr (Or.inl (fun k hk e => ?_))
      have ht : tow f N p k := ⟨tk, e⟩
      by_cases g : k < 5 ∨ k = 9
      · exact hno k hk g ht
      · rcases (show k = 10 ∨ k = 11 ∨ k = 5 ∨ k = 6 ∨ k = 7 ∨ k = 8 by omega) with rfl | rfl | rfl | rfl | rfl | rfl
        · exact n0 ht
        · exact n1 ht
        · exact n2 ht
        · exact n3 ht
        · exact n4 ht
        · exact n5 ht
    · exact Or.inl tk
  obtain ⟨z0, i0, h2⟩ := (hq.1 : tr_r_X12_statement A u)
  have i0 := h.isW (WR_own0 : WR 482854658917 5342608) i0
  rcases h2 with ⟨c0, z1, i1, h2⟩ | ⟨c0, C, hs, h3⟩
  rotate_left
  · rcases i0 with ⟨_, g⟩ | ⟨g, _⟩
    · rw [sStmt_0 g.1 g.2]
      exact M_stmt1 (T := T) ((M_place hI h hR hs).tb (adv_if (fun a ha => adv_Place ha) gp) hT) h3
    · exact absurd g c0
  have n0 : ¬ tow f N p 0 := by
    rcases i0 with ⟨g, _⟩ | ⟨_, g⟩
    · exact absurd (g.symm.trans c0) (by decide)
    · exact g
  have i1 := h.isW (WR_own1 : WR 1685024626 605668) i1
  rcases h2 with ⟨c1, z2, i2, h2⟩ | ⟨c1, C, hs, h3⟩
  rotate_left
  · rcases i1 with ⟨_, g⟩ | ⟨g, _⟩
    · rw [sStmt_1 g.1 g.2]
      exact M_stmt1 (T := T) ((M_door hI h hR hs).tb (adv_if (fun a ha => adv_Door ha) gp) hT) h3
    · exact absurd g c1
  have n1 : ¬ tow f N p 1 := by
    rcases i1 with ⟨g, _⟩ | ⟨_, g⟩
    · exact absurd (g.symm.trans c1) (by decide)
    · exact g
  have i2 := h.isW (WR_own2 : WR 6451064 25058) i2
  rcases h2 with ⟨c2, z3, i3, h2⟩ | ⟨c2, C, hs, h3⟩
  rotate_left
  · rcases i2 with ⟨_, g⟩ | ⟨g, _⟩
    · rw [sStmt_2 g.1 g.2]
      exact M_stmt1 (T := T) ((M_box hI h hR hs).tb (adv_if (fun a ha => adv_Box ha) gp) hT) h3
    · exact absurd g c2
  have n2 : ¬ tow f N p 2 := by
    rcases i2 with ⟨g, _⟩ | ⟨_, g⟩
    · exact absurd (g.symm.trans c2) (by decide)
    · exact g
  have i3 := h.isW (WR_own3 : WR 7038329 25771) i3
  rcases h2 with ⟨c3, z4, i4, h2⟩ | ⟨c3, C, hs, h3⟩
  rotate_left
  · rcases i3 with ⟨_, g⟩ | ⟨g, _⟩
    · rw [sStmt_3 g.1 g.2]
      exact M_stmt1 (T := T) ((M_key hI h hR hs).tb (adv_if (fun a ha => adv_Key ha) gp) hT) h3
    · exact absurd g c3
  have n3 : ¬ tow f N p 3 := by
    rcases i3 with ⟨g, _⟩ | ⟨_, g⟩
    · exact absurd (g.symm.trans c3) (by decide)
    · exact g
  have i4 := h.isW (WR_own4 : WR 123581014175598 486131888) i4
  rcases h2 with ⟨c4, z5, i5, h2⟩ | ⟨c4, C, hs, h3⟩
  rotate_left
  · rcases i4 with ⟨_, g⟩ | ⟨g, _⟩
    · rw [sStmt_4 g.1 g.2]
      exact M_stmt1 (T := T) ((M_person hI h hR hs).tb (adv_if (fun a ha => adv_Person ha) gp) hT) h3
    · exact absurd g c4
  have n4 : ¬ tow f N p 4 := by
    rcases i4 with ⟨g, _⟩ | ⟨_, g⟩
    · exact absurd (g.symm.trans c4) (by decide)
    · exact g
  have i5 := h.isW (WR_own9 : WR 6840691 19496) i5
  rcases h2 with ⟨c5, C, hs, h3⟩ | ⟨c5, C, hs, h3⟩
  rotate_left
  · rcases i5 with ⟨_, g⟩ | ⟨g, _⟩
    · rw [sStmt_9 g.1 g.2]
      exact M_stmt1 (T := T) ((M_has h hR hs).tb (fun a ha => ⟨(adv_Has ha).1, Nat.le_trans gp (adv_Has ha).2⟩) hT) h3
    · exact absurd g c5
  have n5 : ¬ tow f N p 9 := by
    rcases i5 with ⟨g, _⟩ | ⟨_, g⟩
    · exact absurd (g.symm.trans c5) (by decide)
    · exact g
  refine M_stmt1 (T := T) (oth C (fun k hk g ht => ?_) hs) h3
  rcases (show k = 0 ∨ k = 1 ∨ k = 2 ∨ k = 3 ∨ k = 4 ∨ k = 9 by omega) with rfl | rfl | rfl | rfl | rfl | rfl
  · exact n0 ht
  · exact n1 ht
  · exact n2 ht
  · exact n3 ht
  · exact n4 ht
  · exact n5 ht
