/-! The reference's statement, and its town. -/
theorem adv_Place {f : Nat → Int} {N p : Nat} {T : St} {a : St × Nat} (h : sPlace f N T p = some a) : a.1 19 = T 19 ∧ p ≤ a.2 := by
  have g1 := tEnd_ge (f := f) (N := N) (p := p)
  obtain ⟨c, hc, e⟩ := Option.bind_eq_some_iff.mp h
  rw [← Option.some.inj e]
  exact ⟨rfl, by show p ≤ c.2; rw [pos_new hc]; exact g1⟩
theorem adv_Key {f : Nat → Int} {N p : Nat} {T : St} {a : St × Nat} (h : sKey f N T p = some a) : a.1 19 = T 19 ∧ p ≤ a.2 := by
  have g1 := tEnd_ge (f := f) (N := N) (p := p)
  obtain ⟨c, hc, e⟩ := Option.bind_eq_some_iff.mp h
  obtain ⟨d, hd, e⟩ := Option.bind_eq_some_iff.mp e
  obtain ⟨k, hk, e⟩ := Option.bind_eq_some_iff.mp e
  rw [← Option.some.inj e]
  refine ⟨rfl, ?_⟩
  show p ≤ k.2
  have h1 := pos_new hc
  have h2 := pos_own0 hd
  have h3 := pos_spot hk
  have g2 := tEnd_ge (f := f) (N := N) (p := c.2)
  have g3 := tEnd_ge (f := f) (N := N) (p := d)
  omega
theorem adv_Thing {f : Nat → Int} {N p : Nat} {T : St} {a : St × Nat} (h : sThing f N T p = some a) : a.1 19 = T 19 ∧ p ≤ a.2 := by
  have g1 := tEnd_ge (f := f) (N := N) (p := p)
  obtain ⟨c, hc, e⟩ := Option.bind_eq_some_iff.mp h
  obtain ⟨d, hd, e⟩ := Option.bind_eq_some_iff.mp e
  obtain ⟨k, hk, e⟩ := Option.bind_eq_some_iff.mp e
  rw [← Option.some.inj e]
  refine ⟨rfl, ?_⟩
  show p ≤ k.2
  have h1 := pos_new hc
  have h2 := pos_own0 hd
  have h3 := pos_spot hk
  have g2 := tEnd_ge (f := f) (N := N) (p := c.2)
  have g3 := tEnd_ge (f := f) (N := N) (p := d)
  omega
theorem adv_Box {f : Nat → Int} {N p : Nat} {T : St} {a : St × Nat} (h : sBox f N T p = some a) : a.1 19 = T 19 ∧ p ≤ a.2 := by
  have g1 := tEnd_ge (f := f) (N := N) (p := p)
  obtain ⟨c, hc, e⟩ := Option.bind_eq_some_iff.mp h
  obtain ⟨d, hd, e⟩ := Option.bind_eq_some_iff.mp e
  obtain ⟨k, hk, e⟩ := Option.bind_eq_some_iff.mp e
  rw [← Option.some.inj e]
  refine ⟨rfl, ?_⟩
  show p ≤ k.2
  have h1 := pos_new hc
  have h2 := pos_own0 hd
  have h3 := pos_ask hk
  have g2 := tEnd_ge (f := f) (N := N) (p := c.2)
  have g3 := tEnd_ge (f := f) (N := N) (p := d)
  omega
theorem adv_Person {f : Nat → Int} {N p : Nat} {T : St} {a : St × Nat} (h : sPerson f N T p = some a) : a.1 19 = T 19 ∧ p ≤ a.2 := by
  have g1 := tEnd_ge (f := f) (N := N) (p := p)
  obtain ⟨c, hc, e⟩ := Option.bind_eq_some_iff.mp h
  obtain ⟨d, hd, e⟩ := Option.bind_eq_some_iff.mp e
  obtain ⟨k, hk, e⟩ := Option.bind_eq_some_iff.mp e
  rw [← Option.some.inj e]
  refine ⟨rfl, ?_⟩
  show p ≤ k.2
  have h1 := pos_new hc
  have h2 := pos_own0 hd
  have h3 := pos_ask hk
  have g2 := tEnd_ge (f := f) (N := N) (p := c.2)
  have g3 := tEnd_ge (f := f) (N := N) (p := d)
  omega
theorem adv_Must {f : Nat → Int} {N p : Nat} {T : St} {a : St × Nat} (h : sMust f N T p = some a) : a.1 19 = T 19 ∧ p ≤ a.2 := by
  have g1 := tEnd_ge (f := f) (N := N) (p := p)
  obtain ⟨c, hc, e⟩ := Option.bind_eq_some_iff.mp h
  obtain ⟨d, hd, e⟩ := Option.bind_eq_some_iff.mp e
  obtain ⟨k, hk, e⟩ := Option.bind_eq_some_iff.mp e
  rw [← Option.some.inj e]
  refine ⟨rfl, ?_⟩
  show p ≤ k.2
  have h1 := pos_ask hc
  have h2 := pos_num hd
  have h3 := pos_num hk
  have g2 := tEnd_ge (f := f) (N := N) (p := c.2)
  have g3 := tEnd_ge (f := f) (N := N) (p := d.2)
  omega
theorem adv_Door {f : Nat → Int} {N p : Nat} {T : St} {a : St × Nat} (h : sDoor f N T p = some a) : a.1 19 = T 19 ∧ p ≤ a.2 := by
  have g1 := tEnd_ge (f := f) (N := N) (p := p)
  obtain ⟨c, hc, e⟩ := Option.bind_eq_some_iff.mp h
  obtain ⟨d, hd, e⟩ := Option.bind_eq_some_iff.mp e
  obtain ⟨k, hk, e⟩ := Option.bind_eq_some_iff.mp e
  by_cases g : k.1 = d.1
  · rw [if_pos g] at e; exact absurd e (by simp)
  · rw [if_neg g] at e
    obtain ⟨m, hm, e⟩ := Option.bind_eq_some_iff.mp e
    rw [← Option.some.inj e]
    refine ⟨rfl, ?_⟩
    show p ≤ m.2
    have h1 := pos_new hc
    have h2 := pos_ask hd
    have h3 := pos_ask hk
    have h4 := pos_num hm
    have g2 := tEnd_ge (f := f) (N := N) (p := c.2)
    have g3 := tEnd_ge (f := f) (N := N) (p := d.2)
    have g4 := tEnd_ge (f := f) (N := N) (p := k.2)
    omega
theorem adv_Has {f : Nat → Int} {N p : Nat} {T : St} {a : St × Nat} (h : sHas f N T p = some a) : a.1 19 = T 19 ∧ p ≤ a.2 := by
  have g1 := tEnd_ge (f := f) (N := N) (p := p)
  obtain ⟨c, hc, e⟩ := Option.bind_eq_some_iff.mp h
  obtain ⟨d, hd, e⟩ := Option.bind_eq_some_iff.mp e
  by_cases g : 10 ≤ T 24 d.1.toNat
  · rw [if_pos g] at e
    rw [← Option.some.inj e]
    refine ⟨rfl, ?_⟩
    show p ≤ d.2
    have h1 := pos_ask hc
    have h2 := pos_ask hd
    have g2 := tEnd_ge (f := f) (N := N) (p := c.2)
    omega
  · rw [if_neg g] at e; exact absurd e (by simp)
theorem adv_Lost {f : Nat → Int} {N p : Nat} {T : St} {a : St × Nat} (h : sLost f N T p = some a) : a.1 19 = T 19 ∧ p ≤ a.2 := by
  have g1 := tEnd_ge (f := f) (N := N) (p := p)
  obtain ⟨c, hc, e⟩ := Option.bind_eq_some_iff.mp h
  by_cases g : oAnd (oShr (T 0 15) c.1) 1 = 0
  · rw [if_pos g] at e
    rw [← Option.some.inj e]
    exact ⟨rfl, by show p ≤ c.2; rw [pos_ask hc]; exact g1⟩
  · rw [if_neg g] at e; exact absurd e (by simp)
theorem adv_Shut {f : Nat → Int} {N p : Nat} {T : St} {a : St × Nat} (h : sShut f N T p = some a) : a.1 19 = T 19 ∧ p ≤ a.2 := by
  have g1 := tEnd_ge (f := f) (N := N) (p := p)
  obtain ⟨c, hc, e⟩ := Option.bind_eq_some_iff.mp h
  obtain ⟨d, hd, e⟩ := Option.bind_eq_some_iff.mp e
  obtain ⟨k, hk, e⟩ := Option.bind_eq_some_iff.mp e
  obtain ⟨t, ht, e⟩ := Option.bind_eq_some_iff.mp e
  rw [← Option.some.inj e]
  refine ⟨?_, ?_⟩
  · show t 19 = T 19
    unfold sPush at ht
    split at ht
    · rw [← Option.some.inj ht, stA_ne _ _ (by decide), stA_ne _ _ (by omega)]
    · exact absurd ht (by simp)
  · show p ≤ k.2
    have h1 := pos_ask hc
    have h2 := pos_own0 hd
    have h3 := pos_ask hk
    have g2 := tEnd_ge (f := f) (N := N) (p := c.2)
    have g3 := tEnd_ge (f := f) (N := N) (p := d)
    omega
theorem adv_Wants {f : Nat → Int} {N p : Nat} {T : St} {a : St × Nat} (h : sWants f N T p = some a) : a.1 19 = T 19 ∧ p ≤ a.2 := by
  have g1 := tEnd_ge (f := f) (N := N) (p := p)
  obtain ⟨c, hc, e⟩ := Option.bind_eq_some_iff.mp h
  by_cases g : bc (T 12 c.1.toNat) < 2
  · rw [if_pos g] at e
    obtain ⟨d, hd, e⟩ := Option.bind_eq_some_iff.mp e
    by_cases g2 : oAnd (oShr (T 12 c.1.toNat) d.1) 1 = 0
    · rw [if_pos g2] at e
      rw [← Option.some.inj e]
      refine ⟨rfl, ?_⟩
      show p ≤ d.2
      have h1 := pos_ask hc
      have h2 := pos_ask hd
      have g2 := tEnd_ge (f := f) (N := N) (p := c.2)
      omega
    · rw [if_neg g2] at e; exact absurd e (by simp)
  · rw [if_neg g] at e; exact absurd e (by simp)
theorem MT.tb {f : Nat → Int} {N b p : Nat} {T u : St} {r : Option (St × Nat)} (h : MT f N b r u) (ha : ∀ a, r = some a → a.1 19 = T 19 ∧ p ≤ a.2) (hT : T 19 2 ≤ (p : Int)) : MTb f N b p r u := by
  rcases h with ⟨h8, a, hr, hm, hs⟩ | h
  · have g := ha a hr
    exact Or.inl ⟨h8, a, hr, hm, hs, by rw [g.1]; omega, g.2⟩
  · exact Or.inr h
theorem adv_if {p q : Nat} {T : St} {r : Option (St × Nat)} {c : Prop} [Decidable c] (h : ∀ a, r = some a → a.1 19 = T 19 ∧ q ≤ a.2) (hq : p ≤ q) : ∀ a, (if c then r else none) = some a → a.1 19 = T 19 ∧ p ≤ a.2 := by
  intro a ha
  by_cases g : c
  · rw [if_pos g] at ha
    have := h a ha
    exact ⟨this.1, by omega⟩
  · rw [if_neg g] at ha; exact absurd ha (by simp)
/-- a statement with its end -/
def sSt (f : Nat → Int) (N : Nat) (T : St) (p : Nat) : Option (St × Nat) := (sStmt f N T p).bind fun a => (sSign f N 59 a.2).bind fun e => some (a.1, e)
theorem M_stmt1 {f : Nat → Int} {N b p : Nat} {A u T : St} {r : Option (St × Nat)} (h : MTb f N b p r A) (hq : d_X12_statement_1 u A) : MTb f N b (p + 1) (r.bind fun a => (sSign f N 59 a.2).bind fun e => some (a.1, e)) u := by
  obtain ⟨_, hq⟩ := (hq : tr_d_X12_statement_1 u A)
  rcases h with ⟨h8, a, hr, hm, hs, hc, hpa⟩ | ⟨h8, bd⟩
  · rw [hr]
    show MTb f N b (p + 1) ((sSign f N 59 a.2).bind fun e => some (a.1, e)) u
    rcases hq with ⟨c, _⟩ | ⟨_, A62, hmu, hu⟩
    · exact absurd h8 c
    · rw [hu]
      obtain ⟨m, q⟩ := M_sign hs hmu
      rcases m with ⟨m8, e, se, ms⟩ | ⟨m8, mb⟩
      · have pe := pos_sign hs.le se
        rw [se]
        exact Or.inl ⟨m8, (a.1, e), rfl, hm.rq q, ms, by show a.1 19 2 ≤ (e : Int); omega, by show p + 1 ≤ e; omega⟩
      · exact Or.inr ⟨m8, mb.bd (fun c hc => Or.inr ⟨(a.1, c), rfl, hc⟩)⟩
  · refine Or.inr ⟨?_, bd.bd (fun a ha => by rw [bad_sign ha]; exact Or.inl rfl)⟩
    rcases hq with ⟨_, hu⟩ | ⟨c, _⟩
    · rw [hu]; exact h8
    · omega
theorem M_statement {f : Nat → Int} {N b p : Nat} {A u T : St} (hI : IM A) (h : MS f N b p A) (hR : MR b A T) (hT : T 19 2 ≤ (p : Int)) (hq : q_X12_statement A u) : MTb f N b (p + 1) (sSt f N T p) u := by
  have gp : p ≤ tEnd f N p := tEnd_ge
  unfold sSt
  have oth : ∀ B : St, (∀ k, k < 12 → (k < 5 ∨ k = 9) → ¬ tow f N p k) → q_X12_others A B → MTb f N b p (sStmt f N T p) B := by
    intro B hno hq
    obtain ⟨z0, i0, h2⟩ := (hq.1 : tr_r_X12_others A B)
    have i0 := h.isW (WR_own10 : WR 1936225652 677139) i0
    rcases h2 with ⟨c0, z1, i1, h2⟩ | ⟨c0, C, hs, hu⟩
    rotate_left
    · rcases i0 with ⟨_, g⟩ | ⟨g, _⟩
      · rw [hu, sStmt_10 g.1 g.2]
        exact (M_shut hI h hR hs).tb (fun a ha => ⟨(adv_Shut ha).1, Nat.le_trans gp (adv_Shut ha).2⟩) hT
      · exact absurd g c0
    have n0 : ¬ tow f N p 10 := by
      rcases i0 with ⟨g, _⟩ | ⟨_, g⟩
      · exact absurd (g.symm.trans c0) (by decide)
      · exact g
    have i1 := h.isW (WR_own11 : WR 1819243380 675308) i1
    rcases h2 with ⟨c1, z2, i2, h2⟩ | ⟨c1, C, hs, hu⟩
    rotate_left
    · rcases i1 with ⟨_, g⟩ | ⟨g, _⟩
      · rw [hu, sStmt_11 g.1 g.2]
        exact (M_lost hI h hR hs).tb (fun a ha => ⟨(adv_Lost ha).1, Nat.le_trans gp (adv_Lost ha).2⟩) hT
      · exact absurd g c1
    have n1 : ¬ tow f N p 11 := by
      rcases i1 with ⟨g, _⟩ | ⟨_, g⟩
      · exact absurd (g.symm.trans c1) (by decide)
      · exact g
    have i2 := h.isW (WR_own5 : WR 499967946343 7808276) i2
    rcases h2 with ⟨c2, z3, i3, h2⟩ | ⟨c2, C, hs, hu⟩
    rotate_left
    · rcases i2 with ⟨_, g⟩ | ⟨g, _⟩
      · rw [hu, sStmt_5 g.1 g.2]
        exact (M_thing hI h hR hs).tb (adv_if (fun a ha => adv_Thing ha) gp) hT
      · exact absurd g c2
    have n2 : ¬ tow f N p 5 := by
      rcases i2 with ⟨g, _⟩ | ⟨_, g⟩
      · exact absurd (g.symm.trans c2) (by decide)
      · exact g
    have i3 := h.isW (WR_own6 : WR 512735736947 20592695) i3
    rcases h2 with ⟨c3, z4, i4, h2⟩ | ⟨c3, C, hs, hu⟩
    rotate_left
    · rcases i3 with ⟨_, g⟩ | ⟨g, _⟩
      · rw [hu, sStmt_6 g.1 g.2]
        exact (M_wants hI h hR hs).tb (adv_if (fun a ha => adv_Wants ha) gp) hT
      · exact absurd g c3
    have n3 : ¬ tow f N p 6 := by
      rcases i3 with ⟨g, _⟩ | ⟨_, g⟩
      · exact absurd (g.symm.trans c3) (by decide)
      · exact g
    have i4 := h.isW (WR_own7 : WR 1836413812 675501) i4
    rcases h2 with ⟨c4, z5, i5, h2⟩ | ⟨c4, C, hs, hu⟩
    rotate_left
    · rcases i4 with ⟨_, g⟩ | ⟨g, _⟩
      · rw [hu, sStmt_7 g.1 g.2]
        exact (M_must hI h hR hs).tb (adv_if (fun a ha => adv_Must ha) gp) hT
      · exact absurd g c4
    have n4 : ¬ tow f N p 7 := by
      rcases i4 with ⟨g, _⟩ | ⟨_, g⟩
      · exact absurd (g.symm.trans c4) (by decide)
      · exact g
    have i5 := h.isW (WR_own8 : WR 6447474 18466) i5
    rcases h2 with ⟨c5, C, hs, hu⟩ | ⟨c5, C, hs, hu⟩
    rotate_left
    · rcases i5 with ⟨_, g⟩ | ⟨g, _⟩
      · rw [hu, sStmt_8 g.1 g.2]
        exact M_bar hI h hR hT hs
      · exact absurd g c5
    have n5 : ¬ tow f N p 8 := by
      rcases i5 with ⟨g, _⟩ | ⟨_, g⟩
      · exact absurd (g.symm.trans c5) (by decide)
      · exact g
    refine Or.inr ⟨by rw [hu]; exact hs.2.2.2, Or.inl (sStmt_none ?_)⟩
    by_cases tk : tKind f N p = 1
    · refine Or.inr (Or.inl (fun k hk e => ?_))
      have ht : tow f N p k := ⟨tk, e⟩
      by_cases g : k < 5 ∨ k = 9
      · exact hno k hk g ht
      · rcases (show k = 10 ∨ k = 11 ∨ k = 5 ∨ k = 6 ∨ k = 7 ∨ k = 8 by omega) with rfl | rfl | rfl | rfl | rfl | rfl
        · exact n0 ht
        · exact n1 ht
        · exact n2 ht
        · exact n3 ht
        · exact n4 ht
        · exact n5 ht
    · exact Or.inl tk
  obtain ⟨z0, i0, h2⟩ := (hq.1 : tr_r_X12_statement A u)
  have i0 := h.isW (WR_own0 : WR 482854658917 5342608) i0
  rcases h2 with ⟨c0, z1, i1, h2⟩ | ⟨c0, C, hs, h3⟩
  rotate_left
  · rcases i0 with ⟨_, g⟩ | ⟨g, _⟩
    · rw [sStmt_0 g.1 g.2]
      exact M_stmt1 (T := T) ((M_place hI h hR hs).tb (adv_if (fun a ha => adv_Place ha) gp) hT) h3
    · exact absurd g c0
  have n0 : ¬ tow f N p 0 := by
    rcases i0 with ⟨g, _⟩ | ⟨_, g⟩
    · exact absurd (g.symm.trans c0) (by decide)
    · exact g
  have i1 := h.isW (WR_own1 : WR 1685024626 605668) i1
  rcases h2 with ⟨c1, z2, i2, h2⟩ | ⟨c1, C, hs, h3⟩
  rotate_left
  · rcases i1 with ⟨_, g⟩ | ⟨g, _⟩
    · rw [sStmt_1 g.1 g.2]
      exact M_stmt1 (T := T) ((M_door hI h hR hs).tb (adv_if (fun a ha => adv_Door ha) gp) hT) h3
    · exact absurd g c1
  have n1 : ¬ tow f N p 1 := by
    rcases i1 with ⟨g, _⟩ | ⟨_, g⟩
    · exact absurd (g.symm.trans c1) (by decide)
    · exact g
  have i2 := h.isW (WR_own2 : WR 6451064 25058) i2
  rcases h2 with ⟨c2, z3, i3, h2⟩ | ⟨c2, C, hs, h3⟩
  rotate_left
  · rcases i2 with ⟨_, g⟩ | ⟨g, _⟩
    · rw [sStmt_2 g.1 g.2]
      exact M_stmt1 (T := T) ((M_box hI h hR hs).tb (adv_if (fun a ha => adv_Box ha) gp) hT) h3
    · exact absurd g c2
  have n2 : ¬ tow f N p 2 := by
    rcases i2 with ⟨g, _⟩ | ⟨_, g⟩
    · exact absurd (g.symm.trans c2) (by decide)
    · exact g
  have i3 := h.isW (WR_own3 : WR 7038329 25771) i3
  rcases h2 with ⟨c3, z4, i4, h2⟩ | ⟨c3, C, hs, h3⟩
  rotate_left
  · rcases i3 with ⟨_, g⟩ | ⟨g, _⟩
    · rw [sStmt_3 g.1 g.2]
      exact M_stmt1 (T := T) ((M_key hI h hR hs).tb (adv_if (fun a ha => adv_Key ha) gp) hT) h3
    · exact absurd g c3
  have n3 : ¬ tow f N p 3 := by
    rcases i3 with ⟨g, _⟩ | ⟨_, g⟩
    · exact absurd (g.symm.trans c3) (by decide)
    · exact g
  have i4 := h.isW (WR_own4 : WR 123581014175598 486131888) i4
  rcases h2 with ⟨c4, z5, i5, h2⟩ | ⟨c4, C, hs, h3⟩
  rotate_left
  · rcases i4 with ⟨_, g⟩ | ⟨g, _⟩
    · rw [sStmt_4 g.1 g.2]
      exact M_stmt1 (T := T) ((M_person hI h hR hs).tb (adv_if (fun a ha => adv_Person ha) gp) hT) h3
    · exact absurd g c4
  have n4 : ¬ tow f N p 4 := by
    rcases i4 with ⟨g, _⟩ | ⟨_, g⟩
    · exact absurd (g.symm.trans c4) (by decide)
    · exact g
  have i5 := h.isW (WR_own9 : WR 6840691 19496) i5
  rcases h2 with ⟨c5, C, hs, h3⟩ | ⟨c5, C, hs, h3⟩
  rotate_left
  · rcases i5 with ⟨_, g⟩ | ⟨g, _⟩
    · rw [sStmt_9 g.1 g.2]
      exact M_stmt1 (T := T) ((M_has h hR hs).tb (fun a ha => ⟨(adv_Has ha).1, Nat.le_trans gp (adv_Has ha).2⟩) hT) h3
    · exact absurd g c5
  have n5 : ¬ tow f N p 9 := by
    rcases i5 with ⟨g, _⟩ | ⟨_, g⟩
    · exact absurd (g.symm.trans c5) (by decide)
    · exact g
  refine M_stmt1 (T := T) (oth C (fun k hk g ht => ?_) hs) h3
  rcases (show k = 0 ∨ k = 1 ∨ k = 2 ∨ k = 3 ∨ k = 4 ∨ k = 9 by omega) with rfl | rfl | rfl | rfl | rfl | rfl
  · exact n0 ht
  · exact n1 ht
  · exact n2 ht
  · exact n3 ht
  · exact n4 ht
  · exact n5 ht
/-! The reference's town. -/
theorem bad_stmt {f : Nat → Int} {N p : Nat} {T : St} (h : tKind f N p = 4) : sStmt f N T p = none := sStmt_none (Or.inl (by omega))
theorem bad_townL {f : Nat → Int} {N p n : Nat} {T : St} (h : tKind f N p = 4) : ∀ k, sTownL f N k n T p = none
  | 0 => rfl
  | k + 1 => by
    show (if tKind f N p = 0 then some (n, T) else (sStmt f N T p).bind fun a => (sSign f N 59 a.2).bind fun e => sTownL f N k (n + 1) a.1 e) = none
    rw [if_neg (by omega), bad_stmt h]
    rfl
theorem sTownL_st {f : Nat → Int} {N p n k : Nat} {T : St} (h : ¬ tKind f N p = 0) : sTownL f N (k + 1) n T p = (sSt f N T p).bind fun a => sTownL f N k (n + 1) a.1 a.2 := by
  show (if tKind f N p = 0 then some (n, T) else (sStmt f N T p).bind fun a => (sSign f N 59 a.2).bind fun e => sTownL f N k (n + 1) a.1 e) = _
  rw [if_neg h]
  unfold sSt
  simp only [Option.bind_assoc, Option.bind_some]
/-- the town's answer -/
def MX (b : Nat) (r : Option (Nat × St)) (z : Int) (u : St) : Prop := (∃ a, r = some a ∧ z = (a.1 : Int) ∧ MR b u a.2 ∧ u 0 12 = (b : Int)) ∨ (r = none ∧ z = -1)
theorem town2_f {A0 B u : St} {z i : Int} (h : 1 ≤ B 0 8) (hq : d_X12_town_2 i A0 B z u) : z = -1 := by
  rcases (hq : tr_d_X12_town_2 i A0 B z u) with ⟨c, _⟩ | ⟨_, A28, _, z29, A30, hr, hz, _⟩
  · omega
  · rw [hz]; exact hr.2.2.2
theorem town1_f {A0 B u : St} {z i : Int} {nn : Nat} (h : 1 ≤ B 0 8) (hq : d_X12_town_1 A0 z u nn i B) : z = -1 := by
  cases nn with
  | zero => exact hq.elim
  | succ nn =>
    obtain ⟨_, _, hq⟩ := (hq : tr_d_X12_town_1 A0 z u (fun z5 A7 => d_X12_town_1 A0 z u nn z5 A7) i B)
    rcases hq with ⟨_, hq⟩ | ⟨c, _⟩
    · exact town2_f h hq
    · omega
theorem M_townL {f : Nat → Int} {N b : Nat} {A0 u : St} {z : Int} (hb : -(A0 0 12) + 1 = (b : Int)) : ∀ (nn i : Nat) (A T : St) (p : Nat), MS f N b p A → MR b A T → T 19 2 ≤ (p : Int) → i ≤ p → d_X12_town_1 A0 z u nn (i : Int) A → MX b (sTownL f N (1601 - i) i T p) z u := by
  intro nn
  induction nn with
  | zero => intro i A T p _ _ _ _ hq; exact hq.elim
  | succ nn ih =>
    intro i A T p h hR hT hip hq
    have N16 : N ≤ 1600 := h.1.2.1
    have hpN := h.le
    obtain ⟨k, hk⟩ : ∃ k, 1601 - i = k + 1 := ⟨1600 - i, by omega⟩
    obtain ⟨hI, _, hq⟩ := (hq : tr_d_X12_town_1 A0 z u (fun z5 A7 => d_X12_town_1 A0 z u nn z5 A7) i A)
    rw [hk]
    rcases hq with ⟨c, _⟩ | ⟨_, hq⟩
    · exact absurd h.ns c
    · rcases hq with ⟨c0, hq⟩ | ⟨c0, A19, hst, z24, hz24, hq⟩
      · have tk : tKind f N p = 0 := by rw [← h.sg]; exact c0
        have e : sTownL f N (k + 1) i T p = some (i, T) := by
          show (if tKind f N p = 0 then some (i, T) else _) = _
          rw [if_pos tk]
        rw [e]
        rcases (hq : tr_d_X12_town_2 (i : Int) A0 A z u) with ⟨_, A27, e27, hz, hu⟩ | ⟨c, _⟩
        · refine Or.inl ⟨(i, T), rfl, hz, ?_, ?_⟩
          · refine hR.rq ?_
            rw [hu, e27]
            exact rq.rf.s0.s0.s0.s0
          · rw [hu, e27]
            exact hb
        · exact absurd (Int.le_of_eq h.ns) c
      · have tk : ¬ tKind f N p = 0 := by rw [← h.sg]; exact c0
        rw [sTownL_st tk]
        have e24 : z24 = ((i + 1 : Nat) : Int) := by
          rw [hz24]
          exact oWrap_id ⟨by omega, by omega⟩
        rcases M_statement hI h hR hT hst with ⟨_, a, sa, mr, ms, cd, pa⟩ | ⟨f1, bd⟩
        · rw [sa]
          show MX b (sTownL f N k (i + 1) a.1 a.2) z u
          rw [show k = 1601 - (i + 1) by omega]
          rw [e24] at hq
          exact ih (i + 1) A19 a.1 a.2 ms mr cd (by omega) hq
        · refine Or.inr ⟨?_, town1_f f1 hq⟩
          rcases bd with bd | ⟨a, ha, t4⟩
          · rw [bd]; rfl
          · rw [ha]; exact bad_townL t4 k
theorem MR_0 {b : Nat} {A T : St} (h : A 2 b = 0 ∧ A 4 b = 0 ∧ A 11 b = 0 ∧ A 16 b = 0 ∧ A 19 b = 0 ∧ A 22 b = 0 ∧ A 25 b = 0 ∧ A 29 b = 0) : MR b A (sClear T) := by
  have nk : ∀ (o : Nat) (g h : Nat → Int), NKx 0 o g h := fun o g h j hj => absurd hj (by omega)
  refine ⟨⟨⟨h.1, nk _ _ _⟩, ⟨h.2.1, nk _ _ _⟩, ⟨h.2.2.1, nk _ _ _⟩, ⟨h.2.2.2.1, nk _ _ _⟩, ⟨h.2.2.2.2.1, nk _ _ _⟩⟩, ⟨h.2.2.2.2.2.1, h.2.2.2.2.2.2.1, h.2.2.2.2.2.2.2⟩, fun w => Or.inl rfl, ?_, ?_, ⟨⟨(by decide : (0 : Int) ≤ 0), (by decide : (0 : Int) < 1024)⟩, ?_, ?_⟩, ⟨?_, ?_⟩, ?_, ?_, ?_, ?_, ?_⟩
  · intro k hk; exact absurd (show (k : Int) < 0 from hk) (by omega)
  · intro k hk; exact absurd (show (k : Int) < 0 from hk) (by omega)
  · intro k hk; exact absurd (show (k : Int) < 0 from hk) (by omega)
  · intro k _; show (0 : Nat).testBit k = false; exact Nat.zero_testBit k
  · intro k hk; exact absurd (show (k : Int) < 0 from hk) (by omega)
  · intro k hk _
    rcases (show k = 0 ∨ k = 1 ∨ k = 2 ∨ k = 3 by omega) with rfl | rfl | rfl | rfl <;> rfl
  · intro k hk; exact absurd (show (k : Int) < 0 from hk) (by omega)
  · intro k hk; exact absurd (show (k : Int) < 0 from hk) (by omega)
  · intro q hq
    have e : sClear T 12 q = 0 := by
      rcases (show q = 0 ∨ q = 1 ∨ q = 2 by omega) with rfl | rfl | rfl <;> rfl
    have b0 : bc 0 = 0 := by decide +kernel
    rw [e, b0]
    refine ⟨⟨by decide, by decide, by decide⟩, rfl, fun t _ => ⟨fun g => ?_, fun g => ?_⟩⟩
    · have g : (0 : Nat).testBit t = true := g
      rw [Nat.zero_testBit] at g
      exact absurd g (by decide)
    · obtain ⟨i, hi, _⟩ := g
      exact absurd (show (i : Int) < 0 from hi) (by omega)
  · intro k hk; exact absurd (show (k : Int) < 0 from hk) (by omega)
  · intro k hk; exact absurd (show (k : Int) < 0 from hk) (by omega)
theorem M_town {f : Nat → Int} {N b : Nat} {A u T : St} {z : Int} (hN : A 0 1 = (N : Int)) (h16 : N ≤ 1600) (hf : ∀ k, k < N → f k = A 1 k) (hb : -(A 0 12) + 1 = (b : Int)) (hb1 : b ≤ 1) (hq : q_X12_town A z u) : MX b (sTown f N T) z u := by
  obtain ⟨A1, e1, A2, ha, nn, hq⟩ := (hq.1 : tr_r_X12_town A z u)
  rw [hb, Int.toNat_natCast] at e1
  have hG : MG f N b 0 A1 := by
    rw [e1]
    exact ⟨⟨hN, h16, hf⟩, rfl, hb1, rfl, by omega, rfl⟩
  obtain ⟨mo, q⟩ := hG.ahead ha
  unfold sTown
  rcases mo with ⟨t4, f1⟩ | ⟨_, ms⟩
  · exact Or.inr ⟨bad_townL t4 1601, town1_f f1 hq⟩
  · have mr : MR b A2 (sClear T) := by
      refine MR.rq (MR_0 ?_) q
      rw [e1]
      exact ⟨up_same _ _ _, up_same _ _ _, up_same _ _ _, up_same _ _ _, up_same _ _ _, up_same _ _ _, up_same _ _ _, up_same _ _ _⟩
    exact M_townL hb nn 0 A2 (sClear T) 0 ms mr (by decide : (0 : Int) ≤ 0) (Nat.le_refl 0) hq
/-! Both tapes, and the town's answers. -/
theorem i2b_and (x : Int) : oI2b x % 256 = oAnd x 255 := by
  have e1 : oI2b x = (iI x).toInt.bmod 256 := by
    unfold oI2b
    rw [Int8.toInt_toInt32, Int32.toInt_toInt8]
  have e2 : (iI x &&& iI 255).toBitVec = (iI x).toBitVec &&& (iI 255).toBitVec := Int32.toBitVec_and _ _
  have n255 : (iI 255).toBitVec.toNat = 2 ^ 8 - 1 := by decide +kernel
  have e3 : oAnd x 255 = (((iI x).toBitVec.toNat % 256 : Nat) : Int) := by
    show (iI x &&& iI 255).toBitVec.toInt = _
    rw [BitVec.toInt_eq_toNat_cond, e2, BitVec.toNat_and, n255, Nat.and_two_pow_sub_one_eq_mod]
    have : (iI x).toBitVec.toNat % 2 ^ 8 < 256 := Nat.mod_lt _ (by decide)
    rw [if_pos (by omega)]
  have e4 : (iI x).toInt = (iI x).toBitVec.toInt := rfl
  have bm : ∀ a : Int, a.bmod 256 % 256 = a % 256 := by
    intro a
    show (if (a % ((256 : Nat) : Int)) < (((256 : Nat) : Int) + 1) / 2 then a % ((256 : Nat) : Int) else a % ((256 : Nat) : Int) - ((256 : Nat) : Int)) % 256 = a % 256
    split <;> omega
  rw [e1, bm, e3, e4, BitVec.toInt_eq_toNat_cond]
  split <;> omega
def TB (B A : St) : Prop := ∀ k : Nat, (k : Int) < A 0 1 → A 1 k = B 2 k % 256
def OW (B : St) : Prop := ∀ k : Nat, k < 26 → B 4 k = own5 k
theorem TB.fr {B A B2 A2 : St} (h : TB B A) (hb : ∀ k, B2 2 k = B 2 k) (ha : A2 1 = A 1) (hn : A2 0 1 ≤ A 0 1) : TB B2 A2 := by
  intro k hk
  rw [ha, hb]
  exact h k (by omega)
theorem put_eq {v : Int} {u1 u2 : St} : ∀ (n1 n2 : Nat) (s : Int) (B A : St), TB B A → B 1 1 = A 0 1 → 8 * B 1 1 + s ≤ 12792 → d_X7_put_1 v u1 n1 s B → d_X12_put_1 v u2 n2 s A → TB u1 u2 := by
  intro n1
  induction n1 with
  | zero => intro n2 s B A _ _ _ h _; exact h.elim
  | succ n1 ih =>
    intro n2 s B A hT he hb h1 h2
    cases n2 with
    | zero => exact h2.elim
    | succ n2 =>
      obtain ⟨_, _, h1⟩ := (h1 : tr_d_X7_put_1 v u1 (fun z1 A3 => d_X7_put_1 v u1 n1 z1 A3) s B)
      obtain ⟨hI, _, h2⟩ := (h2 : tr_d_X12_put_1 v u2 (fun z1 A3 => d_X12_put_1 v u2 n2 z1 A3) s A)
      have r1 : (0 : Int) ≤ A 0 1 := (hI 0 1).1
      rcases h1 with ⟨c, e1⟩ | ⟨c, h1⟩
      · rcases h2 with ⟨_, e2⟩ | ⟨c2, _⟩
        · rw [e1, e2]; exact hT
        · exact absurd c c2
      · rcases h2 with ⟨c2, _⟩ | ⟨_, z13, hz13, z14, hz14, A15, eA, h2⟩
        · exact absurd c2 c
        · rcases h1 with ⟨c3, _⟩ | ⟨_, z15, hz15, z16, hz16, A17, e17, A19, e19, h1⟩
          · omega
          · have hz : z14 = z16 % 256 := by rw [hz14, hz16, i2b_and, hz13, hz15]
            have b11 : A19 1 1 = B 1 1 + 1 := by rw [e19]; rfl
            have a01 : A15 0 1 = A 0 1 + 1 := by rw [eA]; rfl
            refine ih n2 (s - 8) A19 A15 ?_ (by rw [b11, a01, he]) (by rw [b11]; omega) h1 h2
            intro k hk
            rw [a01] at hk
            have ra : A15 1 = up (A 1) (A 0 1).toNat z14 := by rw [eA]; rfl
            have rb : A19 2 = up (B 2) (A 0 1).toNat z16 := by rw [e19, e17, he]; rfl
            rw [ra, rb]
            by_cases e : k = (A 0 1).toNat
            · rw [e, up_same, up_same]; exact hz
            · rw [up_ne _ _ e, up_ne _ _ e]
              exact hT k (by omega)
theorem feed_tb {x1 x2 x3 x4 x5 z1 z2 : Int} {B A u1 u2 : St} (hT : TB B A) (he : B 1 1 = A 0 1) (h1 : r_X11_feed x1 x2 x3 x4 x5 B z1 u1) (h2 : r_X12_feed x1 x2 x3 x4 x5 A z2 u2) : TB u1 u2 := by
  have one : ∀ {v : Int} {B A u1 u2 : St}, TB B A → B 1 1 = A 0 1 → B 1 1 + 4 ≤ 1600 → q_X7_put v B u1 → q_X12_put v A u2 → TB u1 u2 ∧ u1 1 1 = u2 0 1 ∧ u1 1 1 = B 1 1 + 4 := by
    intro v B A u1 u2 hT he hb h1 h2
    have g1 := h1.2.2.2
    have g2 := h2.2.2.2
    obtain ⟨n1, p1⟩ := (h1.1 : tr_r_X7_put v B u1)
    obtain ⟨n2, p2⟩ := (h2.1 : tr_r_X12_put v A u2)
    exact ⟨put_eq n1 n2 24 B A hT he (by omega) p1 p2, by omega, g1⟩
  obtain ⟨zr, hr, h1⟩ := (h1 : tr_r_X11_feed x1 x2 x3 x4 x5 B z1 u1)
  have g1 := hr.2.2.1
  have g0 := hr.2.2.2
  have gr := hr.2.1
  rcases h1 with ⟨c, B1, p1, B2, p2, B3, p3, B4, p4, B5, p5, _, e1⟩ | ⟨c, zq, Bq, hq, _, e1⟩
  · have room := g1 (by omega)
    rcases (h2 : tr_r_X12_feed x1 x2 x3 x4 x5 A z2 u2) with ⟨_, A1, r1, A2, r2, A3, r3, A4, r4, A5, r5, _, e2⟩ | ⟨c2, _⟩
    · obtain ⟨t1, f1, s1⟩ := one hT he (by omega) p1 r1
      obtain ⟨t2, f2, s2⟩ := one t1 f1 (by omega) p2 r2
      obtain ⟨t3, f3, s3⟩ := one t2 f2 (by omega) p3 r3
      obtain ⟨t4, f4, s4⟩ := one t3 f3 (by omega) p4 r4
      obtain ⟨t5, f5, s5⟩ := one t4 f4 (by omega) p5 r5
      rw [e1, e2]
      exact t5
    · exact absurd c2 (by omega)
  · have room := g0 c
    rcases (h2 : tr_r_X12_feed x1 x2 x3 x4 x5 A z2 u2) with ⟨c2, _⟩ | ⟨_, z17, A18, hf, _, e2⟩
    · exact absurd c2 (by omega)
    · rw [e1, e2]
      exact hT.fr (fun k => hq.2.2.1 2 k rfl rfl) (hf.2.2.1.1 1 (by decide) rfl) (Int.le_of_eq (hf.2.2.1.2 1 rfl))
/-! The class's other town is left alone by the reader. -/
def OT (tb : Nat) (A S : St) : Prop := ∀ j, j < 31 → S (tb + j) = A (tb + j)
theorem OT.rf {tb : Nat} {A : St} : OT tb A A := fun _ _ => rfl
theorem OT.trans {tb : Nat} {A B C : St} (h : OT tb A B) (g : OT tb B C) : OT tb A C := fun j hj => (g j hj).trans (h j hj)
theorem OT.st {tb r i : Nat} {v : Int} {A S : St} (h : OT tb A S) (hr : ¬ (tb ≤ r ∧ r < tb + 31)) : OT tb A (stA S r i v) := by
  intro j hj
  rw [stA_ne _ _ (by omega)]
  exact h j hj
theorem OT.fk {tb : Nat} {P : List Nat} {F : List (Nat × Nat)} {A u : St} (htb : isT tb) (h : fk P F A u) (hP : P.all (fun x => decide (x < 51)) = true) (hF : F.all (fun x => decide (x.1 < 51)) = true) : OT tb A u := by
  intro j hj
  funext k
  have l : 51 ≤ tb + j := by rcases htb with rfl | rfl <;> omega
  refine h (tb + j) k ?_ ?_
  · cases hc : P.contains (tb + j) with
    | false => rfl
    | true =>
      have := of_decide_eq_true (List.all_eq_true.mp hP _ (List.contains_iff_mem.mp hc))
      omega
  · cases hc : fin2 F (tb + j) k with
    | false => rfl
    | true =>
      have : tb + j < 51 := of_decide_eq_true (List.all_eq_true.mp hF _ (fin2_iff.mp hc))
      omega
def TT (ta tb : Nat) : Prop := (ta = 51 ∧ tb = 82) ∨ (ta = 82 ∧ tb = 51)
def TE (ta tb : Nat) : Prop := (ta = 70 ∧ tb = 82) ∨ (ta = 101 ∧ tb = 51)
def TS (ta tb : Nat) : Prop := (ta = 73 ∧ tb = 82) ∨ (ta = 104 ∧ tb = 51)
theorem ot_r_X5_readPair {tb : Nat} {SS : St → Int → St → Prop} {b : Nat} {ta : Nat} {A : St} {z : Int} {u : St} {A0 : St} (htb : isT tb) (ht : TE ta tb) (hSS : ∀ (A : St) (z : Int) (u : St), q_SS_sum SS A z u → OT tb A u) (gA : OT tb A0 A) (h : r_X5_readPair SS b ta A z u) : OT tb A0 u := by
  have ht := ht
  unfold TE at ht
  have h : tr_r_X5_readPair SS b ta A z u := h
  obtain ⟨z1, A2, q35, h⟩ := h
  have g36 : OT tb A0 A2 := gA.trans (OT.fk htb q35.2.2.1 rfl rfl)
  rcases h with h | h
  · obtain ⟨c37, c38, h⟩ := h
    rw [h]
    exact g36
  · obtain ⟨c39, h⟩ := h
    obtain ⟨z10, A11, q40, h⟩ := h
    have g41 : OT tb A0 A11 := g36.trans (OT.fk htb q40.2.2.1 rfl rfl)
    rcases h with h | h
    · obtain ⟨c42, c43, h⟩ := h
      rw [h]
      exact g41
    · obtain ⟨c44, h⟩ := h
      obtain ⟨z16, A17, q45, h⟩ := h
      have g46 : OT tb A0 A17 := g41.trans (hSS _ _ _ q45)
      rcases h with h | h
      · obtain ⟨c47, c48, h⟩ := h
        rw [h]
        exact g46
      · obtain ⟨c49, h⟩ := h
        obtain ⟨z22, A23, q50, h⟩ := h
        have g51 : OT tb A0 A23 := g46.trans (OT.fk htb q50.2.2.1 rfl rfl)
        rcases h with h | h
        · obtain ⟨c52, c53, h⟩ := h
          rw [h]
          exact g51
        · obtain ⟨c54, h⟩ := h
          obtain ⟨z29, A30, q55, h⟩ := h
          have g56 : OT tb A0 A30 := g51.trans (hSS _ _ _ q55)
          rcases h with h | h
          · obtain ⟨c57, c58, h⟩ := h
            rw [h]
            exact g56
          · obtain ⟨c59, h⟩ := h
            obtain ⟨z35, A36, q60, h⟩ := h
            have g61 : OT tb A0 A36 := g56.trans (OT.fk htb q60.2.2.1 rfl rfl)
            rcases h with h | h
            · obtain ⟨c62, c63, h⟩ := h
              rw [h]
              exact g61
            · obtain ⟨c64, h⟩ := h
              obtain ⟨z42, A43, q65, h⟩ := h
              have g66 : OT tb A0 A43 := g61.trans (OT.fk htb q65.2.2.1 rfl rfl)
              obtain ⟨c67, h⟩ := h
              rw [h]
              exact g66
theorem ot_r_X8_add {tb : Nat} {ta : Nat} {x1 : Int} {A : St} {z : Int} {u : St} {A0 : St} (htb : isT tb) (ht : TE ta tb) (gA : OT tb A0 A) (h : r_X8_add ta x1 A z u) : OT tb A0 u := by
  have ht := ht
  unfold TE at ht
  have h : tr_r_X8_add ta x1 A z u := h
  rcases h with h | h
  · obtain ⟨c73, h⟩ := h
    obtain ⟨A4, q74, h⟩ := h
    have g75 : OT tb A0 A4 := by rw [q74]; exact (OT.st gA (by clear h; omega))
    obtain ⟨A6, q76, h⟩ := h
    have g77 : OT tb A0 A6 := by rw [q76]; exact (OT.st g75 (by clear h; omega))
    obtain ⟨c78, h⟩ := h
    rw [h]
    exact g77
  · obtain ⟨c79, c80, h⟩ := h
    rw [h]
    exact gA
theorem ot_r_X5_readPart {tb : Nat} {SS : St → Int → St → Prop} {b : Nat} {ta : Nat} {A : St} {z : Int} {u : St} {A0 : St} (htb : isT tb) (ht : TE ta tb) (hSS : ∀ (A : St) (z : Int) (u : St), q_SS_sum SS A z u → OT tb A u) (gA : OT tb A0 A) (h : r_X5_readPart SS b ta A z u) : OT tb A0 u := by
  have ht := ht
  unfold TE at ht
  have h : tr_r_X5_readPart SS b ta A z u := h
  obtain ⟨A1, q5, h⟩ := h
  have g6 : OT tb A0 A1 := gA.trans (OT.fk htb q5.2.2.1 rfl rfl)
  rcases h with h | h
  · obtain ⟨c7, h⟩ := h
    obtain ⟨z6, A7, q8, h⟩ := h
    have g9 : OT tb A0 A7 := g6.trans (OT.fk htb q8.2.2.1 rfl rfl)
    rcases h with h | h
    · obtain ⟨c10, h⟩ := h
      obtain ⟨z11, A12, q11, h⟩ := h
      have g12 : OT tb A0 A12 := g9.trans (OT.fk htb q11.2.2.1 rfl rfl)
      rcases h with h | h
      · obtain ⟨c13, h⟩ := h
        obtain ⟨z16, A17, q14, h⟩ := h
        have g15 : OT tb A0 A17 := g12.trans (OT.fk htb q14.2.2.1 rfl rfl)
        rcases h with h | h
        · obtain ⟨c16, h⟩ := h
          obtain ⟨z21, A22, q17, h⟩ := h
          have g18 : OT tb A0 A22 := g15.trans (OT.fk htb q17.2.2.1 rfl rfl)
          rcases h with h | h
          · obtain ⟨c19, h⟩ := h
            obtain ⟨z26, A27, q20, h⟩ := h
            have g21 : OT tb A0 A27 := g18.trans (OT.fk htb q20.2.2.1 rfl rfl)
            rcases h with h | h
            · obtain ⟨c22, h⟩ := h
              obtain ⟨z31, A32, q23, h⟩ := h
              have g24 : OT tb A0 A32 := g21.trans (OT.fk htb q23.2.2.1 rfl rfl)
              rcases h with h | h
              · obtain ⟨c25, h⟩ := h
                obtain ⟨z36, A37, q26, h⟩ := h
                have g27 : OT tb A0 A37 := g24.trans (OT.fk htb q26.2.2.1 rfl rfl)
                rcases h with h | h
                · obtain ⟨c28, h⟩ := h
                  obtain ⟨z41, A42, q29, h⟩ := h
                  have g30 : OT tb A0 A42 := g27.trans (OT.fk htb q29.2.2.1 rfl rfl)
                  obtain ⟨c31, h⟩ := h
                  rw [h]
                  exact g30
                · obtain ⟨c32, h⟩ := h
                  obtain ⟨z64, A65, q33, h⟩ := h
                  have g34 : OT tb A0 A65 := ot_r_X5_readPair htb ht hSS g27 q33.1
                  rcases h with h | h
                  · obtain ⟨c68, c69, h⟩ := h
                    rw [h]
                    exact g34
                  · obtain ⟨c70, h⟩ := h
                    obtain ⟨z70, A71, q71, h⟩ := h
                    have g72 : OT tb A0 A71 := ot_r_X8_add htb ht g34 q71.1
                    rcases h with h | h
                    · obtain ⟨c81, c82, h⟩ := h
                      rw [h]
                      exact g72
                    · obtain ⟨c83, c84, h⟩ := h
                      rw [h]
                      exact g72
              · obtain ⟨c85, h⟩ := h
                obtain ⟨z85, A86, q86, h⟩ := h
                have g87 : OT tb A0 A86 := ot_r_X5_readPair htb ht hSS g24 q86.1
                rcases h with h | h
                · obtain ⟨c88, c89, h⟩ := h
                  rw [h]
                  exact g87
                · obtain ⟨c90, h⟩ := h
                  obtain ⟨z91, A92, q91, h⟩ := h
                  have g92 : OT tb A0 A92 := ot_r_X8_add htb ht g87 q91.1
                  rcases h with h | h
                  · obtain ⟨c93, c94, h⟩ := h
                    rw [h]
                    exact g92
                  · obtain ⟨c95, c96, h⟩ := h
                    rw [h]
                    exact g92
            · obtain ⟨c97, h⟩ := h
              obtain ⟨z98, A99, q98, h⟩ := h
              have g99 : OT tb A0 A99 := ot_r_X8_add htb ht g21 q98.1
              obtain ⟨c100, h⟩ := h
              rw [h]
              exact g99
          · obtain ⟨c101, h⟩ := h
            obtain ⟨z110, A111, q102, h⟩ := h
            have g103 : OT tb A0 A111 := ot_r_X8_add htb ht g18 q102.1
            obtain ⟨c104, h⟩ := h
            rw [h]
            exact g103
        · obtain ⟨c105, h⟩ := h
          obtain ⟨z121, A122, q106, h⟩ := h
          have g107 : OT tb A0 A122 := ot_r_X8_add htb ht g15 q106.1
          obtain ⟨c108, h⟩ := h
          rw [h]
          exact g107
      · obtain ⟨c109, h⟩ := h
        obtain ⟨z131, A132, q110, h⟩ := h
        have g111 : OT tb A0 A132 := ot_r_X8_add htb ht g12 q110.1
        obtain ⟨c112, h⟩ := h
        rw [h]
        exact g111
    · obtain ⟨c113, h⟩ := h
      obtain ⟨z143, A144, q114, h⟩ := h
      have g115 : OT tb A0 A144 := g9.trans (OT.fk htb q114.2.2.1 rfl rfl)
      rcases h with h | h
      · obtain ⟨c116, c117, h⟩ := h
        rw [h]
        exact g115
      · obtain ⟨c118, h⟩ := h
        obtain ⟨z149, A150, q119, h⟩ := h
        have g120 : OT tb A0 A150 := g115.trans (hSS _ _ _ q119)
        rcases h with h | h
        · obtain ⟨c121, c122, h⟩ := h
          rw [h]
          exact g120
        · obtain ⟨c123, h⟩ := h
          obtain ⟨z155, A156, q124, h⟩ := h
          have g125 : OT tb A0 A156 := g120.trans (OT.fk htb q124.2.2.1 rfl rfl)
          rcases h with h | h
          · obtain ⟨c126, c127, h⟩ := h
            rw [h]
            exact g125
          · obtain ⟨c128, h⟩ := h
            obtain ⟨z162, A163, q129, h⟩ := h
            have g130 : OT tb A0 A163 := g125.trans (OT.fk htb q129.2.2.1 rfl rfl)
            obtain ⟨c131, h⟩ := h
            rw [h]
            exact g130
  · obtain ⟨c132, h⟩ := h
    obtain ⟨A168, q133, h⟩ := h
    have g134 : OT tb A0 A168 := g6.trans (OT.fk htb q133.2.2.1 rfl rfl)
    obtain ⟨z173, A174, q135, h⟩ := h
    have g136 : OT tb A0 A174 := ot_r_X8_add htb ht g134 q135.1
    obtain ⟨c137, h⟩ := h
    rw [h]
    exact g136
theorem ot_d_X5_readProduct_2 {tb : Nat} {K1 : Int → St → Prop} {SS : St → Int → St → Prop} {b : Nat} {ta : Nat} {z8 : Int} {z : Int} {u : St} {z38 : Int} {A40 : St} {A0 : St} (htb : isT tb) (ht : TE ta tb) (hSS : ∀ (A : St) (z : Int) (u : St), q_SS_sum SS A z u → OT tb A u) (hK : ∀ (k0 : Int) (k1 : St), OT tb A0 k1 → K1 k0 k1 → OT tb A0 u) (gA40 : OT tb A0 A40) (h : d_X5_readProduct_2 K1 SS b ta z8 z u z38 A40) : OT tb A0 u := by
  have ht := ht
  unfold TE at ht
  have h : tr_d_X5_readProduct_2 K1 SS b ta z8 z u z38 A40 := h
  obtain ⟨c153, c154, h⟩ := h
  obtain ⟨z45, A46, q155, h⟩ := h
  have g156 : OT tb A0 A46 := ot_r_X5_readPart htb ht hSS gA40 q155.1
  rcases h with h | h
  · obtain ⟨c157, c158, h⟩ := h
    rw [h]
    exact g156
  · obtain ⟨c159, h⟩ := h
    obtain ⟨z51, A52, q160, h⟩ := h
    have g161 : OT tb A0 A52 := ot_r_X8_add htb ht g156 q160.1
    rcases h with h | h
    · obtain ⟨c162, h⟩ := h
      exact hK _ _ g161 h
    · obtain ⟨c163, c164, h⟩ := h
      rw [h]
      exact g161
theorem ot_d_X5_readProduct_1 {tb : Nat} {SS : St → Int → St → Prop} {b : Nat} {ta : Nat} {z : Int} {u : St} {A0 : St} (htb : isT tb) (ht : TE ta tb) (hSS : ∀ (A : St) (z : Int) (u : St), q_SS_sum SS A z u → OT tb A u)  : ∀ (nn : Nat) (z8 : Int) (A10 : St), OT tb A0 A10 → d_X5_readProduct_1 SS b ta z u nn z8 A10 → OT tb A0 u := by
  have ht := ht
  unfold TE at ht
  intro nn
  induction nn with
  | zero => intro _ _ _ h; exact h.elim
  | succ nn hK =>
    intro z8 A10 gA10 h
    have h : tr_d_X5_readProduct_1 SS b ta z u (fun z8 A10 => d_X5_readProduct_1 SS b ta z u nn z8 A10) z8 A10 := h
    obtain ⟨c139, c140, h⟩ := h
    rcases h with h | h
    · obtain ⟨c141, c142, h⟩ := h
      rw [h]
      exact gA10
    · obtain ⟨c143, h⟩ := h
      obtain ⟨z19, A20, q144, h⟩ := h
      have g145 : OT tb A0 A20 := gA10.trans (OT.fk htb q144.2.2.1 rfl rfl)
      rcases h with h | h
      · obtain ⟨c146, h⟩ := h
        obtain ⟨z25, A26, q147, h⟩ := h
        have g148 : OT tb A0 A26 := g145.trans (OT.fk htb q147.2.2.1 rfl rfl)
        rcases h with h | h
        · obtain ⟨c149, h⟩ := h
          obtain ⟨z30, A31, q150, h⟩ := h
          have g151 : OT tb A0 A31 := g148.trans (OT.fk htb q150.2.2.1 rfl rfl)
          rcases h with h | h
          · obtain ⟨c152, h⟩ := h
            exact ot_d_X5_readProduct_2 htb ht hSS hK g151 h
          · obtain ⟨c165, c166, h⟩ := h
            rw [h]
            exact g151
        · obtain ⟨c167, h⟩ := h
          exact ot_d_X5_readProduct_2 htb ht hSS hK g148 h
      · obtain ⟨c168, h⟩ := h
        exact ot_d_X5_readProduct_2 htb ht hSS hK g145 h
theorem ot_r_X5_readProduct {tb : Nat} {SS : St → Int → St → Prop} {b : Nat} {ta : Nat} {A : St} {z : Int} {u : St} {A0 : St} (htb : isT tb) (ht : TE ta tb) (hSS : ∀ (A : St) (z : Int) (u : St), q_SS_sum SS A z u → OT tb A u) (gA : OT tb A0 A) (h : r_X5_readProduct SS b ta A z u) : OT tb A0 u := by
  have ht := ht
  unfold TE at ht
  have h : tr_r_X5_readProduct SS b ta A z u := h
  obtain ⟨z2, A3, q3, h⟩ := h
  have g4 : OT tb A0 A3 := ot_r_X5_readPart htb ht hSS gA q3.1
  rcases h with h | h
  · obtain ⟨c138, h⟩ := h
    obtain ⟨nn9, h⟩ := h
    exact ot_d_X5_readProduct_1 htb ht hSS  _ _ _ g4 h
  · obtain ⟨c169, c170, h⟩ := h
    rw [h]
    exact g4
theorem ot_d_X5_readSum_2 {tb : Nat} {K1 : Int → St → Prop} {SS : St → Int → St → Prop} {b : Nat} {ta : Nat} {z8 : Int} {z : Int} {u : St} {z32 : Int} {A34 : St} {A0 : St} (htb : isT tb) (ht : TE ta tb) (hSS : ∀ (A : St) (z : Int) (u : St), q_SS_sum SS A z u → OT tb A u) (hK : ∀ (k0 : Int) (k1 : St), OT tb A0 k1 → K1 k0 k1 → OT tb A0 u) (gA34 : OT tb A0 A34) (h : d_X5_readSum_2 K1 SS b ta z8 z u z32 A34) : OT tb A0 u := by
  have ht := ht
  unfold TE at ht
  have h : tr_d_X5_readSum_2 K1 SS b ta z8 z u z32 A34 := h
  obtain ⟨c183, c184, h⟩ := h
  obtain ⟨z39, A40, q185, h⟩ := h
  have g186 : OT tb A0 A40 := ot_r_X5_readProduct htb ht hSS gA34 q185.1
  rcases h with h | h
  · obtain ⟨c187, c188, h⟩ := h
    rw [h]
    exact g186
  · obtain ⟨c189, h⟩ := h
    obtain ⟨z45, A46, q190, h⟩ := h
    have g191 : OT tb A0 A46 := ot_r_X8_add htb ht g186 q190.1
    rcases h with h | h
    · obtain ⟨c192, h⟩ := h
      exact hK _ _ g191 h
    · obtain ⟨c193, c194, h⟩ := h
      rw [h]
      exact g191
theorem ot_d_X5_readSum_1 {tb : Nat} {SS : St → Int → St → Prop} {b : Nat} {ta : Nat} {z : Int} {u : St} {A0 : St} (htb : isT tb) (ht : TE ta tb) (hSS : ∀ (A : St) (z : Int) (u : St), q_SS_sum SS A z u → OT tb A u)  : ∀ (nn : Nat) (z8 : Int) (A10 : St), OT tb A0 A10 → d_X5_readSum_1 SS b ta z u nn z8 A10 → OT tb A0 u := by
  have ht := ht
  unfold TE at ht
  intro nn
  induction nn with
  | zero => intro _ _ _ h; exact h.elim
  | succ nn hK =>
    intro z8 A10 gA10 h
    have h : tr_d_X5_readSum_1 SS b ta z u (fun z8 A10 => d_X5_readSum_1 SS b ta z u nn z8 A10) z8 A10 := h
    obtain ⟨c172, c173, h⟩ := h
    rcases h with h | h
    · obtain ⟨c174, c175, h⟩ := h
      rw [h]
      exact gA10
    · obtain ⟨c176, h⟩ := h
      obtain ⟨z19, A20, q177, h⟩ := h
      have g178 : OT tb A0 A20 := gA10.trans (OT.fk htb q177.2.2.1 rfl rfl)
      rcases h with h | h
      · obtain ⟨c179, h⟩ := h
        obtain ⟨z25, A26, q180, h⟩ := h
        have g181 : OT tb A0 A26 := g178.trans (OT.fk htb q180.2.2.1 rfl rfl)
        rcases h with h | h
        · obtain ⟨c182, h⟩ := h
          exact ot_d_X5_readSum_2 htb ht hSS hK g181 h
        · obtain ⟨c195, c196, h⟩ := h
          rw [h]
          exact g181
      · obtain ⟨c197, h⟩ := h
        exact ot_d_X5_readSum_2 htb ht hSS hK g178 h
theorem ot_r_X5_readSum {tb : Nat} {SS : St → Int → St → Prop} {b : Nat} {ta : Nat} {A : St} {z : Int} {u : St} {A0 : St} (htb : isT tb) (ht : TE ta tb) (hSS : ∀ (A : St) (z : Int) (u : St), q_SS_sum SS A z u → OT tb A u) (gA : OT tb A0 A) (h : r_X5_readSum SS b ta A z u) : OT tb A0 u := by
  have ht := ht
  unfold TE at ht
  have h : tr_r_X5_readSum SS b ta A z u := h
  obtain ⟨z2, A3, q1, h⟩ := h
  have g2 : OT tb A0 A3 := ot_r_X5_readProduct htb ht hSS gA q1.1
  rcases h with h | h
  · obtain ⟨c171, h⟩ := h
    obtain ⟨nn9, h⟩ := h
    exact ot_d_X5_readSum_1 htb ht hSS  _ _ _ g2 h
  · obtain ⟨c198, c199, h⟩ := h
    rw [h]
    exact g2
theorem ot_rq_sum {tb ta : Nat} (htb : isT tb) (ht : TE ta tb) : ∀ (n : Nat) (A : St) (z : Int) (u : St), q_SS_sum (rq_sum ta n) A z u → OT tb A u
  | 0, A, z, u, hq => ot_r_X5_readSum htb ht (fun _ _ _ h => h.1.elim) OT.rf hq.1
  | n + 1, A, z, u, hq => ot_r_X5_readSum htb ht (fun A z u h => ot_rq_sum htb ht n A z u h) OT.rf hq.1
theorem ot_d_X5_readFact_9 {tb : Nat} {ta : Nat} {z2 : Int} {z : Int} {u : St} {z131 : Int} {A133 : St} {A0 : St} (htb : isT tb) (ht : TE ta tb) (gA133 : OT tb A0 A133) (h : d_X5_readFact_9 ta z2 z u z131 A133) : OT tb A0 u := by
  have ht := ht
  unfold TE at ht
  have h : tr_d_X5_readFact_9 ta z2 z u z131 A133 := h
  obtain ⟨c224, c225, h⟩ := h
  rcases h with h | h
  · obtain ⟨c226, c227, h⟩ := h
    rw [h]
    exact gA133
  · obtain ⟨c228, h⟩ := h
    rcases h with h | h
    · obtain ⟨c229, c230, h⟩ := h
      rw [h]
      exact gA133
    · obtain ⟨c231, h⟩ := h
      obtain ⟨z141, A142, q232, h⟩ := h
      have g233 : OT tb A0 A142 := ot_r_X8_add htb ht gA133 q232.1
      rcases h with h | h
      · obtain ⟨c234, c235, h⟩ := h
        rw [h]
        exact g233
      · obtain ⟨c236, c237, h⟩ := h
        rw [h]
        exact g233
theorem ot_d_X5_readFact_6 {tb : Nat} {ta : Nat} {z2 : Int} {z : Int} {u : St} {z77 : Int} {A79 : St} {A0 : St} (htb : isT tb) (ht : TE ta tb) (gA79 : OT tb A0 A79) (h : d_X5_readFact_6 ta z2 z u z77 A79) : OT tb A0 u := by
  have ht := ht
  unfold TE at ht
  have h : tr_d_X5_readFact_6 ta z2 z u z77 A79 := h
  obtain ⟨c222, c223, h⟩ := h
  exact ot_d_X5_readFact_9 htb ht  gA79 h
theorem ot_d_X5_readFact_5 {tb : Nat} {ta : Nat} {z2 : Int} {z : Int} {u : St} {A75 : St} {A0 : St} (htb : isT tb) (ht : TE ta tb) (gA75 : OT tb A0 A75) (h : d_X5_readFact_5 ta z2 z u A75) : OT tb A0 u := by
  have ht := ht
  unfold TE at ht
  have h : tr_d_X5_readFact_5 ta z2 z u A75 := h
  obtain ⟨c221, h⟩ := h
  exact ot_d_X5_readFact_6 htb ht  gA75 h
theorem ot_d_X5_readFact_4 {tb : Nat} {b : Nat} {ta : Nat} {z2 : Int} {z : Int} {u : St} {z53 : Int} {A55 : St} {A0 : St} (htb : isT tb) (ht : TE ta tb) (gA55 : OT tb A0 A55) (h : d_X5_readFact_4 b ta z2 z u z53 A55) : OT tb A0 u := by
  have ht := ht
  unfold TE at ht
  have h : tr_d_X5_readFact_4 b ta z2 z u z53 A55 := h
  obtain ⟨c218, c219, h⟩ := h
  rcases h with h | h
  · obtain ⟨c220, h⟩ := h
    exact ot_d_X5_readFact_5 htb ht  gA55 h
  · obtain ⟨c238, h⟩ := h
    obtain ⟨z63, A64, q239, h⟩ := h
    have g240 : OT tb A0 A64 := gA55.trans (ot_rq_sum htb ht _ _ _ _ q239)
    rcases h with h | h
    · obtain ⟨c241, h⟩ := h
      exact ot_d_X5_readFact_5 htb ht  g240 h
    · obtain ⟨c242, h⟩ := h
      obtain ⟨z69, A70, q243, h⟩ := h
      have g244 : OT tb A0 A70 := ot_r_X8_add htb ht g240 q243.1
      rcases h with h | h
      · obtain ⟨c245, h⟩ := h
        exact ot_d_X5_readFact_5 htb ht  g244 h
      · obtain ⟨c246, h⟩ := h
        exact ot_d_X5_readFact_6 htb ht  g244 h
theorem ot_d_X5_readFact_8 {tb : Nat} {ta : Nat} {z2 : Int} {z : Int} {u : St} {z120 : Int} {A122 : St} {A0 : St} (htb : isT tb) (ht : TE ta tb) (gA122 : OT tb A0 A122) (h : d_X5_readFact_8 ta z2 z u z120 A122) : OT tb A0 u := by
  have ht := ht
  unfold TE at ht
  have h : tr_d_X5_readFact_8 ta z2 z u z120 A122 := h
  obtain ⟨c255, c256, h⟩ := h
  exact ot_d_X5_readFact_9 htb ht  gA122 h
theorem ot_d_X5_readFact_7 {tb : Nat} {ta : Nat} {z2 : Int} {z : Int} {u : St} {A118 : St} {A0 : St} (htb : isT tb) (ht : TE ta tb) (gA118 : OT tb A0 A118) (h : d_X5_readFact_7 ta z2 z u A118) : OT tb A0 u := by
  have ht := ht
  unfold TE at ht
  have h : tr_d_X5_readFact_7 ta z2 z u A118 := h
  obtain ⟨c254, h⟩ := h
  exact ot_d_X5_readFact_8 htb ht  gA118 h
theorem ot_d_X5_readFact_3 {tb : Nat} {SS : St → Int → St → Prop} {b : Nat} {ta : Nat} {z2 : Int} {z : Int} {u : St} {A24 : St} {A0 : St} (htb : isT tb) (ht : TE ta tb) (hSS : ∀ (A : St) (z : Int) (u : St), q_SS_test SS A z u → OT tb A u) (gA24 : OT tb A0 A24) (h : d_X5_readFact_3 SS b ta z2 z u A24) : OT tb A0 u := by
  have ht := ht
  unfold TE at ht
  have h : tr_d_X5_readFact_3 SS b ta z2 z u A24 := h
  obtain ⟨c208, h⟩ := h
  obtain ⟨z26, A27, q209, h⟩ := h
  have g210 : OT tb A0 A27 := gA24.trans (OT.fk htb q209.2.2.1 rfl rfl)
  rcases h with h | h
  · obtain ⟨c211, h⟩ := h
    obtain ⟨z32, A33, q212, h⟩ := h
    have g213 : OT tb A0 A33 := g210.trans (OT.fk htb q212.2.2.1 rfl rfl)
    rcases h with h | h
    · obtain ⟨c214, h⟩ := h
      obtain ⟨z42, A43, q215, h⟩ := h
      have g216 : OT tb A0 A43 := g213.trans (ot_rq_sum htb ht _ _ _ _ q215)
      rcases h with h | h
      · obtain ⟨c217, h⟩ := h
        exact ot_d_X5_readFact_4 htb ht  g216 h
      · obtain ⟨c247, h⟩ := h
        obtain ⟨z49, A50, q248, h⟩ := h
        have g249 : OT tb A0 A50 := g216.trans (OT.fk htb q248.2.2.1 rfl rfl)
        exact ot_d_X5_readFact_4 htb ht  g249 h
    · obtain ⟨c250, h⟩ := h
      obtain ⟨z91, A92, q251, h⟩ := h
      have g252 : OT tb A0 A92 := g213.trans (OT.fk htb q251.2.2.1 rfl rfl)
      rcases h with h | h
      · obtain ⟨c253, h⟩ := h
        exact ot_d_X5_readFact_7 htb ht  g252 h
      · obtain ⟨c257, h⟩ := h
        obtain ⟨z99, A100, q258, h⟩ := h
        have g259 : OT tb A0 A100 := g252.trans (hSS _ _ _ q258)
        rcases h with h | h
        · obtain ⟨c260, h⟩ := h
          exact ot_d_X5_readFact_7 htb ht  g259 h
        · obtain ⟨c261, h⟩ := h
          obtain ⟨z105, A106, q262, h⟩ := h
          have g263 : OT tb A0 A106 := g259.trans (OT.fk htb q262.2.2.1 rfl rfl)
          rcases h with h | h
          · obtain ⟨c264, h⟩ := h
            exact ot_d_X5_readFact_7 htb ht  g263 h
          · obtain ⟨c265, h⟩ := h
            obtain ⟨z111, A112, q266, h⟩ := h
            have g267 : OT tb A0 A112 := g263.trans (OT.fk htb q266.2.2.1 rfl rfl)
            exact ot_d_X5_readFact_8 htb ht  g267 h
  · obtain ⟨c268, h⟩ := h
    obtain ⟨z127, A128, q269, h⟩ := h
    have g270 : OT tb A0 A128 := ot_r_X8_add htb ht g210 q269.1
    exact ot_d_X5_readFact_9 htb ht  g270 h
theorem ot_d_X5_readFact_2 {tb : Nat} {K1 : Int → Int → St → Prop} {z1 : Int} {A14 : St} {z : Int} {u : St} {z20 : Int} {A0 : St} (htb : isT tb) (hK : ∀ (k0 : Int) (k1 : Int) (k2 : St), OT tb A0 k2 → K1 k0 k1 k2 → OT tb A0 u) (gA14 : OT tb A0 A14) (h : d_X5_readFact_2 K1 z1 A14 z u z20) : OT tb A0 u := by
  have h : tr_d_X5_readFact_2 K1 z1 A14 z u z20 := h
  obtain ⟨c277, h⟩ := h
  exact hK _ _ _ gA14 h
theorem ot_d_X5_readFact_1 {tb : Nat} {SS : St → Int → St → Prop} {b : Nat} {ta : Nat} {z : Int} {u : St} {A0 : St} (htb : isT tb) (ht : TE ta tb) (hSS : ∀ (A : St) (z : Int) (u : St), q_SS_test SS A z u → OT tb A u)  : ∀ (nn : Nat) (z1 : Int) (z2 : Int) (A4 : St), OT tb A0 A4 → d_X5_readFact_1 SS b ta z u nn z1 z2 A4 → OT tb A0 u := by
  have ht := ht
  unfold TE at ht
  intro nn
  induction nn with
  | zero => intro _ _ _ _ h; exact h.elim
  | succ nn hK =>
    intro z1 z2 A4 gA4 h
    have h : tr_d_X5_readFact_1 SS b ta z u (fun z1 z2 A4 => d_X5_readFact_1 SS b ta z u nn z1 z2 A4) z1 z2 A4 := h
    obtain ⟨c204, c205, c206, h⟩ := h
    rcases h with h | h
    · obtain ⟨c207, h⟩ := h
      exact ot_d_X5_readFact_3 htb ht hSS  gA4 h
    · obtain ⟨c271, h⟩ := h
      obtain ⟨z13, A14, q272, h⟩ := h
      have g273 : OT tb A0 A14 := gA4.trans (OT.fk htb q272.2.2.1 rfl rfl)
      rcases h with h | h
      · obtain ⟨c274, h⟩ := h
        exact ot_d_X5_readFact_3 htb ht hSS  g273 h
      · obtain ⟨c275, h⟩ := h
        rcases h with h | h
        · obtain ⟨c276, h⟩ := h
          exact ot_d_X5_readFact_2 htb hK g273 h
        · obtain ⟨c278, h⟩ := h
          exact ot_d_X5_readFact_2 htb hK g273 h
theorem ot_r_X5_readFact {tb : Nat} {SS : St → Int → St → Prop} {b : Nat} {ta : Nat} {A : St} {z : Int} {u : St} {A0 : St} (htb : isT tb) (ht : TE ta tb) (hSS : ∀ (A : St) (z : Int) (u : St), q_SS_test SS A z u → OT tb A u) (gA : OT tb A0 A) (h : r_X5_readFact SS b ta A z u) : OT tb A0 u := by
  have ht := ht
  unfold TE at ht
  have h : tr_r_X5_readFact SS b ta A z u := h
  obtain ⟨nn9, h⟩ := h
  exact ot_d_X5_readFact_1 htb ht hSS  _ _ _ _ gA h
theorem ot_d_X5_readBoth_1 {tb : Nat} {SS : St → Int → St → Prop} {b : Nat} {ta : Nat} {z : Int} {u : St} {A0 : St} (htb : isT tb) (ht : TE ta tb) (hSS : ∀ (A : St) (z : Int) (u : St), q_SS_test SS A z u → OT tb A u)  : ∀ (nn : Nat) (z8 : Int) (A10 : St), OT tb A0 A10 → d_X5_readBoth_1 SS b ta z u nn z8 A10 → OT tb A0 u := by
  have ht := ht
  unfold TE at ht
  intro nn
  induction nn with
  | zero => intro _ _ _ h; exact h.elim
  | succ nn hK =>
    intro z8 A10 gA10 h
    have h : tr_d_X5_readBoth_1 SS b ta z u (fun z8 A10 => d_X5_readBoth_1 SS b ta z u nn z8 A10) z8 A10 := h
    obtain ⟨c280, c281, h⟩ := h
    rcases h with h | h
    · obtain ⟨c282, c283, h⟩ := h
      rw [h]
      exact gA10
    · obtain ⟨c284, h⟩ := h
      obtain ⟨z19, A20, q285, h⟩ := h
      have g286 : OT tb A0 A20 := gA10.trans (OT.fk htb q285.2.2.1 rfl rfl)
      rcases h with h | h
      · obtain ⟨c287, c288, h⟩ := h
        rw [h]
        exact g286
      · obtain ⟨c289, h⟩ := h
        obtain ⟨z26, A27, q290, h⟩ := h
        have g291 : OT tb A0 A27 := ot_r_X5_readFact htb ht hSS g286 q290.1
        rcases h with h | h
        · obtain ⟨c292, c293, h⟩ := h
          rw [h]
          exact g291
        · obtain ⟨c294, h⟩ := h
          obtain ⟨z32, A33, q295, h⟩ := h
          have g296 : OT tb A0 A33 := ot_r_X8_add htb ht g291 q295.1
          rcases h with h | h
          · obtain ⟨c297, h⟩ := h
            exact hK _ _ g296 h
          · obtain ⟨c298, c299, h⟩ := h
            rw [h]
            exact g296
theorem ot_r_X5_readBoth {tb : Nat} {SS : St → Int → St → Prop} {b : Nat} {ta : Nat} {A : St} {z : Int} {u : St} {A0 : St} (htb : isT tb) (ht : TE ta tb) (hSS : ∀ (A : St) (z : Int) (u : St), q_SS_test SS A z u → OT tb A u) (gA : OT tb A0 A) (h : r_X5_readBoth SS b ta A z u) : OT tb A0 u := by
  have ht := ht
  unfold TE at ht
  have h : tr_r_X5_readBoth SS b ta A z u := h
  obtain ⟨z2, A3, q202, h⟩ := h
  have g203 : OT tb A0 A3 := ot_r_X5_readFact htb ht hSS gA q202.1
  rcases h with h | h
  · obtain ⟨c279, h⟩ := h
    obtain ⟨nn9, h⟩ := h
    exact ot_d_X5_readBoth_1 htb ht hSS  _ _ _ g203 h
  · obtain ⟨c300, c301, h⟩ := h
    rw [h]
    exact g203
theorem ot_d_X5_readTest_1 {tb : Nat} {SS : St → Int → St → Prop} {b : Nat} {ta : Nat} {z : Int} {u : St} {A0 : St} (htb : isT tb) (ht : TE ta tb) (hSS : ∀ (A : St) (z : Int) (u : St), q_SS_test SS A z u → OT tb A u)  : ∀ (nn : Nat) (z8 : Int) (A10 : St), OT tb A0 A10 → d_X5_readTest_1 SS b ta z u nn z8 A10 → OT tb A0 u := by
  have ht := ht
  unfold TE at ht
  intro nn
  induction nn with
  | zero => intro _ _ _ h; exact h.elim
  | succ nn hK =>
    intro z8 A10 gA10 h
    have h : tr_d_X5_readTest_1 SS b ta z u (fun z8 A10 => d_X5_readTest_1 SS b ta z u nn z8 A10) z8 A10 := h
    obtain ⟨c303, c304, h⟩ := h
    rcases h with h | h
    · obtain ⟨c305, c306, h⟩ := h
      rw [h]
      exact gA10
    · obtain ⟨c307, h⟩ := h
      obtain ⟨z19, A20, q308, h⟩ := h
      have g309 : OT tb A0 A20 := gA10.trans (OT.fk htb q308.2.2.1 rfl rfl)
      rcases h with h | h
      · obtain ⟨c310, c311, h⟩ := h
        rw [h]
        exact g309
      · obtain ⟨c312, h⟩ := h
        obtain ⟨z26, A27, q313, h⟩ := h
        have g314 : OT tb A0 A27 := ot_r_X5_readBoth htb ht hSS g309 q313.1
        rcases h with h | h
        · obtain ⟨c315, c316, h⟩ := h
          rw [h]
          exact g314
        · obtain ⟨c317, h⟩ := h
          obtain ⟨z32, A33, q318, h⟩ := h
          have g319 : OT tb A0 A33 := ot_r_X8_add htb ht g314 q318.1
          rcases h with h | h
          · obtain ⟨c320, h⟩ := h
            exact hK _ _ g319 h
          · obtain ⟨c321, c322, h⟩ := h
            rw [h]
            exact g319
theorem ot_r_X5_readTest {tb : Nat} {SS : St → Int → St → Prop} {b : Nat} {ta : Nat} {A : St} {z : Int} {u : St} {A0 : St} (htb : isT tb) (ht : TE ta tb) (hSS : ∀ (A : St) (z : Int) (u : St), q_SS_test SS A z u → OT tb A u) (gA : OT tb A0 A) (h : r_X5_readTest SS b ta A z u) : OT tb A0 u := by
  have ht := ht
  unfold TE at ht
  have h : tr_r_X5_readTest SS b ta A z u := h
  obtain ⟨z2, A3, q200, h⟩ := h
  have g201 : OT tb A0 A3 := ot_r_X5_readBoth htb ht hSS gA q200.1
  rcases h with h | h
  · obtain ⟨c302, h⟩ := h
    obtain ⟨nn9, h⟩ := h
    exact ot_d_X5_readTest_1 htb ht hSS  _ _ _ g201 h
  · obtain ⟨c323, c324, h⟩ := h
    rw [h]
    exact g201
theorem ot_rq_test {tb ta : Nat} (htb : isT tb) (ht : TE ta tb) : ∀ (n : Nat) (A : St) (z : Int) (u : St), q_SS_test (rq_test ta n) A z u → OT tb A u
  | 0, A, z, u, hq => ot_r_X5_readTest htb ht (fun _ _ _ h => h.1.elim) OT.rf hq.1
  | n + 1, A, z, u, hq => ot_r_X5_readTest htb ht (fun A z u h => ot_rq_test htb ht n A z u h) OT.rf hq.1
theorem ot_d_X9_clear_3 {tb : Nat} {ta : Nat} {u : St} {A0 : St} (htb : isT tb) (ht : TT ta tb)  : ∀ (nn : Nat) (z19 : Int) (A21 : St), OT tb A0 A21 → d_X9_clear_3 ta u nn z19 A21 → OT tb A0 u := by
  have ht := ht
  unfold TT at ht
  intro nn
  induction nn with
  | zero => intro _ _ _ h; exact h.elim
  | succ nn hK =>
    intro z19 A21 gA21 h
    have h : tr_d_X9_clear_3 ta u (fun z19 A21 => d_X9_clear_3 ta u nn z19 A21) z19 A21 := h
    obtain ⟨c333, c334, h⟩ := h
    rcases h with h | h
    · obtain ⟨c335, h⟩ := h
      obtain ⟨A28, q336, h⟩ := h
      have g337 : OT tb A0 A28 := by rw [q336]; exact (OT.st gA21 (by clear h; omega))
      obtain ⟨A29, q338, h⟩ := h
      have g339 : OT tb A0 A29 := by rw [q338]; exact (OT.st g337 (by clear h; omega))
      rw [h]
      exact g339
    · obtain ⟨c340, h⟩ := h
      obtain ⟨A30, q341, h⟩ := h
      have g342 : OT tb A0 A30 := by rw [q341]; exact (OT.st gA21 (by clear h; omega))
      exact hK _ _ g342 h
theorem ot_d_X9_clear_2 {tb : Nat} {ta : Nat} {u : St} {A0 : St} (htb : isT tb) (ht : TT ta tb)  : ∀ (nn : Nat) (z10 : Int) (A12 : St), OT tb A0 A12 → d_X9_clear_2 ta u nn z10 A12 → OT tb A0 u := by
  have ht := ht
  unfold TT at ht
  intro nn
  induction nn with
  | zero => intro _ _ _ h; exact h.elim
  | succ nn hK =>
    intro z10 A12 gA12 h
    have h : tr_d_X9_clear_2 ta u (fun z10 A12 => d_X9_clear_2 ta u nn z10 A12) z10 A12 := h
    obtain ⟨c330, c331, h⟩ := h
    rcases h with h | h
    · obtain ⟨c332, h⟩ := h
      obtain ⟨nn9, h⟩ := h
      exact ot_d_X9_clear_3 htb ht  _ _ _ gA12 h
    · obtain ⟨c343, h⟩ := h
      obtain ⟨A31, q344, h⟩ := h
      have g345 : OT tb A0 A31 := by rw [q344]; exact (OT.st gA12 (by clear h; omega))
      exact hK _ _ g345 h
theorem ot_d_X9_clear_1 {tb : Nat} {ta : Nat} {u : St} {A0 : St} (htb : isT tb) (ht : TT ta tb)  : ∀ (nn : Nat) (z1 : Int) (A3 : St), OT tb A0 A3 → d_X9_clear_1 ta u nn z1 A3 → OT tb A0 u := by
  have ht := ht
  unfold TT at ht
  intro nn
  induction nn with
  | zero => intro _ _ _ h; exact h.elim
  | succ nn hK =>
    intro z1 A3 gA3 h
    have h : tr_d_X9_clear_1 ta u (fun z1 A3 => d_X9_clear_1 ta u nn z1 A3) z1 A3 := h
    obtain ⟨c327, c328, h⟩ := h
    rcases h with h | h
    · obtain ⟨c329, h⟩ := h
      obtain ⟨nn9, h⟩ := h
      exact ot_d_X9_clear_2 htb ht  _ _ _ gA3 h
    · obtain ⟨c346, h⟩ := h
      obtain ⟨A32, q347, h⟩ := h
      have g348 : OT tb A0 A32 := by rw [q347]; exact (OT.st gA3 (by clear h; omega))
      exact hK _ _ g348 h
theorem ot_r_X9_clear {tb : Nat} {ta : Nat} {A : St} {u : St} {A0 : St} (htb : isT tb) (ht : TT ta tb) (gA : OT tb A0 A) (h : r_X9_clear ta A u) : OT tb A0 u := by
  have ht := ht
  unfold TT at ht
  have h : tr_r_X9_clear ta A u := h
  obtain ⟨nn9, h⟩ := h
  exact ot_d_X9_clear_1 htb ht  _ _ _ gA h
theorem ot_d_X5_readTown_2 {tb : Nat} {K1 : Int → St → Prop} {z9 : Int} {z : Int} {u : St} {z84 : Int} {A86 : St} {A0 : St} (htb : isT tb) (hK : ∀ (k0 : Int) (k1 : St), OT tb A0 k1 → K1 k0 k1 → OT tb A0 u) (gA86 : OT tb A0 A86) (h : d_X5_readTown_2 K1 z9 z u z84 A86) : OT tb A0 u := by
  have h : tr_d_X5_readTown_2 K1 z9 z u z84 A86 := h
  obtain ⟨c366, c367, h⟩ := h
  rcases h with h | h
  · obtain ⟨c368, c369, h⟩ := h
    rw [h]
    exact gA86
  · obtain ⟨c370, h⟩ := h
    obtain ⟨z90, A91, q371, h⟩ := h
    have g372 : OT tb A0 A91 := gA86.trans (OT.fk htb q371.2.2.1 rfl rfl)
    rcases h with h | h
    · obtain ⟨c373, h⟩ := h
      exact hK _ _ g372 h
    · obtain ⟨c374, c375, h⟩ := h
      rw [h]
      exact g372
theorem ot_r_X9_add_1_0 {tb : Nat} {ta : Nat} {x2 : Int} {A : St} {z : Int} {u : St} {A0 : St} (htb : isT tb) (ht : TT ta tb) (gA : OT tb A0 A) (h : r_X9_add_1_0 ta x2 A z u) : OT tb A0 u := by
  have ht := ht
  unfold TT at ht
  have h : tr_r_X9_add_1_0 ta x2 A z u := h
  rcases h with h | h
  · obtain ⟨c381, c382, h⟩ := h
    rw [h]
    exact gA
  · obtain ⟨c383, h⟩ := h
    obtain ⟨z4, q384, h⟩ := h
    rcases h with h | h
    · obtain ⟨c385, h⟩ := h
      obtain ⟨A8, q386, h⟩ := h
      have g387 : OT tb A0 A8 := by rw [q386]; exact (OT.st gA (by clear h; omega))
      obtain ⟨A11, q388, h⟩ := h
      have g389 : OT tb A0 A11 := by rw [q388]; exact (OT.st g387 (by clear h; omega))
      obtain ⟨c390, h⟩ := h
      rw [h]
      exact g389
    · obtain ⟨c391, c392, h⟩ := h
      rw [h]
      exact gA
theorem ot_r_X9_add_1_1 {tb : Nat} {ta : Nat} {x2 : Int} {A : St} {z : Int} {u : St} {A0 : St} (htb : isT tb) (ht : TT ta tb) (gA : OT tb A0 A) (h : r_X9_add_1_1 ta x2 A z u) : OT tb A0 u := by
  have ht := ht
  unfold TT at ht
  have h : tr_r_X9_add_1_1 ta x2 A z u := h
  rcases h with h | h
  · obtain ⟨c419, c420, h⟩ := h
    rw [h]
    exact gA
  · obtain ⟨c421, h⟩ := h
    obtain ⟨z4, q422, h⟩ := h
    rcases h with h | h
    · obtain ⟨c423, h⟩ := h
      obtain ⟨A8, q424, h⟩ := h
      have g425 : OT tb A0 A8 := by rw [q424]; exact (OT.st gA (by clear h; omega))
      obtain ⟨A11, q426, h⟩ := h
      have g427 : OT tb A0 A11 := by rw [q426]; exact (OT.st g425 (by clear h; omega))
      obtain ⟨c428, h⟩ := h
      rw [h]
      exact g427
    · obtain ⟨c429, c430, h⟩ := h
      rw [h]
      exact gA
theorem ot_r_X9_addDoor {tb : Nat} {ta : Nat} {x1 : Int} {x2 : Int} {x3 : Int} {x4 : Int} {A : St} {z : Int} {u : St} {A0 : St} (htb : isT tb) (ht : TT ta tb) (gA : OT tb A0 A) (h : r_X9_addDoor ta x1 x2 x3 x4 A z u) : OT tb A0 u := by
  have ht := ht
  unfold TT at ht
  have h : tr_r_X9_addDoor ta x1 x2 x3 x4 A z u := h
  obtain ⟨z1, A2, q417, h⟩ := h
  have g418 : OT tb A0 A2 := ot_r_X9_add_1_1 htb ht gA q417.1
  rcases h with h | h
  · obtain ⟨c431, h⟩ := h
    obtain ⟨z6, q432, h⟩ := h
    obtain ⟨A7, q433, h⟩ := h
    have g434 : OT tb A0 A7 := by rw [q433]; exact (OT.st g418 (by clear h; omega))
    obtain ⟨A8, q435, h⟩ := h
    have g436 : OT tb A0 A8 := by rw [q435]; exact (OT.st g434 (by clear h; omega))
    obtain ⟨A9, q437, h⟩ := h
    have g438 : OT tb A0 A9 := by rw [q437]; exact (OT.st g436 (by clear h; omega))
    obtain ⟨c439, h⟩ := h
    rw [h]
    exact g438
  · obtain ⟨c440, c441, h⟩ := h
    rw [h]
    exact g418
theorem ot_d_X5_readDoor_2 {tb : Nat} {ta : Nat} {z1 : Int} {z11 : Int} {z : Int} {u : St} {z22 : Int} {A24 : St} {A0 : St} (htb : isT tb) (ht : TT ta tb) (gA24 : OT tb A0 A24) (h : d_X5_readDoor_2 ta z1 z11 z u z22 A24) : OT tb A0 u := by
  have ht := ht
  unfold TT at ht
  have h : tr_d_X5_readDoor_2 ta z1 z11 z u z22 A24 := h
  obtain ⟨c406, c407, h⟩ := h
  rcases h with h | h
  · obtain ⟨c408, h⟩ := h
    rcases h with h | h
    · obtain ⟨c409, h⟩ := h
      obtain ⟨z29, A30, q410, h⟩ := h
      have g411 : OT tb A0 A30 := gA24.trans (OT.fk htb q410.2.2.1 rfl rfl)
      rcases h with h | h
      · obtain ⟨c412, c413, h⟩ := h
        rw [h]
        exact g411
      · obtain ⟨c414, h⟩ := h
        obtain ⟨z34, A35, q415, h⟩ := h
        have g416 : OT tb A0 A35 := ot_r_X9_addDoor htb ht g411 q415.1
        rcases h with h | h
        · obtain ⟨c442, c443, h⟩ := h
          rw [h]
          exact g416
        · obtain ⟨c444, c445, h⟩ := h
          rw [h]
          exact g416
    · obtain ⟨c446, h⟩ := h
      obtain ⟨z39, A40, q447, h⟩ := h
      have g448 : OT tb A0 A40 := gA24.trans (OT.fk htb q447.2.2.1 rfl rfl)
      obtain ⟨c449, h⟩ := h
      rw [h]
      exact g448
  · obtain ⟨c450, c451, h⟩ := h
    rw [h]
    exact gA24
theorem ot_d_X5_readDoor_1 {tb : Nat} {ta : Nat} {z1 : Int} {z : Int} {u : St} {z11 : Int} {A13 : St} {A0 : St} (htb : isT tb) (ht : TT ta tb) (gA13 : OT tb A0 A13) (h : d_X5_readDoor_1 ta z1 z u z11 A13) : OT tb A0 u := by
  have ht := ht
  unfold TT at ht
  have h : tr_d_X5_readDoor_1 ta z1 z u z11 A13 := h
  obtain ⟨c401, c402, h⟩ := h
  rcases h with h | h
  · obtain ⟨c403, h⟩ := h
    obtain ⟨z18, A19, q404, h⟩ := h
    have g405 : OT tb A0 A19 := gA13.trans (OT.fk htb q404.2.2.1 rfl rfl)
    exact ot_d_X5_readDoor_2 htb ht  g405 h
  · obtain ⟨c452, h⟩ := h
    exact ot_d_X5_readDoor_2 htb ht  gA13 h
theorem ot_r_X5_readDoor {tb : Nat} {ta : Nat} {A : St} {z : Int} {u : St} {A0 : St} (htb : isT tb) (ht : TT ta tb) (gA : OT tb A0 A) (h : r_X5_readDoor ta A z u) : OT tb A0 u := by
  have ht := ht
  unfold TT at ht
  have h : tr_r_X5_readDoor ta A z u := h
  obtain ⟨z1, A2, q396, h⟩ := h
  have g397 : OT tb A0 A2 := gA.trans (OT.fk htb q396.2.2.1 rfl rfl)
  rcases h with h | h
  · obtain ⟨c398, h⟩ := h
    obtain ⟨z7, A8, q399, h⟩ := h
    have g400 : OT tb A0 A8 := g397.trans (OT.fk htb q399.2.2.1 rfl rfl)
    exact ot_d_X5_readDoor_1 htb ht  g400 h
  · obtain ⟨c453, h⟩ := h
    exact ot_d_X5_readDoor_1 htb ht  g397 h
theorem ot_r_X5_readBox {tb : Nat} {ta : Nat} {A : St} {z : Int} {u : St} {A0 : St} (htb : isT tb) (ht : TT ta tb) (gA : OT tb A0 A) (h : r_X5_readBox ta A z u) : OT tb A0 u := by
  have ht := ht
  unfold TT at ht
  have h : tr_r_X5_readBox ta A z u := h
  obtain ⟨z1, A2, q457, h⟩ := h
  have g458 : OT tb A0 A2 := gA.trans (OT.fk htb q457.2.2.1 rfl rfl)
  rcases h with h | h
  · obtain ⟨c459, c460, h⟩ := h
    rw [h]
    exact g458
  · obtain ⟨c461, h⟩ := h
    obtain ⟨z6, A7, q462, h⟩ := h
    have g463 : OT tb A0 A7 := g458.trans (OT.fk htb q462.2.2.1 rfl rfl)
    rcases h with h | h
    · obtain ⟨c464, h⟩ := h
      obtain ⟨z11, A12, q465, h⟩ := h
      have g466 : OT tb A0 A12 := g463.trans (OT.fk htb q465.2.2.1 rfl rfl)
      rcases h with h | h
      · obtain ⟨c467, c468, h⟩ := h
        rw [h]
        exact g466
      · obtain ⟨c469, h⟩ := h
        obtain ⟨z16, A17, q470, h⟩ := h
        have g471 : OT tb A0 A17 := ot_r_X9_addDoor htb ht g466 q470.1
        rcases h with h | h
        · obtain ⟨c472, c473, h⟩ := h
          rw [h]
          exact g471
        · obtain ⟨c474, c475, h⟩ := h
          rw [h]
          exact g471
    · obtain ⟨c476, c477, h⟩ := h
      rw [h]
      exact g463
theorem ot_r_X9_add_1_2 {tb : Nat} {ta : Nat} {x2 : Int} {A : St} {z : Int} {u : St} {A0 : St} (htb : isT tb) (ht : TT ta tb) (gA : OT tb A0 A) (h : r_X9_add_1_2 ta x2 A z u) : OT tb A0 u := by
  have ht := ht
  unfold TT at ht
  have h : tr_r_X9_add_1_2 ta x2 A z u := h
  rcases h with h | h
  · obtain ⟨c498, c499, h⟩ := h
    rw [h]
    exact gA
  · obtain ⟨c500, h⟩ := h
    obtain ⟨z4, q501, h⟩ := h
    rcases h with h | h
    · obtain ⟨c502, h⟩ := h
      obtain ⟨A8, q503, h⟩ := h
      have g504 : OT tb A0 A8 := by rw [q503]; exact (OT.st gA (by clear h; omega))
      obtain ⟨A11, q505, h⟩ := h
      have g506 : OT tb A0 A11 := by rw [q505]; exact (OT.st g504 (by clear h; omega))
      obtain ⟨c507, h⟩ := h
      rw [h]
      exact g506
    · obtain ⟨c508, c509, h⟩ := h
      rw [h]
      exact gA
theorem ot_r_X9_addKey {tb : Nat} {ta : Nat} {x1 : Int} {x2 : Int} {A : St} {z : Int} {u : St} {A0 : St} (htb : isT tb) (ht : TT ta tb) (gA : OT tb A0 A) (h : r_X9_addKey ta x1 x2 A z u) : OT tb A0 u := by
  have ht := ht
  unfold TT at ht
  have h : tr_r_X9_addKey ta x1 x2 A z u := h
  obtain ⟨z1, A2, q496, h⟩ := h
  have g497 : OT tb A0 A2 := ot_r_X9_add_1_2 htb ht gA q496.1
  rcases h with h | h
  · obtain ⟨c510, h⟩ := h
    obtain ⟨z6, q511, h⟩ := h
    obtain ⟨A7, q512, h⟩ := h
    have g513 : OT tb A0 A7 := by rw [q512]; exact (OT.st g497 (by clear h; omega))
    obtain ⟨c514, h⟩ := h
    rw [h]
    exact g513
  · obtain ⟨c515, c516, h⟩ := h
    rw [h]
    exact g497
theorem ot_r_X5_readKey {tb : Nat} {ta : Nat} {A : St} {z : Int} {u : St} {A0 : St} (htb : isT tb) (ht : TT ta tb) (gA : OT tb A0 A) (h : r_X5_readKey ta A z u) : OT tb A0 u := by
  have ht := ht
  unfold TT at ht
  have h : tr_r_X5_readKey ta A z u := h
  obtain ⟨z1, A2, q481, h⟩ := h
  have g482 : OT tb A0 A2 := gA.trans (OT.fk htb q481.2.2.1 rfl rfl)
  rcases h with h | h
  · obtain ⟨c483, c484, h⟩ := h
    rw [h]
    exact g482
  · obtain ⟨c485, h⟩ := h
    obtain ⟨z6, A7, q486, h⟩ := h
    have g487 : OT tb A0 A7 := g482.trans (OT.fk htb q486.2.2.1 rfl rfl)
    rcases h with h | h
    · obtain ⟨c488, h⟩ := h
      obtain ⟨z11, A12, q489, h⟩ := h
      have g490 : OT tb A0 A12 := g487.trans (OT.fk htb q489.2.2.1 rfl rfl)
      rcases h with h | h
      · obtain ⟨c491, c492, h⟩ := h
        rw [h]
        exact g490
      · obtain ⟨c493, h⟩ := h
        obtain ⟨z16, A17, q494, h⟩ := h
        have g495 : OT tb A0 A17 := ot_r_X9_addKey htb ht g490 q494.1
        rcases h with h | h
        · obtain ⟨c517, c518, h⟩ := h
          rw [h]
          exact g495
        · obtain ⟨c519, c520, h⟩ := h
          rw [h]
          exact g495
    · obtain ⟨c521, c522, h⟩ := h
      rw [h]
      exact g487
theorem ot_r_X9_add_1_3 {tb : Nat} {ta : Nat} {x2 : Int} {A : St} {z : Int} {u : St} {A0 : St} (htb : isT tb) (ht : TT ta tb) (gA : OT tb A0 A) (h : r_X9_add_1_3 ta x2 A z u) : OT tb A0 u := by
  have ht := ht
  unfold TT at ht
  have h : tr_r_X9_add_1_3 ta x2 A z u := h
  rcases h with h | h
  · obtain ⟨c543, c544, h⟩ := h
    rw [h]
    exact gA
  · obtain ⟨c545, h⟩ := h
    obtain ⟨z4, q546, h⟩ := h
    rcases h with h | h
    · obtain ⟨c547, h⟩ := h
      obtain ⟨A8, q548, h⟩ := h
      have g549 : OT tb A0 A8 := by rw [q548]; exact (OT.st gA (by clear h; omega))
      obtain ⟨A11, q550, h⟩ := h
      have g551 : OT tb A0 A11 := by rw [q550]; exact (OT.st g549 (by clear h; omega))
      obtain ⟨c552, h⟩ := h
      rw [h]
      exact g551
    · obtain ⟨c553, c554, h⟩ := h
      rw [h]
      exact gA
theorem ot_r_X9_addPerson {tb : Nat} {ta : Nat} {x1 : Int} {x2 : Int} {A : St} {z : Int} {u : St} {A0 : St} (htb : isT tb) (ht : TT ta tb) (gA : OT tb A0 A) (h : r_X9_addPerson ta x1 x2 A z u) : OT tb A0 u := by
  have ht := ht
  unfold TT at ht
  have h : tr_r_X9_addPerson ta x1 x2 A z u := h
  obtain ⟨z1, A2, q541, h⟩ := h
  have g542 : OT tb A0 A2 := ot_r_X9_add_1_3 htb ht gA q541.1
  rcases h with h | h
  · obtain ⟨c555, h⟩ := h
    obtain ⟨z6, q556, h⟩ := h
    obtain ⟨A7, q557, h⟩ := h
    have g558 : OT tb A0 A7 := by rw [q557]; exact (OT.st g542 (by clear h; omega))
    obtain ⟨c559, h⟩ := h
    rw [h]
    exact g558
  · obtain ⟨c560, c561, h⟩ := h
    rw [h]
    exact g542
theorem ot_r_X5_readPerson {tb : Nat} {ta : Nat} {A : St} {z : Int} {u : St} {A0 : St} (htb : isT tb) (ht : TT ta tb) (gA : OT tb A0 A) (h : r_X5_readPerson ta A z u) : OT tb A0 u := by
  have ht := ht
  unfold TT at ht
  have h : tr_r_X5_readPerson ta A z u := h
  obtain ⟨z1, A2, q526, h⟩ := h
  have g527 : OT tb A0 A2 := gA.trans (OT.fk htb q526.2.2.1 rfl rfl)
  rcases h with h | h
  · obtain ⟨c528, c529, h⟩ := h
    rw [h]
    exact g527
  · obtain ⟨c530, h⟩ := h
    obtain ⟨z6, A7, q531, h⟩ := h
    have g532 : OT tb A0 A7 := g527.trans (OT.fk htb q531.2.2.1 rfl rfl)
    rcases h with h | h
    · obtain ⟨c533, h⟩ := h
      obtain ⟨z11, A12, q534, h⟩ := h
      have g535 : OT tb A0 A12 := g532.trans (OT.fk htb q534.2.2.1 rfl rfl)
      rcases h with h | h
      · obtain ⟨c536, c537, h⟩ := h
        rw [h]
        exact g535
      · obtain ⟨c538, h⟩ := h
        obtain ⟨z16, A17, q539, h⟩ := h
        have g540 : OT tb A0 A17 := ot_r_X9_addPerson htb ht g535 q539.1
        rcases h with h | h
        · obtain ⟨c562, c563, h⟩ := h
          rw [h]
          exact g540
        · obtain ⟨c564, c565, h⟩ := h
          rw [h]
          exact g540
    · obtain ⟨c566, c567, h⟩ := h
      rw [h]
      exact g532
theorem ot_r_X9_add_1_4 {tb : Nat} {ta : Nat} {x2 : Int} {A : St} {z : Int} {u : St} {A0 : St} (htb : isT tb) (ht : TT ta tb) (gA : OT tb A0 A) (h : r_X9_add_1_4 ta x2 A z u) : OT tb A0 u := by
  have ht := ht
  unfold TT at ht
  have h : tr_r_X9_add_1_4 ta x2 A z u := h
  rcases h with h | h
  · obtain ⟨c588, c589, h⟩ := h
    rw [h]
    exact gA
  · obtain ⟨c590, h⟩ := h
    obtain ⟨z4, q591, h⟩ := h
    rcases h with h | h
    · obtain ⟨c592, h⟩ := h
      obtain ⟨A8, q593, h⟩ := h
      have g594 : OT tb A0 A8 := by rw [q593]; exact (OT.st gA (by clear h; omega))
      obtain ⟨A11, q595, h⟩ := h
      have g596 : OT tb A0 A11 := by rw [q595]; exact (OT.st g594 (by clear h; omega))
      obtain ⟨c597, h⟩ := h
      rw [h]
      exact g596
    · obtain ⟨c598, c599, h⟩ := h
      rw [h]
      exact gA
theorem ot_r_X9_addThing {tb : Nat} {ta : Nat} {x1 : Int} {x2 : Int} {A : St} {z : Int} {u : St} {A0 : St} (htb : isT tb) (ht : TT ta tb) (gA : OT tb A0 A) (h : r_X9_addThing ta x1 x2 A z u) : OT tb A0 u := by
  have ht := ht
  unfold TT at ht
  have h : tr_r_X9_addThing ta x1 x2 A z u := h
  obtain ⟨z1, A2, q586, h⟩ := h
  have g587 : OT tb A0 A2 := ot_r_X9_add_1_4 htb ht gA q586.1
  rcases h with h | h
  · obtain ⟨c600, h⟩ := h
    obtain ⟨z6, q601, h⟩ := h
    obtain ⟨A7, q602, h⟩ := h
    have g603 : OT tb A0 A7 := by rw [q602]; exact (OT.st g587 (by clear h; omega))
    obtain ⟨c604, h⟩ := h
    rw [h]
    exact g603
  · obtain ⟨c605, c606, h⟩ := h
    rw [h]
    exact g587
theorem ot_r_X5_readThing {tb : Nat} {ta : Nat} {A : St} {z : Int} {u : St} {A0 : St} (htb : isT tb) (ht : TT ta tb) (gA : OT tb A0 A) (h : r_X5_readThing ta A z u) : OT tb A0 u := by
  have ht := ht
  unfold TT at ht
  have h : tr_r_X5_readThing ta A z u := h
  obtain ⟨z1, A2, q571, h⟩ := h
  have g572 : OT tb A0 A2 := gA.trans (OT.fk htb q571.2.2.1 rfl rfl)
  rcases h with h | h
  · obtain ⟨c573, c574, h⟩ := h
    rw [h]
    exact g572
  · obtain ⟨c575, h⟩ := h
    obtain ⟨z6, A7, q576, h⟩ := h
    have g577 : OT tb A0 A7 := g572.trans (OT.fk htb q576.2.2.1 rfl rfl)
    rcases h with h | h
    · obtain ⟨c578, h⟩ := h
      obtain ⟨z11, A12, q579, h⟩ := h
      have g580 : OT tb A0 A12 := g577.trans (OT.fk htb q579.2.2.1 rfl rfl)
      rcases h with h | h
      · obtain ⟨c581, c582, h⟩ := h
        rw [h]
        exact g580
      · obtain ⟨c583, h⟩ := h
        obtain ⟨z16, A17, q584, h⟩ := h
        have g585 : OT tb A0 A17 := ot_r_X9_addThing htb ht g580 q584.1
        rcases h with h | h
        · obtain ⟨c607, c608, h⟩ := h
          rw [h]
          exact g585
        · obtain ⟨c609, c610, h⟩ := h
          rw [h]
          exact g585
    · obtain ⟨c611, c612, h⟩ := h
      rw [h]
      exact g577
theorem ot_r_X5_readWants {tb : Nat} {ta : Nat} {A : St} {z : Int} {u : St} {A0 : St} (htb : isT tb) (ht : TT ta tb) (gA : OT tb A0 A) (h : r_X5_readWants ta A z u) : OT tb A0 u := by
  have ht := ht
  unfold TT at ht
  have h : tr_r_X5_readWants ta A z u := h
  obtain ⟨z1, A2, q616, h⟩ := h
  have g617 : OT tb A0 A2 := gA.trans (OT.fk htb q616.2.2.1 rfl rfl)
  rcases h with h | h
  · obtain ⟨c618, h⟩ := h
    obtain ⟨z7, q619, h⟩ := h
    obtain ⟨z8, q620, h⟩ := h
    rcases h with h | h
    · obtain ⟨c621, h⟩ := h
      obtain ⟨z12, A13, q622, h⟩ := h
      have g623 : OT tb A0 A13 := g617.trans (OT.fk htb q622.2.2.1 rfl rfl)
      rcases h with h | h
      · obtain ⟨c624, h⟩ := h
        obtain ⟨z19, q625, h⟩ := h
        obtain ⟨z20, q626, h⟩ := h
        rcases h with h | h
        · obtain ⟨c627, h⟩ := h
          obtain ⟨z23, q628, h⟩ := h
          obtain ⟨z24, q629, h⟩ := h
          obtain ⟨A25, q630, h⟩ := h
          have g631 : OT tb A0 A25 := by rw [q630]; exact (OT.st g623 (by clear h; omega))
          obtain ⟨z29, q632, h⟩ := h
          obtain ⟨A30, q633, h⟩ := h
          have g634 : OT tb A0 A30 := by rw [q633]; exact (OT.st g631 (by clear h; omega))
          obtain ⟨c635, h⟩ := h
          rw [h]
          exact g634
        · obtain ⟨c636, h⟩ := h
          obtain ⟨z31, A32, q637, h⟩ := h
          have g638 : OT tb A0 A32 := g623.trans (OT.fk htb q637.2.2.1 rfl rfl)
          obtain ⟨c639, h⟩ := h
          rw [h]
          exact g638
      · obtain ⟨c640, c641, h⟩ := h
        rw [h]
        exact g623
    · obtain ⟨c642, h⟩ := h
      obtain ⟨z35, A36, q643, h⟩ := h
      have g644 : OT tb A0 A36 := g617.trans (OT.fk htb q643.2.2.1 rfl rfl)
      obtain ⟨c645, h⟩ := h
      rw [h]
      exact g644
  · obtain ⟨c646, c647, h⟩ := h
    rw [h]
    exact g617
theorem ot_r_X9_addMust {tb : Nat} {ta : Nat} {x1 : Int} {x2 : Int} {x3 : Int} {A : St} {z : Int} {u : St} {A0 : St} (htb : isT tb) (ht : TT ta tb) (gA : OT tb A0 A) (h : r_X9_addMust ta x1 x2 x3 A z u) : OT tb A0 u := by
  have ht := ht
  unfold TT at ht
  have h : tr_r_X9_addMust ta x1 x2 x3 A z u := h
  obtain ⟨z1, q668, h⟩ := h
  rcases h with h | h
  · obtain ⟨c669, h⟩ := h
    obtain ⟨A4, q670, h⟩ := h
    have g671 : OT tb A0 A4 := by rw [q670]; exact (OT.st gA (by clear h; omega))
    obtain ⟨A5, q672, h⟩ := h
    have g673 : OT tb A0 A5 := by rw [q672]; exact (OT.st g671 (by clear h; omega))
    obtain ⟨A6, q674, h⟩ := h
    have g675 : OT tb A0 A6 := by rw [q674]; exact (OT.st g673 (by clear h; omega))
    obtain ⟨A11, q676, h⟩ := h
    have g677 : OT tb A0 A11 := by rw [q676]; exact (OT.st g675 (by clear h; omega))
    obtain ⟨c678, h⟩ := h
    rw [h]
    exact g677
  · obtain ⟨c679, c680, h⟩ := h
    rw [h]
    exact gA
theorem ot_d_X5_readMust_2 {tb : Nat} {ta : Nat} {z1 : Int} {z11 : Int} {z : Int} {u : St} {z22 : Int} {A24 : St} {A0 : St} (htb : isT tb) (ht : TT ta tb) (gA24 : OT tb A0 A24) (h : d_X5_readMust_2 ta z1 z11 z u z22 A24) : OT tb A0 u := by
  have ht := ht
  unfold TT at ht
  have h : tr_d_X5_readMust_2 ta z1 z11 z u z22 A24 := h
  obtain ⟨c661, c662, h⟩ := h
  rcases h with h | h
  · obtain ⟨c663, c664, h⟩ := h
    rw [h]
    exact gA24
  · obtain ⟨c665, h⟩ := h
    obtain ⟨z28, A29, q666, h⟩ := h
    have g667 : OT tb A0 A29 := ot_r_X9_addMust htb ht gA24 q666.1
    rcases h with h | h
    · obtain ⟨c681, c682, h⟩ := h
      rw [h]
      exact g667
    · obtain ⟨c683, c684, h⟩ := h
      rw [h]
      exact g667
theorem ot_d_X5_readMust_1 {tb : Nat} {ta : Nat} {z1 : Int} {z : Int} {u : St} {z11 : Int} {A13 : St} {A0 : St} (htb : isT tb) (ht : TT ta tb) (gA13 : OT tb A0 A13) (h : d_X5_readMust_1 ta z1 z u z11 A13) : OT tb A0 u := by
  have ht := ht
  unfold TT at ht
  have h : tr_d_X5_readMust_1 ta z1 z u z11 A13 := h
  obtain ⟨c656, c657, h⟩ := h
  rcases h with h | h
  · obtain ⟨c658, h⟩ := h
    obtain ⟨z18, A19, q659, h⟩ := h
    have g660 : OT tb A0 A19 := gA13.trans (OT.fk htb q659.2.2.1 rfl rfl)
    exact ot_d_X5_readMust_2 htb ht  g660 h
  · obtain ⟨c685, h⟩ := h
    exact ot_d_X5_readMust_2 htb ht  gA13 h
theorem ot_r_X5_readMust {tb : Nat} {ta : Nat} {A : St} {z : Int} {u : St} {A0 : St} (htb : isT tb) (ht : TT ta tb) (gA : OT tb A0 A) (h : r_X5_readMust ta A z u) : OT tb A0 u := by
  have ht := ht
  unfold TT at ht
  have h : tr_r_X5_readMust ta A z u := h
  obtain ⟨z1, A2, q651, h⟩ := h
  have g652 : OT tb A0 A2 := gA.trans (OT.fk htb q651.2.2.1 rfl rfl)
  rcases h with h | h
  · obtain ⟨c653, h⟩ := h
    obtain ⟨z7, A8, q654, h⟩ := h
    have g655 : OT tb A0 A8 := g652.trans (OT.fk htb q654.2.2.1 rfl rfl)
    exact ot_d_X5_readMust_1 htb ht  g655 h
  · obtain ⟨c686, h⟩ := h
    exact ot_d_X5_readMust_1 htb ht  g652 h
theorem ot_r_X9_addBar {tb : Nat} {ta : Nat} {x1 : Int} {x2 : Int} {x3 : Int} {A : St} {z : Int} {u : St} {A0 : St} (htb : isT tb) (ht : TT ta tb) (gA : OT tb A0 A) (h : r_X9_addBar ta x1 x2 x3 A z u) : OT tb A0 u := by
  have ht := ht
  unfold TT at ht
  have h : tr_r_X9_addBar ta x1 x2 x3 A z u := h
  obtain ⟨z1, q709, h⟩ := h
  rcases h with h | h
  · obtain ⟨c710, h⟩ := h
    obtain ⟨A4, q711, h⟩ := h
    have g712 : OT tb A0 A4 := by rw [q711]; exact (OT.st gA (by clear h; omega))
    obtain ⟨A5, q713, h⟩ := h
    have g714 : OT tb A0 A5 := by rw [q713]; exact (OT.st g712 (by clear h; omega))
    obtain ⟨A6, q715, h⟩ := h
    have g716 : OT tb A0 A6 := by rw [q715]; exact (OT.st g714 (by clear h; omega))
    obtain ⟨A11, q717, h⟩ := h
    have g718 : OT tb A0 A11 := by rw [q717]; exact (OT.st g716 (by clear h; omega))
    obtain ⟨c719, h⟩ := h
    rw [h]
    exact g718
  · obtain ⟨c720, c721, h⟩ := h
    rw [h]
    exact gA
theorem ot_r_X5_readBar {tb : Nat} {ta : Nat} {A : St} {z : Int} {u : St} {A0 : St} (htb : isT tb) (ht : TT ta tb) (gA : OT tb A0 A) (h : r_X5_readBar ta A z u) : OT tb A0 u := by
  have ht := ht
  unfold TT at ht
  have h : tr_r_X5_readBar ta A z u := h
  obtain ⟨z1, A2, q690, h⟩ := h
  have g691 : OT tb A0 A2 := gA.trans (OT.fk htb q690.2.2.1 rfl rfl)
  rcases h with h | h
  · obtain ⟨c692, h⟩ := h
    obtain ⟨z6, q693, h⟩ := h
    rcases h with h | h
    · obtain ⟨c694, h⟩ := h
      obtain ⟨A12, q695, h⟩ := h
      have g696 : OT tb A0 A12 := by rw [q695]; exact (OT.st g691 (by clear h; omega))
      obtain ⟨z13, A14, q697, h⟩ := h
      have g698 : OT tb A0 A14 := g696.trans (OT.fk htb q697.2.2.1 rfl rfl)
      rcases h with h | h
      · obtain ⟨c699, c700, h⟩ := h
        rw [h]
        exact g698
      · obtain ⟨c701, h⟩ := h
        obtain ⟨z20, A21, q702, h⟩ := h
        have g703 : OT tb A0 A21 := g698.trans (ot_rq_test htb (by clear h; unfold TE; omega) _ _ _ _ q702)
        rcases h with h | h
        · obtain ⟨c704, c705, h⟩ := h
          rw [h]
          exact g703
        · obtain ⟨c706, h⟩ := h
          obtain ⟨z27, A28, q707, h⟩ := h
          have g708 : OT tb A0 A28 := ot_r_X9_addBar htb ht g703 q707.1
          rcases h with h | h
          · obtain ⟨c722, c723, h⟩ := h
            rw [h]
            exact g708
          · obtain ⟨c724, c725, h⟩ := h
            rw [h]
            exact g708
    · obtain ⟨c726, h⟩ := h
      obtain ⟨z32, A33, q727, h⟩ := h
      have g728 : OT tb A0 A33 := g691.trans (OT.fk htb q727.2.2.1 rfl rfl)
      obtain ⟨c729, h⟩ := h
      rw [h]
      exact g728
  · obtain ⟨c730, c731, h⟩ := h
    rw [h]
    exact g691
theorem ot_d_X5_readHas_1 {tb : Nat} {ta : Nat} {z1 : Int} {z : Int} {u : St} {z11 : Int} {A13 : St} {A0 : St} (htb : isT tb) (ht : TT ta tb) (gA13 : OT tb A0 A13) (h : d_X5_readHas_1 ta z1 z u z11 A13) : OT tb A0 u := by
  have ht := ht
  unfold TT at ht
  have h : tr_d_X5_readHas_1 ta z1 z u z11 A13 := h
  obtain ⟨c740, c741, h⟩ := h
  rcases h with h | h
  · obtain ⟨c742, h⟩ := h
    obtain ⟨z19, q743, h⟩ := h
    rcases h with h | h
    · obtain ⟨c744, h⟩ := h
      obtain ⟨A21, q745, h⟩ := h
      have g746 : OT tb A0 A21 := by rw [q745]; exact (OT.st gA13 (by clear h; omega))
      obtain ⟨c747, h⟩ := h
      rw [h]
      exact g746
    · obtain ⟨c748, h⟩ := h
      obtain ⟨z22, A23, q749, h⟩ := h
      have g750 : OT tb A0 A23 := gA13.trans (OT.fk htb q749.2.2.1 rfl rfl)
      obtain ⟨c751, h⟩ := h
      rw [h]
      exact g750
  · obtain ⟨c752, c753, h⟩ := h
    rw [h]
    exact gA13
theorem ot_r_X5_readHas {tb : Nat} {ta : Nat} {A : St} {z : Int} {u : St} {A0 : St} (htb : isT tb) (ht : TT ta tb) (gA : OT tb A0 A) (h : r_X5_readHas ta A z u) : OT tb A0 u := by
  have ht := ht
  unfold TT at ht
  have h : tr_r_X5_readHas ta A z u := h
  obtain ⟨z1, A2, q735, h⟩ := h
  have g736 : OT tb A0 A2 := gA.trans (OT.fk htb q735.2.2.1 rfl rfl)
  rcases h with h | h
  · obtain ⟨c737, h⟩ := h
    obtain ⟨z7, A8, q738, h⟩ := h
    have g739 : OT tb A0 A8 := g736.trans (OT.fk htb q738.2.2.1 rfl rfl)
    exact ot_d_X5_readHas_1 htb ht  g739 h
  · obtain ⟨c754, h⟩ := h
    exact ot_d_X5_readHas_1 htb ht  g736 h
theorem ot_r_X6_push {tb : Nat} {ta : Nat} {x1 : Int} {x2 : Int} {A : St} {z : Int} {u : St} {A0 : St} (htb : isT tb) (ht : TS ta tb) (gA : OT tb A0 A) (h : r_X6_push ta x1 x2 A z u) : OT tb A0 u := by
  have ht := ht
  unfold TS at ht
  have h : tr_r_X6_push ta x1 x2 A z u := h
  rcases h with h | h
  · obtain ⟨c771, c772, h⟩ := h
    rw [h]
    exact gA
  · obtain ⟨c773, h⟩ := h
    rcases h with h | h
    · obtain ⟨c774, c775, h⟩ := h
      rw [h]
      exact gA
    · obtain ⟨c776, h⟩ := h
      obtain ⟨z3, q777, h⟩ := h
      rcases h with h | h
      · obtain ⟨c778, h⟩ := h
        obtain ⟨z7, q779, h⟩ := h
        rcases h with h | h
        · obtain ⟨c780, h⟩ := h
          obtain ⟨A10, q781, h⟩ := h
          have g782 : OT tb A0 A10 := by rw [q781]; exact (OT.st gA (by clear h; omega))
          obtain ⟨A11, q783, h⟩ := h
          have g784 : OT tb A0 A11 := by rw [q783]; exact (OT.st g782 (by clear h; omega))
          obtain ⟨c785, h⟩ := h
          rw [h]
          exact g784
        · obtain ⟨c786, c787, h⟩ := h
          rw [h]
          exact gA
      · obtain ⟨c788, c789, h⟩ := h
        rw [h]
        exact gA
theorem ot_r_X5_readShut {tb : Nat} {ta : Nat} {A : St} {z : Int} {u : St} {A0 : St} (htb : isT tb) (ht : TT ta tb) (gA : OT tb A0 A) (h : r_X5_readShut ta A z u) : OT tb A0 u := by
  have ht := ht
  unfold TT at ht
  have h : tr_r_X5_readShut ta A z u := h
  obtain ⟨z1, A2, q758, h⟩ := h
  have g759 : OT tb A0 A2 := gA.trans (OT.fk htb q758.2.2.1 rfl rfl)
  rcases h with h | h
  · obtain ⟨c760, c761, h⟩ := h
    rw [h]
    exact g759
  · obtain ⟨c762, h⟩ := h
    obtain ⟨z6, A7, q763, h⟩ := h
    have g764 : OT tb A0 A7 := g759.trans (OT.fk htb q763.2.2.1 rfl rfl)
    rcases h with h | h
    · obtain ⟨c765, h⟩ := h
      obtain ⟨z11, A12, q766, h⟩ := h
      have g767 : OT tb A0 A12 := g764.trans (OT.fk htb q766.2.2.1 rfl rfl)
      rcases h with h | h
      · obtain ⟨c768, h⟩ := h
        obtain ⟨z16, A17, q769, h⟩ := h
        have g770 : OT tb A0 A17 := ot_r_X6_push htb (by clear h; unfold TS; omega) g767 q769.1
        rcases h with h | h
        · obtain ⟨c790, c791, h⟩ := h
          rw [h]
          exact g770
        · obtain ⟨c792, h⟩ := h
          obtain ⟨z21, A22, q793, h⟩ := h
          have g794 : OT tb A0 A22 := g770.trans (OT.fk htb q793.2.2.1 rfl rfl)
          obtain ⟨c795, h⟩ := h
          rw [h]
          exact g794
      · obtain ⟨c796, c797, h⟩ := h
        rw [h]
        exact g767
    · obtain ⟨c798, c799, h⟩ := h
      rw [h]
      exact g764
theorem ot_r_X5_readLost {tb : Nat} {ta : Nat} {A : St} {z : Int} {u : St} {A0 : St} (htb : isT tb) (ht : TT ta tb) (gA : OT tb A0 A) (h : r_X5_readLost ta A z u) : OT tb A0 u := by
  have ht := ht
  unfold TT at ht
  have h : tr_r_X5_readLost ta A z u := h
  obtain ⟨z1, A2, q803, h⟩ := h
  have g804 : OT tb A0 A2 := gA.trans (OT.fk htb q803.2.2.1 rfl rfl)
  rcases h with h | h
  · obtain ⟨c805, h⟩ := h
    obtain ⟨z8, q806, h⟩ := h
    obtain ⟨z9, q807, h⟩ := h
    rcases h with h | h
    · obtain ⟨c808, h⟩ := h
      obtain ⟨z11, q809, h⟩ := h
      obtain ⟨z12, q810, h⟩ := h
      obtain ⟨A13, q811, h⟩ := h
      have g812 : OT tb A0 A13 := by rw [q811]; exact (OT.st g804 (by clear h; omega))
      obtain ⟨c813, h⟩ := h
      rw [h]
      exact g812
    · obtain ⟨c814, h⟩ := h
      obtain ⟨z14, A15, q815, h⟩ := h
      have g816 : OT tb A0 A15 := g804.trans (OT.fk htb q815.2.2.1 rfl rfl)
      obtain ⟨c817, h⟩ := h
      rw [h]
      exact g816
  · obtain ⟨c818, c819, h⟩ := h
    rw [h]
    exact g804
theorem ot_d_X5_readTown_1 {tb : Nat} {ta : Nat} {z : Int} {u : St} {A0 : St} (htb : isT tb) (ht : TT ta tb)  : ∀ (nn : Nat) (z9 : Int) (A11 : St), OT tb A0 A11 → d_X5_readTown_1 ta z u nn z9 A11 → OT tb A0 u := by
  have ht := ht
  unfold TT at ht
  intro nn
  induction nn with
  | zero => intro _ _ _ h; exact h.elim
  | succ nn hK =>
    intro z9 A11 gA11 h
    have h : tr_d_X5_readTown_1 ta z u (fun z9 A11 => d_X5_readTown_1 ta z u nn z9 A11) z9 A11 := h
    obtain ⟨c355, c356, h⟩ := h
    rcases h with h | h
    · obtain ⟨c357, c358, h⟩ := h
      rw [h]
      exact gA11
    · obtain ⟨c359, h⟩ := h
      obtain ⟨A18, q360, h⟩ := h
      have g361 : OT tb A0 A18 := gA11.trans (OT.fk htb q360.2.2.1 rfl rfl)
      rcases h with h | h
      · obtain ⟨c362, h⟩ := h
        obtain ⟨z23, A24, q363, h⟩ := h
        have g364 : OT tb A0 A24 := g361.trans (OT.fk htb q363.2.2.1 rfl rfl)
        rcases h with h | h | h | h | h | h | h | h | h | h | h | h | h
        · obtain ⟨c365, h⟩ := h
          exact ot_d_X5_readTown_2 htb hK g364 h
        · obtain ⟨c376, h⟩ := h
          obtain ⟨z29, A30, q377, h⟩ := h
          have g378 : OT tb A0 A30 := g364.trans (OT.fk htb q377.2.2.1 rfl rfl)
          obtain ⟨z33, A34, q379, h⟩ := h
          have g380 : OT tb A0 A34 := ot_r_X9_add_1_0 htb ht g378 q379.1
          exact ot_d_X5_readTown_2 htb hK g380 h
        · obtain ⟨c393, h⟩ := h
          obtain ⟨z37, A38, q394, h⟩ := h
          have g395 : OT tb A0 A38 := ot_r_X5_readDoor htb ht g364 q394.1
          exact ot_d_X5_readTown_2 htb hK g395 h
        · obtain ⟨c454, h⟩ := h
          obtain ⟨z41, A42, q455, h⟩ := h
          have g456 : OT tb A0 A42 := ot_r_X5_readBox htb ht g364 q455.1
          exact ot_d_X5_readTown_2 htb hK g456 h
        · obtain ⟨c478, h⟩ := h
          obtain ⟨z45, A46, q479, h⟩ := h
          have g480 : OT tb A0 A46 := ot_r_X5_readKey htb ht g364 q479.1
          exact ot_d_X5_readTown_2 htb hK g480 h
        · obtain ⟨c523, h⟩ := h
          obtain ⟨z49, A50, q524, h⟩ := h
          have g525 : OT tb A0 A50 := ot_r_X5_readPerson htb ht g364 q524.1
          exact ot_d_X5_readTown_2 htb hK g525 h
        · obtain ⟨c568, h⟩ := h
          obtain ⟨z53, A54, q569, h⟩ := h
          have g570 : OT tb A0 A54 := ot_r_X5_readThing htb ht g364 q569.1
          exact ot_d_X5_readTown_2 htb hK g570 h
        · obtain ⟨c613, h⟩ := h
          obtain ⟨z57, A58, q614, h⟩ := h
          have g615 : OT tb A0 A58 := ot_r_X5_readWants htb ht g364 q614.1
          exact ot_d_X5_readTown_2 htb hK g615 h
        · obtain ⟨c648, h⟩ := h
          obtain ⟨z61, A62, q649, h⟩ := h
          have g650 : OT tb A0 A62 := ot_r_X5_readMust htb ht g364 q649.1
          exact ot_d_X5_readTown_2 htb hK g650 h
        · obtain ⟨c687, h⟩ := h
          obtain ⟨z68, A69, q688, h⟩ := h
          have g689 : OT tb A0 A69 := ot_r_X5_readBar htb ht g364 q688.1
          exact ot_d_X5_readTown_2 htb hK g689 h
        · obtain ⟨c732, h⟩ := h
          obtain ⟨z72, A73, q733, h⟩ := h
          have g734 : OT tb A0 A73 := ot_r_X5_readHas htb ht g364 q733.1
          exact ot_d_X5_readTown_2 htb hK g734 h
        · obtain ⟨c755, h⟩ := h
          obtain ⟨z76, A77, q756, h⟩ := h
          have g757 : OT tb A0 A77 := ot_r_X5_readShut htb ht g364 q756.1
          exact ot_d_X5_readTown_2 htb hK g757 h
        · obtain ⟨c800, h⟩ := h
          obtain ⟨z80, A81, q801, h⟩ := h
          have g802 : OT tb A0 A81 := ot_r_X5_readLost htb ht g364 q801.1
          exact ot_d_X5_readTown_2 htb hK g802 h
      · obtain ⟨c820, c821, h⟩ := h
        rw [h]
        exact g361
theorem ot_r_X5_readTown {tb : Nat} {ta : Nat} {A : St} {z : Int} {u : St} {A0 : St} (htb : isT tb) (ht : TT ta tb) (gA : OT tb A0 A) (h : r_X5_readTown ta A z u) : OT tb A0 u := by
  have ht := ht
  unfold TT at ht
  have h : tr_r_X5_readTown ta A z u := h
  obtain ⟨A1, q325, h⟩ := h
  have g326 : OT tb A0 A1 := ot_r_X9_clear htb ht gA q325.1
  obtain ⟨A4, q349, h⟩ := h
  have g350 : OT tb A0 A4 := g326.trans (OT.fk htb q349.2.2.1 rfl rfl)
  obtain ⟨A7, q351, h⟩ := h
  have g352 : OT tb A0 A7 := by rw [q351]; exact (OT.st g350 (by clear h; omega))
  obtain ⟨A8, q353, h⟩ := h
  have g354 : OT tb A0 A8 := by rw [q353]; exact (OT.st g352 (by clear h; omega))
  obtain ⟨nn9, h⟩ := h
  exact ot_d_X5_readTown_1 htb ht  _ _ _ g354 h
