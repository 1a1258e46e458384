/-! The reference's tests: turns, second half. -/
theorem G_andor {f : Nat → Int} {N b p D : Nat} {A v : St} {z z2 k : Int} (h : MS f N b p A) (hD : A 0 53 = (D : Int)) (h1 : 1 ≤ D) (h01 : z2 = 1 ∨ z2 = 0) (hq : d_X12_goesOn_4 A z v k z2) : (z2 = 1 ∧ (tow f N p 17 ∨ tow f N p 16) ∧ ((A 36 (D - 1) = 0 ∧ z = 0 ∧ 1 ≤ v 0 8) ∨ (A 36 (D - 1) ≠ 0 ∧ z = 1 ∧ ∃ B, B = stA (stA A 36 (D - 1) 0) 37 (D - 1) 1 ∧ AF f N b (tEnd f N p) 0 B v))) ∨ (¬ (z2 = 1 ∧ (tow f N p 17 ∨ tow f N p 16)) ∧ d_X12_goesOn_7 A z v k z2) := by
  have ix : (A 0 53 - 1).toNat = D - 1 := by omega
  have d6f : ∀ A443 : St, 1 ≤ A443 0 8 → d_X12_goesOn_6 A z v k z2 A443 → z = 0 ∧ v = A443 := by
    intro A443 g h2
    obtain ⟨_, h2⟩ := (h2 : tr_d_X12_goesOn_6 A z v k z2 A443)
    rcases h2 with ⟨c, _⟩ | ⟨_, h2⟩
    · omega
    · exact h2
  have d5 : z2 = 1 → (tow f N p 17 ∨ tow f N p 16) → d_X12_goesOn_5 A z v k z2 → (z2 = 1 ∧ (tow f N p 17 ∨ tow f N p 16) ∧ ((A 36 (D - 1) = 0 ∧ z = 0 ∧ 1 ≤ v 0 8) ∨ (A 36 (D - 1) ≠ 0 ∧ z = 1 ∧ ∃ B, B = stA (stA A 36 (D - 1) 0) 37 (D - 1) 1 ∧ AF f N b (tEnd f N p) 0 B v))) := by
    intro e2 hw h2
    refine ⟨e2, hw, ?_⟩
    have fin : ∀ (B B1 B2 A' : St) (x : Int), SB A B → q_X12_holdsBack x B B1 → B2 = stA (stA B1 36 (D - 1) 0) 37 (D - 1) 1 → q_X12_ahead B2 A' → (∃ A49 : St, A49 = stA A' 0 57 0 ∧ (z = 1 ∧ v = A49)) → z = 1 ∧ ∃ B, B = stA (stA A 36 (D - 1) 0) 37 (D - 1) 1 ∧ AF f N b (tEnd f N p) 0 B v := by
      intro B B1 B2 A' x s1 s2 eB ha2 h3
      obtain ⟨A49, e, hz, hv⟩ := h3
      have s := s1.trans (q_holds_sb s2)
      have hG : MG f N b (tEnd f N p) B2 := by
        rw [eB]
        exact (h.go.sb s).fr rfl (fun _ _ => rfl)
      obtain ⟨a1, a2, a3, a4, a5, a6, a7⟩ := AF.mk hG ha2 (hv.trans e)
      refine ⟨hz, _, rfl, a1, ?_, ?_, a4, ?_, ?_, ?_⟩
      · rw [a2, eB]; exact s.k 53 rfl
      · rw [a3, eB]; exact s.k 54 rfl
      · rw [a5, eB]; exact s.r 35 (by decide) rfl
      · rw [a6, eB]
        show up (B1 36) (D - 1) 0 = up (A 36) (D - 1) 0
        rw [s.r 36 (by decide) rfl]
      · rw [a7, eB]
        show up (B1 37) (D - 1) 1 = up (A 37) (D - 1) 1
        rw [s.r 37 (by decide) rfl]
    obtain ⟨z436, hz, h2⟩ := (h2 : tr_d_X12_goesOn_5 A z v k z2)
    rw [ix] at hz
    rcases h2 with ⟨c, h2⟩ | ⟨c, A439, hb, h2⟩
    · obtain ⟨_, h2⟩ := (h2 : tr_d_X12_goesOn_6 A z v k z2 A)
      rw [ix] at h2
      rcases h2 with ⟨_, z445, _, h2⟩ | ⟨c2, _⟩
      · refine Or.inr ⟨by rw [← hz]; exact c, ?_⟩
        rcases h2 with ⟨_, A449, hj, A455, hh, A458, e, A459, ha2, h3⟩ | ⟨_, A499, hj, A505, hh, A508, e, A509, ha2, h3⟩
        · exact fin A449 A455 A458 A459 _ (q_joins_sb hj) hh e ha2 h3
        · exact fin A499 A505 A508 A509 _ (q_joins_sb hj) hh e ha2 h3
      · exact absurd (Int.le_of_eq h.ns) c2
    · have f1 := hb.2.2.2
      have g := d6f A439 f1 h2
      exact Or.inl ⟨by rw [← hz]; exact c, g.1, by rw [g.2]; exact f1⟩
  rcases (hq : tr_d_X12_goesOn_4 A z v k z2) with ⟨c, h2⟩ | ⟨c, z426, ia, h2⟩
  · exact Or.inr ⟨fun g => absurd (g.1.symm.trans c) (by decide), h2⟩
  · have e2 : z2 = 1 := h01.resolve_right c
    have ia := h.isW (WR_own17 : WR 6385252 4545) ia
    rcases h2 with ⟨c1, h2⟩ | ⟨c1, z431, io, h2⟩
    · rcases ia with ⟨_, g⟩ | ⟨g, _⟩
      · exact Or.inl (d5 e2 (Or.inl g) h2)
      · exact absurd g c1
    · have na : ¬ tow f N p 17 := by
        rcases ia with ⟨g, _⟩ | ⟨_, g⟩
        · exact absurd (g.symm.trans c1) (by decide)
        · exact g
      have io := h.isW (WR_own16 : WR 28530 591) io
      rcases h2 with ⟨c2, h2⟩ | ⟨c2, h2⟩
      · have no : ¬ tow f N p 16 := by
          rcases io with ⟨g, _⟩ | ⟨_, g⟩
          · exact absurd (g.symm.trans c2) (by decide)
          · exact g
        refine Or.inr ⟨fun g => ?_, h2⟩
        rcases g.2 with g | g
        · exact na g
        · exact no g
      · rcases io with ⟨_, g⟩ | ⟨g, _⟩
        · exact Or.inl (d5 e2 (Or.inr g) h2)
        · exact absurd g c2
theorem G_8f {A v B : St} {z k : Int} (g : 1 ≤ B 0 8) (h : d_X12_goesOn_8 A z v k B) : z = 0 ∧ 1 ≤ v 0 8 := by
  obtain ⟨_, h⟩ := (h : tr_d_X12_goesOn_8 A z v k B)
  have d10 : ∀ A576 : St, 1 ≤ A576 0 8 → d_X12_goesOn_10 A z v k A576 → z = 0 ∧ 1 ≤ v 0 8 := by
    intro A576 g h2
    obtain ⟨_, h2⟩ := (h2 : tr_d_X12_goesOn_10 A z v k A576)
    rcases h2 with ⟨c, _⟩ | ⟨_, hz, hv⟩
    · omega
    · exact ⟨hz, by rw [hv]; exact g⟩
  have d9 : ∀ x : Int, d_X12_goesOn_9 k A B z v x → z = 0 ∧ 1 ≤ v 0 8 := by
    intro x h2
    obtain ⟨_, z567, _, h2⟩ := (h2 : tr_d_X12_goesOn_9 k A B z v x)
    rcases h2 with ⟨_, h2⟩ | ⟨_, A572, hb, h2⟩
    · exact d10 B g h2
    · exact d10 A572 hb.2.2.2 h2
  have d11 : ∀ A712 : St, 1 ≤ A712 0 8 → d_X12_goesOn_11 A z v A712 → z = 0 ∧ 1 ≤ v 0 8 := by
    intro A712 g h2
    obtain ⟨_, h2⟩ := (h2 : tr_d_X12_goesOn_11 A z v A712)
    rcases h2 with ⟨c, _⟩ | ⟨_, hz, hv⟩
    · omega
    · exact ⟨hz, by rw [hv]; exact g⟩
  rcases h with ⟨_, h⟩ | ⟨_, h⟩
  · rcases h with ⟨_, h⟩ | ⟨_, z703, _, h⟩
    · rcases h with ⟨_, h⟩ | ⟨_, h⟩
      · exact d9 _ h
      · exact d9 _ h
    · rcases h with ⟨_, h⟩ | ⟨_, A708, hb, h⟩
      · exact d11 B g h
      · exact d11 A708 hb.2.2.2 h
  · rcases h with ⟨_, hz, hv⟩ | ⟨c, _⟩
    · exact ⟨hz, by rw [hv]; exact g⟩
    · omega
theorem G_end {f : Nat → Int} {N b p D : Nat} {A v : St} {z z2 k : Int} (h : MS f N b p A) (hD : A 0 53 = (D : Int)) (h1 : 1 ≤ D) (h01 : z2 = 1 ∨ z2 = 0) (hq : d_X12_goesOn_7 A z v k z2) : (z2 = 1 ∧ A 36 (D - 1) = 0 ∧ z = 0 ∧ 1 ≤ v 0 8) ∨ (¬ (z2 = 1 ∧ A 36 (D - 1) = 0) ∧ d_X12_goesOn_8 A z v k A) := by
  have ix : (A 0 53 - 1).toNat = D - 1 := by omega
  rcases (hq : tr_d_X12_goesOn_7 A z v k z2) with ⟨c, h2⟩ | ⟨c, z552, hz, h2⟩
  · exact Or.inr ⟨fun g => absurd (g.1.symm.trans c) (by decide), h2⟩
  · have e2 : z2 = 1 := h01.resolve_right c
    rw [ix] at hz
    rcases h2 with ⟨c1, h2⟩ | ⟨c1, A554, hb, h2⟩
    · exact Or.inr ⟨fun g => c1 (hz.trans g.2), h2⟩
    · exact Or.inl ⟨e2, by rw [← hz]; exact c1, G_8f hb.2.2.2 h2⟩
/-- the outermost test ends -/
theorem G_k1 {A v : St} {z k : Int} (hk : k < 2) (h8 : A 0 8 = 0) (h : d_X12_goesOn_8 A z v k A) : z = 0 ∧ SB A v := by
  obtain ⟨_, h⟩ := (h : tr_d_X12_goesOn_8 A z v k A)
  rcases h with ⟨c, _⟩ | ⟨_, h⟩
  · omega
  · rcases h with ⟨c, _⟩ | ⟨_, A754, hj, hz, hv⟩
    · exact absurd h8 c
    · exact ⟨hz, by rw [hv]; exact q_joins_sb hj⟩
/-- a comma of a pair -/
theorem G_k3 {f : Nat → Int} {N b p D : Nat} {A v : St} {z : Int} (h : MS f N b p A) (hD : A 0 53 = (D : Int)) (h1 : 1 ≤ D) (hq : d_X12_goesOn_8 A z v 3 A) : (¬ tsg f N p 44 ∧ z = 0 ∧ 1 ≤ v 0 8) ∨ (tsg f N p 44 ∧ z = 1 ∧ ∃ B, B = stA A 35 (D - 1) 4 ∧ AF f N b (tEnd f N p) 0 B v) := by
  have ix : (A 0 53 - 1).toNat = D - 1 := by omega
  obtain ⟨_, hq⟩ := (hq : tr_d_X12_goesOn_8 A z v 3 A)
  rcases hq with ⟨_, hq⟩ | ⟨c, _⟩
  · rcases hq with ⟨c, _⟩ | ⟨_, z703, is, hq⟩
    · exact absurd rfl c
    · have is := h.isS is
      rcases hq with ⟨c1, hq⟩ | ⟨c1, A708, hb, hq⟩
      · rcases is with ⟨_, g⟩ | ⟨g, _⟩
        · refine Or.inr ⟨g, ?_⟩
          obtain ⟨_, hq⟩ := (hq : tr_d_X12_goesOn_11 A z v A)
          rw [ix] at hq
          rcases hq with ⟨_, A716, hj, A721, e, A722, ha2, A725, e2, hz, hv⟩ | ⟨c, _⟩
          · have s := q_joins_sb hj
            have hG : MG f N b (tEnd f N p) A721 := by
              rw [e]
              exact (h.go.sb s).fr rfl (fun _ _ => rfl)
            obtain ⟨a1, a2, a3, a4, a5, a6, a7⟩ := AF.mk hG ha2 (hv.trans e2)
            refine ⟨hz, _, rfl, a1, ?_, ?_, a4, ?_, ?_, ?_⟩
            · rw [a2, e]; exact s.k 53 rfl
            · rw [a3, e]; exact s.k 54 rfl
            · rw [a5, e]
              show up (A716 35) (D - 1) 4 = up (A 35) (D - 1) 4
              rw [s.r 35 (by decide) rfl]
            · rw [a6, e]; exact s.r 36 (by decide) rfl
            · rw [a7, e]; exact s.r 37 (by decide) rfl
          · exact absurd (Int.le_of_eq h.ns) c
        · exact absurd g c1
      · have f1 := hb.2.2.2
        rcases is with ⟨g, _⟩ | ⟨_, g⟩
        · exact absurd (g.symm.trans c1) (by decide)
        · refine Or.inl ⟨g, ?_⟩
          obtain ⟨_, hq⟩ := (hq : tr_d_X12_goesOn_11 A z v A708)
          rcases hq with ⟨c, _⟩ | ⟨_, hz, hv⟩
          · exact absurd c (by omega)
          · exact ⟨hz, by rw [hv]; exact f1⟩
  · exact absurd c (by decide)
/-- a closing bracket -/
theorem G_kc {f : Nat → Int} {N b p D : Nat} {A v : St} {z k x : Int} (hk : (k = 2 ∧ x = 41) ∨ (k = 4 ∧ x = 41) ∨ (k = 5 ∧ x = 93)) (h : MS f N b p A) (hD : A 0 53 = (D : Int)) (h1 : 2 ≤ D) (hq : d_X12_goesOn_8 A z v k A) : (¬ tsg f N p x ∧ z = 0 ∧ 1 ≤ v 0 8) ∨ (tsg f N p x ∧ z = 1 ∧ MO f N b (tEnd f N p) v ∧ v 0 53 = (D : Int) - 1 ∧ v 0 54 = A 0 54 - 1 ∧ v 0 57 = A 0 57 ∧ v 35 = A 35 ∧ v 36 = (if k = 5 then up (A 36) (D - 2) 2 else A 36) ∧ v 37 = A 37) := by
  have ix : (A 0 53 - 2).toNat = D - 2 := by omega
  have ix1 : (A 0 53 - 1).toNat = D - 1 := by omega
  obtain ⟨_, hq⟩ := (hq : tr_d_X12_goesOn_8 A z v k A)
  have d9 : d_X12_goesOn_9 k A A z v x := by
    rcases hq with ⟨_, hq⟩ | ⟨c, _⟩
    · rcases hq with ⟨c, hq⟩ | ⟨c, _⟩
      · rcases hq with ⟨c2, hq⟩ | ⟨c2, hq⟩
        · rcases hk with ⟨_, hx⟩ | ⟨_, hx⟩ | ⟨hk, _⟩
          · rw [hx]; exact hq
          · rw [hx]; exact hq
          · exact absurd hk c2
        · rcases hk with ⟨hk, _⟩ | ⟨hk, _⟩ | ⟨_, hx⟩
          · rw [hk] at c2; exact absurd c2 (by decide)
          · rw [hk] at c2; exact absurd c2 (by decide)
          · rw [hx]; exact hq
      · rcases hk with ⟨hk, _⟩ | ⟨hk, _⟩ | ⟨hk, _⟩ <;> · rw [hk] at c; exact absurd c (by decide)
    · rcases hk with ⟨hk, _⟩ | ⟨hk, _⟩ | ⟨hk, _⟩ <;> · rw [hk] at c; exact absurd c (by decide)
  obtain ⟨_, z567, is, hq⟩ := (d9 : tr_d_X12_goesOn_9 k A A z v x)
  have is := h.isS is
  rcases hq with ⟨c1, hq⟩ | ⟨c1, A572, hb, hq⟩
  · rcases is with ⟨_, g⟩ | ⟨g, _⟩
    · refine Or.inr ⟨g, ?_⟩
      obtain ⟨_, hq⟩ := (hq : tr_d_X12_goesOn_10 A z v k A)
      rw [ix, ix1] at hq
      rcases hq with ⟨_, A579, hj, A584, e, hq⟩ | ⟨c, _⟩
      · have s := q_joins_sb hj
        have hG : MG f N b (tEnd f N p) A584 := by
          rw [e]
          refine (h.go.sb s).fr rfl (fun k hk => ?_)
          rcases hk with rfl | rfl | rfl | rfl <;> rfl
        have e53 : A584 0 53 = (D : Int) - 1 := by rw [e, ← hD]; rfl
        have e54 : A584 0 54 = A 0 54 - 1 := by rw [e]; rfl
        have e57 : A584 0 57 = A 0 57 := by rw [e]; exact s.k 57 rfl
        have r35 : A584 35 = A 35 := by rw [e]; exact s.r 35 (by decide) rfl
        have r36 : A584 36 = A 36 := by rw [e]; exact s.r 36 (by decide) rfl
        have r37 : A584 37 = A 37 := by rw [e]; exact s.r 37 (by decide) rfl
        rcases hq with ⟨k4, hq⟩ | ⟨k4, z657, _, A658, had, A663, ha2, hz, hv⟩
        · rcases hq with ⟨k5, A587, ha2, hz, hv⟩ | ⟨k5, A616, e6, A617, ha2, hz, hv⟩
          · obtain ⟨a1, a2, a3, a4, a5, a6, a7⟩ := AF.mk0 hG ha2 rfl
            rw [hv, if_neg k5]
            exact ⟨hz, a1, a2.trans e53, a3.trans e54, a4.trans e57, a5.trans r35, a6.trans r36, a7.trans r37⟩
          · have hG2 : MG f N b (tEnd f N p) A616 := by
              rw [e6]
              exact hG.fr rfl (fun _ _ => rfl)
            obtain ⟨a1, a2, a3, a4, a5, a6, a7⟩ := AF.mk0 hG2 ha2 rfl
            rw [hv, if_pos k5]
            refine ⟨hz, a1, ?_, ?_, ?_, ?_, ?_, ?_⟩
            · rw [a2, e6]; exact e53
            · rw [a3, e6]; exact e54
            · rw [a4, e6]; exact e57
            · rw [a5, e6]; exact r35
            · rw [a6, e6]
              show up (A584 36) (D - 2) 2 = up (A 36) (D - 2) 2
              rw [r36]
            · rw [a7, e6]; exact r37
        · have s2 := q_add_sb had
          obtain ⟨a1, a2, a3, a4, a5, a6, a7⟩ := (AF.mk0 (hG.sb s2) ha2 rfl).cg s2
          have k5 : ¬ k = 5 := by omega
          rw [hv, if_neg k5]
          exact ⟨hz, a1, a2.trans e53, a3.trans e54, a4.trans ((s2.k 57 rfl).trans e57), a5.trans r35, a6.trans r36, a7.trans r37⟩
      · exact absurd (Int.le_of_eq h.ns) c
    · exact absurd g c1
  · have f1 := hb.2.2.2
    rcases is with ⟨g, _⟩ | ⟨_, g⟩
    · exact absurd (g.symm.trans c1) (by decide)
    · refine Or.inl ⟨g, ?_⟩
      obtain ⟨_, hq⟩ := (hq : tr_d_X12_goesOn_10 A z v k A572)
      rcases hq with ⟨c, _⟩ | ⟨_, hz, hv⟩
      · exact absurd c (by omega)
      · exact ⟨hz, by rw [hv]; exact f1⟩
