/-! A told row changes nothing in the end. -/
def eT (T T' : St) : Prop := (T' 1 = T 1 ∧ T' 8 = T 8 ∧ T' 9 = T 9 ∧ T' 10 = T 10 ∧ T' 11 = T 11) ∧ (∀ k, k < 3 → T' 23 k = T 23 k) ∧ ∀ k, k < 4 → T' 24 k = T 24 k ∧ T' 25 k = T 25 k ∧ ∀ i, i < 6 → T' (27 + k) i = T (27 + k) i
def eM (b : Nat) (A A' : St) : Prop := (∀ k, k < 3 → A' 18 (3 * b + k) = A 18 (3 * b + k)) ∧ ∀ k, k < 4 → A' 13 (4 * b + k) = A 13 (4 * b + k) ∧ A' 14 (4 * b + k) = A 14 (4 * b + k) ∧ ∀ i, i < 10 → A' 15 (40 * b + 10 * k + i) = A 15 (40 * b + 10 * k + i)
theorem AC.el {b : Nat} {A A' T T' : St} (h : AC b A T) (h4 : T 1 2 ≤ 4) (h3 : T 1 3 ≤ 3) (g : eT T T') (gA : eM b A A') : AC b A' T' := by
  obtain ⟨⟨e1, e8, e9, e10, e11⟩, e23, eK⟩ := g
  obtain ⟨m18, mK⟩ := gA
  have G : GR T T' := by
    refine ⟨?_, fun k _ => ?_⟩
    · rw [e1]
      exact ⟨Int.le_refl _, Int.le_refl _, Int.le_refl _, Int.le_refl _, Int.le_refl _⟩
    · rw [e8, e9, e10]
      exact ⟨rfl, rfl, rfl⟩
  refine ⟨⟨fun k hk => ?_, fun k hk h2 => ?_⟩, fun k hk => ?_, ?_⟩
  · rw [e1] at hk
    have x := h.1.1 k hk
    have r := (h.2.2.2.2.2.1 k hk).1
    have ek := eK k (by omega)
    have em := mK k (by omega)
    refine ⟨by rw [em.1, ek.1]; exact x.1, by rw [em.2.1, ek.2.1]; exact x.2.1, fun i hi => ?_⟩
    rw [ek.2.1] at hi
    rw [em.2.2 i (by omega), ek.2.2 i (by omega)]
    exact x.2.2 i hi
  · rw [e1] at h2
    rw [(eK k hk).2.1]
    exact h.1.2 k hk h2
  · rw [e1] at hk
    rw [m18 k (by omega), e23 k (by omega)]
    exact h.2.1 k hk
  · refine h.2.2.step G (fun k h1 h2 => by rw [e1] at h2; omega) (fun k hk => e23 k (by omega)) (fun k h1 h2 => by rw [e1] at h2; omega) (fun k hk => ?_) (fun k h1 h2 => by rw [e1] at h2; omega) (fun k hk h2 => ?_) (fun k _ => by rw [e11]) (fun k h1 h2 => by rw [e1] at h2; omega)
    · obtain ⟨x1, x2, x3, x4⟩ := h.2.2.2.2.2.1 k hk
      have ek := eK k (by omega)
      unfold KV
      rw [ek.1, ek.2.1, e1]
      refine ⟨x1, fun i hi => ?_, fun i j hij hj => ?_, x4.gr G⟩
      · rw [ek.2.2 i (by omega)]
        exact x2 i hi
      · rw [ek.2.2 i (by omega), ek.2.2 j (by omega)]
        exact x3 i j hij hj
    · rw [e1] at h2
      rw [(eK k hk).2.1]
      exact h.1.2 k hk h2
/-- copies of a standing -/
def DJ (ta tb : Nat) : Prop := ta + 9 ≤ tb ∨ tb + 9 ≤ ta
def KEY3 (ta tb k : Nat) (A u : St) : Prop := u (ta + 2) k = A (tb + 2) k ∧ u (ta + 3) k = A (tb + 3) k ∧ ∀ i, i < 6 → u (ta + 5 + k) i = A (tb + 5 + k) i
theorem K_copy3 {K2 : Int → St → Prop} {ta tb k : Nat} {u : St} (dj : DJ ta tb) (hk : k < 4) : ∀ (nn i : Nat) (C : St), i ≤ 6 → d_X6_copyFrom_3 K2 ta tb (k : Int) u nn (i : Int) C → ∃ C', K2 ((k : Int) + 1) C' ∧ (∀ j, j ≠ ta + 5 + k → C' j = C j) ∧ (∀ i', i' < i → C' (ta + 5 + k) i' = C (ta + 5 + k) i') ∧ ∀ i', i ≤ i' → i' < 6 → C' (ta + 5 + k) i' = C (tb + 5 + k) i' := by
  have ne : tb + 5 + k ≠ ta + 5 + k := by unfold DJ at dj; omega
  intro nn
  induction nn with
  | zero => intro i C _ h; exact h.elim
  | succ nn ih =>
    intro i C hi h
    obtain ⟨_, _, h⟩ := (h : tr_d_X6_copyFrom_3 K2 ta tb (k : Int) u (fun z24 A26 => d_X6_copyFrom_3 K2 ta tb (k : Int) u nn z24 A26) (i : Int) C)
    rcases h with ⟨c, h⟩ | ⟨c, z33, e33, A34, e34, h⟩
    · exact ⟨C, h, fun _ _ => rfl, fun _ _ => rfl, fun i' h1 h2 => by omega⟩
    · rw [Int.toNat_natCast, Int.toNat_natCast] at e33 e34
      obtain ⟨C', g1, g2, g3, g4⟩ := ih (i + 1) A34 (by omega) (by rw [show ((i + 1 : Nat) : Int) = (i : Int) + 1 by omega]; exact h)
      have s34 : ∀ j, j ≠ ta + 5 + k → A34 j = C j := fun j hj => by rw [e34, stA_ne _ _ hj]
      refine ⟨C', g1, fun j hj => (g2 j hj).trans (s34 j hj), fun i' h1 => ?_, fun i' h1 h2 => ?_⟩
      · rw [g3 i' (by omega), e34, stA_same, up_ne _ _ (by omega)]
      · by_cases e : i' = i
        · subst e
          rw [g3 i' (by omega), e34, stA_same, up_same, e33]
        · rw [g4 i' (by omega) h2, s34 _ ne]
theorem K_copy2 {ta tb : Nat} {u : St} (dj : DJ ta tb) : ∀ (nn k : Nat) (C : St), k ≤ 4 → d_X6_copyFrom_2 ta tb u nn (k : Int) C → (∀ j, j ≠ ta + 2 → j ≠ ta + 3 → (j < ta + 5 + k ∨ ta + 9 ≤ j) → u j = C j) ∧ (∀ k', k' < k → u (ta + 2) k' = C (ta + 2) k' ∧ u (ta + 3) k' = C (ta + 3) k') ∧ ∀ k', k ≤ k' → k' < 4 → KEY3 ta tb k' C u := by
  intro nn
  induction nn with
  | zero => intro k C _ h; exact h.elim
  | succ nn ih =>
    intro k C hk h
    obtain ⟨_, _, h⟩ := (h : tr_d_X6_copyFrom_2 ta tb u (fun z10 A12 => d_X6_copyFrom_2 ta tb u nn z10 A12) (k : Int) C)
    rcases h with ⟨c, hu⟩ | ⟨c, z19, e19, A20, e20, z22, e22, A23, e23, n3, h⟩
    · rw [hu]
      exact ⟨fun _ _ _ _ => rfl, fun _ _ => ⟨rfl, rfl⟩, fun k' h1 h2 => by omega⟩
    · rw [Int.toNat_natCast] at e19 e20 e22 e23
      have hk4 : k < 4 := by omega
      obtain ⟨C', g1, g2, g3, g4⟩ := K_copy3 dj hk4 n3 0 A23 (by decide) h
      obtain ⟨i1, i2, i3⟩ := ih (k + 1) C' (by omega) (by rw [show ((k + 1 : Nat) : Int) = (k : Int) + 1 by omega]; exact g1)
      have d2 : tb + 2 ≠ ta + 2 ∧ tb + 2 ≠ ta + 3 ∧ tb + 3 ≠ ta + 2 ∧ tb + 3 ≠ ta + 3 := by unfold DJ at dj; omega
      have d5 : ∀ k', k' < 4 → tb + 5 + k' ≠ ta + 2 ∧ tb + 5 + k' ≠ ta + 3 ∧ tb + 5 + k' ≠ ta + 5 + k ∧ tb + 2 ≠ ta + 5 + k ∧ tb + 3 ≠ ta + 5 + k := by intro k' _; unfold DJ at dj; omega
      have low : ∀ j, j ≠ ta + 2 → j ≠ ta + 3 → A23 j = C j := fun j h1 h2 => by rw [e23, stA_ne _ _ h2, e20, stA_ne _ _ h1]
      have r2 : A23 (ta + 2) = up (C (ta + 2)) k (C (tb + 2) k) := by rw [e23, stA_ne _ _ (by omega), e20, stA_same, e19]
      have r3 : A23 (ta + 3) = up (C (ta + 3)) k (C (tb + 3) k) := by
        rw [e23, stA_same, e22]
        rw [e20, stA_ne _ _ (show ta + 3 ≠ ta + 2 by omega), stA_ne _ _ d2.2.2.1]
      refine ⟨fun j h1 h2 h3 => ?_, fun k' h1 => ?_, fun k' h1 h2 => ?_⟩
      · rw [i1 j h1 h2 (by omega), g2 j (by omega), low j h1 h2]
      · have a := i2 k' (by omega)
        rw [a.1, a.2, g2 _ (by omega), g2 _ (by omega), r2, r3, up_ne _ _ (by omega), up_ne _ _ (by omega)]
        exact ⟨rfl, rfl⟩
      · by_cases e : k' = k
        · subst e
          have a := i2 k' (by omega)
          refine ⟨?_, ?_, fun i hi => ?_⟩
          · rw [a.1, g2 _ (by omega), r2, up_same]
          · rw [a.2, g2 _ (by omega), r3, up_same]
          · have x := d5 k' h2
            rw [i1 (ta + 5 + k') (by omega) (by omega) (by omega), g4 i (Nat.zero_le i) hi, low _ x.1 x.2.1]
        · have x := d5 k' h2
          obtain ⟨a1, a2, a3⟩ := i3 k' (by omega) h2
          have y2 : C' (tb + 2) = C (tb + 2) := (g2 _ x.2.2.2.1).trans (low _ d2.1 d2.2.1)
          have y3 : C' (tb + 3) = C (tb + 3) := (g2 _ x.2.2.2.2).trans (low _ d2.2.2.1 d2.2.2.2)
          have y5 : C' (tb + 5 + k') = C (tb + 5 + k') := (g2 _ x.2.2.1).trans (low _ x.1 x.2.1)
          rw [y2] at a1
          rw [y3] at a2
          exact ⟨a1, a2, fun i hi => by rw [a3 i hi, y5]⟩
def CPY (ta tb : Nat) (A u : St) : Prop := (∀ j, (j < ta + 1 ∨ ta + 9 ≤ j) → u j = A j) ∧ (∀ p, p < 3 → u (ta + 1) p = A (tb + 1) p) ∧ ∀ k, k < 4 → KEY3 ta tb k A u
theorem K_copy1 {ta tb : Nat} {u : St} (dj : DJ ta tb) : ∀ (nn p : Nat) (C : St), p ≤ 3 → d_X6_copyFrom_1 ta tb u nn (p : Int) C → (∀ j, (j < ta + 1 ∨ ta + 9 ≤ j) → u j = C j) ∧ (∀ p', p' < p → u (ta + 1) p' = C (ta + 1) p') ∧ (∀ p', p ≤ p' → p' < 3 → u (ta + 1) p' = C (tb + 1) p') ∧ ∀ k, k < 4 → KEY3 ta tb k C u := by
  intro nn
  induction nn with
  | zero => intro p C _ h; exact h.elim
  | succ nn ih =>
    intro p C hp h
    obtain ⟨_, _, h⟩ := (h : tr_d_X6_copyFrom_1 ta tb u (fun z1 A3 => d_X6_copyFrom_1 ta tb u nn z1 A3) (p : Int) C)
    rcases h with ⟨c, n2, h⟩ | ⟨c, z35, e35, A36, e36, h⟩
    · obtain ⟨a1, a2, a3⟩ := K_copy2 dj n2 0 C (by decide) h
      exact ⟨fun j hj => a1 j (by omega) (by omega) (by omega), fun p' _ => by rw [a1 (ta + 1) (by omega) (by omega) (by omega)], fun p' h1 h2 => by omega, fun k hk => a3 k (Nat.zero_le k) hk⟩
    · rw [Int.toNat_natCast] at e35 e36
      obtain ⟨a1, a2, a3, a4⟩ := ih (p + 1) A36 (by omega) (by rw [show ((p + 1 : Nat) : Int) = (p : Int) + 1 by omega]; exact h)
      have low : ∀ j, j ≠ ta + 1 → A36 j = C j := fun j hj => by rw [e36, stA_ne _ _ hj]
      have d : tb + 1 ≠ ta + 1 ∧ tb + 2 ≠ ta + 1 ∧ tb + 3 ≠ ta + 1 ∧ ∀ k, k < 4 → tb + 5 + k ≠ ta + 1 := by
        unfold DJ at dj
        exact ⟨by omega, by omega, by omega, fun k _ => by omega⟩
      refine ⟨fun j hj => (a1 j hj).trans (low j (by omega)), fun p' h1 => ?_, fun p' h1 h2 => ?_, fun k hk => ?_⟩
      · rw [a2 p' (by omega), e36, stA_same, up_ne _ _ (by omega)]
      · by_cases e : p' = p
        · subst e
          rw [a2 p' (by omega), e36, stA_same, up_same, e35]
        · rw [a3 p' (by omega) h2, low _ d.1]
      · obtain ⟨b1, b2, b3⟩ := a4 k hk
        rw [low _ d.2.1] at b1
        rw [low _ d.2.2.1] at b2
        exact ⟨b1, b2, fun i hi => by rw [b3 i hi, low _ (d.2.2.2 k hk)]⟩
theorem K_copy {ta tb : Nat} {A u : St} (dj : DJ ta tb) (h : q_X6_copyFrom ta tb A u) : CPY ta tb A u := by
  obtain ⟨nn, h⟩ := (h.1 : tr_r_X6_copyFrom ta tb A u)
  obtain ⟨a1, _, a3, a4⟩ := K_copy1 dj nn 0 A (by decide) h
  exact ⟨a1, fun p hp => a3 p (Nat.zero_le p) hp, a4⟩
/-- acts leave what lies below the towns alone -/
def LW51 (A u : St) : Prop := ∀ j, j < 51 → u j = A j
theorem LW51.rf {A : St} : LW51 A A := fun _ _ => rfl
theorem LW51.trans {A B C : St} (h : LW51 A B) (g : LW51 B C) : LW51 A C := fun j hj => (g j hj).trans (h j hj)
theorem LW51.st {A B : St} {j i : Nat} {v : Int} (h : LW51 A B) (hj : 51 ≤ j) : LW51 A (stA B j i v) := fun j' h' => (stA_ne _ _ (by omega)).trans (h j' h')
theorem low_bar {A u : St} (h : fk [72, 103] [] A u) : LW51 A u := by
  intro j hj
  funext k
  refine h j k ?_ rfl
  cases hc : ([72, 103] : List Nat).contains j with
  | false => rfl
  | true =>
    have := List.contains_iff_mem.mp hc
    simp at this
    omega
theorem low_go {t : Nat} {x1 x2 z : Int} {A u : St} (hT : isT t) (h : q_X9_goThrough t x1 x2 A z u) : LW51 A u := by
  have t51 : 51 ≤ t := by rcases hT with e | e <;> omega
  obtain ⟨_, _, h⟩ := (h.1 : tr_r_X9_goThrough t x1 x2 A z u)
  rcases h with ⟨_, _, hu⟩ | ⟨_, _, _, h⟩
  · rw [hu]; exact LW51.rf
  rcases h with ⟨_, _, hu⟩ | ⟨_, _, _, h⟩
  · rw [hu]; exact LW51.rf
  rcases h with ⟨_, _, _, _, _, _, _, h⟩ | ⟨_, _, hu⟩
  case inr => rw [hu]; exact LW51.rf
  rcases h with ⟨_, _, hu⟩ | ⟨_, _, _, _, _, h⟩
  · rw [hu]; exact LW51.rf
  rcases h with ⟨_, _, _, _, _, _, _, _, A34, hb, h⟩ | ⟨_, _, hu⟩
  case inr => rw [hu]; exact LW51.rf
  have g := low_bar hb.2.2.1
  rcases h with ⟨_, _, _, A41, e41, _, hu⟩ | ⟨_, _, hu⟩
  · rw [hu, e41]; exact g.st (by omega)
  · rw [hu]; exact g
theorem low_open {t : Nat} {x1 x2 z : Int} {A u : St} (hT : isT t) (h : q_X9_openWith t x1 x2 A z u) : LW51 A u := by
  have t51 : 51 ≤ t := by rcases hT with e | e <;> omega
  obtain ⟨_, _, h⟩ := (h.1 : tr_r_X9_openWith t x1 x2 A z u)
  rcases h with ⟨_, _, _, h⟩ | ⟨_, _, hu⟩
  case inr => rw [hu]; exact LW51.rf
  rcases h with ⟨_, _, hu⟩ | ⟨_, _, _, _, _, h⟩
  · rw [hu]; exact LW51.rf
  rcases h with ⟨_, _, _, A15, e15, _, hu⟩ | ⟨_, _, hu⟩
  · rw [hu, e15]; exact LW51.rf.st (by omega)
  · rw [hu]; exact LW51.rf
theorem low_push {ta : Nat} {x1 x2 z : Int} {A u : St} (hT : 51 ≤ ta) (h : q_X6_push ta x1 x2 A z u) : LW51 A u := by
  rcases (h.1 : tr_r_X6_push ta x1 x2 A z u) with ⟨_, _, hu⟩ | ⟨_, h⟩
  · rw [hu]; exact LW51.rf
  rcases h with ⟨_, _, hu⟩ | ⟨_, _, _, h⟩
  · rw [hu]; exact LW51.rf
  rcases h with ⟨_, _, _, h⟩ | ⟨_, _, hu⟩
  case inr => rw [hu]; exact LW51.rf
  rcases h with ⟨_, A10, e10, A11, e11, _, hu⟩ | ⟨_, _, hu⟩
  · rw [hu, e11, e10]; exact (LW51.rf.st (by omega)).st (by omega)
  · rw [hu]; exact LW51.rf
theorem low_shut {t : Nat} {x1 x2 x3 z : Int} {A u : St} (hT : isT t) (h : q_X9_shutWith t x1 x2 x3 A z u) : LW51 A u := by
  have t51 : 51 ≤ t := by rcases hT with e | e <;> omega
  obtain ⟨_, _, h⟩ := (h.1 : tr_r_X9_shutWith t x1 x2 x3 A z u)
  rcases h with ⟨_, _, hu⟩ | ⟨_, _, _, _, _, h⟩
  · rw [hu]; exact LW51.rf
  rcases h with ⟨_, _, hu⟩ | ⟨_, _, A11, hp, h⟩
  · rw [hu]; exact LW51.rf
  have g := low_push (by omega) hp
  rcases h with ⟨_, _, _, _, hu⟩ | ⟨_, _, hu⟩
  · rw [hu]; exact g
  · rw [hu]; exact g
theorem low_told {t : Nat} {x1 x2 x3 z : Int} {A u : St} (hT : isT t) (h : q_X9_toldAct t x1 x2 x3 A z u) : LW51 A u := by
  rcases (h.1 : tr_r_X9_toldAct t x1 x2 x3 A z u) with ⟨_, _, hu⟩ | ⟨_, _, _, hg, _, hu⟩ | ⟨_, _, _, hg, _, hu⟩ | ⟨_, _, _, _, _, hg, _, hu⟩
  · rw [hu]; exact LW51.rf
  · rw [hu]; exact low_go hT hg
  · rw [hu]; exact low_open hT hg
  · rw [hu]; exact low_shut hT hg
theorem low_first {A u : St} {z : Int} (hT : isT (51 + 31 * (A 0 9).toNat)) : ∀ (nn : Nat) (i n : Int) (C : St), d_X11_firstImpossible_1 A z u nn i n C → LW51 C u := by
  intro nn
  induction nn with
  | zero => intro i n C h; exact h.elim
  | succ nn ih =>
    intro i n C h
    obtain ⟨_, _, _, h⟩ := (h : tr_d_X11_firstImpossible_1 A z u (fun z1 z2 A4 => d_X11_firstImpossible_1 A z u nn z1 z2 A4) i n C)
    rcases h with ⟨_, _, hu⟩ | ⟨_, h⟩
    · rw [hu]; exact LW51.rf
    rcases h with ⟨_, t19, et, _, _, _, _, _, _, _, A30, ht, h⟩ | ⟨_, _, hu⟩
    · rw [← et] at hT
      have g := low_told hT ht
      rcases h with ⟨_, _, _, h⟩ | ⟨_, _, hu⟩
      · exact g.trans (ih _ _ A30 h)
      · rw [hu]; exact g
    · rw [hu]; exact LW51.rf
/-- the reference's notes, and back -/
theorem M_notes3 {b : Nat} {A u : St} (hb : A 0 12 = (b : Int)) : ∀ (nn i : Nat) (C : St), i ≤ 40 → d_X12_notes_3 A u nn (i : Int) C → (∀ i', i' < i → u 46 i' = C 46 i') ∧ (∀ i', i ≤ i' → i' < 40 → u 46 i' = C 15 (40 * b + i')) ∧ u 44 = C 44 ∧ u 45 = C 45 := by
  intro nn
  induction nn with
  | zero => intro i C _ h; exact h.elim
  | succ nn ih =>
    intro i C hi h
    obtain ⟨_, _, h⟩ := (h : tr_d_X12_notes_3 A u (fun z21 A23 => d_X12_notes_3 A u nn z21 A23) (i : Int) C)
    rcases h with ⟨c, hu⟩ | ⟨c, z31, e31, A32, e32, h⟩
    · rw [hu]
      exact ⟨fun _ _ => rfl, fun i' h1 h2 => by omega, rfl, rfl⟩
    · rw [hb, show (40 * (b : Int) + (i : Int)).toNat = 40 * b + i by omega] at e31
      rw [Int.toNat_natCast] at e32
      obtain ⟨a1, a2, a3, a4⟩ := ih (i + 1) A32 (by omega) (by rw [show ((i + 1 : Nat) : Int) = (i : Int) + 1 by omega]; exact h)
      have r46 : A32 46 = up (C 46) i z31 := by rw [e32, stA_same]
      have r15 : A32 15 = C 15 := by rw [e32, stA_ne _ _ (by decide)]
      refine ⟨fun i' h1 => ?_, fun i' h1 h2 => ?_, by rw [a3, e32, stA_ne _ _ (by decide)], by rw [a4, e32, stA_ne _ _ (by decide)]⟩
      · rw [a1 i' (by omega), r46, up_ne _ _ (by omega)]
      · by_cases e : i' = i
        · subst e
          rw [a1 i' (by omega), r46, up_same, e31]
        · rw [a2 i' (by omega) h2, r15]
theorem M_notes2 {b : Nat} {A u : St} (hb : A 0 12 = (b : Int)) : ∀ (nn k : Nat) (C : St), k ≤ 4 → d_X12_notes_2 A u nn (k : Int) C → (∀ k', k' < k → u 45 k' = C 45 k') ∧ (∀ k', k ≤ k' → k' < 4 → u 45 k' = C 14 (4 * b + k')) ∧ (∀ i, i < 40 → u 46 i = C 15 (40 * b + i)) ∧ u 44 = C 44 := by
  intro nn
  induction nn with
  | zero => intro k C _ h; exact h.elim
  | succ nn ih =>
    intro k C hk h
    obtain ⟨_, _, h⟩ := (h : tr_d_X12_notes_2 A u (fun z11 A13 => d_X12_notes_2 A u nn z11 A13) (k : Int) C)
    rcases h with ⟨c, n3, h⟩ | ⟨c, _, _, z36, e36, A37, e37, h⟩
    · obtain ⟨a1, a2, a3, a4⟩ := M_notes3 hb n3 0 C (by decide) h
      exact ⟨fun k' _ => by rw [a4], fun k' h1 h2 => by omega, fun i hi => a2 i (Nat.zero_le i) hi, a3⟩
    · rw [hb, show (4 * (b : Int) + (k : Int)).toNat = 4 * b + k by omega] at e36
      rw [Int.toNat_natCast] at e37
      obtain ⟨a1, a2, a3, a4⟩ := ih (k + 1) A37 (by omega) (by rw [show ((k + 1 : Nat) : Int) = (k : Int) + 1 by omega]; exact h)
      have r45 : A37 45 = up (C 45) k z36 := by rw [e37, stA_same]
      have r : ∀ j, j ≠ 45 → A37 j = C j := fun j hj => by rw [e37, stA_ne _ _ hj]
      refine ⟨fun k' h1 => ?_, fun k' h1 h2 => ?_, fun i hi => by rw [a3 i hi, r 15 (by decide)], by rw [a4, r 44 (by decide)]⟩
      · rw [a1 k' (by omega), r45, up_ne _ _ (by omega)]
      · by_cases e : k' = k
        · subst e
          rw [a1 k' (by omega), r45, up_same, e36]
        · rw [a2 k' (by omega) h2, r 14 (by decide)]
theorem M_notes1 {b : Nat} {A u : St} (hb : A 0 12 = (b : Int)) : ∀ (nn p : Nat) (C : St), p ≤ 3 → d_X12_notes_1 A u nn (p : Int) C → (∀ p', p' < p → u 44 p' = C 44 p') ∧ (∀ p', p ≤ p' → p' < 3 → u 44 p' = C 18 (3 * b + p')) ∧ (∀ k, k < 4 → u 45 k = C 14 (4 * b + k)) ∧ ∀ i, i < 40 → u 46 i = C 15 (40 * b + i) := by
  intro nn
  induction nn with
  | zero => intro p C _ h; exact h.elim
  | succ nn ih =>
    intro p C hp h
    obtain ⟨_, _, h⟩ := (h : tr_d_X12_notes_1 A u (fun z1 A3 => d_X12_notes_1 A u nn z1 A3) (p : Int) C)
    rcases h with ⟨c, n2, h⟩ | ⟨c, z38, e38, A39, e39, h⟩
    · obtain ⟨a1, a2, a3, a4⟩ := M_notes2 hb n2 0 C (by decide) h
      exact ⟨fun p' _ => by rw [a4], fun p' h1 h2 => by omega, fun k hk => a2 k (Nat.zero_le k) hk, a3⟩
    · rw [hb, show (3 * (b : Int) + (p : Int)).toNat = 3 * b + p by omega] at e38
      rw [Int.toNat_natCast] at e39
      obtain ⟨a1, a2, a3, a4⟩ := ih (p + 1) A39 (by omega) (by rw [show ((p + 1 : Nat) : Int) = (p : Int) + 1 by omega]; exact h)
      have r44 : A39 44 = up (C 44) p z38 := by rw [e39, stA_same]
      have r : ∀ j, j ≠ 44 → A39 j = C j := fun j hj => by rw [e39, stA_ne _ _ hj]
      refine ⟨fun p' h1 => ?_, fun p' h1 h2 => ?_, fun k hk => by rw [a3 k hk, r 14 (by decide)], fun i hi => by rw [a4 i hi, r 15 (by decide)]⟩
      · rw [a1 p' (by omega), r44, up_ne _ _ (by omega)]
      · by_cases e : p' = p
        · subst e
          rw [a1 p' (by omega), r44, up_same, e38]
        · rw [a2 p' (by omega) h2, r 18 (by decide)]
theorem M_back3 {b : Nat} {A u : St} (hb : A 0 12 = (b : Int)) : ∀ (nn i : Nat) (C : St), i ≤ 40 → d_X12_back_3 A u nn (i : Int) C → (∀ i', i' < i → u 15 (40 * b + i') = C 15 (40 * b + i')) ∧ (∀ i', i ≤ i' → i' < 40 → u 15 (40 * b + i') = C 46 i') ∧ u 14 = C 14 ∧ u 18 = C 18 := by
  intro nn
  induction nn with
  | zero => intro i C _ h; exact h.elim
  | succ nn ih =>
    intro i C hi h
    obtain ⟨_, _, h⟩ := (h : tr_d_X12_back_3 A u (fun z21 A23 => d_X12_back_3 A u nn z21 A23) (i : Int) C)
    rcases h with ⟨c, hu⟩ | ⟨c, z31, e31, A32, e32, h⟩
    · rw [hu]
      exact ⟨fun _ _ => rfl, fun i' h1 h2 => by omega, rfl, rfl⟩
    · rw [Int.toNat_natCast] at e31
      rw [hb, show (40 * (b : Int) + (i : Int)).toNat = 40 * b + i by omega] at e32
      obtain ⟨a1, a2, a3, a4⟩ := ih (i + 1) A32 (by omega) (by rw [show ((i + 1 : Nat) : Int) = (i : Int) + 1 by omega]; exact h)
      have r15 : A32 15 = up (C 15) (40 * b + i) z31 := by rw [e32, stA_same]
      have r46 : A32 46 = C 46 := by rw [e32, stA_ne _ _ (by decide)]
      refine ⟨fun i' h1 => ?_, fun i' h1 h2 => ?_, by rw [a3, e32, stA_ne _ _ (by decide)], by rw [a4, e32, stA_ne _ _ (by decide)]⟩
      · rw [a1 i' (by omega), r15, up_ne _ _ (by omega)]
      · by_cases e : i' = i
        · subst e
          rw [a1 i' (by omega), r15, up_same, e31]
        · rw [a2 i' (by omega) h2, r46]
theorem M_back2 {b : Nat} {A u : St} (hb : A 0 12 = (b : Int)) : ∀ (nn k : Nat) (C : St), k ≤ 4 → d_X12_back_2 A u nn (k : Int) C → (∀ k', k' < k → u 14 (4 * b + k') = C 14 (4 * b + k')) ∧ (∀ k', k ≤ k' → k' < 4 → u 14 (4 * b + k') = C 45 k') ∧ (∀ i, i < 40 → u 15 (40 * b + i) = C 46 i) ∧ u 18 = C 18 := by
  intro nn
  induction nn with
  | zero => intro k C _ h; exact h.elim
  | succ nn ih =>
    intro k C hk h
    obtain ⟨_, _, h⟩ := (h : tr_d_X12_back_2 A u (fun z11 A13 => d_X12_back_2 A u nn z11 A13) (k : Int) C)
    rcases h with ⟨c, n3, h⟩ | ⟨c, _, _, z36, e36, A37, e37, h⟩
    · obtain ⟨a1, a2, a3, a4⟩ := M_back3 hb n3 0 C (by decide) h
      exact ⟨fun k' _ => by rw [a3], fun k' h1 h2 => by omega, fun i hi => a2 i (Nat.zero_le i) hi, a4⟩
    · rw [Int.toNat_natCast] at e36
      rw [hb, show (4 * (b : Int) + (k : Int)).toNat = 4 * b + k by omega] at e37
      obtain ⟨a1, a2, a3, a4⟩ := ih (k + 1) A37 (by omega) (by rw [show ((k + 1 : Nat) : Int) = (k : Int) + 1 by omega]; exact h)
      have r14 : A37 14 = up (C 14) (4 * b + k) z36 := by rw [e37, stA_same]
      have r : ∀ j, j ≠ 14 → A37 j = C j := fun j hj => by rw [e37, stA_ne _ _ hj]
      refine ⟨fun k' h1 => ?_, fun k' h1 h2 => ?_, fun i hi => by rw [a3 i hi, r 46 (by decide)], by rw [a4, r 18 (by decide)]⟩
      · rw [a1 k' (by omega), r14, up_ne _ _ (by omega)]
      · by_cases e : k' = k
        · subst e
          rw [a1 k' (by omega), r14, up_same, e36]
        · rw [a2 k' (by omega) h2, r 45 (by decide)]
theorem M_back1 {b : Nat} {A u : St} (hb : A 0 12 = (b : Int)) : ∀ (nn p : Nat) (C : St), p ≤ 3 → d_X12_back_1 A u nn (p : Int) C → (∀ p', p' < p → u 18 (3 * b + p') = C 18 (3 * b + p')) ∧ (∀ p', p ≤ p' → p' < 3 → u 18 (3 * b + p') = C 44 p') ∧ (∀ k, k < 4 → u 14 (4 * b + k) = C 45 k) ∧ ∀ i, i < 40 → u 15 (40 * b + i) = C 46 i := by
  intro nn
  induction nn with
  | zero => intro p C _ h; exact h.elim
  | succ nn ih =>
    intro p C hp h
    obtain ⟨_, _, h⟩ := (h : tr_d_X12_back_1 A u (fun z1 A3 => d_X12_back_1 A u nn z1 A3) (p : Int) C)
    rcases h with ⟨c, n2, h⟩ | ⟨c, z38, e38, A39, e39, h⟩
    · obtain ⟨a1, a2, a3, a4⟩ := M_back2 hb n2 0 C (by decide) h
      exact ⟨fun p' _ => by rw [a4], fun p' h1 h2 => by omega, fun k hk => a2 k (Nat.zero_le k) hk, a3⟩
    · rw [Int.toNat_natCast] at e38
      rw [hb, show (3 * (b : Int) + (p : Int)).toNat = 3 * b + p by omega] at e39
      obtain ⟨a1, a2, a3, a4⟩ := ih (p + 1) A39 (by omega) (by rw [show ((p + 1 : Nat) : Int) = (p : Int) + 1 by omega]; exact h)
      have r18 : A39 18 = up (C 18) (3 * b + p) z38 := by rw [e39, stA_same]
      have r : ∀ j, j ≠ 18 → A39 j = C j := fun j hj => by rw [e39, stA_ne _ _ hj]
      refine ⟨fun p' h1 => ?_, fun p' h1 h2 => ?_, fun k hk => by rw [a3 k hk, r 45 (by decide)], fun i hi => by rw [a4 i hi, r 46 (by decide)]⟩
      · rw [a1 p' (by omega), r18, up_ne _ _ (by omega)]
      · by_cases e : p' = p
        · subst e
          rw [a1 p' (by omega), r18, up_same, e38]
        · rw [a2 p' (by omega) h2, r 44 (by decide)]
theorem M_rowL {A u A2 : St} {z : Int} : ∀ (nn : Nat) (i n : Int) (C : St), fr [14, 15, 18, 42, 43] [] A2 C → d_X12_row_1 A z u nn i n C → ∃ D, fr [14, 15, 18, 42, 43] [] A2 D ∧ q_X12_back D u := by
  intro nn
  induction nn with
  | zero => intro i n C _ h; exact h.elim
  | succ nn ih =>
    intro i n C g h
    have on2 : ∀ (v : Int) (D : St), fr [14, 15, 18, 42, 43] [] A2 D → d_X12_row_2 (fun z5 z6 A8 => d_X12_row_1 A z u nn z5 z6 A8) i z u v D → ∃ D, fr [14, 15, 18, 42, 43] [] A2 D ∧ q_X12_back D u := by
      intro v D gD h
      obtain ⟨_, _, h⟩ := (h : tr_d_X12_row_2 (fun z5 z6 A8 => d_X12_row_1 A z u nn z5 z6 A8) i z u v D)
      rcases h with ⟨_, h⟩ | ⟨_, z41, _, h⟩
      · obtain ⟨_, h⟩ := (h : tr_d_X12_row_3 (fun z5 z6 A8 => d_X12_row_1 A z u nn z5 z6 A8) i D z u (-1))
        exact ih _ _ D gD h
      · obtain ⟨_, h⟩ := (h : tr_d_X12_row_3 (fun z5 z6 A8 => d_X12_row_1 A z u nn z5 z6 A8) i D z u z41)
        exact ih _ _ D gD h
    obtain ⟨_, _, _, h⟩ := (h : tr_d_X12_row_1 A z u (fun z5 z6 A8 => d_X12_row_1 A z u nn z5 z6 A8) i n C)
    rcases h with ⟨_, A17, hb, _, hu⟩ | ⟨_, h⟩
    · rw [hu]; exact ⟨C, g, hb⟩
    rcases h with ⟨_, A17, hb, _, hu⟩ | ⟨_, h⟩
    · rw [hu]; exact ⟨C, g, hb⟩
    rcases h with ⟨_, h⟩ | ⟨_, _, _, _, _, _, _, z29, A30, ht, h⟩
    · exact on2 _ C g h
    · exact on2 _ A30 (fr.trans g ht.2.2.1 rfl rfl) h
theorem row_keep {z1 z2 : Int} {B A u1 u2 : St} (hIK : IK B) (hIM : IM A) (hp : PSs B A) (ha : ACS B A) (h1 : r_X11_row B z1 u1) (hf1 : fk [33, 34, 35, 37, 38, 39, 40, 42, 43, 44, 46, 47, 48, 49, 72, 74, 75, 76, 78, 79, 80, 81, 103, 105, 106, 107, 109, 110, 111, 112] [(1, 1)] B u1) (h2 : q_X12_row A z2 u2) : ACS u1 u2 := by
  have hT := tB hIK
  have hA := ha.act hIM hp
  have l := hA.lim hIM
  have f9 : u1 0 9 = B 0 9 := hf1 0 9 rfl rfl
  have mb := MBc.fr hT ha.2 hf1 rfl rfl h2.2.2.1 rfl
  unfold ACS
  rw [f9, h2.2.2.1.2 12 rfl]
  refine ⟨?_, mb⟩
  have rows := tw_rows hT hf1 [1, 8, 9, 10, 11] rfl rfl
  refine ha.1.el l.2.2.1 l.2.2.2 ⟨⟨rows 1 rfl, rows 8 rfl, rows 9 rfl, rows 10 rfl, rows 11 rfl⟩, ?_⟩ ?_
  · obtain ⟨t, ht, A3, hc1, z6, A7, hfi, A12, hc2, A15, e15, _, hu⟩ := (h1 : tr_r_X11_row B z1 u1)
    rw [← ht] at hT ⊢
    have t51 : t = 51 ∨ t = 82 := hT
    have c1 := K_copy (by unfold DJ; omega) hc1
    have c2 := K_copy (by unfold DJ; omega) hc2
    have e9 : A3 0 9 = B 0 9 := by rw [c1.1 0 (by omega)]
    obtain ⟨nn, hfi⟩ := (hfi.1 : tr_r_X11_firstImpossible A3 z6 A7)
    have lw := low_first (by rw [e9, ← ht]; exact hT) nn 0 0 A3 hfi
    have hi : ∀ j, 51 ≤ j → u1 j = A12 j := fun j hj => by rw [hu, e15, stA_ne _ _ (by omega)]
    refine ⟨fun p hp3 => ?_, fun k hk => ?_⟩
    · show u1 (t + 23) p = B (t + 23) p
      rw [hi _ (by omega)]
      have a := c2.2.1 p hp3
      have b := c1.2.1 p hp3
      rw [lw 42 (by decide)] at a
      exact a.trans b
    · obtain ⟨a1, a2, a3⟩ := c2.2.2 k hk
      obtain ⟨b1, b2, b3⟩ := c1.2.2 k hk
      rw [lw 43 (by decide)] at a1
      rw [lw 44 (by decide)] at a2
      refine ⟨?_, ?_, fun i hi6 => ?_⟩
      · show u1 (t + 24) k = B (t + 24) k
        rw [hi _ (by omega)]
        exact a1.trans b1
      · show u1 (t + 25) k = B (t + 25) k
        rw [hi _ (by omega)]
        exact a2.trans b2
      · show u1 (t + (27 + k)) i = B (t + (27 + k)) i
        have x := a3 i hi6
        have y := b3 i hi6
        rw [lw (41 + 5 + k) (by omega)] at x
        rw [hi _ (by omega), show t + (27 + k) = t + 22 + 5 + k by omega]
        exact x.trans y
  · obtain ⟨b, hb⟩ : ∃ b : Nat, (A 0 12).toNat = b := ⟨_, rfl⟩
    rw [hb] at hA ⊢
    have b12 := hA.1
    obtain ⟨A1, e1, A2, hn, nn, hr⟩ := (h2.1 : tr_r_X12_row A z2 u2)
    obtain ⟨D, gD, hbk⟩ := M_rowL nn 0 (-1) A2 fr.rf hr
    have a1 : ∀ j, j ≠ 0 → A1 j = A j := fun j hj => by rw [e1, stA_ne _ _ hj]
    have f1 : A1 0 12 = (b : Int) := by rw [e1]; exact b12
    have f2 : A2 0 12 = (b : Int) := (hn.2.2.1.2 12 rfl).trans f1
    have fD : D 0 12 = (b : Int) := (gD.2 12 rfl).trans f2
    obtain ⟨n1, hn1⟩ := (hn.1 : tr_r_X12_notes A1 A2)
    obtain ⟨_, x1, x2, x3⟩ := M_notes1 f1 n1 0 A1 (by decide) hn1
    obtain ⟨n2, hn2⟩ := (hbk.1 : tr_r_X12_back D u2)
    obtain ⟨_, y1, y2, y3⟩ := M_back1 fD n2 0 D (by decide) hn2
    refine ⟨fun p hp3 => ?_, fun k hk => ⟨?_, ?_, fun i hi => ?_⟩⟩
    · rw [y1 p (Nat.zero_le p) hp3, gD.1 44 (by decide) rfl, x1 p (Nat.zero_le p) hp3, a1 18 (by decide)]
    · rw [h2.2.2.1.1 13 (by decide) rfl]
    · rw [y2 k hk, gD.1 45 (by decide) rfl, x2 k hk, a1 14 (by decide)]
    · have e : 40 * b + 10 * k + i = 40 * b + (10 * k + i) := by omega
      rw [e, y3 _ (by omega), gD.1 46 (by decide) rfl, x3 _ (by omega), a1 15 (by decide)]
