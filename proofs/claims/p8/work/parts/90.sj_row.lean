/-! A told row changes nothing in the end. -/
def eT (T T' : St) : Prop := (T' 1 = T 1 ∧ T' 8 = T 8 ∧ T' 9 = T 9 ∧ T' 10 = T 10 ∧ T' 11 = T 11) ∧ (∀ k, k < 3 → T' 23 k = T 23 k) ∧ ∀ k, k < 4 → T' 24 k = T 24 k ∧ T' 25 k = T 25 k ∧ ∀ i, i < 6 → T' (27 + k) i = T (27 + k) i
def eM (b : Nat) (A A' : St) : Prop := (∀ k, k < 3 → A' 18 (3 * b + k) = A 18 (3 * b + k)) ∧ ∀ k, k < 4 → A' 13 (4 * b + k) = A 13 (4 * b + k) ∧ A' 14 (4 * b + k) = A 14 (4 * b + k) ∧ ∀ i, i < 10 → A' 15 (40 * b + 10 * k + i) = A 15 (40 * b + 10 * k + i)
theorem AC.el {b : Nat} {A A' T T' : St} (h : AC b A T) (h4 : T 1 2 ≤ 4) (h3 : T 1 3 ≤ 3) (g : eT T T') (gA : eM b A A') : AC b A' T' := by
  obtain ⟨⟨e1, e8, e9, e10, e11⟩, e23, eK⟩ := g
  obtain ⟨m18, mK⟩ := gA
  have G : GR T T' := by
    refine ⟨?_, fun k _ => ?_⟩
    · rw [e1]
      exact ⟨Int.le_refl _, Int.le_refl _, Int.le_refl _, Int.le_refl _, Int.le_refl _⟩
    · rw [e8, e9, e10]
      exact ⟨rfl, rfl, rfl⟩
  refine ⟨⟨fun k hk => ?_, fun k hk h2 => ?_⟩, fun k hk => ?_, ?_⟩
  · rw [e1] at hk
    have x := h.1.1 k hk
    have r := (h.2.2.2.2.2.1 k hk).1
    have ek := eK k (by omega)
    have em := mK k (by omega)
    refine ⟨by rw [em.1, ek.1]; exact x.1, by rw [em.2.1, ek.2.1]; exact x.2.1, fun i hi => ?_⟩
    rw [ek.2.1] at hi
    rw [em.2.2 i (by omega), ek.2.2 i (by omega)]
    exact x.2.2 i hi
  · rw [e1] at h2
    rw [(eK k hk).2.1]
    exact h.1.2 k hk h2
  · rw [e1] at hk
    rw [m18 k (by omega), e23 k (by omega)]
    exact h.2.1 k hk
  · refine h.2.2.step G (fun k h1 h2 => by rw [e1] at h2; omega) (fun k hk => e23 k (by omega)) (fun k h1 h2 => by rw [e1] at h2; omega) (fun k hk => ?_) (fun k h1 h2 => by rw [e1] at h2; omega) (fun k hk h2 => ?_) (fun k _ => by rw [e11]) (fun k h1 h2 => by rw [e1] at h2; omega)
    · obtain ⟨x1, x2, x3, x4⟩ := h.2.2.2.2.2.1 k hk
      have ek := eK k (by omega)
      unfold KV
      rw [ek.1, ek.2.1, e1]
      refine ⟨x1, fun i hi => ?_, fun i j hij hj => ?_, x4.gr G⟩
      · rw [ek.2.2 i (by omega)]
        exact x2 i hi
      · rw [ek.2.2 i (by omega), ek.2.2 j (by omega)]
        exact x3 i j hij hj
    · rw [e1] at h2
      rw [(eK k hk).2.1]
      exact h.1.2 k hk h2
/-- copies of a standing -/
def DJ (ta tb : Nat) : Prop := ta + 9 ≤ tb ∨ tb + 9 ≤ ta
def KEY3 (ta tb k : Nat) (A u : St) : Prop := u (ta + 2) k = A (tb + 2) k ∧ u (ta + 3) k = A (tb + 3) k ∧ ∀ i, i < 6 → u (ta + 5 + k) i = A (tb + 5 + k) i
theorem K_copy3 {K2 : Int → St → Prop} {ta tb k : Nat} {u : St} (dj : DJ ta tb) (hk : k < 4) : ∀ (nn i : Nat) (C : St), i ≤ 6 → d_X6_copyFrom_3 K2 ta tb (k : Int) u nn (i : Int) C → ∃ C', K2 ((k : Int) + 1) C' ∧ (∀ j, j ≠ ta + 5 + k → C' j = C j) ∧ (∀ i', i' < i → C' (ta + 5 + k) i' = C (ta + 5 + k) i') ∧ ∀ i', i ≤ i' → i' < 6 → C' (ta + 5 + k) i' = C (tb + 5 + k) i' := by
  have ne : tb + 5 + k ≠ ta + 5 + k := by unfold DJ at dj; omega
  intro nn
  induction nn with
  | zero => intro i C _ h; exact h.elim
  | succ nn ih =>
    intro i C hi h
    obtain ⟨_, _, h⟩ := (h : tr_d_X6_copyFrom_3 K2 ta tb (k : Int) u (fun z24 A26 => d_X6_copyFrom_3 K2 ta tb (k : Int) u nn z24 A26) (i : Int) C)
    rcases h with ⟨c, h⟩ | ⟨c, z33, e33, A34, e34, h⟩
    · exact ⟨C, h, fun _ _ => rfl, fun _ _ => rfl, fun i' h1 h2 => by omega⟩
    · rw [Int.toNat_natCast, Int.toNat_natCast] at e33 e34
      obtain ⟨C', g1, g2, g3, g4⟩ := ih (i + 1) A34 (by omega) (by rw [show ((i + 1 : Nat) : Int) = (i : Int) + 1 by omega]; exact h)
      have s34 : ∀ j, j ≠ ta + 5 + k → A34 j = C j := fun j hj => by rw [e34, stA_ne _ _ hj]
      refine ⟨C', g1, fun j hj => (g2 j hj).trans (s34 j hj), fun i' h1 => ?_, fun i' h1 h2 => ?_⟩
      · rw [g3 i' (by omega), e34, stA_same, up_ne _ _ (by omega)]
      · by_cases e : i' = i
        · subst e
          rw [g3 i' (by omega), e34, stA_same, up_same, e33]
        · rw [g4 i' (by omega) h2, s34 _ ne]
theorem K_copy2 {ta tb : Nat} {u : St} (dj : DJ ta tb) : ∀ (nn k : Nat) (C : St), k ≤ 4 → d_X6_copyFrom_2 ta tb u nn (k : Int) C → (∀ j, j ≠ ta + 2 → j ≠ ta + 3 → (j < ta + 5 + k ∨ ta + 9 ≤ j) → u j = C j) ∧ (∀ k', k' < k → u (ta + 2) k' = C (ta + 2) k' ∧ u (ta + 3) k' = C (ta + 3) k') ∧ ∀ k', k ≤ k' → k' < 4 → KEY3 ta tb k' C u := by
  intro nn
  induction nn with
  | zero => intro k C _ h; exact h.elim
  | succ nn ih =>
    intro k C hk h
    obtain ⟨_, _, h⟩ := (h : tr_d_X6_copyFrom_2 ta tb u (fun z10 A12 => d_X6_copyFrom_2 ta tb u nn z10 A12) (k : Int) C)
    rcases h with ⟨c, hu⟩ | ⟨c, z19, e19, A20, e20, z22, e22, A23, e23, n3, h⟩
    · rw [hu]
      exact ⟨fun _ _ _ _ => rfl, fun _ _ => ⟨rfl, rfl⟩, fun k' h1 h2 => by omega⟩
    · rw [Int.toNat_natCast] at e19 e20 e22 e23
      have hk4 : k < 4 := by omega
      obtain ⟨C', g1, g2, g3, g4⟩ := K_copy3 dj hk4 n3 0 A23 (by decide) h
      obtain ⟨i1, i2, i3⟩ := ih (k + 1) C' (by omega) (by rw [show ((k + 1 : Nat) : Int) = (k : Int) + 1 by omega]; exact g1)
      have d2 : tb + 2 ≠ ta + 2 ∧ tb + 2 ≠ ta + 3 ∧ tb + 3 ≠ ta + 2 ∧ tb + 3 ≠ ta + 3 := by unfold DJ at dj; omega
      have d5 : ∀ k', k' < 4 → tb + 5 + k' ≠ ta + 2 ∧ tb + 5 + k' ≠ ta + 3 ∧ tb + 5 + k' ≠ ta + 5 + k ∧ tb + 2 ≠ ta + 5 + k ∧ tb + 3 ≠ ta + 5 + k := by intro k' _; unfold DJ at dj; omega
      have low : ∀ j, j ≠ ta + 2 → j ≠ ta + 3 → A23 j = C j := fun j h1 h2 => by rw [e23, stA_ne _ _ h2, e20, stA_ne _ _ h1]
      have r2 : A23 (ta + 2) = up (C (ta + 2)) k (C (tb + 2) k) := by rw [e23, stA_ne _ _ (by omega), e20, stA_same, e19]
      have r3 : A23 (ta + 3) = up (C (ta + 3)) k (C (tb + 3) k) := by
        rw [e23, stA_same, e22]
        rw [e20, stA_ne _ _ (show ta + 3 ≠ ta + 2 by omega), stA_ne _ _ d2.2.2.1]
      refine ⟨fun j h1 h2 h3 => ?_, fun k' h1 => ?_, fun k' h1 h2 => ?_⟩
      · rw [i1 j h1 h2 (by omega), g2 j (by omega), low j h1 h2]
      · have a := i2 k' (by omega)
        rw [a.1, a.2, g2 _ (by omega), g2 _ (by omega), r2, r3, up_ne _ _ (by omega), up_ne _ _ (by omega)]
        exact ⟨rfl, rfl⟩
      · by_cases e : k' = k
        · subst e
          have a := i2 k' (by omega)
          refine ⟨?_, ?_, fun i hi => ?_⟩
          · rw [a.1, g2 _ (by omega), r2, up_same]
          · rw [a.2, g2 _ (by omega), r3, up_same]
          · have x := d5 k' h2
            rw [i1 (ta + 5 + k') (by omega) (by omega) (by omega), g4 i (Nat.zero_le i) hi, low _ x.1 x.2.1]
        · have x := d5 k' h2
          obtain ⟨a1, a2, a3⟩ := i3 k' (by omega) h2
          have y2 : C' (tb + 2) = C (tb + 2) := (g2 _ x.2.2.2.1).trans (low _ d2.1 d2.2.1)
          have y3 : C' (tb + 3) = C (tb + 3) := (g2 _ x.2.2.2.2).trans (low _ d2.2.2.1 d2.2.2.2)
          have y5 : C' (tb + 5 + k') = C (tb + 5 + k') := (g2 _ x.2.2.1).trans (low _ x.1 x.2.1)
          rw [y2] at a1
          rw [y3] at a2
          exact ⟨a1, a2, fun i hi => by rw [a3 i hi, y5]⟩
def CPY (ta tb : Nat) (A u : St) : Prop := (∀ j, (j < ta + 1 ∨ ta + 9 ≤ j) → u j = A j) ∧ (∀ p, p < 3 → u (ta + 1) p = A (tb + 1) p) ∧ ∀ k, k < 4 → KEY3 ta tb k A u
theorem K_copy1 {ta tb : Nat} {u : St} (dj : DJ ta tb) : ∀ (nn p : Nat) (C : St), p ≤ 3 → d_X6_copyFrom_1 ta tb u nn (p : Int) C → (∀ j, (j < ta + 1 ∨ ta + 9 ≤ j) → u j = C j) ∧ (∀ p', p' < p → u (ta + 1) p' = C (ta + 1) p') ∧ (∀ p', p ≤ p' → p' < 3 → u (ta + 1) p' = C (tb + 1) p') ∧ ∀ k, k < 4 → KEY3 ta tb k C u := by
  intro nn
  induction nn with
  | zero => intro p C _ h; exact h.elim
  | succ nn ih =>
    intro p C hp h
    obtain ⟨_, _, h⟩ := (h : tr_d_X6_copyFrom_1 ta tb u (fun z1 A3 => d_X6_copyFrom_1 ta tb u nn z1 A3) (p : Int) C)
    rcases h with ⟨c, n2, h⟩ | ⟨c, z35, e35, A36, e36, h⟩
    · obtain ⟨a1, a2, a3⟩ := K_copy2 dj n2 0 C (by decide) h
      exact ⟨fun j hj => a1 j (by omega) (by omega) (by omega), fun p' _ => by rw [a1 (ta + 1) (by omega) (by omega) (by omega)], fun p' h1 h2 => by omega, fun k hk => a3 k (Nat.zero_le k) hk⟩
    · rw [Int.toNat_natCast] at e35 e36
      obtain ⟨a1, a2, a3, a4⟩ := ih (p + 1) A36 (by omega) (by rw [show ((p + 1 : Nat) : Int) = (p : Int) + 1 by omega]; exact h)
      have low : ∀ j, j ≠ ta + 1 → A36 j = C j := fun j hj => by rw [e36, stA_ne _ _ hj]
      have d : tb + 1 ≠ ta + 1 ∧ tb + 2 ≠ ta + 1 ∧ tb + 3 ≠ ta + 1 ∧ ∀ k, k < 4 → tb + 5 + k ≠ ta + 1 := by
        unfold DJ at dj
        exact ⟨by omega, by omega, by omega, fun k _ => by omega⟩
      refine ⟨fun j hj => (a1 j hj).trans (low j (by omega)), fun p' h1 => ?_, fun p' h1 h2 => ?_, fun k hk => ?_⟩
      · rw [a2 p' (by omega), e36, stA_same, up_ne _ _ (by omega)]
      · by_cases e : p' = p
        · subst e
          rw [a2 p' (by omega), e36, stA_same, up_same, e35]
        · rw [a3 p' (by omega) h2, low _ d.1]
      · obtain ⟨b1, b2, b3⟩ := a4 k hk
        rw [low _ d.2.1] at b1
        rw [low _ d.2.2.1] at b2
        exact ⟨b1, b2, fun i hi => by rw [b3 i hi, low _ (d.2.2.2 k hk)]⟩
theorem K_copy {ta tb : Nat} {A u : St} (dj : DJ ta tb) (h : q_X6_copyFrom ta tb A u) : CPY ta tb A u := by
  obtain ⟨nn, h⟩ := (h.1 : tr_r_X6_copyFrom ta tb A u)
  obtain ⟨a1, _, a3, a4⟩ := K_copy1 dj nn 0 A (by decide) h
  exact ⟨a1, fun p hp => a3 p (Nat.zero_le p) hp, a4⟩
/-- acts leave what lies below the towns alone -/
def LW51 (A u : St) : Prop := ∀ j, j < 51 → u j = A j
theorem LW51.rf {A : St} : LW51 A A := fun _ _ => rfl
theorem LW51.trans {A B C : St} (h : LW51 A B) (g : LW51 B C) : LW51 A C := fun j hj => (g j hj).trans (h j hj)
theorem LW51.st {A B : St} {j i : Nat} {v : Int} (h : LW51 A B) (hj : 51 ≤ j) : LW51 A (stA B j i v) := fun j' h' => (stA_ne _ _ (by omega)).trans (h j' h')
theorem low_bar {A u : St} (h : fk [72, 103] [] A u) : LW51 A u := by
  intro j hj
  funext k
  refine h j k ?_ rfl
  cases hc : ([72, 103] : List Nat).contains j with
  | false => rfl
  | true =>
    have := List.contains_iff_mem.mp hc
    simp at this
    omega
theorem low_go {t : Nat} {x1 x2 z : Int} {A u : St} (hT : isT t) (h : q_X9_goThrough t x1 x2 A z u) : LW51 A u := by
  have t51 : 51 ≤ t := by rcases hT with e | e <;> omega
  obtain ⟨_, _, h⟩ := (h.1 : tr_r_X9_goThrough t x1 x2 A z u)
  rcases h with ⟨_, _, hu⟩ | ⟨_, _, _, h⟩
  · rw [hu]; exact LW51.rf
  rcases h with ⟨_, _, hu⟩ | ⟨_, _, _, h⟩
  · rw [hu]; exact LW51.rf
  rcases h with ⟨_, _, _, _, _, _, _, h⟩ | ⟨_, _, hu⟩
  case inr => rw [hu]; exact LW51.rf
  rcases h with ⟨_, _, hu⟩ | ⟨_, _, _, _, _, h⟩
  · rw [hu]; exact LW51.rf
  rcases h with ⟨_, _, _, _, _, _, _, _, A34, hb, h⟩ | ⟨_, _, hu⟩
  case inr => rw [hu]; exact LW51.rf
  have g := low_bar hb.2.2.1
  rcases h with ⟨_, _, _, A41, e41, _, hu⟩ | ⟨_, _, hu⟩
  · rw [hu, e41]; exact g.st (by omega)
  · rw [hu]; exact g
theorem low_open {t : Nat} {x1 x2 z : Int} {A u : St} (hT : isT t) (h : q_X9_openWith t x1 x2 A z u) : LW51 A u := by
  have t51 : 51 ≤ t := by rcases hT with e | e <;> omega
  obtain ⟨_, _, h⟩ := (h.1 : tr_r_X9_openWith t x1 x2 A z u)
  rcases h with ⟨_, _, _, h⟩ | ⟨_, _, hu⟩
  case inr => rw [hu]; exact LW51.rf
  rcases h with ⟨_, _, hu⟩ | ⟨_, _, _, _, _, h⟩
  · rw [hu]; exact LW51.rf
  rcases h with ⟨_, _, _, A15, e15, _, hu⟩ | ⟨_, _, hu⟩
  · rw [hu, e15]; exact LW51.rf.st (by omega)
  · rw [hu]; exact LW51.rf
theorem low_push {ta : Nat} {x1 x2 z : Int} {A u : St} (hT : 51 ≤ ta) (h : q_X6_push ta x1 x2 A z u) : LW51 A u := by
  rcases (h.1 : tr_r_X6_push ta x1 x2 A z u) with ⟨_, _, hu⟩ | ⟨_, h⟩
  · rw [hu]; exact LW51.rf
  rcases h with ⟨_, _, hu⟩ | ⟨_, _, _, h⟩
  · rw [hu]; exact LW51.rf
  rcases h with ⟨_, _, _, h⟩ | ⟨_, _, hu⟩
  case inr => rw [hu]; exact LW51.rf
  rcases h with ⟨_, A10, e10, A11, e11, _, hu⟩ | ⟨_, _, hu⟩
  · rw [hu, e11, e10]; exact (LW51.rf.st (by omega)).st (by omega)
  · rw [hu]; exact LW51.rf
theorem low_shut {t : Nat} {x1 x2 x3 z : Int} {A u : St} (hT : isT t) (h : q_X9_shutWith t x1 x2 x3 A z u) : LW51 A u := by
  have t51 : 51 ≤ t := by rcases hT with e | e <;> omega
  obtain ⟨_, _, h⟩ := (h.1 : tr_r_X9_shutWith t x1 x2 x3 A z u)
  rcases h with ⟨_, _, hu⟩ | ⟨_, _, _, _, _, h⟩
  · rw [hu]; exact LW51.rf
  rcases h with ⟨_, _, hu⟩ | ⟨_, _, A11, hp, h⟩
  · rw [hu]; exact LW51.rf
  have g := low_push (by omega) hp
  rcases h with ⟨_, _, _, _, hu⟩ | ⟨_, _, hu⟩
  · rw [hu]; exact g
  · rw [hu]; exact g
theorem low_told {t : Nat} {x1 x2 x3 z : Int} {A u : St} (hT : isT t) (h : q_X9_toldAct t x1 x2 x3 A z u) : LW51 A u := by
  rcases (h.1 : tr_r_X9_toldAct t x1 x2 x3 A z u) with ⟨_, _, hu⟩ | ⟨_, _, _, hg, _, hu⟩ | ⟨_, _, _, hg, _, hu⟩ | ⟨_, _, _, _, _, hg, _, hu⟩
  · rw [hu]; exact LW51.rf
  · rw [hu]; exact low_go hT hg
  · rw [hu]; exact low_open hT hg
  · rw [hu]; exact low_shut hT hg
theorem low_first {A u : St} {z : Int} (hT : isT (51 + 31 * (A 0 9).toNat)) : ∀ (nn : Nat) (i n : Int) (C : St), d_X11_firstImpossible_1 A z u nn i n C → LW51 C u := by
  intro nn
  induction nn with
  | zero => intro i n C h; exact h.elim
  | succ nn ih =>
    intro i n C h
    obtain ⟨_, _, _, h⟩ := (h : tr_d_X11_firstImpossible_1 A z u (fun z1 z2 A4 => d_X11_firstImpossible_1 A z u nn z1 z2 A4) i n C)
    rcases h with ⟨_, _, hu⟩ | ⟨_, h⟩
    · rw [hu]; exact LW51.rf
    rcases h with ⟨_, t19, et, _, _, _, _, _, _, _, A30, ht, h⟩ | ⟨_, _, hu⟩
    · rw [← et] at hT
      have g := low_told hT ht
      rcases h with ⟨_, _, _, h⟩ | ⟨_, _, hu⟩
      · exact g.trans (ih _ _ A30 h)
      · rw [hu]; exact g
    · rw [hu]; exact LW51.rf
/-- the reference's notes, and back -/
theorem M_notes3 {b : Nat} {A u : St} (hb : A 0 12 = (b : Int)) : ∀ (nn i : Nat) (C : St), i ≤ 40 → d_X12_notes_3 A u nn (i : Int) C → (∀ i', i' < i → u 46 i' = C 46 i') ∧ (∀ i', i ≤ i' → i' < 40 → u 46 i' = C 15 (40 * b + i')) ∧ u 44 = C 44 ∧ u 45 = C 45 := by
  intro nn
  induction nn with
  | zero => intro i C _ h; exact h.elim
  | succ nn ih =>
    intro i C hi h
    obtain ⟨_, _, h⟩ := (h : tr_d_X12_notes_3 A u (fun z21 A23 => d_X12_notes_3 A u nn z21 A23) (i : Int) C)
    rcases h with ⟨c, hu⟩ | ⟨c, z31, e31, A32, e32, h⟩
    · rw [hu]
      exact ⟨fun _ _ => rfl, fun i' h1 h2 => by omega, rfl, rfl⟩
    · rw [hb, show (40 * (b : Int) + (i : Int)).toNat = 40 * b + i by omega] at e31
      rw [Int.toNat_natCast] at e32
      obtain ⟨a1, a2, a3, a4⟩ := ih (i + 1) A32 (by omega) (by rw [show ((i + 1 : Nat) : Int) = (i : Int) + 1 by omega]; exact h)
      have r46 : A32 46 = up (C 46) i z31 := by rw [e32, stA_same]
      have r15 : A32 15 = C 15 := by rw [e32, stA_ne _ _ (by decide)]
      refine ⟨fun i' h1 => ?_, fun i' h1 h2 => ?_, by rw [a3, e32, stA_ne _ _ (by decide)], by rw [a4, e32, stA_ne _ _ (by decide)]⟩
      · rw [a1 i' (by omega), r46, up_ne _ _ (by omega)]
      · by_cases e : i' = i
        · subst e
          rw [a1 i' (by omega), r46, up_same, e31]
        · rw [a2 i' (by omega) h2, r15]
theorem M_notes2 {b : Nat} {A u : St} (hb : A 0 12 = (b : Int)) : ∀ (nn k : Nat) (C : St), k ≤ 4 → d_X12_notes_2 A u nn (k : Int) C → (∀ k', k' < k → u 45 k' = C 45 k') ∧ (∀ k', k ≤ k' → k' < 4 → u 45 k' = C 14 (4 * b + k')) ∧ (∀ i, i < 40 → u 46 i = C 15 (40 * b + i)) ∧ u 44 = C 44 := by
  intro nn
  induction nn with
  | zero => intro k C _ h; exact h.elim
  | succ nn ih =>
    intro k C hk h
    obtain ⟨_, _, h⟩ := (h : tr_d_X12_notes_2 A u (fun z11 A13 => d_X12_notes_2 A u nn z11 A13) (k : Int) C)
    rcases h with ⟨c, n3, h⟩ | ⟨c, _, _, z36, e36, A37, e37, h⟩
    · obtain ⟨a1, a2, a3, a4⟩ := M_notes3 hb n3 0 C (by decide) h
      exact ⟨fun k' _ => by rw [a4], fun k' h1 h2 => by omega, fun i hi => a2 i (Nat.zero_le i) hi, a3⟩
    · rw [hb, show (4 * (b : Int) + (k : Int)).toNat = 4 * b + k by omega] at e36
      rw [Int.toNat_natCast] at e37
      obtain ⟨a1, a2, a3, a4⟩ := ih (k + 1) A37 (by omega) (by rw [show ((k + 1 : Nat) : Int) = (k : Int) + 1 by omega]; exact h)
      have r45 : A37 45 = up (C 45) k z36 := by rw [e37, stA_same]
      have r : ∀ j, j ≠ 45 → A37 j = C j := fun j hj => by rw [e37, stA_ne _ _ hj]
      refine ⟨fun k' h1 => ?_, fun k' h1 h2 => ?_, fun i hi => by rw [a3 i hi, r 15 (by decide)], by rw [a4, r 44 (by decide)]⟩
      · rw [a1 k' (by omega), r45, up_ne _ _ (by omega)]
      · by_cases e : k' = k
        · subst e
          rw [a1 k' (by omega), r45, up_same, e36]
        · rw [a2 k' (by omega) h2, r 14 (by decide)]
theorem M_notes1 {b : Nat} {A u : St} (hb : A 0 12 = (b : Int)) : ∀ (nn p : Nat) (C : St), p ≤ 3 → d_X12_notes_1 A u nn (p : Int) C → (∀ p', p' < p → u 44 p' = C 44 p') ∧ (∀ p', p ≤ p' → p' < 3 → u 44 p' = C 18 (3 * b + p')) ∧ (∀ k, k < 4 → u 45 k = C 14 (4 * b + k)) ∧ ∀ i, i < 40 → u 46 i = C 15 (40 * b + i) := by
  intro nn
  induction nn with
  | zero => intro p C _ h; exact h.elim
  | succ nn ih =>
    intro p C hp h
    obtain ⟨_, _, h⟩ := (h : tr_d_X12_notes_1 A u (fun z1 A3 => d_X12_notes_1 A u nn z1 A3) (p : Int) C)
    rcases h with ⟨c, n2, h⟩ | ⟨c, z38, e38, A39, e39, h⟩
    · obtain ⟨a1, a2, a3, a4⟩ := M_notes2 hb n2 0 C (by decide) h
      exact ⟨fun p' _ => by rw [a4], fun p' h1 h2 => by omega, fun k hk => a2 k (Nat.zero_le k) hk, a3⟩
    · rw [hb, show (3 * (b : Int) + (p : Int)).toNat = 3 * b + p by omega] at e38
      rw [Int.toNat_natCast] at e39
      obtain ⟨a1, a2, a3, a4⟩ := ih (p + 1) A39 (by omega) (by rw [show ((p + 1 : Nat) : Int) = (p : Int) + 1 by omega]; exact h)
      have r44 : A39 44 = up (C 44) p z38 := by rw [e39, stA_same]
      have r : ∀ j, j ≠ 44 → A39 j = C j := fun j hj => by rw [e39, stA_ne _ _ hj]
      refine ⟨fun p' h1 => ?_, fun p' h1 h2 => ?_, fun k hk => by rw [a3 k hk, r 14 (by decide)], fun i hi => by rw [a4 i hi, r 15 (by decide)]⟩
      · rw [a1 p' (by omega), r44, up_ne _ _ (by omega)]
      · by_cases e : p' = p
        · subst e
          rw [a1 p' (by omega), r44, up_same, e38]
        · rw [a2 p' (by omega) h2, r 18 (by decide)]
theorem M_back3 {b : Nat} {A u : St} (hb : A 0 12 = (b : Int)) : ∀ (nn i : Nat) (C : St), i ≤ 40 → d_X12_back_3 A u nn (i : Int) C → (∀ i', i' < i → u 15 (40 * b + i') = C 15 (40 * b + i')) ∧ (∀ i', i ≤ i' → i' < 40 → u 15 (40 * b + i') = C 46 i') ∧ u 14 = C 14 ∧ u 18 = C 18 := by
  intro nn
  induction nn with
  | zero => intro i C _ h; exact h.elim
  | succ nn ih =>
    intro i C hi h
    obtain ⟨_, _, h⟩ := (h : tr_d_X12_back_3 A u (fun z21 A23 => d_X12_back_3 A u nn z21 A23) (i : Int) C)
    rcases h with ⟨c, hu⟩ | ⟨c, z31, e31, A32, e32, h⟩
    · rw [hu]
      exact ⟨fun _ _ => rfl, fun i' h1 h2 => by omega, rfl, rfl⟩
    · rw [Int.toNat_natCast] at e31
      rw [hb, show (40 * (b : Int) + (i : Int)).toNat = 40 * b + i by omega] at e32
      obtain ⟨a1, a2, a3, a4⟩ := ih (i + 1) A32 (by omega) (by rw [show ((i + 1 : Nat) : Int) = (i : Int) + 1 by omega]; exact h)
      have r15 : A32 15 = up (C 15) (40 * b + i) z31 := by rw [e32, stA_same]
      have r46 : A32 46 = C 46 := by rw [e32, stA_ne _ _ (by decide)]
      refine ⟨fun i' h1 => ?_, fun i' h1 h2 => ?_, by rw [a3, e32, stA_ne _ _ (by decide)], by rw [a4, e32, stA_ne _ _ (by decide)]⟩
      · rw [a1 i' (by omega), r15, up_ne _ _ (by omega)]
      · by_cases e : i' = i
        · subst e
          rw [a1 i' (by omega), r15, up_same, e31]
        · rw [a2 i' (by omega) h2, r46]
theorem M_back2 {b : Nat} {A u : St} (hb : A 0 12 = (b : Int)) : ∀ (nn k : Nat) (C : St), k ≤ 4 → d_X12_back_2 A u nn (k : Int) C → (∀ k', k' < k → u 14 (4 * b + k') = C 14 (4 * b + k')) ∧ (∀ k', k ≤ k' → k' < 4 → u 14 (4 * b + k') = C 45 k') ∧ (∀ i, i < 40 → u 15 (40 * b + i) = C 46 i) ∧ u 18 = C 18 := by
  intro nn
  induction nn with
  | zero => intro k C _ h; exact h.elim
  | succ nn ih =>
    intro k C hk h
    obtain ⟨_, _, h⟩ := (h : tr_d_X12_back_2 A u (fun z11 A13 => d_X12_back_2 A u nn z11 A13) (k : Int) C)
    rcases h with ⟨c, n3, h⟩ | ⟨c, _, _, z36, e36, A37, e37, h⟩
    · obtain ⟨a1, a2, a3, a4⟩ := M_back3 hb n3 0 C (by decide) h
      exact ⟨fun k' _ => by rw [a3], fun k' h1 h2 => by omega, fun i hi => a2 i (Nat.zero_le i) hi, a4⟩
    · rw [Int.toNat_natCast] at e36
      rw [hb, show (4 * (b : Int) + (k : Int)).toNat = 4 * b + k by omega] at e37
      obtain ⟨a1, a2, a3, a4⟩ := ih (k + 1) A37 (by omega) (by rw [show ((k + 1 : Nat) : Int) = (k : Int) + 1 by omega]; exact h)
      have r14 : A37 14 = up (C 14) (4 * b + k) z36 := by rw [e37, stA_same]
      have r : ∀ j, j ≠ 14 → A37 j = C j := fun j hj => by rw [e37, stA_ne _ _ hj]
      refine ⟨fun k' h1 => ?_, fun k' h1 h2 => ?_, fun i hi => by rw [a3 i hi, r 46 (by decide)], by rw [a4, r 18 (by decide)]⟩
      · rw [a1 k' (by omega), r14, up_ne _ _ (by omega)]
      · by_cases e : k' = k
        · subst e
          rw [a1 k' (by omega), r14, up_same, e36]
        · rw [a2 k' (by omega) h2, r 45 (by decide)]
theorem M_back1 {b : Nat} {A u : St} (hb : A 0 12 = (b : Int)) : ∀ (nn p : Nat) (C : St), p ≤ 3 → d_X12_back_1 A u nn (p : Int) C → (∀ p', p' < p → u 18 (3 * b + p') = C 18 (3 * b + p')) ∧ (∀ p', p ≤ p' → p' < 3 → u 18 (3 * b + p') = C 44 p') ∧ (∀ k, k < 4 → u 14 (4 * b + k) = C 45 k) ∧ ∀ i, i < 40 → u 15 (40 * b + i) = C 46 i := by
  intro nn
  induction nn with
  | zero => intro p C _ h; exact h.elim
  | succ nn ih =>
    intro p C hp h
    obtain ⟨_, _, h⟩ := (h : tr_d_X12_back_1 A u (fun z1 A3 => d_X12_back_1 A u nn z1 A3) (p : Int) C)
    rcases h with ⟨c, n2, h⟩ | ⟨c, z38, e38, A39, e39, h⟩
    · obtain ⟨a1, a2, a3, a4⟩ := M_back2 hb n2 0 C (by decide) h
      exact ⟨fun p' _ => by rw [a4], fun p' h1 h2 => by omega, fun k hk => a2 k (Nat.zero_le k) hk, a3⟩
    · rw [Int.toNat_natCast] at e38
      rw [hb, show (3 * (b : Int) + (p : Int)).toNat = 3 * b + p by omega] at e39
      obtain ⟨a1, a2, a3, a4⟩ := ih (p + 1) A39 (by omega) (by rw [show ((p + 1 : Nat) : Int) = (p : Int) + 1 by omega]; exact h)
      have r18 : A39 18 = up (C 18) (3 * b + p) z38 := by rw [e39, stA_same]
      have r : ∀ j, j ≠ 18 → A39 j = C j := fun j hj => by rw [e39, stA_ne _ _ hj]
      refine ⟨fun p' h1 => ?_, fun p' h1 h2 => ?_, fun k hk => by rw [a3 k hk, r 45 (by decide)], fun i hi => by rw [a4 i hi, r 46 (by decide)]⟩
      · rw [a1 p' (by omega), r18, up_ne _ _ (by omega)]
      · by_cases e : p' = p
        · subst e
          rw [a1 p' (by omega), r18, up_same, e38]
        · rw [a2 p' (by omega) h2, r 44 (by decide)]
theorem M_rowL {A u A2 : St} {z : Int} : ∀ (nn : Nat) (i n : Int) (C : St), fr [14, 15, 18, 42, 43] [] A2 C → d_X12_row_1 A z u nn i n C → ∃ D, fr [14, 15, 18, 42, 43] [] A2 D ∧ q_X12_back D u := by
  intro nn
  induction nn with
  | zero => intro i n C _ h; exact h.elim
  | succ nn ih =>
    intro i n C g h
    have on2 : ∀ (v : Int) (D : St), fr [14, 15, 18, 42, 43] [] A2 D → d_X12_row_2 (fun z5 z6 A8 => d_X12_row_1 A z u nn z5 z6 A8) i z u v D → ∃ D, fr [14, 15, 18, 42, 43] [] A2 D ∧ q_X12_back D u := by
      intro v D gD h
      obtain ⟨_, _, h⟩ := (h : tr_d_X12_row_2 (fun z5 z6 A8 => d_X12_row_1 A z u nn z5 z6 A8) i z u v D)
      rcases h with ⟨_, h⟩ | ⟨_, z41, _, h⟩
      · obtain ⟨_, h⟩ := (h : tr_d_X12_row_3 (fun z5 z6 A8 => d_X12_row_1 A z u nn z5 z6 A8) i D z u (-1))
        exact ih _ _ D gD h
      · obtain ⟨_, h⟩ := (h : tr_d_X12_row_3 (fun z5 z6 A8 => d_X12_row_1 A z u nn z5 z6 A8) i D z u z41)
        exact ih _ _ D gD h
    obtain ⟨_, _, _, h⟩ := (h : tr_d_X12_row_1 A z u (fun z5 z6 A8 => d_X12_row_1 A z u nn z5 z6 A8) i n C)
    rcases h with ⟨_, A17, hb, _, hu⟩ | ⟨_, h⟩
    · rw [hu]; exact ⟨C, g, hb⟩
    rcases h with ⟨_, A17, hb, _, hu⟩ | ⟨_, h⟩
    · rw [hu]; exact ⟨C, g, hb⟩
    rcases h with ⟨_, h⟩ | ⟨_, _, _, _, _, _, _, z29, A30, ht, h⟩
    · exact on2 _ C g h
    · exact on2 _ A30 (fr.trans g ht.2.2.1 rfl rfl) h
theorem row_keep {z1 z2 : Int} {B A u1 u2 : St} (hIK : IK B) (hIM : IM A) (hp : PSs B A) (ha : ACS B A) (h1 : r_X11_row B z1 u1) (hf1 : fk [33, 34, 35, 37, 38, 39, 40, 42, 43, 44, 46, 47, 48, 49, 72, 74, 75, 76, 78, 79, 80, 81, 103, 105, 106, 107, 109, 110, 111, 112] [(1, 1)] B u1) (h2 : q_X12_row A z2 u2) : ACS u1 u2 := by
  have hT := tB hIK
  have hA := ha.act hIM hp
  have l := hA.lim hIM
  have f9 : u1 0 9 = B 0 9 := hf1 0 9 rfl rfl
  have mb := MBc.fr hT ha.2 hf1 rfl rfl h2.2.2.1 rfl
  unfold ACS
  rw [f9, h2.2.2.1.2 12 rfl]
  refine ⟨?_, mb⟩
  have rows := tw_rows hT hf1 [1, 8, 9, 10, 11] rfl rfl
  refine ha.1.el l.2.2.1 l.2.2.2 ⟨⟨rows 1 rfl, rows 8 rfl, rows 9 rfl, rows 10 rfl, rows 11 rfl⟩, ?_⟩ ?_
  · obtain ⟨t, ht, A3, hc1, z6, A7, hfi, A12, hc2, A15, e15, _, hu⟩ := (h1 : tr_r_X11_row B z1 u1)
    rw [← ht] at hT ⊢
    have t51 : t = 51 ∨ t = 82 := hT
    have c1 := K_copy (by unfold DJ; omega) hc1
    have c2 := K_copy (by unfold DJ; omega) hc2
    have e9 : A3 0 9 = B 0 9 := by rw [c1.1 0 (by omega)]
    obtain ⟨nn, hfi⟩ := (hfi.1 : tr_r_X11_firstImpossible A3 z6 A7)
    have lw := low_first (by rw [e9, ← ht]; exact hT) nn 0 0 A3 hfi
    have hi : ∀ j, 51 ≤ j → u1 j = A12 j := fun j hj => by rw [hu, e15, stA_ne _ _ (by omega)]
    refine ⟨fun p hp3 => ?_, fun k hk => ?_⟩
    · show u1 (t + 23) p = B (t + 23) p
      rw [hi _ (by omega)]
      have a := c2.2.1 p hp3
      have b := c1.2.1 p hp3
      rw [lw 42 (by decide)] at a
      exact a.trans b
    · obtain ⟨a1, a2, a3⟩ := c2.2.2 k hk
      obtain ⟨b1, b2, b3⟩ := c1.2.2 k hk
      rw [lw 43 (by decide)] at a1
      rw [lw 44 (by decide)] at a2
      refine ⟨?_, ?_, fun i hi6 => ?_⟩
      · show u1 (t + 24) k = B (t + 24) k
        rw [hi _ (by omega)]
        exact a1.trans b1
      · show u1 (t + 25) k = B (t + 25) k
        rw [hi _ (by omega)]
        exact a2.trans b2
      · show u1 (t + (27 + k)) i = B (t + (27 + k)) i
        have x := a3 i hi6
        have y := b3 i hi6
        rw [lw (41 + 5 + k) (by omega)] at x
        rw [hi _ (by omega), show t + (27 + k) = t + 22 + 5 + k by omega]
        exact x.trans y
  · obtain ⟨b, hb⟩ : ∃ b : Nat, (A 0 12).toNat = b := ⟨_, rfl⟩
    rw [hb] at hA ⊢
    have b12 := hA.1
    obtain ⟨A1, e1, A2, hn, nn, hr⟩ := (h2.1 : tr_r_X12_row A z2 u2)
    obtain ⟨D, gD, hbk⟩ := M_rowL nn 0 (-1) A2 fr.rf hr
    have a1 : ∀ j, j ≠ 0 → A1 j = A j := fun j hj => by rw [e1, stA_ne _ _ hj]
    have f1 : A1 0 12 = (b : Int) := by rw [e1]; exact b12
    have f2 : A2 0 12 = (b : Int) := (hn.2.2.1.2 12 rfl).trans f1
    have fD : D 0 12 = (b : Int) := (gD.2 12 rfl).trans f2
    obtain ⟨n1, hn1⟩ := (hn.1 : tr_r_X12_notes A1 A2)
    obtain ⟨_, x1, x2, x3⟩ := M_notes1 f1 n1 0 A1 (by decide) hn1
    obtain ⟨n2, hn2⟩ := (hbk.1 : tr_r_X12_back D u2)
    obtain ⟨_, y1, y2, y3⟩ := M_back1 fD n2 0 D (by decide) hn2
    refine ⟨fun p hp3 => ?_, fun k hk => ⟨?_, ?_, fun i hi => ?_⟩⟩
    · rw [y1 p (Nat.zero_le p) hp3, gD.1 44 (by decide) rfl, x1 p (Nat.zero_le p) hp3, a1 18 (by decide)]
    · rw [h2.2.2.1.1 13 (by decide) rfl]
    · rw [y2 k hk, gD.1 45 (by decide) rfl, x2 k hk, a1 14 (by decide)]
    · have e : 40 * b + 10 * k + i = 40 * b + (10 * k + i) := by omega
      rw [e, y3 _ (by omega), gD.1 46 (by decide) rfl, x3 _ (by omega), a1 15 (by decide)]
/-! An image that is read in: when it is one, on both sides. -/
theorem and_255 : ∀ k : Fin 256, oAnd ((k.val : Int) - 128) 255 = ((k.val : Int) - 128) % 256 := by decide +kernel
def tp (f : Nat → Int) (N k : Nat) : Int := if k < N then f k else -1
theorem K_at {f : Nat → Int} {N k : Nat} {C : St} {z : Int} (hI : IK C) (hN : C 1 1 = (N : Int)) (hf : ∀ k, k < N → f k = C 2 k % 256) (h : q_X7_at (k : Int) C z) : z = tp f N k := by
  unfold tp
  rcases (h.1 : tr_r_X7_at (k : Int) C z) with ⟨c, -⟩ | ⟨_, h⟩
  · omega
  rcases h with ⟨c, hz⟩ | ⟨c, z5, e5, z6, e6, hz⟩
  · rw [if_neg (by omega)]
    exact hz
  · rw [Int.toNat_natCast] at e5
    have hr : -128 ≤ z5 ∧ z5 ≤ 127 := by rw [e5]; exact irTPb hI
    have t : oAnd ((((z5 + 128).toNat : Nat) : Int) - 128) 255 = ((((z5 + 128).toNat : Nat) : Int) - 128) % 256 := and_255 ⟨(z5 + 128).toNat, by omega⟩
    rw [show (((z5 + 128).toNat : Nat) : Int) - 128 = z5 by omega] at t
    rw [if_pos (by omega), hz, e6, t, hf k (by omega), e5]
def ps (f : Nat → Int) (N P : Nat) : Nat → Nat
  | 0 => P
  | k + 1 => ps f N P k + 2 + (tp f N (ps f N P k + 1)).toNat
theorem ps_ge {f : Nat → Int} {N P : Nat} : ∀ k d, ps f N P k + 2 * d ≤ ps f N P (k + d) := by
  intro k d
  induction d with
  | zero => exact Nat.le_refl _
  | succ d ih =>
    have e : ps f N P (k + (d + 1)) = ps f N P (k + d) + 2 + (tp f N (ps f N P (k + d) + 1)).toNat := rfl
    omega
def rowOk (T : St) (f : Nat → Int) (N a m : Nat) : Prop := (∀ i, i < m → 0 ≤ tp f N (a + i) ∧ tp f N (a + i) < T 1 1) ∧ ∀ i j, i < j → j < m → tp f N (a + i) ≠ tp f N (a + j)
def keyOk (T : St) (f : Nat → Int) (N a : Nat) : Prop := WV T (tp f N a) ∧ (0 ≤ tp f N (a + 1) ∧ tp f N (a + 1) ≤ 6) ∧ rowOk T f N (a + 2) (tp f N (a + 1)).toNat
def sm (f : Nat → Int) (N : Nat) : Nat → Int
  | 0 => 19
  | k + 1 => (3 * sm f N k + tp f N k) % 233
def whole (T : St) (f : Nat → Int) (N : Nat) : Prop := (∀ p : Nat, (p : Int) < T 1 3 → 0 ≤ tp f N p ∧ tp f N p < T 1 0) ∧ (∀ k : Nat, (k : Int) < T 1 2 → keyOk T f N (ps f N (T 1 3).toNat k)) ∧ N = ps f N (T 1 3).toNat (T 1 2).toNat + 1 ∧ tp f N (N - 1) = sm f N (N - 1)
/-- the class's key of an image -/
def UP40 (A u : St) : Prop := ∀ j, (j < 32 ∨ 41 ≤ j) → u j = A j
theorem UP40.rf {A : St} : UP40 A A := fun _ _ => rfl
theorem UP40.trans {A B C : St} (h : UP40 A B) (g : UP40 B C) : UP40 A C := fun j hj => (g j hj).trans (h j hj)
theorem UP40.st {A B : St} {j i : Nat} {v : Int} (h : UP40 A B) (hj : 32 ≤ j ∧ j < 41) : UP40 A (stA B j i v) := fun j' h' => (stA_ne _ _ (by omega)).trans (h j' h')
def DK (f : Nat → Int) (N a k : Nat) (u : St) : Prop := u 34 k = tp f N a ∧ u 35 k = tp f N (a + 1) ∧ ∀ i : Nat, (i : Int) < tp f N (a + 1) → u (37 + k) i = tp f N (a + 2 + i)
def CI40 (f : Nat → Int) (N a k i : Nat) (S C : St) : Prop := UP40 S C ∧ C 33 = S 33 ∧ C 34 = S 34 ∧ (∀ k', k' ≠ k → C 35 k' = S 35 k') ∧ (∀ k', k' ≠ k → k' < 4 → C (37 + k') = S (37 + k')) ∧ C 35 k = (i : Int) ∧ ∀ i', i' < i → C (37 + k) i' = tp f N (a + 2 + i')
theorem K_accL {f : Nat → Int} {N t a k m : Nat} {S u : St} {z : Int} (hT : isT t) (hk : k < 4) (ha : a < 2000) (hm : m ≤ 6) (hN : S 1 1 = (N : Int)) (hf : ∀ k, k < N → f k = S 2 k % 256) : ∀ (nn i : Nat) (C : St), i ≤ m → CI40 f N a k i S C → rowOk (tw t S) f N (a + 2) i → d_X4_acceptKey_1 t (k : Int) (a : Int) (m : Int) z u nn (i : Int) C → (z = 1 ∧ rowOk (tw t S) f N (a + 2) m ∧ CI40 f N a k m S u) ∨ (z = 0 ∧ ¬ rowOk (tw t S) f N (a + 2) m ∧ UP40 S u) := by
  have t51 : t = 51 ∨ t = 82 := hT
  intro nn
  induction nn with
  | zero => intro i C _ _ _ h; exact h.elim
  | succ nn ih =>
    intro i C hi hC hr h
    obtain ⟨hI, _, h⟩ := (h : tr_d_X4_acceptKey_1 t (k : Int) (a : Int) (m : Int) z u (fun z16 A18 => d_X4_acceptKey_1 t (k : Int) (a : Int) (m : Int) z u nn z16 A18) (i : Int) C)
    have hC' := hC
    obtain ⟨c1, c2, c3, c4, c5, c6, c7⟩ := hC
    rcases h with ⟨c, hz, hu⟩ | ⟨c, z25, e25, z26, e26, z27, h27, z30, h30, h⟩
    · have e : i = m := by omega
      subst e
      rw [hu]
      exact Or.inl ⟨hz, hr, hC'⟩
    have him : i < m := by omega
    rw [oWrap_id ⟨by omega, by omega⟩] at e25
    rw [e25, oWrap_id ⟨by omega, by omega⟩] at e26
    have e26 : z26 = ((a + 2 + i : Nat) : Int) := by omega
    rw [e26] at h27
    have e27 := K_at (f := f) hI (by rw [c1 1 (by omega)]; exact hN) (fun k hk => by rw [c1 2 (by omega)]; exact hf k hk) h27
    have k30 := K_there1 h30
    rw [c1 (t + 1) (by (first | omega | (clear h; omega) | (clear h1; omega) | (clear h2; omega) | (clear h h1; omega) | (clear h h2; omega) | (clear h1 h2; omega) | (clear h h1 h2; omega)))] at k30
    rcases h with ⟨c8, hz, hu⟩ | ⟨c8, z34, A35, hp, h⟩
    · refine Or.inr ⟨hz, fun g => ?_, by rw [hu]; exact c1⟩
      have := g.1 i him
      rw [← e27] at this
      have : 0 ≤ z27 ∧ z27 < S (t + 1) 1 := this
      omega
    have v27 : 0 ≤ z27 ∧ z27 < S (t + 1) 1 := by omega
    obtain ⟨d, ed⟩ : ∃ d : Nat, z27 = (d : Int) := ⟨z27.toNat, by omega⟩
    rw [ed] at hp
    rcases (hp.1 : tr_r_X6_push 32 (k : Int) (d : Int) C z34 A35) with ⟨c9, -⟩ | ⟨_, hq⟩
    · omega
    rcases hq with ⟨c9, -⟩ | ⟨_, w3, hw3, hq⟩
    · omega
    have kp := K_placeIn (t := 10) (B := C) hk (by show C 35 k ≤ 6; omega) hw3
    have iin : inR (tw 10 C) k d ↔ ∃ i', i' < i ∧ tp f N (a + 2 + i') = (d : Int) := by
      constructor
      · rintro ⟨i', g1, g2⟩
        have g1 : (i' : Int) < C 35 k := g1
        have g2 : C (10 + (27 + k)) i' = (d : Int) := g2
        rw [show 10 + (27 + k) = 37 + k by omega, c7 i' (by omega)] at g2
        exact ⟨i', by omega, g2⟩
      · rintro ⟨i', g1, g2⟩
        refine ⟨i', ?_, ?_⟩
        · show (i' : Int) < C 35 k
          omega
        · show C (10 + (27 + k)) i' = (d : Int)
          rw [show 10 + (27 + k) = 37 + k by omega, c7 i' g1]
          exact g2
    rcases hq with ⟨c9, w7, e7, hq⟩ | ⟨c9, hz3, hu3⟩
    · have nin : ¬ inR (tw 10 C) k d := by
        rcases kp with g | g
        · exact g.2
        · exact absurd c9 g.1
      rw [Int.toNat_natCast] at e7
      have e7 : w7 = (i : Int) := by rw [e7]; exact c6
      rcases hq with ⟨_, A10, e10, A11, e11, hz3, hu3⟩ | ⟨c10, -⟩
      · rcases h with ⟨_, h⟩ | ⟨c11, -⟩
        · rw [e7, Int.toNat_natCast, Int.toNat_natCast] at e10
          rw [e7, Int.toNat_natCast] at e11
          have e10 : A10 = stA C (37 + k) i (d : Int) := e10
          have e11 : A11 = stA A10 35 k ((i : Int) + 1) := e11
          have lo : ∀ j, j ≠ 35 → j ≠ 37 + k → A35 j = C j := fun j h1 h2 => by rw [hu3, e11, stA_ne _ _ h1, e10, stA_ne _ _ h2]
          have r35 : A35 35 = up (C 35) k ((i : Int) + 1) := by rw [hu3, e11, stA_same, e10, stA_ne _ _ (by omega)]
          have r37 : A35 (37 + k) = up (C (37 + k)) i (d : Int) := by rw [hu3, e11, stA_ne _ _ (by omega), e10, stA_same]
          refine ih (i + 1) A35 (by omega) ⟨fun j hj => (lo j (by omega) (by omega)).trans (c1 j hj), (lo 33 (by decide) (by omega)).trans c2, (lo 34 (by decide) (by omega)).trans c3, fun k' g => ?_, fun k' g g4 => (lo _ (by omega) (by omega)).trans (c5 k' g g4), ?_, fun i' g => ?_⟩ ⟨fun i' g => ?_, fun i' j' g1 g2 => ?_⟩ (by rw [show ((i + 1 : Nat) : Int) = (i : Int) + 1 by omega]; exact h)
          · rw [r35, up_ne _ _ g]
            exact c4 k' g
          · rw [r35, up_same]
            omega
          · rw [r37]
            by_cases e : i' = i
            · rw [e, up_same, ← ed, e27]
            · rw [up_ne _ _ e]
              exact c7 i' (by omega)
          · by_cases e : i' = i
            · rw [e, ← e27]
              exact v27
            · exact hr.1 i' (by omega)
          · by_cases e : j' = i
            · rw [e, ← e27, ed]
              intro g
              exact nin (iin.mpr ⟨i', by omega, g⟩)
            · exact hr.2 i' j' g1 (by omega)
        · omega
      · omega
    · have isin : inR (tw 10 C) k d := by
        rcases kp with g | g
        · exact absurd g.1 c9
        · exact g.2
      rcases h with ⟨c11, -⟩ | ⟨_, hz, hu⟩
      · exact absurd hz3 c11
      · refine Or.inr ⟨hz, fun g => ?_, by rw [hu, hu3]; exact c1⟩
        obtain ⟨i', g1, g2⟩ := iin.mp isin
        exact g.2 i' i g1 him (g2.trans (ed.symm.trans e27))
theorem K_isWhere {t : Nat} {x z : Int} {C : St} (hx : -1 ≤ x ∧ x ≤ 255) (l0 : C (t + 1) 0 ≤ 8) (h : q_X4_isWhere t x C z) : (z = 1 ↔ WV (tw t C) x) ∧ (z = 0 ∨ z = 1) := by
  obtain ⟨z1, h1, h⟩ := (h.1 : tr_r_X4_isWhere t x C z)
  have k1 := K_there3 h1
  have un : WV (tw t C) x ↔ (0 ≤ x ∧ x < C (t + 1) 3) ∨ ((10 ≤ x ∧ x < 10 + C (t + 1) 0) ∨ (20 ≤ x ∧ x < 20 + C (t + 1) 1 ∧ C (t + 10) (x - 20).toNat = 0)) ∨ x = 40 := Iff.rfl
  rw [un]
  rcases h with ⟨c, hz⟩ | ⟨c, z5, e5, z6, h6, h⟩
  · omega
  rw [oWrap_id ⟨by omega, by omega⟩] at e5
  have k6 : (z6 = 1 ↔ 0 ≤ z5 ∧ z5 < C (t + 1) 0) ∧ (z6 = 0 ∨ z6 = 1) := by
    rcases (h6.1 : tr_r_X9_isThere_1_0 t z5 C z6) with ⟨c, e⟩ | ⟨c, z4, e4, h⟩
    · omega
    · have e4 : z4 = C (t + 1) 0 := e4
      rcases h with ⟨c2, e⟩ | ⟨c2, e⟩ <;> omega
  rcases h with ⟨c2, hz⟩ | ⟨c2, z10, e10, z11, h11, h⟩
  · omega
  rw [oWrap_id ⟨by omega, by omega⟩] at e10
  have k11 := K_isBox h11
  rw [e10] at k11
  rcases h with ⟨c3, hz⟩ | ⟨c3, h⟩
  · omega
  rcases h with ⟨c4, hz⟩ | ⟨c4, hz⟩ <;> omega
theorem K_accKey {f : Nat → Int} {N t a k : Nat} {S u : St} {z : Int} (hT : isT t) (hI : IK S) (hk : k < 4) (ha : a < 2000) (l0 : S (t + 1) 0 ≤ 8) (hN : S 1 1 = (N : Int)) (hf : ∀ k, k < N → f k = S 2 k % 256) (h : q_X4_acceptKey t (k : Int) (a : Int) S z u) : (z = 1 ∧ keyOk (tw t S) f N a ∧ DK f N a k u ∧ UP40 S u ∧ u 33 = S 33 ∧ (∀ k', k' ≠ k → k' < 4 → u 34 k' = S 34 k' ∧ u 35 k' = S 35 k' ∧ u (37 + k') = S (37 + k'))) ∨ (z = 0 ∧ ¬ keyOk (tw t S) f N a ∧ UP40 S u) := by
  obtain ⟨z1, h1, z4, e4, z5, h5, z8, h8, h⟩ := (h.1 : tr_r_X4_acceptKey t (k : Int) (a : Int) S z u)
  have e1 := K_at (f := f) hI hN hf h1
  rw [oWrap_id ⟨by omega, by omega⟩] at e4
  have e4 : z4 = ((a + 1 : Nat) : Int) := by omega
  rw [e4] at h5
  have e5 := K_at (f := f) hI hN hf h5
  have k8 := K_isWhere h1.2 l0 h8
  rw [e1] at k8
  rcases h with ⟨c, hz, hu⟩ | ⟨c, h⟩
  · refine Or.inr ⟨hz, fun g => ?_, by rw [hu]; exact UP40.rf⟩
    have := k8.1.mpr g.1
    omega
  have wv := k8.1.mp (by omega)
  rcases h with ⟨c2, hz, hu⟩ | ⟨c2, h⟩
  · refine Or.inr ⟨hz, fun g => ?_, by rw [hu]; exact UP40.rf⟩
    have := g.2.1
    omega
  rcases h with ⟨c3, A14, e14, A15, e15, nn, h⟩ | ⟨c3, hz, hu⟩
  case inr =>
    refine Or.inr ⟨hz, fun g => ?_, by rw [hu]; exact UP40.rf⟩
    have := g.2.1
    omega
  obtain ⟨m, em⟩ : ∃ m : Nat, z5 = (m : Int) := ⟨z5.toNat, by omega⟩
  rw [Int.toNat_natCast] at e14 e15
  have e14 : A14 = stA S 34 k z1 := e14
  have e15 : A15 = stA A14 35 k 0 := e15
  have u15 : UP40 S A15 := by rw [e15, e14]; exact (UP40.rf.st (by decide)).st (by decide)
  have r1 : tw t A15 1 = tw t S 1 := by
    have t51 : t = 51 ∨ t = 82 := hT
    exact u15 (t + 1) (by omega)
  have ci : CI40 f N a k 0 A15 A15 := by
    refine ⟨UP40.rf, rfl, rfl, fun _ _ => rfl, fun _ _ _ => rfl, ?_, fun i' g => absurd g (Nat.not_lt_zero i')⟩
    rw [e15, stA_same, up_same]
    rfl
  rw [em] at h
  have same : ∀ m', rowOk (tw t A15) f N (a + 2) m' ↔ rowOk (tw t S) f N (a + 2) m' := by
    intro m'
    unfold rowOk
    rw [r1]
  have r := K_accL hT hk ha (by omega) (by rw [u15 1 (by omega)]; exact hN) (fun k hk => by rw [u15 2 (by omega)]; exact hf k hk) nn 0 A15 (Nat.zero_le m) ci ⟨fun i g => absurd g (Nat.not_lt_zero i), fun i j _ g => absurd g (Nat.not_lt_zero j)⟩ h
  rcases r with ⟨hz, ok, hc⟩ | ⟨hz, no, hu⟩
  · obtain ⟨c1', c2', c3', c4', c5', c6', c7'⟩ := hc
    refine Or.inl ⟨hz, ⟨wv, by omega, ?_⟩, ⟨?_, ?_, fun i hi => ?_⟩, u15.trans c1', ?_, fun k' g g4 => ⟨?_, ?_, ?_⟩⟩
    · rw [← e5, em, Int.toNat_natCast]
      exact (same m).mp ok
    · rw [c3', e15, stA_ne _ _ (by decide), e14, stA_same, up_same, e1]
    · rw [c6', ← em, e5]
    · exact c7' i (by omega)
    · rw [c2', e15, stA_ne _ _ (by decide), e14, stA_ne _ _ (by decide)]
    · rw [c3', e15, stA_ne _ _ (by decide), e14, stA_same, up_ne _ _ g]
    · rw [c4' k' g, e15, stA_same, up_ne _ _ g, e14, stA_ne _ _ (by decide)]
    · rw [c5' k' g g4, e15, stA_ne _ _ (by omega), e14, stA_ne _ _ (by omega)]
  · refine Or.inr ⟨hz, fun g => no ?_, u15.trans hu⟩
    have := g.2.2
    rw [← e5, em, Int.toNat_natCast] at this
    exact (same m).mpr this
/-- the class's sum -/
theorem K_sumL {f : Nat → Int} {N n : Nat} {C : St} {z : Int} (hI : IK C) (hn : n < N) (hN16 : N ≤ 1600) (h0 : ∀ k, 0 ≤ f k ∧ f k ≤ 255) (hN : C 1 1 = (N : Int)) (hf : ∀ k, k < N → f k = C 2 k % 256) : ∀ (nn k : Nat) (v : Int), k ≤ n → v = sm f N k → (0 ≤ v ∧ v ≤ 232) → d_X4_sumOf_1 (n : Int) C z nn (k : Int) v → z = sm f N n := by
  intro nn
  induction nn with
  | zero => intro k v _ _ _ h; exact h.elim
  | succ nn ih =>
    intro k v hk hv hb h
    obtain ⟨_, _, h⟩ := (h : tr_d_X4_sumOf_1 (n : Int) C z (fun z1 z2 => d_X4_sumOf_1 (n : Int) C z nn z1 z2) (k : Int) v)
    rcases h with ⟨c, hz⟩ | ⟨c, h⟩
    · have e : k = n := by omega
      rw [hz, hv, e]
    rcases h with ⟨c2, -⟩ | ⟨_, z11, h11, z14, h14, h⟩
    · omega
    have e11 := K_at (f := f) hI hN hf h11
    have t0 : tp f N k = f k := by unfold tp; rw [if_pos (by omega)]
    have b := h0 k
    obtain ⟨w1, x1, w2, x2, w3, x3, hz4⟩ := (h14.1 : tr_r_X4_summed v z11 C z14)
    rw [oWrap_id ⟨by omega, by omega⟩] at x1
    rw [oWrap_id ⟨by omega, by omega⟩] at x2
    rw [oRem_nat ⟨by omega, by omega⟩ ⟨by decide, by decide⟩] at x3
    have ev : z14 = sm f N (k + 1) := by
      show z14 = (3 * sm f N k + tp f N k) % 233
      rw [hz4, x3, x2, x1, e11, hv]
    refine ih (k + 1) z14 (by omega) ev (by omega) (by rw [show ((k + 1 : Nat) : Int) = (k : Int) + 1 by omega]; exact h)
/-! The class takes an image, or doesn't. -/
theorem keyOk_cg {T T' : St} {f : Nat → Int} {N a : Nat} (e1 : T' 1 = T 1) (e10 : T' 10 = T 10) : keyOk T' f N a ↔ keyOk T f N a := by
  unfold keyOk WV TW rowOk
  rw [e1, e10]
def FIN (f : Nat → Int) (N t P K : Nat) (B u : St) : Prop := (∀ j, (j < 32 ∨ 41 ≤ j) → (j < t + 23 ∨ t + 31 ≤ j) → u j = B j) ∧ (∀ p, p < P → u (t + 23) p = tp f N p) ∧ (∀ k, k < K → u (t + 24) k = tp f N (ps f N P k) ∧ u (t + 25) k = tp f N (ps f N P k + 1) ∧ ∀ i : Nat, (i : Int) < tp f N (ps f N P k + 1) → u (t + (27 + k)) i = tp f N (ps f N P k + 2 + i)) ∧ ∀ k, K ≤ k → k < 4 → u (t + 25) k = B (t + 25) k
theorem K_accept2 {f : Nat → Int} {N t P K : Nat} {B u : St} {z : Int} (hT : isT t) (hP : B (t + 1) 3 = (P : Int)) (hK : B (t + 1) 2 = (K : Int)) (hK4 : K ≤ 4) (hP3 : P ≤ 3) (l0 : B (t + 1) 0 ≤ 8) (hN : B 1 1 = (N : Int)) (hN16 : N ≤ 1600) (h0 : ∀ k, 0 ≤ f k ∧ f k ≤ 255) (hf : ∀ k, k < N → f k = B 2 k % 256) (pOk : ∀ p : Nat, (p : Int) < B (t + 1) 3 → 0 ≤ tp f N p ∧ tp f N p < B (t + 1) 0) : ∀ (nn k : Nat) (C : St), k ≤ K → UP40 B C → (∀ p, p < P → C 33 p = tp f N p) → (∀ k', k' < k → keyOk (tw t B) f N (ps f N P k') ∧ DK f N (ps f N P k') k' C) → (∀ k', k ≤ k' → k' < 4 → C 35 k' = B (t + 25) k') → ps f N P k ≤ 3 + 8 * k → d_X4_accept_2 t B z u nn (k : Int) ((ps f N P k : Nat) : Int) C → (z = 1 ∧ whole (tw t B) f N ∧ FIN f N t P K B u) ∨ (z = 0 ∧ ¬ whole (tw t B) f N ∧ UP40 B u) := by
  have t51 : t = 51 ∨ t = 82 := hT
  have eP : (tw t B 1 3).toNat = P := by show (B (t + 1) 3).toNat = P; rw [hP]; exact Int.toNat_natCast P
  have eK : (tw t B 1 2).toNat = K := by show (B (t + 1) 2).toNat = K; rw [hK]; exact Int.toNat_natCast K
  intro nn
  induction nn with
  | zero => intro k C _ _ _ _ _ _ h; exact h.elim
  | succ nn ih =>
    intro k C hk up hp hd h35 hps h
    obtain ⟨hI, _, _, z34, e34, h⟩ := (h : tr_d_X4_accept_2 t B z u (fun z21 z22 A24 => d_X4_accept_2 t B z u nn z21 z22 A24) (k : Int) ((ps f N P k : Nat) : Int) C)
    have e34 : z34 = C (t + 1) 2 := e34
    rw [up (t + 1) (by omega), hK] at e34
    have cN : C 1 1 = (N : Int) := by rw [up 1 (by omega)]; exact hN
    have cf : ∀ k, k < N → f k = C 2 k % 256 := fun k hk => by rw [up 2 (by omega)]; exact hf k hk
    rcases h with ⟨c, z40, e40, h⟩ | ⟨c, z52, A53, ha, h⟩
    · have ek : k = K := by omega
      subst ek
      rw [oWrap_id ⟨by omega, by omega⟩] at e40
      rw [hN] at h
      rcases h with ⟨c2, hz, hu⟩ | ⟨c2, z42, h42, z45, h45, h⟩
      · refine Or.inr ⟨hz, fun g => ?_, by rw [hu]; exact up⟩
        have := g.2.2.1
        rw [eP, eK] at this
        omega
      have eN : N = ps f N P k + 1 := by omega
      have e42 := K_at (f := f) hI cN cf h42
      obtain ⟨n5, h45⟩ := (h45.1 : tr_r_X4_sumOf ((ps f N P k : Nat) : Int) C z45)
      have e45 := K_sumL hI (by omega) hN16 h0 cN cf n5 0 19 (Nat.zero_le _) rfl ⟨by decide, by decide⟩ h45
      rcases h with ⟨c3, A49, hc, hz, hu⟩ | ⟨c3, hz, hu⟩
      · refine Or.inl ⟨hz, ⟨pOk, fun k' hk' => ?_, by rw [eP, eK]; exact eN, ?_⟩, ?_⟩
        · rw [eP]
          have hk' : (k' : Int) < B (t + 1) 2 := hk'
          exact (hd k' (by omega)).1
        · rw [show N - 1 = ps f N P k by omega, ← e42, c3, e45]
        · have cp := K_copy (by unfold DJ; omega) hc
          rw [hu]
          refine ⟨fun j h1 h2 => (cp.1 j (by omega)).trans (up j h1), fun p hp2 => ?_, fun k' hk' => ?_, fun k' g1 g2 => ?_⟩
          · have a := cp.2.1 p (by omega)
            have a : A49 (t + 23) p = C 33 p := a
            rw [a]
            exact hp p hp2
          · obtain ⟨a1, a2, a3⟩ := cp.2.2 k' (by omega)
            have a1 : A49 (t + 24) k' = C 34 k' := a1
            have a2 : A49 (t + 25) k' = C 35 k' := a2
            obtain ⟨ok, d1, d2, d3⟩ := hd k' hk'
            refine ⟨a1.trans d1, a2.trans d2, fun i hi => ?_⟩
            have b6 := ok.2.1.2
            have x := a3 i (by omega)
            rw [show t + (27 + k') = t + 22 + 5 + k' by omega, x]
            have y := d3 i hi
            rw [show 32 + 5 + k' = 37 + k' by omega]
            exact y
          · obtain ⟨a1, a2, a3⟩ := cp.2.2 k' g2
            have a2 : A49 (t + 25) k' = C 35 k' := a2
            rw [a2]
            exact h35 k' g1 g2
      · refine Or.inr ⟨hz, fun g => c3 ?_, by rw [hu]; exact up⟩
        have := g.2.2.2
        rw [show N - 1 = ps f N P k by omega] at this
        rw [e42, e45]
        exact this
    · have hkK : k < K := by omega
      have r1 : tw t C 1 = tw t B 1 := up (t + 1) (by omega)
      have r10 : tw t C 10 = tw t B 10 := up (t + 10) (by omega)
      have ka := K_accKey hT hI (by omega) (by omega) (by rw [up (t + 1) (by omega)]; exact l0) cN cf ha
      rcases ka with ⟨y1, y2, y3, y4, y5, y6⟩ | ⟨y1, y2, y4⟩
      · have y2 := (keyOk_cg r1 r10).mp y2
        have b6 := y2.2.1
        rcases h with ⟨_, z57, e57, z58, e58, h⟩ | ⟨c2, -⟩
        · rw [Int.toNat_natCast] at e57
          have e57 : z57 = A53 35 k := e57
          have y32 := y3.2.1
          rw [oWrap_id ⟨by omega, by omega⟩] at e58
          have nx : ps f N P (k + 1) = ps f N P k + 2 + (tp f N (ps f N P k + 1)).toNat := rfl
          have e58 : z58 = ((ps f N P (k + 1) : Nat) : Int) := by omega
          rw [e58] at h
          refine ih (k + 1) A53 (by omega) (up.trans y4) (fun p hp2 => by rw [y5]; exact hp p hp2) (fun k' hk' => ?_) (fun k' g1 g2 => ?_) (by omega) (by rw [show ((k + 1 : Nat) : Int) = (k : Int) + 1 by omega]; exact h)
          · by_cases e : k' = k
            · subst e
              exact ⟨y2, y3⟩
            · obtain ⟨ok, d1, d2, d3⟩ := hd k' (by omega)
              obtain ⟨w1, w2, w3⟩ := y6 k' e (by omega)
              exact ⟨ok, w1.trans d1, w2.trans d2, fun i hi => by rw [w3]; exact d3 i hi⟩
          · rw [(y6 k' (by omega) g2).2.1]
            exact h35 k' (by omega) g2
        · omega
      · rcases h with ⟨c2, -⟩ | ⟨_, hz, hu⟩
        · omega
        · refine Or.inr ⟨hz, fun g => y2 ((keyOk_cg r1 r10).mpr ?_), by rw [hu]; exact up.trans y4⟩
          have := g.2.1 k (by show (k : Int) < B (t + 1) 2; omega)
          rw [eP] at this
          exact this
theorem K_accept1 {f : Nat → Int} {N t P K : Nat} {B u : St} {z : Int} (hT : isT t) (hP : B (t + 1) 3 = (P : Int)) (hK : B (t + 1) 2 = (K : Int)) (hK4 : K ≤ 4) (hP3 : P ≤ 3) (l0 : B (t + 1) 0 ≤ 8) (hN : B 1 1 = (N : Int)) (hN16 : N ≤ 1600) (h0 : ∀ k, 0 ≤ f k ∧ f k ≤ 255) (hf : ∀ k, k < N → f k = B 2 k % 256) : ∀ (nn p : Nat) (C : St), p ≤ P → UP40 B C → (∀ p', p' < p → C 33 p' = tp f N p' ∧ 0 ≤ tp f N p' ∧ tp f N p' < B (t + 1) 0) → (∀ k', k' < 4 → C 35 k' = B (t + 25) k') → d_X4_accept_1 t B z u nn (p : Int) (p : Int) C → (z = 1 ∧ whole (tw t B) f N ∧ FIN f N t P K B u) ∨ (z = 0 ∧ ¬ whole (tw t B) f N ∧ UP40 B u) := by
  have t51 : t = 51 ∨ t = 82 := hT
  intro nn
  induction nn with
  | zero => intro p C _ _ _ _ h; exact h.elim
  | succ nn ih =>
    intro p C hp up hd h35 h
    obtain ⟨hI, _, _, z19, e19, h⟩ := (h : tr_d_X4_accept_1 t B z u (fun z4 z5 A7 => d_X4_accept_1 t B z u nn z4 z5 A7) (p : Int) (p : Int) C)
    have e19 : z19 = C (t + 1) 3 := e19
    rw [up (t + 1) (by omega), hP] at e19
    have cN : C 1 1 = (N : Int) := by rw [up 1 (by omega)]; exact hN
    have cf : ∀ k, k < N → f k = C 2 k % 256 := fun k hk => by rw [up 2 (by omega)]; exact hf k hk
    rcases h with ⟨c, n2, h⟩ | ⟨c, z59, h59, z62, h62, h⟩
    · have e : p = P := by omega
      subst e
      exact K_accept2 hT hP hK hK4 hP3 l0 hN hN16 h0 hf (fun p' hp' => (hd p' (by omega)).2) n2 0 C (Nat.zero_le K) up (fun p' hp' => (hd p' hp').1) (fun k' g => absurd g (Nat.not_lt_zero k')) (fun k' _ g => h35 k' g) (by show p ≤ 3 + 8 * 0; omega) h
    · have e59 := K_at (f := f) hI cN cf h59
      have k62 : (z62 = 1 ↔ 0 ≤ z59 ∧ z59 < B (t + 1) 0) ∧ (z62 = 0 ∨ z62 = 1) := by
        rcases (h62.1 : tr_r_X9_isThere_1_0 t z59 C z62) with ⟨c, e⟩ | ⟨c, z4, e4, h⟩
        · omega
        · have e4 : z4 = C (t + 1) 0 := e4
          rw [up (t + 1) (by (first | omega | (clear h; omega) | (clear h1; omega) | (clear h2; omega) | (clear h h1; omega) | (clear h h2; omega) | (clear h1 h2; omega) | (clear h h1 h2; omega)))] at e4
          rcases h with ⟨c2, e⟩ | ⟨c2, e⟩ <;> omega
      rcases h with ⟨c2, A66, e66, z67, e67, h⟩ | ⟨c2, hz, hu⟩
      · rw [Int.toNat_natCast] at e66
        have e66 : A66 = stA C 33 p z59 := e66
        rw [oWrap_id ⟨by omega, by omega⟩] at e67
        have e67 : z67 = ((p + 1 : Nat) : Int) := by omega
        rw [e67] at h
        have h2 : d_X4_accept_1 t B z u nn ((p + 1 : Nat) : Int) ((p + 1 : Nat) : Int) A66 := h
        refine ih (p + 1) A66 (by omega) (up.trans (by rw [e66]; exact UP40.rf.st (by decide))) (fun p' g => ?_) (fun k' g => ?_) h2
        · by_cases e : p' = p
          · subst e
            refine ⟨?_, by rw [← e59]; omega⟩
            rw [e66, stA_same, up_same, e59]
          · have x := hd p' (by omega)
            refine ⟨?_, x.2⟩
            rw [e66, stA_same, up_ne _ _ e]
            exact x.1
        · rw [e66, stA_ne _ _ (by decide)]
          exact h35 k' g
      · refine Or.inr ⟨hz, fun g => ?_, by rw [hu]; exact up⟩
        have := g.1 p (by show (p : Int) < B (t + 1) 3; omega)
        rw [← e59] at this
        have : 0 ≤ z59 ∧ z59 < B (t + 1) 0 := this
        omega
theorem K_accept {f : Nat → Int} {N t P K : Nat} {B u : St} {z : Int} (hT : isT t) (hP : B (t + 1) 3 = (P : Int)) (hK : B (t + 1) 2 = (K : Int)) (hK4 : K ≤ 4) (hP3 : P ≤ 3) (l0 : B (t + 1) 0 ≤ 8) (hN : B 1 1 = (N : Int)) (hN16 : N ≤ 1600) (h0 : ∀ k, 0 ≤ f k ∧ f k ≤ 255) (hf : ∀ k, k < N → f k = B 2 k % 256) (h : q_X4_accept t B z u) : (z = 1 ∧ whole (tw t B) f N ∧ FIN f N t P K B u) ∨ (z = 0 ∧ ¬ whole (tw t B) f N ∧ UP40 B u) := by
  have t51 : t = 51 ∨ t = 82 := hT
  obtain ⟨A1, hc, nn, h⟩ := (h.1 : tr_r_X4_accept t B z u)
  have cp := K_copy (by unfold DJ; omega) hc
  have up1 : UP40 B A1 := fun j hj => cp.1 j (by omega)
  refine K_accept1 hT hP hK hK4 hP3 l0 hN hN16 h0 hf nn 0 A1 (Nat.zero_le P) up1 (fun p' g => absurd g (Nat.not_lt_zero p')) (fun k' g => ?_) h
  exact (cp.2.2 k' g).2.1
/-! The reference takes an image, or doesn't; then both. -/
theorem tp_in {f : Nat → Int} {N k : Nat} (h : k < N) : tp f N k = f k := by
  unfold tp
  rw [if_pos h]
theorem M_rowIn {f : Nat → Int} {N a i : Nat} {A : St} {z : Int} {K1 : Int → Prop} (hai : a + i < N) (hf : ∀ k, k < N → A 1 k = f k) : ∀ (nn j : Nat), j ≤ i → (∀ j', j' < j → tp f N (a + j') ≠ tp f N (a + i)) → d_X12_isRowAt_2 K1 (a : Int) (i : Int) A z nn (j : Int) → (K1 ((i : Int) + 1) ∧ ∀ j', j' < i → tp f N (a + j') ≠ tp f N (a + i)) ∨ (z = 0 ∧ ∃ j', j' < i ∧ tp f N (a + j') = tp f N (a + i)) := by
  intro nn
  induction nn with
  | zero => intro j _ _ h; exact h.elim
  | succ nn ih =>
    intro j hj no h
    obtain ⟨_, h⟩ := (h : tr_d_X12_isRowAt_2 K1 (a : Int) (i : Int) A z (fun z15 => d_X12_isRowAt_2 K1 (a : Int) (i : Int) A z nn z15) (j : Int))
    rcases h with ⟨c, h⟩ | ⟨c, z23, e23, z24, e24, h⟩
    · have e : j = i := by omega
      subst e
      exact Or.inl ⟨h, no⟩
    · rw [show ((a : Int) + (j : Int)).toNat = a + j by omega, hf _ (by omega), ← tp_in (f := f) (N := N) (show a + j < N by omega)] at e23
      rw [show ((a : Int) + (i : Int)).toNat = a + i by omega, hf _ hai, ← tp_in (f := f) (N := N) hai] at e24
      rcases h with ⟨c2, h⟩ | ⟨c2, hz⟩
      · refine ih (j + 1) (by omega) (fun j' g => ?_) (by rw [show ((j + 1 : Nat) : Int) = (j : Int) + 1 by omega]; exact h)
        by_cases e : j' = j
        · subst e
          rw [← e23, ← e24]
          exact c2
        · exact no j' (by omega)
      · exact Or.inr ⟨hz, j, by omega, by rw [← e23, ← e24]; exact c2⟩
theorem M_rowAtL {f : Nat → Int} {N a m b : Nat} {A T : St} {z : Int} (hI : IM A) (hA : ACT b A T) (ham : a + m ≤ N) (hf : ∀ k, k < N → A 1 k = f k) : ∀ (nn i : Nat), i ≤ m → rowOk T f N a i → d_X12_isRowAt_1 (a : Int) (m : Int) A z nn (i : Int) → (z = 1 ∧ rowOk T f N a m) ∨ (z = 0 ∧ ¬ rowOk T f N a m) := by
  intro nn
  induction nn with
  | zero => intro i _ _ h; exact h.elim
  | succ nn ih =>
    intro i hi ok h
    obtain ⟨_, h⟩ := (h : tr_d_X12_isRowAt_1 (a : Int) (m : Int) A z (fun z1 => d_X12_isRowAt_1 (a : Int) (m : Int) A z nn z1) (i : Int))
    rcases h with ⟨c, hz⟩ | ⟨c, z10, e10, z11, h11, h⟩
    · have e : i = m := by omega
      subst e
      exact Or.inl ⟨hz, ok⟩
    · have him : i < m := by omega
      rw [show ((a : Int) + (i : Int)).toNat = a + i by omega, hf _ (by omega), ← tp_in (f := f) (N := N) (show a + i < N by omega)] at e10
      have md := M_isDoor hI hA h11
      rcases h with ⟨c2, n2, h⟩ | ⟨c2, hz⟩
      · rcases M_rowIn (by omega) hf n2 0 (Nat.zero_le i) (fun j' g => absurd g (Nat.not_lt_zero j')) h with ⟨g1, g2⟩ | ⟨hz, j', g1, g2⟩
        · refine ih (i + 1) (by omega) ⟨fun i' g => ?_, fun i' j' g3 g4 => ?_⟩ (by rw [show ((i + 1 : Nat) : Int) = (i : Int) + 1 by omega]; exact g1)
          · by_cases e : i' = i
            · rw [e, ← e10]
              omega
            · exact ok.1 i' (by omega)
          · by_cases e : j' = i
            · rw [e]
              exact g2 i' (by omega)
            · exact ok.2 i' j' g3 (by omega)
        · exact Or.inr ⟨hz, fun g => g.2 j' i g1 him g2⟩
      · refine Or.inr ⟨hz, fun g => ?_⟩
        have := g.1 i him
        rw [← e10] at this
        omega
theorem M_mayBe {b : Nat} {x z : Int} {A T : St} (hI : IM A) (hA : ACT b A T) (h : q_X12_mayBeAt x A z) : (z = 1 ↔ WV T x) ∧ (z = 0 ∨ z = 1) := by
  obtain ⟨l0, l1, l2, l3⟩ := hA.lim hI
  have un : WV T x ↔ (0 ≤ x ∧ x < T 1 3) ∨ ((10 ≤ x ∧ x < 10 + T 1 0) ∨ (20 ≤ x ∧ x < 20 + T 1 1 ∧ T 10 (x - 20).toNat = 0)) ∨ x = 40 := Iff.rfl
  rw [un]
  rcases (h.1 : tr_r_X12_mayBeAt x A z) with ⟨c, h⟩ | ⟨c, z17, h17, hz⟩
  · rcases h with ⟨c2, h⟩ | ⟨c2, z14, h14, hz⟩
    · rcases h with ⟨c3, hz⟩ | ⟨c3, h⟩
      · omega
      · rcases h with ⟨c4, hz⟩ | ⟨c4, z5, h5, h⟩
        · omega
        · have m5 := M_isDoor hI hA h5
          rcases h with ⟨c5, hz⟩ | ⟨c5, _, _, z12, e12, h⟩
          · omega
          · have nb := hA.st.1 (x - 20).toNat (by omega)
            rw [hA.1, show (10 * (b : Int) + x - 20).toNat = 10 * b + (x - 20).toNat by omega] at e12
            rw [← e12] at nb
            rcases h with ⟨c6, hz⟩ | ⟨c6, hz⟩
            · have := nb.mp c6
              omega
            · have : T 10 (x - 20).toNat = 0 := by
                by_cases g : T 10 (x - 20).toNat = 0
                · exact g
                · exact absurd (nb.mpr g) c6
              omega
    · have m14 := M_isPlace hI hA h14
      omega
  · have m17 := M_isPerson hI hA h17
    omega
theorem M_whole3 {f : Nat → Int} {N b P K : Nat} {A T : St} {z : Int} (hI : IM A) (hA : ACT b A T) (hK : T 1 2 = (K : Int)) (hN1 : 1 ≤ N) (hf : ∀ k, k < N → A 1 k = f k) (h0 : ∀ k, 0 ≤ f k ∧ f k ≤ 255) : ∀ (nn k : Nat), k ≤ K → (∀ k', k' < k → keyOk T f N (ps f N P k')) → d_X12_isWhole_3 (N : Int) A z nn (k : Int) ((ps f N P k : Nat) : Int) → (z = 1 ∧ (∀ k', k' < K → keyOk T f N (ps f N P k')) ∧ N = ps f N P K + 1) ∨ (z = 0 ∧ ¬ ((∀ k', k' < K → keyOk T f N (ps f N P k')) ∧ N = ps f N P K + 1)) := by
  intro nn
  induction nn with
  | zero => intro k _ _ h; exact h.elim
  | succ nn ih =>
    intro k hk ok h
    obtain ⟨_, _, z38, e38, h⟩ := (h : tr_d_X12_isWhole_3 (N : Int) A z (fun z26 z27 => d_X12_isWhole_3 (N : Int) A z nn z26 z27) (k : Int) ((ps f N P k : Nat) : Int))
    rw [hA.1, Int.toNat_natCast, hA.cnt.2.2.1, hK] at e38
    have nx : ps f N P (k + 1) = ps f N P k + 2 + (tp f N (ps f N P k + 1)).toNat := rfl
    rcases h with ⟨c, h⟩ | ⟨c, h⟩
    · have e : k = K := by omega
      subst e
      rcases h with ⟨c2, hz⟩ | ⟨c2, hz⟩
      · exact Or.inr ⟨hz, fun g => c2 (by omega)⟩
      · exact Or.inl ⟨hz, ok, by omega⟩
    · have mono := ps_ge (f := f) (N := N) (P := P) (k + 1) (K - (k + 1))
      rw [show k + 1 + (K - (k + 1)) = K by omega] at mono
      rcases h with ⟨c2, hz⟩ | ⟨c2, z42, e42, z43, h43, h⟩
      · exact Or.inr ⟨hz, fun g => by omega⟩
      rw [Int.toNat_natCast, hf _ (by omega), ← tp_in (f := f) (N := N) (show ps f N P k < N by omega)] at e42
      have m43 := M_mayBe hI hA h43
      rw [e42] at m43
      rcases h with ⟨c3, hz⟩ | ⟨c3, z47, e47, h⟩
      · exact Or.inr ⟨hz, fun g => by have := m43.1.mpr (g.1 k (by omega)).1; omega⟩
      have n1 : (((ps f N P k : Nat) : Int) + 1).toNat = ps f N P k + 1 := by omega
      have t1 := tp_in (f := f) (N := N) (show ps f N P k + 1 < N by omega)
      have b1 := h0 (ps f N P k + 1)
      rw [n1, hf _ (by omega), ← t1] at e47
      rcases h with ⟨c4, z49, e49, h⟩ | ⟨c4, hz⟩
      case inr => exact Or.inr ⟨hz, fun g => by have := (g.1 k (by omega)).2.1; omega⟩
      rw [n1, hf _ (by omega), ← t1] at e49
      rcases h with ⟨c5, hz⟩ | ⟨c5, z51, h51, h⟩
      · exact Or.inr ⟨hz, fun g => by omega⟩
      obtain ⟨m, em⟩ : ∃ m : Nat, z49 = (m : Int) := ⟨z49.toNat, by omega⟩
      have em2 : (tp f N (ps f N P k + 1)).toNat = m := by omega
      obtain ⟨n5, h51⟩ := (h51.1 : tr_r_X12_isRowAt (((ps f N P k : Nat) : Int) + 2) z49 A z51)
      rw [show ((ps f N P k : Nat) : Int) + 2 = ((ps f N P k + 2 : Nat) : Int) by omega, em] at h51
      have mr := M_rowAtL hI hA (by omega) hf n5 0 (Nat.zero_le m) ⟨fun i g => absurd g (Nat.not_lt_zero i), fun i j _ g => absurd g (Nat.not_lt_zero j)⟩ h51
      rcases h with ⟨c6, h⟩ | ⟨c6, hz⟩
      · rcases mr with ⟨_, ro⟩ | ⟨g, _⟩
        · rw [show ((ps f N P k : Nat) : Int) + z49 + 2 = ((ps f N P (k + 1) : Nat) : Int) by omega] at h
          refine ih (k + 1) (by omega) (fun k' g => ?_) (by rw [show ((k + 1 : Nat) : Int) = (k : Int) + 1 by omega]; exact h)
          by_cases e : k' = k
          · subst e
            exact ⟨m43.1.mp (by omega), by omega, by rw [em2]; exact ro⟩
          · exact ok k' (by omega)
        · omega
      · rcases mr with ⟨g, _⟩ | ⟨_, ro⟩
        · omega
        · refine Or.inr ⟨hz, fun g => ro ?_⟩
          have := (g.1 k (by omega)).2.2
          rw [em2] at this
          exact this
theorem M_whole2 {f : Nat → Int} {N b P K : Nat} {A T : St} {z : Int} (hI : IM A) (hA : ACT b A T) (hP : T 1 3 = (P : Int)) (hK : T 1 2 = (K : Int)) (hN1 : 1 ≤ N) (hf : ∀ k, k < N → A 1 k = f k) (h0 : ∀ k, 0 ≤ f k ∧ f k ≤ 255) : ∀ (nn p : Nat), p ≤ P → (∀ p', p' < p → 0 ≤ tp f N p' ∧ tp f N p' < T 1 0) → d_X12_isWhole_2 (N : Int) (P : Int) A z nn (p : Int) → (z = 1 ∧ (∀ p', p' < P → 0 ≤ tp f N p' ∧ tp f N p' < T 1 0) ∧ (∀ k', k' < K → keyOk T f N (ps f N P k')) ∧ N = ps f N P K + 1) ∨ (z = 0 ∧ ¬ ((∀ p', p' < P → 0 ≤ tp f N p' ∧ tp f N p' < T 1 0) ∧ (∀ k', k' < K → keyOk T f N (ps f N P k')) ∧ N = ps f N P K + 1)) := by
  intro nn
  induction nn with
  | zero => intro p _ _ h; exact h.elim
  | succ nn ih =>
    intro p hp ok h
    obtain ⟨_, z24, e24, h⟩ := (h : tr_d_X12_isWhole_2 (N : Int) (P : Int) A z (fun z15 => d_X12_isWhole_2 (N : Int) (P : Int) A z nn z15) (p : Int))
    rw [hA.1, Int.toNat_natCast, hA.cnt.2.2.2, hP] at e24
    rcases h with ⟨c, n3, h⟩ | ⟨c, h⟩
    · have e : p = P := by omega
      subst e
      rcases M_whole3 (P := p) hI hA hK hN1 hf h0 n3 0 (Nat.zero_le K) (fun k' g => absurd g (Nat.not_lt_zero k')) h with ⟨hz, g1, g2⟩ | ⟨hz, g⟩
      · exact Or.inl ⟨hz, ok, g1, g2⟩
      · exact Or.inr ⟨hz, fun x => g x.2⟩
    · have mono := ps_ge (f := f) (N := N) (P := P) 0 K
      rw [Nat.zero_add] at mono
      have e0 : ps f N P 0 = P := rfl
      rcases h with ⟨c2, hz⟩ | ⟨c2, z56, e56, z57, h57, h⟩
      · exact Or.inr ⟨hz, fun g => by have := g.2.2; omega⟩
      rw [Int.toNat_natCast, hf _ (by omega), ← tp_in (f := f) (N := N) (show p < N by omega)] at e56
      have m := M_isPlace hI hA h57
      rcases h with ⟨c3, h⟩ | ⟨c3, hz⟩
      · refine ih (p + 1) (by omega) (fun p' g => ?_) (by rw [show ((p + 1 : Nat) : Int) = (p : Int) + 1 by omega]; exact h)
        by_cases e : p' = p
        · rw [e, ← e56]
          omega
        · exact ok p' (by omega)
      · refine Or.inr ⟨hz, fun g => ?_⟩
        have := g.1 p (by omega)
        rw [← e56] at this
        omega
theorem M_whole1 {f : Nat → Int} {N b P K : Nat} {A T : St} {z : Int} (hI : IM A) (hA : ACT b A T) (hP : T 1 3 = (P : Int)) (hK : T 1 2 = (K : Int)) (hN1 : 1 ≤ N) (hf : ∀ k, k < N → A 1 k = f k) (h0 : ∀ k, 0 ≤ f k ∧ f k ≤ 255) : ∀ (nn k : Nat) (v : Int), k ≤ N - 1 → v = sm f N k → d_X12_isWhole_1 (N : Int) A z nn (k : Int) v → (z = 1 ∧ whole T f N) ∨ (z = 0 ∧ ¬ whole T f N) := by
  have eP : (T 1 3).toNat = P := by rw [hP]; exact Int.toNat_natCast P
  have eK : (T 1 2).toNat = K := by rw [hK]; exact Int.toNat_natCast K
  intro nn
  induction nn with
  | zero => intro k v _ _ h; exact h.elim
  | succ nn ih =>
    intro k v hk hv h
    obtain ⟨_, _, h⟩ := (h : tr_d_X12_isWhole_1 (N : Int) A z (fun z2 z3 => d_X12_isWhole_1 (N : Int) A z nn z2 z3) (k : Int) v)
    rcases h with ⟨c, z12, e12, h⟩ | ⟨c, z61, e61, z62, e62, h⟩
    · have e : k = N - 1 := by omega
      rw [show ((N : Int) - 1).toNat = N - 1 by (first | omega | (clear h; omega) | (clear h1; omega) | (clear h2; omega) | (clear h h1; omega) | (clear h h2; omega) | (clear h1 h2; omega) | (clear h h1 h2; omega)), hf _ (by omega), ← tp_in (f := f) (N := N) (show N - 1 < N by omega)] at e12
      rw [e] at hv
      rcases h with ⟨c2, z14, e14, n2, h⟩ | ⟨c2, hz⟩
      · rw [hA.1, Int.toNat_natCast, hA.cnt.2.2.2, hP] at e14
        rw [e14] at h
        rcases M_whole2 (K := K) hI hA hP hK hN1 hf h0 n2 0 (Nat.zero_le P) (fun p' g => absurd g (Nat.not_lt_zero p')) h with ⟨hz, g1, g2, g3⟩ | ⟨hz, g⟩
        · refine Or.inl ⟨hz, fun p hp => g1 p (by omega), fun k' hk' => ?_, ?_, ?_⟩
          · rw [eP]; exact g2 k' (by omega)
          · rw [eP, eK]; exact g3
          · rw [← e12, c2, hv]
        · refine Or.inr ⟨hz, fun x => g ⟨fun p' hp' => x.1 p' (by omega), fun k' hk' => ?_, ?_⟩⟩
          · have := x.2.1 k' (by omega)
            rw [eP] at this
            exact this
          · have := x.2.2.1
            rw [eP, eK] at this
            exact this
      · refine Or.inr ⟨hz, fun x => c2 ?_⟩
        rw [e12, hv]
        exact x.2.2.2
    · rw [Int.toNat_natCast, hf _ (by omega), ← tp_in (f := f) (N := N) (show k < N by omega)] at e61
      refine ih (k + 1) z62 (by omega) ?_ (by rw [show ((k + 1 : Nat) : Int) = (k : Int) + 1 by omega]; exact h)
      show z62 = (3 * sm f N k + tp f N k) % 233
      rw [e62, hv, e61]
theorem M_isWhole {f : Nat → Int} {N b : Nat} {A T : St} {z : Int} (hI : IM A) (hA : ACT b A T) (h3 : 0 ≤ T 1 3) (h2 : 0 ≤ T 1 2) (hf : ∀ k, k < N → A 1 k = f k) (h0 : ∀ k, 0 ≤ f k ∧ f k ≤ 255) (h : q_X12_isWhole (N : Int) A z) : (z = 1 ∧ whole T f N) ∨ (z = 0 ∧ ¬ whole T f N) := by
  rcases (h.1 : tr_r_X12_isWhole (N : Int) A z) with ⟨c, nn, h⟩ | ⟨c, hz⟩
  · exact M_whole1 (P := (T 1 3).toNat) (K := (T 1 2).toNat) hI hA (by omega) (by omega) (by omega) hf h0 nn 0 19 (Nat.zero_le _) rfl h
  · refine Or.inr ⟨hz, fun g => ?_⟩
    have := g.2.2.1
    omega
/-- what the reference then has -/
def FIM (f : Nat → Int) (N b P K : Nat) (u : St) : Prop := (∀ p, p < P → u 18 (3 * b + p) = f p) ∧ ∀ k, k < K → u 13 (4 * b + k) = f (ps f N P k) ∧ u 14 (4 * b + k) = f (ps f N P k + 1) ∧ ∀ i : Nat, (i : Int) < f (ps f N P k + 1) → u 15 (40 * b + 10 * k + i) = f (ps f N P k + 2 + i)
theorem M_on3 {f : Nat → Int} {N b k a m : Nat} {A u : St} {z : Int} {K2 : Int → Int → St → Prop} (hb : A 0 12 = (b : Int)) (hf : ∀ k, k < N → A 1 k = f k) (ham : a + 2 + m < N) (hm : f (a + 1) = (m : Int)) : ∀ (nn i : Nat) (C : St), i ≤ m → C 1 = A 1 → d_X12_on_3 K2 (k : Int) (a : Int) A z u nn (i : Int) C → ∃ D, K2 ((k : Int) + 1) ((a + 2 + m : Nat) : Int) D ∧ (∀ j, j ≠ 15 → D j = C j) ∧ (∀ i', (i' < 40 * b + 10 * k + i ∨ 40 * b + 10 * k + m ≤ i') → D 15 i' = C 15 i') ∧ ∀ i', i ≤ i' → i' < m → D 15 (40 * b + 10 * k + i') = f (a + 2 + i') := by
  have n1 : ((a : Int) + 1).toNat = a + 1 := by omega
  intro nn
  induction nn with
  | zero => intro i C _ _ h; exact h.elim
  | succ nn ih =>
    intro i C hi h1 h
    obtain ⟨_, _, z57, e57, h⟩ := (h : tr_d_X12_on_3 K2 (k : Int) (a : Int) A z u (fun z47 A49 => d_X12_on_3 K2 (k : Int) (a : Int) A z u nn z47 A49) (i : Int) C)
    rw [n1, h1, hf _ (by omega), hm] at e57
    rcases h with ⟨c, z59, e59, h⟩ | ⟨c, _, _, z63, e63, A64, e64, h⟩
    · rw [n1, h1, hf _ (by omega), hm] at e59
      rw [e59, show (a : Int) + (m : Int) + 2 = ((a + 2 + m : Nat) : Int) by omega] at h
      exact ⟨C, h, fun _ _ => rfl, fun _ _ => rfl, fun i' g1 g2 => by omega⟩
    · rw [show ((a : Int) + (i : Int) + 2).toNat = a + 2 + i by omega, h1, hf _ (by omega)] at e63
      rw [hb, show (40 * (b : Int) + 10 * (k : Int) + (i : Int)).toNat = 40 * b + 10 * k + i by omega] at e64
      obtain ⟨D, g1, g2, g3, g4⟩ := ih (i + 1) A64 (by omega) (by rw [e64, stA_ne _ _ (by decide)]; exact h1) (by rw [show ((i + 1 : Nat) : Int) = (i : Int) + 1 by omega]; exact h)
      have r15 : A64 15 = up (C 15) (40 * b + 10 * k + i) z63 := by rw [e64, stA_same]
      refine ⟨D, g1, fun j hj => by rw [g2 j hj, e64, stA_ne _ _ hj], fun i' g => ?_, fun i' x1 x2 => ?_⟩
      · rw [g3 i' (by omega), r15, up_ne _ _ (by omega)]
      · by_cases e : i' = i
        · subst e
          rw [g3 _ (by omega), r15, up_same, e63]
        · exact g4 i' (by omega) x2
theorem M_on2 {f : Nat → Int} {N b P K : Nat} {A u : St} {z : Int} (hb : A 0 12 = (b : Int)) (h11 : A 11 b = (K : Int)) (hf : ∀ k, k < N → A 1 k = f k) (ok : ∀ k, k < K → ps f N P k + 2 + (tp f N (ps f N P k + 1)).toNat < N ∧ 0 ≤ f (ps f N P k + 1) ∧ f (ps f N P k + 1) ≤ 6) : ∀ (nn k : Nat) (C : St), k ≤ K → C 1 = A 1 → C 11 = A 11 → (∀ k', k' < k → C 13 (4 * b + k') = f (ps f N P k') ∧ C 14 (4 * b + k') = f (ps f N P k' + 1) ∧ ∀ i : Nat, (i : Int) < f (ps f N P k' + 1) → C 15 (40 * b + 10 * k' + i) = f (ps f N P k' + 2 + i)) → d_X12_on_2 A z u nn (k : Int) ((ps f N P k : Nat) : Int) C → z = 1 ∧ u 18 = C 18 ∧ ∀ k', k' < K → u 13 (4 * b + k') = f (ps f N P k') ∧ u 14 (4 * b + k') = f (ps f N P k' + 1) ∧ ∀ i : Nat, (i : Int) < f (ps f N P k' + 1) → u 15 (40 * b + 10 * k' + i) = f (ps f N P k' + 2 + i) := by
  intro nn
  induction nn with
  | zero => intro k C _ _ _ _ h; exact h.elim
  | succ nn ih =>
    intro k C hk c1 c11 hd h
    obtain ⟨_, _, _, z35, e35, h⟩ := (h : tr_d_X12_on_2 A z u (fun z22 z23 A25 => d_X12_on_2 A z u nn z22 z23 A25) (k : Int) ((ps f N P k : Nat) : Int) C)
    rw [hb, Int.toNat_natCast, c11, h11] at e35
    rcases h with ⟨c, hz, hu⟩ | ⟨c, _, _, z40, e40, A41, e41, _, _, z45, e45, A46, e46, n3, h⟩
    · rw [hu]
      exact ⟨hz, rfl, fun k' g => hd k' (by omega)⟩
    · have hkK : k < K := by omega
      obtain ⟨o1, o2, o3⟩ := ok k hkK
      have t1 := tp_in (f := f) (N := N) (show ps f N P k + 1 < N by omega)
      rw [t1] at o1
      have n4 : (4 * (b : Int) + (k : Int)).toNat = 4 * b + k := by omega
      rw [Int.toNat_natCast, c1, hf _ (by omega)] at e40
      rw [hb, n4] at e41 e46
      have a1 : A41 1 = A 1 := by rw [e41, stA_ne _ _ (by decide)]; exact c1
      rw [show (((ps f N P k : Nat) : Int) + 1).toNat = ps f N P k + 1 by omega, a1, hf _ (by omega)] at e45
      have b1 : A46 1 = A 1 := by rw [e46, stA_ne _ _ (by decide)]; exact a1
      obtain ⟨m, em⟩ : ∃ m : Nat, f (ps f N P k + 1) = (m : Int) := ⟨(f (ps f N P k + 1)).toNat, by omega⟩
      obtain ⟨D, g1, g2, g3, g4⟩ := M_on3 hb hf (show ps f N P k + 2 + m < N by omega) em n3 0 A46 (Nat.zero_le m) b1 h
      have nx : ps f N P (k + 1) = ps f N P k + 2 + m := by
        show ps f N P k + 2 + (tp f N (ps f N P k + 1)).toNat = _
        rw [t1, em, Int.toNat_natCast]
      rw [← nx] at g1
      have r13 : A46 13 = up (C 13) (4 * b + k) z40 := by rw [e46, stA_ne _ _ (by decide), e41, stA_same]
      have r14 : A46 14 = up (C 14) (4 * b + k) z45 := by rw [e46, stA_same, e41, stA_ne _ _ (by decide)]
      have r15 : A46 15 = C 15 := by rw [e46, stA_ne _ _ (by decide), e41, stA_ne _ _ (by decide)]
      have r18 : A46 18 = C 18 := by rw [e46, stA_ne _ _ (by decide), e41, stA_ne _ _ (by decide)]
      have r11 : A46 11 = A 11 := by rw [e46, stA_ne _ _ (by decide), e41, stA_ne _ _ (by decide)]; exact c11
      have q := ih (k + 1) D (by omega) ((g2 1 (by decide)).trans b1) ((g2 11 (by decide)).trans r11) (fun k' g => ?_) (by rw [show ((k + 1 : Nat) : Int) = (k : Int) + 1 by omega]; exact g1)
      · refine ⟨q.1, ?_, q.2.2⟩
        rw [q.2.1, g2 18 (by decide), r18]
      · rw [g2 13 (by decide), g2 14 (by decide), r13, r14]
        by_cases e : k' = k
        · subst e
          rw [up_same, up_same]
          exact ⟨e40, e45, fun i hi => g4 i (Nat.zero_le i) (by omega)⟩
        · obtain ⟨d1, d2, d3⟩ := hd k' (by omega)
          obtain ⟨_, _, o6⟩ := ok k' (by omega)
          rw [up_ne _ _ (by omega), up_ne _ _ (by omega)]
          refine ⟨d1, d2, fun i hi => ?_⟩
          rw [g3 _ (by omega), r15]
          exact d3 i hi
theorem M_on1 {f : Nat → Int} {N b P K : Nat} {A u : St} {z : Int} (hb : A 0 12 = (b : Int)) (h16 : A 16 b = (P : Int)) (h11 : A 11 b = (K : Int)) (hP : P < N) (hf : ∀ k, k < N → A 1 k = f k) (ok : ∀ k, k < K → ps f N P k + 2 + (tp f N (ps f N P k + 1)).toNat < N ∧ 0 ≤ f (ps f N P k + 1) ∧ f (ps f N P k + 1) ≤ 6) : ∀ (nn p : Nat) (C : St), p ≤ P → C 1 = A 1 → C 11 = A 11 → C 16 = A 16 → (∀ p', p' < p → C 18 (3 * b + p') = f p') → d_X12_on_1 A z u nn (p : Int) C → z = 1 ∧ FIM f N b P K u := by
  intro nn
  induction nn with
  | zero => intro p C _ _ _ _ _ h; exact h.elim
  | succ nn ih =>
    intro p C hp c1 c11 c16 hd h
    obtain ⟨_, _, z19, e19, h⟩ := (h : tr_d_X12_on_1 A z u (fun z9 A11 => d_X12_on_1 A z u nn z9 A11) (p : Int) C)
    rw [hb, Int.toNat_natCast, c16, h16] at e19
    rcases h with ⟨c, z21, e21, n2, h⟩ | ⟨c, z65, e65, A66, e66, h⟩
    · rw [hb, Int.toNat_natCast, c16, h16] at e21
      rw [e21] at h
      obtain ⟨q1, q2, q3⟩ := M_on2 (P := P) hb h11 hf ok n2 0 C (Nat.zero_le K) c1 c11 (fun k' g => absurd g (Nat.not_lt_zero k')) h
      exact ⟨q1, fun p' g => by rw [q2]; exact hd p' (by omega), q3⟩
    · rw [Int.toNat_natCast, c1, hf _ (by omega)] at e65
      rw [hb, show (3 * (b : Int) + (p : Int)).toNat = 3 * b + p by omega] at e66
      refine ih (p + 1) A66 (by omega) (by rw [e66, stA_ne _ _ (by decide)]; exact c1) (by rw [e66, stA_ne _ _ (by decide)]; exact c11) (by rw [e66, stA_ne _ _ (by decide)]; exact c16) (fun p' g => ?_) (by rw [show ((p + 1 : Nat) : Int) = (p : Int) + 1 by omega]; exact h)
      rw [e66, stA_same]
      by_cases e : p' = p
      · rw [e, up_same, e65]
      · rw [up_ne _ _ (by omega)]
        exact hd p' (by omega)
/-! An image that is read in: both alike. -/
theorem on_act {z1 z2 : Int} {B A u1 u2 : St} (hIK : IK B) (hIM : IM A) (he : B 1 1 = A 0 1) (hT : TB B A) (hp : PSs B A) (ha : ACS B A) (h1 : r_X11_on B z1 u1) (hf1 : fk [33, 34, 35, 37, 38, 39, 40, 42, 43, 44, 46, 47, 48, 49, 50, 74, 75, 76, 78, 79, 80, 81, 105, 106, 107, 109, 110, 111, 112] [(1, 1)] B u1) (h2 : q_X12_on A z2 u2) : z1 = z2 ∧ ACS u1 u2 := by
  have hTt := tB hIK
  have hA := ha.act hIM hp
  have l := hA.lim hIM
  have f9 : u1 0 9 = B 0 9 := hf1 0 9 rfl rfl
  have mb := MBc.fr hTt ha.2 hf1 rfl rfl h2.2.2.1 rfl
  have rows := tw_rows hTt hf1 [1, 8, 9, 10, 11] rfl rfl
  have fr2 := h2.2.2.1
  obtain ⟨b, hb⟩ : ∃ b : Nat, (A 0 12).toNat = b := ⟨_, rfl⟩
  obtain ⟨t, ht⟩ : ∃ t : Nat, t = 51 + 31 * (B 0 9).toNat := ⟨_, rfl⟩
  unfold ACS
  rw [f9, fr2.2 12 rfl]
  rw [hb] at hA mb ⊢
  rw [← ht] at hA l mb rows hTt ⊢
  have t51 : t = 51 ∨ t = 82 := hTt
  have hv := hA.2.2.2.2
  have l0 : B (t + 1) 0 ≤ 8 := l.1
  have l1 : B (t + 1) 1 ≤ 10 := l.2.1
  have l2 : B (t + 1) 2 ≤ 4 := l.2.2.1
  have l3 : B (t + 1) 3 ≤ 3 := l.2.2.2
  have p3 : 0 ≤ B (t + 1) 3 := hv.1.2.2.2.1
  have p2 : 0 ≤ B (t + 1) 2 := hv.1.2.2.1
  have r01 : (0 : Int) ≤ A 0 1 ∧ A 0 1 ≤ 1600 := hIM 0 1
  obtain ⟨N, hN⟩ : ∃ N : Nat, A 0 1 = (N : Int) := ⟨(A 0 1).toNat, by omega⟩
  obtain ⟨P, hP⟩ : ∃ P : Nat, B (t + 1) 3 = (P : Int) := ⟨(B (t + 1) 3).toNat, by omega⟩
  obtain ⟨K, hK⟩ : ∃ K : Nat, B (t + 1) 2 = (K : Int) := ⟨(B (t + 1) 2).toNat, by omega⟩
  have h0 : ∀ k, 0 ≤ (fun k => B 2 k % 256) k ∧ (fun k => B 2 k % 256) k ≤ 255 := fun k => by
    show 0 ≤ B 2 k % 256 ∧ B 2 k % 256 ≤ 255
    omega
  obtain ⟨f, hfd⟩ : ∃ f : Nat → Int, f = fun k => B 2 k % 256 := ⟨_, rfl⟩
  rw [← hfd] at h0
  have hfK : ∀ k, k < N → f k = B 2 k % 256 := fun k _ => by rw [hfd]
  have hfM : ∀ k, k < N → A 1 k = f k := fun k hk => by rw [hfd]; exact hT k (by omega)
  obtain ⟨t2, ht2, z3, A4, hac, A7, e7, h1⟩ := (h1 : tr_r_X11_on B z1 u1)
  rw [← ht] at ht2
  subst ht2
  have ka := K_accept hTt hP hK (by omega) (by omega) l0 (by rw [he, hN]) (by omega) h0 hfK hac
  obtain ⟨A1, e1, y2, hw, h2⟩ := (h2.1 : tr_r_X12_on A z2 u2)
  have ne : ∀ j, j ≠ 0 → A1 j = A j := fun j hj => by rw [e1, stA_ne _ _ hj]
  have hI1 : IM A1 := by
    rw [e1]
    exact hIM.st (show (0 : Int) ≤ 0 ∧ (0 : Int) ≤ 1600 from ⟨by decide, by decide⟩)
  have b1 : A1 0 12 = (b : Int) := by rw [e1]; exact hA.1
  have hA1 : ACT b A1 (tw t2 B) := by
    refine ⟨b1, MRs.cg hA.2.1 (fun j hj => ne j ?_) (fun _ _ => rfl) rfl, hA.2.2.cg l2 sT.rf ⟨ne 13 (by decide), ne 14 (by decide), ne 15 (by decide), ne 18 (by decide)⟩⟩
    intro e0
    subst e0
    exact absurd hj (by decide)
  rw [hN] at hw
  have mw := M_isWhole hI1 hA1 p3 p2 (fun k hk => by rw [ne 1 (by decide)]; exact hfM k hk) h0 hw
  have end1 : z1 = z3 ∧ ∀ j, 51 ≤ j → u1 j = A4 j := by
    rcases h1 with ⟨_, hz, hu⟩ | ⟨_, z10, A11, hr, hz, hu⟩
    · exact ⟨hz, fun j hj => by rw [hu, e7, stA_ne _ _ (by omega)]⟩
    · refine ⟨hz, fun j hj => ?_⟩
      funext k
      have n50 : ([50] : List Nat).contains j = false := by
        cases hc : ([50] : List Nat).contains j with
        | false => rfl
        | true =>
          have := List.contains_iff_mem.mp hc
          simp at this
          omega
      rw [hu, hr.2.2.1 j k n50 rfl, e7, stA_ne _ _ (by omega)]
  rcases mw with ⟨yz, wh⟩ | ⟨yz, nw⟩
  · rcases ka with ⟨zz, _, fin⟩ | ⟨_, nw, _⟩
    case inr => exact absurd wh nw
    rcases h2 with ⟨_, nn, h2⟩ | ⟨c, -⟩
    case inr => omega
    have eP : (tw t2 B 1 3).toNat = P := by show (B (t2 + 1) 3).toNat = P; omega
    have eK : (tw t2 B 1 2).toNat = K := by show (B (t2 + 1) 2).toNat = K; omega
    obtain ⟨w1, w2, w3, w4⟩ := wh
    rw [eP] at w2
    rw [eP, eK] at w3
    have geP := ps_ge (f := f) (N := N) (P := P) 0 K
    rw [Nat.zero_add] at geP
    have eP0 : ps f N P 0 = P := rfl
    have kOk : ∀ k, k < K → keyOk (tw t2 B) f N (ps f N P k) := fun k hk => w2 k (by show (k : Int) < B (t2 + 1) 2; omega)
    have ok : ∀ k, k < K → ps f N P k + 2 + (tp f N (ps f N P k + 1)).toNat < N ∧ 0 ≤ f (ps f N P k + 1) ∧ f (ps f N P k + 1) ≤ 6 := by
      intro k hk
      have nx : ps f N P (k + 1) = ps f N P k + 2 + (tp f N (ps f N P k + 1)).toNat := rfl
      have mono := ps_ge (f := f) (N := N) (P := P) (k + 1) (K - (k + 1))
      rw [show k + 1 + (K - (k + 1)) = K by omega] at mono
      have b6 := (kOk k hk).2.1
      have t1 := tp_in (f := f) (N := N) (show ps f N P k + 1 < N by omega)
      rw [t1] at b6
      exact ⟨by omega, b6⟩
    have cn := hA1.cnt
    have mo := M_on1 (f := f) (N := N) (P := P) (K := K) (A := A) (u := u2) (z := z2) hA.1 (hA.cnt.2.2.2.trans hP) (hA.cnt.2.2.1.trans hK) (by omega) hfM ok nn 0 A1 (Nat.zero_le P) (ne 1 (by decide)) (ne 11 (by decide)) (ne 16 (by decide)) (fun p' g => absurd g (Nat.not_lt_zero p')) h2
    obtain ⟨z21, m18, mK⟩ := mo
    obtain ⟨f1, f2, f3, f4⟩ := fin
    refine ⟨by rw [end1.1, zz, z21], ?_, mb⟩
    have q1 : tw t2 u1 1 = tw t2 B 1 := rows 1 rfl
    have q8 : tw t2 u1 8 = tw t2 B 8 := rows 8 rfl
    have q9 : tw t2 u1 9 = tw t2 B 9 := rows 9 rfl
    have q10 : tw t2 u1 10 = tw t2 B 10 := rows 10 rfl
    have q11 : tw t2 u1 11 = tw t2 B 11 := rows 11 rfl
    have d23 : ∀ p, p < P → tw t2 u1 23 p = tp f N p := fun p hp2 => by
      show u1 (t2 + 23) p = _
      rw [end1.2 _ (by omega)]
      exact f2 p hp2
    have d24 : ∀ k, k < K → tw t2 u1 24 k = tp f N (ps f N P k) := fun k hk => by
      show u1 (t2 + 24) k = _
      rw [end1.2 _ (by omega)]
      exact (f3 k hk).1
    have d25 : ∀ k, k < K → tw t2 u1 25 k = tp f N (ps f N P k + 1) := fun k hk => by
      show u1 (t2 + 25) k = _
      rw [end1.2 _ (by omega)]
      exact (f3 k hk).2.1
    have d27 : ∀ k, k < K → ∀ i : Nat, (i : Int) < tp f N (ps f N P k + 1) → tw t2 u1 (27 + k) i = tp f N (ps f N P k + 2 + i) := fun k hk i hi => by
      show u1 (t2 + (27 + k)) i = _
      rw [end1.2 _ (by omega)]
      exact (f3 k hk).2.2 i hi
    have d25z : ∀ k, K ≤ k → k < 4 → tw t2 u1 25 k = 0 := fun k g1 g2 => by
      show u1 (t2 + 25) k = 0
      rw [end1.2 _ (by omega), f4 k g1 g2]
      exact hv.2.2.2.2.1 k g2 (by show B (t2 + 1) 2 ≤ (k : Int); omega)
    have pin : ∀ k, k < K → ps f N P k < N := fun k hk => by have := (ok k hk).1; omega
    have G : GR (tw t2 B) (tw t2 u1) := by
      refine ⟨?_, fun k _ => ?_⟩
      · rw [q1]
        exact ⟨Int.le_refl _, Int.le_refl _, Int.le_refl _, Int.le_refl _, Int.le_refl _⟩
      · rw [q8, q9, q10]
        exact ⟨rfl, rfl, rfl⟩
    have c3 : tw t2 B 1 3 = (P : Int) := hP
    have c2 : tw t2 B 1 2 = (K : Int) := hK
    have vt : VT (tw t2 u1) := by
      refine ⟨by rw [q1]; exact hv.1, fun k hk => ?_, fun p hp2 => ?_, fun k hk => ?_, fun k hk g => ?_, fun k hk => ?_⟩
      · rw [q1] at hk
        exact (hv.2.1 k hk).gr hk G
      · rw [q1] at hp2
        rw [q1, d23 p (by omega)]
        exact w1 p hp2
      · rw [q1, c2] at hk
        have hk : k < K := by omega
        obtain ⟨y1, y2, y3, y4⟩ := kOk k hk
        unfold KV
        rw [d24 k hk, d25 k hk, q1]
        refine ⟨y2, fun i hi => ?_, fun i j hij hj => ?_, y1.gr G⟩
        · rw [d27 k hk i hi]
          exact y3 i (by omega)
        · rw [d27 k hk i (by omega), d27 k hk j hj]
          exact y4 i j hij (by omega)
      · rw [q1, c2] at g
        exact d25z k (by omega) hk
      · rw [q1] at hk
        rw [q11]
        exact (hv.2.2.2.2.2 k hk).gr G
    refine ⟨⟨fun k hk => ?_, fun k hk g => ?_⟩, fun p hp2 => ?_, vt⟩
    · rw [q1, c2] at hk
      have hk : k < K := by omega
      obtain ⟨x1, x2, x3⟩ := mK k hk
      have o := ok k hk
      have t0 := tp_in (f := f) (N := N) (pin k hk)
      have t1 := tp_in (f := f) (N := N) (show ps f N P k + 1 < N by omega)
      rw [d24 k hk, d25 k hk, t0, t1]
      refine ⟨x1, x2, fun i hi => ?_⟩
      rw [d27 k hk i (by rw [t1]; exact hi), tp_in (f := f) (N := N) (show ps f N P k + 2 + i < N by rw [t1] at o; omega)]
      exact x3 i hi
    · rw [q1, c2] at g
      exact d25z k (by omega) hk
    · rw [q1, c3] at hp2
      have hp3 : p < P := by omega
      rw [d23 p hp3, tp_in (f := f) (N := N) (show p < N by omega)]
      exact m18 p hp3
  · rcases ka with ⟨_, wh, _⟩ | ⟨zz, _, up⟩
    · exact absurd wh nw
    rcases h2 with ⟨c, -⟩ | ⟨_, y67, A68, hr2, hz2, hu2⟩
    · omega
    refine ⟨by rw [end1.1, zz, hz2], ?_, mb⟩
    have keepM : sM A u2 := by
      rw [hu2]
      refine sM.trans ⟨ne 13 (by decide), ne 14 (by decide), ne 15 (by decide), ne 18 (by decide)⟩ (sM.fr hr2.2.2.1 rfl rfl rfl rfl)
    refine hA.2.2.cg l2 (fun j hj => ?_) keepM
    funext k
    show u1 (t2 + j) k = B (t2 + j) k
    rw [end1.2 _ (by omega), up _ (by omega)]
