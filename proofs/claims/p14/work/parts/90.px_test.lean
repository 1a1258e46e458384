/-! The reference's tests against the class's. -/
theorem sNots_le {f : Nat → Int} {N : Nat} : ∀ (k : Nat) (t : Int) (p : Nat), p ≤ N → p ≤ (sNots f N k t p).2 ∧ ((sNots f N k t p).1 ≠ t → p < (sNots f N k t p).2) := by
  intro k
  induction k with
  | zero => intro t p _; exact ⟨Nat.le_refl p, fun g => absurd rfl g⟩
  | succ k ih =>
    intro t p hp
    by_cases y : tow f N p 18
    · have e : sNots f N (k + 1) t p = sNots f N k (if t = 0 then 1 else 0) (tEnd f N p) := by
        show (match sOwn f N 18 p with | some e => sNots f N k (if t = 0 then 1 else 0) e | none => (t, p)) = _
        rw [sOwn_pos y]
      have tb := tEnd_b (f := f) hp
      have lt := tb.2.2.2 (by have := y.1; omega)
      have := ih (if t = 0 then 1 else 0) (tEnd f N p) tb.2.2.1
      rw [e]
      exact ⟨by omega, fun _ => by omega⟩
    · have e : sNots f N (k + 1) t p = (t, p) := by
        show (match sOwn f N 18 p with | some e => sNots f N k (if t = 0 then 1 else 0) e | none => (t, p)) = _
        rw [sOwn_neg y]
      rw [e]
      exact ⟨Nat.le_refl p, fun g => absurd rfl g⟩
theorem sNots_bad {f : Nat → Int} {N p : Nat} {t : Int} (h : tKind f N p = 4) : ∀ k, sNots f N k t p = (t, p)
  | 0 => rfl
  | k + 1 => by
    show (match sOwn f N 18 p with | some e => sNots f N k (if t = 0 then 1 else 0) e | none => (t, p)) = _
    rw [bad_own h]
theorem Sim_nots {f : Nat → Int} {N b D : Nat} {u : St} (h1 : 1 ≤ D) : ∀ (k : Nat) (A : St) (p : Nat) (t : Int), MS f N b p A → RN u A → A 0 57 = 0 → A 0 53 = (D : Int) → (A 35 (D - 1) = 1 ∨ A 35 (D - 1) = 5) → ¬ A 37 (D - 1) = 0 → N < k + p → (1 ≤ u 0 8 ∧ tKind f N (sNots f N k t p).2 = 4) ∨ (∃ A', MS f N b (sNots f N k t p).2 A' ∧ RN u A' ∧ A' 0 57 = 0 ∧ A' 0 53 = A 0 53 ∧ A' 0 54 = A 0 54 ∧ A' 35 = A 35 ∧ A' 36 = A 36 ∧ A' 37 = A 37 ∧ ¬ tow f N (sNots f N k t p).2 18) := by
  intro k
  induction k with
  | zero =>
    intro A p t h _ _ _ _ _ hN
    have := h.le
    omega
  | succ k ih =>
    intro A p t h hr h57 hD hk h37 hN
    have tb := tEnd_b (f := f) h.le
    by_cases y : tow f N p 18
    · have e : sNots f N (k + 1) t p = sNots f N k (if t = 0 then 1 else 0) (tEnd f N p) := by
        show (match sOwn f N 18 p with | some e => sNots f N k (if t = 0 then 1 else 0) e | none => (t, p)) = _
        rw [sOwn_pos y]
      have lt := tb.2.2.2 (by have := y.1; omega)
      rw [e]
      obtain ⟨z, B, hq, h2⟩ := RN_op hr h57
      rcases O_base h hD h1 hq with ⟨_, _, hz, a1, a2, a3, a4, a5, a6, a7⟩ | ⟨_, g, _⟩ | ⟨_, g, _⟩ | ⟨g, _⟩
      · rcases h2 with ⟨c, e2⟩ | ⟨c, hr2⟩
        · have g := a1.ff c
          refine Or.inl ⟨by rw [e2]; exact g.2, ?_⟩
          rw [sNots_bad g.1]
          exact g.1
        · have r35 : stA B 0 57 z 35 = A 35 := a5
          have r36 : stA B 0 57 z 36 = A 36 := a6
          have r37 : stA B 0 57 z 37 = A 37 := a7
          rcases ih (stA B 0 57 z) (tEnd f N p) (if t = 0 then 1 else 0) ((a1.nf c).fr rfl (fun k hk => st0_k (by decide) (by decide) hk)) hr2 hz (a2.trans hD) (by rw [r35]; exact hk) (by rw [r37]; exact h37) (by omega) with g | ⟨A', b1, b2, b3, b4, b5, b6, b7, b8, b9⟩
          · exact Or.inl g
          · exact Or.inr ⟨A', b1, b2, b3, b4.trans a2, b5.trans a3, b6.trans r35, b7.trans r36, b8.trans r37, b9⟩
      · exact absurd g (tow_sg y)
      · exact absurd g (tow_ne y (by decide) (by decide) (by decide))
      · exact absurd y (g ⟨hk, h37⟩).1
    · have e : sNots f N (k + 1) t p = (t, p) := by
        show (match sOwn f N 18 p with | some e => sNots f N k (if t = 0 then 1 else 0) e | none => (t, p)) = _
        rw [sOwn_neg y]
      rw [e]
      exact Or.inr ⟨A, h, hr, h57, rfl, rfl, rfl, rfl, rfl, y⟩
theorem bad_fact {f : Nat → Int} {N n p : Nat} {S S2 : PT} {T : St} (hS : ∀ T p, tKind f N p = 4 → S T p = none) (h : tKind f N p = 4) : sFact f N n S S2 T p = none := by
  unfold sFact
  rw [sNots_bad h, bad_factB hS h]
  rfl
theorem Sim_fact {f : Nat → Int} {N b n : Nat} {u : St} {o : Int} {S S2 : PT} (hn : (n : Int) + o = 8) (hS : SimS f N b u o S) (hS2 : 0 < n → SimT f N b u (o + 1) S2) {A T : St} {p D : Nat} (h : MS f N b p A) (hr : RN u A) (h57 : A 0 57 = 0) (hD : A 0 53 = (D : Int)) (h1 : 1 ≤ D) (h54 : A 0 54 = o) (hk : A 35 (D - 1) = 1 ∨ A 35 (D - 1) = 5) (h37 : ¬ A 37 (D - 1) = 0) (h36 : A 36 (D - 1) = 0) (hT : T 19 2 ≤ (p : Int)) (hp : 1 ≤ p) : OutF f N b u D A T p (p + 1) (fun _ => True) (sFact f N n S S2 T p) := by
  have N16 : N ≤ 1600 := h.1.2.1
  have nl := sNots_le (f := f) 1600 0 p h.le
  unfold sFact
  rcases Sim_nots h1 1600 A p 0 h hr h57 hD hk h37 (by omega) with ⟨f1, t4⟩ | ⟨A', b1, b2, b3, b4, b5, b6, b7, b8, b9⟩
  · refine Or.inl ⟨f1, ?_⟩
    rw [bad_factB hS.1 t4]
    exact Or.inl rfl
  · rcases Sim_factB (T := T) hn hS hS2 b1 b2 b3 (b4.trans hD) h1 (b5.trans h54) (by rw [b6]; exact hk) (by rw [b8]; exact h37) (by rw [b7]; exact h36) b9 (by omega) (by omega) with ⟨f1, bd⟩ | ⟨a, A2, sa, ms, hr2, m57, tq, m37, m36, m36t, _, q, cd⟩
    · refine Or.inl ⟨f1, bd.bd (fun a ha => ?_)⟩
      by_cases g : (sNots f N 1600 0 p).1 = 0
      · rw [if_pos g]; exact bad_some ha
      · rw [if_neg g]; exact Bad.ad2 (bad_some ha)
    · rw [sa]
      show OutF f N b u D A T p (p + 1) (fun _ => True) (if (sNots f N 1600 0 p).1 = 0 then some a else sAd2 (some a) (-6))
      have tq' : TQ D A A2 := by
        unfold TQ
        rw [← b4, ← b5, ← b6, ← b7, ← b8]
        exact tq
      by_cases g : (sNots f N 1600 0 p).1 = 0
      · rw [if_pos g]
        exact Or.inr ⟨a, A2, rfl, ms, hr2, m57, tq', m37, m36, m36t, trivial, by omega, by omega⟩
      · rw [if_neg g]
        have l2 := nl.2 g
        obtain ⟨t, st, et⟩ := sAd2_ok (T := a.1) (e := a.2) (x := -6) (by have := ms.le; omega)
        rw [show sAd2 (some a) (-6) = some (t, a.2) from st]
        exact Or.inr ⟨(t, a.2), A2, rfl, ms, hr2, m57, tq', m37, m36, m36t, trivial, by show p + 1 ≤ a.2; omega, by show t 19 2 + (p : Int) ≤ T 19 2 + (a.2 : Int); omega⟩
/-- and, or: the next fact begins -/
theorem W_step {f : Nat → Int} {N b p D : Nat} {u A : St} (h : MS f N b p A) (hr : RN u A) (h57 : A 0 57 = 1) (hD : A 0 53 = (D : Int)) (h1 : 1 ≤ D) (hk : A 35 (D - 1) = 1 ∨ A 35 (D - 1) = 5) (h36 : ¬ A 36 (D - 1) = 0) (hw : tow f N p 17 ∨ tow f N p 16) : (1 ≤ u 0 8 ∧ tKind f N (tEnd f N p) = 4) ∨ (∃ v, MS f N b (tEnd f N p) v ∧ RN u v ∧ v 0 57 = 0 ∧ TQ D A v ∧ ¬ v 37 (D - 1) = 0 ∧ v 36 (D - 1) = 0) := by
  obtain ⟨z, v, hg, h3⟩ := RN_go hr (by rw [h57]; decide)
  have tk : tKind f N p = 1 := by rcases hw with g | g <;> exact g.1
  rcases G_base h hD h1 hg with ⟨_, g, _⟩ | ⟨_, z2, hz2, g2⟩
  · rcases g with g | g | g | g | g <;> · have := g.1; omega
  · have e2 : z2 = 1 := by
      rcases hz2 with ⟨g, _⟩ | ⟨_, g⟩
      · exact g
      · exact absurd hk g
    rcases G_cmp h hD h1 (Or.inl e2) g2 with ⟨_, g, _⟩ | ⟨_, g2⟩
    · exact absurd g h36
    · rcases G_andor h hD h1 (Or.inl e2) g2 with ⟨_, _, g⟩ | ⟨g, _⟩
      · rcases g with ⟨g, _⟩ | ⟨_, hz, Bc, eBc, c1, c2, c3, c4, c5, c6, c7⟩
        · exact absurd g h36
        · have nz : ¬ z = 0 := by rw [hz]; decide
          rcases h3 with ⟨c, _⟩ | ⟨_, c8, e⟩ | ⟨_, c8, hr4⟩
          · exact absurd c nz
          · have g := c1.ff c8
            exact Or.inl ⟨by rw [e]; exact g.2, g.1⟩
          · have v36 : v 36 = up (A 36) (D - 1) 0 := by rw [c6, eBc]; rfl
            have v37 : v 37 = up (A 37) (D - 1) 1 := by rw [c7, eBc]; rfl
            have v35 : v 35 = A 35 := by rw [c5, eBc]; rfl
            refine Or.inr ⟨v, c1.nf c8, hr4, c4, ⟨by rw [c2, eBc]; rfl, by rw [c3, eBc]; rfl, fun i hi => by rw [v35], fun i hi => ?_⟩, by rw [v37, up_same]; decide, by rw [v36, up_same]⟩
            rw [v36, v37, up_ne _ _ (by omega), up_ne _ _ (by omega)]
            exact ⟨rfl, rfl⟩
      · exact absurd ⟨e2, hw⟩ g
theorem bad_bothL {f : Nat → Int} {N n p : Nat} {S S2 : PT} {T : St} (h : tKind f N p = 4) : ∀ k, Bad f N (sBothL f N n S S2 k T p)
  | 0 => Or.inr ⟨(T, p), rfl, h⟩
  | k + 1 => by
    unfold sBothL
    rw [bad_own h]
    exact Or.inr ⟨(T, p), rfl, h⟩
theorem bad_testL {f : Nat → Int} {N n p : Nat} {S S2 : PT} {T : St} (h : tKind f N p = 4) : ∀ k, Bad f N (sTestL f N n S S2 k T p)
  | 0 => Or.inr ⟨(T, p), rfl, h⟩
  | k + 1 => by
    unfold sTestL
    rw [bad_own h]
    exact Or.inr ⟨(T, p), rfl, h⟩
theorem bad_both {f : Nat → Int} {N n p : Nat} {S S2 : PT} {T : St} (hS : ∀ T p, tKind f N p = 4 → S T p = none) (h : tKind f N p = 4) : sBoth f N n S S2 T p = none := by
  unfold sBoth
  rw [bad_fact hS h]
  rfl
theorem bad_test {f : Nat → Int} {N n p : Nat} {S S2 : PT} {T : St} (hS : ∀ T p, tKind f N p = 4 → S T p = none) (h : tKind f N p = 4) : sTest f N n S S2 T p = none := by
  unfold sTest
  rw [bad_both hS h]
  rfl
theorem Sim_bothL {f : Nat → Int} {N b n : Nat} {u : St} {o : Int} {S S2 : PT} (hn : (n : Int) + o = 8) (hS : SimS f N b u o S) (hS2 : 0 < n → SimT f N b u (o + 1) S2) {D : Nat} (h1 : 1 ≤ D) : ∀ (k : Nat) (A T : St) (p : Nat), MS f N b p A → RN u A → A 0 57 = 1 → A 0 53 = (D : Int) → A 0 54 = o → (A 35 (D - 1) = 1 ∨ A 35 (D - 1) = 5) → A 37 (D - 1) = 0 → ¬ A 36 (D - 1) = 0 → (A 36 (D - 1) < 2 → ¬ tari f N p) → T 19 2 ≤ (p : Int) → 1 ≤ p → N < k + p → OutF f N b u D A T p p (fun e => ¬ tow f N e 17) (sBothL f N n S S2 k T p) := by
  intro k
  induction k with
  | zero =>
    intro A T p h _ _ _ _ _ _ _ _ _ _ hN
    have := h.le
    omega
  | succ k ih =>
    intro A T p h hr h57 hD h54 hk h37 h36 h36t hT hp hN
    have tb := tEnd_b (f := f) h.le
    have N16 : N ≤ 1600 := h.1.2.1
    by_cases y : tow f N p 17
    · have lt := tb.2.2.2 (by have := y.1; omega)
      unfold sBothL
      rw [sOwn_pos y]
      show OutF f N b u D A T p p (fun e => ¬ tow f N e 17) ((sAd2 (sFact f N n S S2 T (tEnd f N p)) (-8)).bind fun a => sBothL f N n S S2 k a.1 a.2)
      rcases W_step h hr h57 hD h1 hk h36 (Or.inl y) with ⟨f1, t4⟩ | ⟨v, sv, rv, v57, tqv, v37, v36⟩
      · refine Or.inl ⟨f1, ?_⟩
        rw [bad_fact hS.1 t4]
        exact Or.inl rfl
      · rcases Sim_fact (T := T) hn hS hS2 sv rv v57 (tqv.1.trans hD) h1 (tqv.2.1.trans h54) (by rw [tqv.2.2.1 (D - 1) (by omega)]; exact hk) v37 v36 (by omega) (by omega) with ⟨f1, bd⟩ | ⟨a, A', sa, ms, hr2, m57, tq, m37, m36, m36t, _, q, cd⟩
        · exact Or.inl ⟨f1, (Bad.ad2 bd).bd (fun a ha => bad_bothL ha k)⟩
        · rw [sa]
          obtain ⟨t, st, et⟩ := sAd2_ok (T := a.1) (e := a.2) (x := -8) (by have := ms.le; omega)
          rw [show sAd2 (some a) (-8) = some (t, a.2) from st]
          show OutF f N b u D A T p p (fun e => ¬ tow f N e 17) (sBothL f N n S S2 k t a.2)
          have tq' := tqv.trans tq
          rcases ih A' t a.2 ms hr2 m57 (tq'.1.trans hD) (tq'.2.1.trans h54) (by rw [tq'.2.2.1 (D - 1) (by omega)]; exact hk) m37 m36 m36t (by omega) (by omega) (by omega) with ⟨f1, bd⟩ | ⟨c2, A2, sc, ms2, hr3, m572, tq2, n37, n36, n36t, X2, q2, cd2⟩
          · exact Or.inl ⟨f1, bd⟩
          · exact Or.inr ⟨c2, A2, sc, ms2, hr3, m572, tq'.trans tq2, n37, n36, n36t, X2, by omega, by omega⟩
    · unfold sBothL
      rw [sOwn_neg y]
      exact Or.inr ⟨(T, p), A, rfl, h, hr, h57, TQ.rf, h37, h36, h36t, y, Nat.le_refl p, Int.le_refl _⟩
theorem Sim_both {f : Nat → Int} {N b n : Nat} {u : St} {o : Int} {S S2 : PT} (hn : (n : Int) + o = 8) (hS : SimS f N b u o S) (hS2 : 0 < n → SimT f N b u (o + 1) S2) {A T : St} {p D : Nat} (h : MS f N b p A) (hr : RN u A) (h57 : A 0 57 = 0) (hD : A 0 53 = (D : Int)) (h1 : 1 ≤ D) (h54 : A 0 54 = o) (hk : A 35 (D - 1) = 1 ∨ A 35 (D - 1) = 5) (h37 : ¬ A 37 (D - 1) = 0) (h36 : A 36 (D - 1) = 0) (hT : T 19 2 ≤ (p : Int)) (hp : 1 ≤ p) : OutF f N b u D A T p (p + 1) (fun e => ¬ tow f N e 17) (sBoth f N n S S2 T p) := by
  have N16 : N ≤ 1600 := h.1.2.1
  unfold sBoth
  rcases Sim_fact hn hS hS2 h hr h57 hD h1 h54 hk h37 h36 hT hp with ⟨f1, bd⟩ | ⟨a, A', sa, ms, hr2, m57, tq, m37, m36, m36t, _, q, cd⟩
  · exact Or.inl ⟨f1, bd.bd (fun a ha => bad_bothL ha _)⟩
  · rw [sa]
    show OutF f N b u D A T p (p + 1) (fun e => ¬ tow f N e 17) (sBothL f N n S S2 1600 a.1 a.2)
    rcases Sim_bothL hn hS hS2 h1 1600 A' a.1 a.2 ms hr2 m57 (tq.1.trans hD) (tq.2.1.trans h54) (by rw [tq.2.2.1 (D - 1) (by omega)]; exact hk) m37 m36 m36t (by omega) (by omega) (by omega) with ⟨f1, bd⟩ | ⟨c2, A2, sc, ms2, hr3, m572, tq2, n37, n36, n36t, X2, q2, cd2⟩
    · exact Or.inl ⟨f1, bd⟩
    · exact Or.inr ⟨c2, A2, sc, ms2, hr3, m572, tq.trans tq2, n37, n36, n36t, X2, by omega, by omega⟩
theorem Sim_testL {f : Nat → Int} {N b n : Nat} {u : St} {o : Int} {S S2 : PT} (hn : (n : Int) + o = 8) (hS : SimS f N b u o S) (hS2 : 0 < n → SimT f N b u (o + 1) S2) {D : Nat} (h1 : 1 ≤ D) : ∀ (k : Nat) (A T : St) (p : Nat), MS f N b p A → RN u A → A 0 57 = 1 → A 0 53 = (D : Int) → A 0 54 = o → (A 35 (D - 1) = 1 ∨ A 35 (D - 1) = 5) → A 37 (D - 1) = 0 → ¬ A 36 (D - 1) = 0 → (A 36 (D - 1) < 2 → ¬ tari f N p) → T 19 2 ≤ (p : Int) → 1 ≤ p → N < k + p → ¬ tow f N p 17 → OutF f N b u D A T p p (nao f N) (sTestL f N n S S2 k T p) := by
  intro k
  induction k with
  | zero =>
    intro A T p h _ _ _ _ _ _ _ _ _ _ hN _
    have := h.le
    omega
  | succ k ih =>
    intro A T p h hr h57 hD h54 hk h37 h36 h36t hT hp hN n17
    have tb := tEnd_b (f := f) h.le
    have N16 : N ≤ 1600 := h.1.2.1
    by_cases y : tow f N p 16
    · have lt := tb.2.2.2 (by have := y.1; omega)
      unfold sTestL
      rw [sOwn_pos y]
      show OutF f N b u D A T p p (nao f N) ((sAd2 (sBoth f N n S S2 T (tEnd f N p)) (-7)).bind fun a => sTestL f N n S S2 k a.1 a.2)
      rcases W_step h hr h57 hD h1 hk h36 (Or.inr y) with ⟨f1, t4⟩ | ⟨v, sv, rv, v57, tqv, v37, v36⟩
      · refine Or.inl ⟨f1, ?_⟩
        rw [bad_both hS.1 t4]
        exact Or.inl rfl
      · rcases Sim_both (T := T) hn hS hS2 sv rv v57 (tqv.1.trans hD) h1 (tqv.2.1.trans h54) (by rw [tqv.2.2.1 (D - 1) (by omega)]; exact hk) v37 v36 (by omega) (by omega) with ⟨f1, bd⟩ | ⟨a, A', sa, ms, hr2, m57, tq, m37, m36, m36t, X1, q, cd⟩
        · exact Or.inl ⟨f1, (Bad.ad2 bd).bd (fun a ha => bad_testL ha k)⟩
        · rw [sa]
          obtain ⟨t, st, et⟩ := sAd2_ok (T := a.1) (e := a.2) (x := -7) (by have := ms.le; omega)
          rw [show sAd2 (some a) (-7) = some (t, a.2) from st]
          show OutF f N b u D A T p p (nao f N) (sTestL f N n S S2 k t a.2)
          have tq' := tqv.trans tq
          rcases ih A' t a.2 ms hr2 m57 (tq'.1.trans hD) (tq'.2.1.trans h54) (by rw [tq'.2.2.1 (D - 1) (by omega)]; exact hk) m37 m36 m36t (by omega) (by omega) (by omega) X1 with ⟨f1, bd⟩ | ⟨c2, A2, sc, ms2, hr3, m572, tq2, n37, n36, n36t, X2, q2, cd2⟩
          · exact Or.inl ⟨f1, bd⟩
          · exact Or.inr ⟨c2, A2, sc, ms2, hr3, m572, tq'.trans tq2, n37, n36, n36t, X2, by omega, by omega⟩
    · unfold sTestL
      rw [sOwn_neg y]
      exact Or.inr ⟨(T, p), A, rfl, h, hr, h57, TQ.rf, h37, h36, h36t, ⟨n17, y⟩, Nat.le_refl p, Int.le_refl _⟩
theorem Sim_test {f : Nat → Int} {N b n : Nat} {u : St} {o : Int} {S S2 : PT} (hn : (n : Int) + o = 8) (hS : SimS f N b u o S) (hS2 : 0 < n → SimT f N b u (o + 1) S2) : SimT f N b u o (sTest f N n S S2) := by
  refine ⟨fun T p h => bad_test hS.1 h, ?_⟩
  intro A T p D h hr h57 hD h1 h54 hk h37 h36 hT hp
  have N16 : N ≤ 1600 := h.1.2.1
  unfold sTest
  rcases Sim_both hn hS hS2 h hr h57 hD h1 h54 hk h37 h36 hT hp with ⟨f1, bd⟩ | ⟨a, A', sa, ms, hr2, m57, tq, m37, m36, m36t, X1, q, cd⟩
  · exact Or.inl ⟨f1, bd.bd (fun a ha => bad_testL ha _)⟩
  · rw [sa]
    show OutF f N b u D A T p (p + 1) (nao f N) (sTestL f N n S S2 1600 a.1 a.2)
    rcases Sim_testL hn hS hS2 h1 1600 A' a.1 a.2 ms hr2 m57 (tq.1.trans hD) (tq.2.1.trans h54) (by rw [tq.2.2.1 (D - 1) (by omega)]; exact hk) m37 m36 m36t (by omega) (by omega) (by omega) X1 with ⟨f1, bd⟩ | ⟨c2, A2, sc, ms2, hr3, m572, tq2, n37, n36, n36t, X2, q2, cd2⟩
    · exact Or.inl ⟨f1, bd⟩
    · exact Or.inr ⟨c2, A2, sc, ms2, hr3, m572, tq.trans tq2, n37, n36, n36t, X2, by omega, by omega⟩
theorem Sim_testN {f : Nat → Int} {N b : Nat} {u : St} : ∀ n : Nat, SimT f N b u (8 - (n : Int)) (sTestN f N n)
  | 0 => Sim_test (n := 0) (by omega) (Sim_sumN 0) (fun h => absurd h (by omega))
  | n + 1 => Sim_test (n := n + 1) (by omega) (Sim_sumN (n + 1)) (fun _ => by
    have := Sim_testN (f := f) (N := N) (b := b) (u := u) n
    rw [show 8 - ((n + 1 : Nat) : Int) + 1 = 8 - (n : Int) by omega]
    exact this)
