/-! The reference's sums against the class's. -/
theorem A_step {f : Nat → Int} {N b p D : Nat} {u A : St} (h : MS f N b p A) (hr : RN u A) (h57 : A 0 57 = 1) (hD : A 0 53 = (D : Int)) (h1 : 1 ≤ D) (hph : A 36 (D - 1) < 2) (ha : tari f N p) : (1 ≤ u 0 8 ∧ tKind f N (tEnd f N p) = 4) ∨ (∃ v, MS f N b (tEnd f N p) v ∧ RN u v ∧ v 0 57 = 0 ∧ v 0 53 = A 0 53 ∧ v 0 54 = A 0 54 ∧ v 35 = A 35 ∧ v 36 = A 36 ∧ v 37 = A 37) := by
  obtain ⟨z, v, hg, h3⟩ := RN_go hr (by rw [h57]; decide)
  rcases G_base h hD h1 hg with ⟨_, _, hz, a1, a2, a3, a4, a5, a6, a7⟩ | ⟨g, _⟩
  · have nz : ¬ z = 0 := by rw [hz]; decide
    rcases h3 with ⟨c, _⟩ | ⟨_, c8, e⟩ | ⟨_, c8, hr2⟩
    · exact absurd c nz
    · have g := a1.ff c8
      exact Or.inl ⟨by rw [e]; exact g.2, g.1⟩
    · exact Or.inr ⟨v, a1.nf c8, hr2, a4, a2, a3, a5, a6, a7⟩
  · exact absurd ⟨hph, ha⟩ g
theorem TP.cg {D : Nat} {A v A' : St} (h : TP D v A') (h53 : v 0 53 = A 0 53) (h54 : v 0 54 = A 0 54) (h35 : v 35 = A 35) (h36 : v 36 = A 36) (h37 : v 37 = A 37) : TP D A A' := by
  unfold TP
  rw [← h53, ← h54, ← h35, ← h36, ← h37]
  exact h
theorem TP.rf {D : Nat} {A : St} (h : A 37 (D - 1) = 0) : TP D A A := ⟨rfl, rfl, fun _ _ => ⟨rfl, rfl⟩, fun _ _ => rfl, h⟩
theorem bad_prodL {f : Nat → Int} {N n p : Nat} {S : PT} {T : St} (h : tKind f N p = 4) : ∀ k, Bad f N (sProdL f N n S k T p)
  | 0 => Or.inl rfl
  | k + 1 => by
    unfold sProdL
    rw [bad_sign h, bad_sign h, bad_sign h]
    exact Or.inr ⟨(T, p), rfl, h⟩
theorem bad_sumL {f : Nat → Int} {N n p : Nat} {S : PT} {T : St} (h : tKind f N p = 4) : ∀ k, Bad f N (sSumL f N n S k T p)
  | 0 => Or.inl rfl
  | k + 1 => by
    unfold sSumL
    rw [bad_sign h, bad_sign h]
    exact Or.inr ⟨(T, p), rfl, h⟩
theorem bad_prod {f : Nat → Int} {N n p : Nat} {S : PT} {T : St} (h : tKind f N p = 4) : sProd f N n S T p = none := by
  unfold sProd
  rw [bad_part h]
  rfl
theorem bad_sum {f : Nat → Int} {N n p : Nat} {S : PT} {T : St} (h : tKind f N p = 4) : sSum f N n S T p = none := by
  unfold sSum
  rw [bad_prod h]
  rfl
abbrev nmul (f : Nat → Int) (N e : Nat) : Prop := ¬ tsg f N e 47 ∧ ¬ tsg f N e 37 ∧ ¬ tsg f N e 42
theorem tsg_ne {f : Nat → Int} {N p : Nat} {c d : Int} (h : tsg f N p c) (ne : c ≠ d) : ¬ tsg f N p d := fun g => ne (h.2.symm.trans g.2)
theorem Sim_prodL {f : Nat → Int} {N b n : Nat} {u : St} {o : Int} {S : PT} (hn : (n : Int) + o = 8) (hS : 0 < n → SimS f N b u (o + 1) S) {D : Nat} (h1 : 1 ≤ D) : ∀ (k : Nat) (A T : St) (p : Nat), MS f N b p A → RN u A → A 0 57 = 1 → A 0 53 = (D : Int) → A 0 54 = o → A 36 (D - 1) < 2 → A 37 (D - 1) = 0 → T 19 2 ≤ (p : Int) → 1 ≤ p → N < k + p → Out f N b u D A T p p (nmul f N) (sProdL f N n S k T p) := by
  intro k
  induction k with
  | zero =>
    intro A T p h _ _ _ _ _ _ _ _ hN
    have := h.le
    omega
  | succ k ih =>
    intro A T p h hr h57 hD h54 hph h37 hT hp hN
    have tb := tEnd_b (f := f) h.le
    have N16 : N ≤ 1600 := h.1.2.1
    have turn : ∀ (c x : Int), tsg f N p c → tari f N p → Out f N b u D A T p p (nmul f N) ((sAd2 (sPart f N n S T (tEnd f N p)) x).bind fun a => sProdL f N n S k a.1 a.2) := by
      intro c x y ya
      have lt := tb.2.2.2 (by have := y.1; omega)
      rcases A_step h hr h57 hD h1 hph ya with ⟨f1, t4⟩ | ⟨v, sv, rv, v57, v53, v54, v35, v36, v37⟩
      · refine Or.inl ⟨f1, ?_⟩
        rw [bad_part t4]
        exact Or.inl rfl
      · have sp := Sim_part (T := T) (D := D) hn hS sv rv v57 (v53.trans hD) h1 (v54.trans h54) (fun g => absurd (by rw [v37]; exact h37) g.2) (by omega) (by omega)
        rcases sp with ⟨f1, bd⟩ | ⟨a, A', sa, ms, hr2, m57, tp, _, q, cd⟩
        · exact Or.inl ⟨f1, (Bad.ad2 bd).bd (fun a ha => bad_prodL ha k)⟩
        · rw [sa]
          obtain ⟨t, st, et⟩ := sAd2_ok (T := a.1) (e := a.2) (x := x) (by have := ms.le; omega)
          rw [show sAd2 (some a) x = some (t, a.2) from st]
          show Out f N b u D A T p p (nmul f N) (sProdL f N n S k t a.2)
          have tp' := tp.cg v53 v54 v35 v36 v37
          rcases ih A' t a.2 ms hr2 m57 (tp'.1.trans hD) (tp'.2.1.trans h54) (by rw [(tp'.2.2.1 (D - 1) (by omega)).2]; exact hph) tp'.2.2.2.2 (by omega) (by omega) (by omega) with ⟨f1, bd⟩ | ⟨c2, A2, sc, ms2, hr3, m572, tp2, X2, q2, cd2⟩
          · exact Or.inl ⟨f1, bd⟩
          · exact Or.inr ⟨c2, A2, sc, ms2, hr3, m572, tp'.trans tp2, X2, by omega, by omega⟩
    by_cases y47 : tsg f N p 47
    · have := turn 47 (-15) y47 (Or.inr (Or.inr (Or.inr (Or.inl y47))))
      unfold sProdL
      rw [sSign_pos y47]
      exact this
    · by_cases y37 : tsg f N p 37
      · have := turn 37 (-16) y37 (Or.inr (Or.inr (Or.inr (Or.inr y37))))
        unfold sProdL
        rw [sSign_neg y47, sSign_pos y37]
        exact this
      · by_cases y42 : tsg f N p 42
        · have := turn 42 (-14) y42 (Or.inr (Or.inr (Or.inl y42)))
          unfold sProdL
          rw [sSign_neg y47, sSign_neg y37, sSign_pos y42]
          exact this
        · unfold sProdL
          rw [sSign_neg y47, sSign_neg y37, sSign_neg y42]
          exact Or.inr ⟨(T, p), A, rfl, h, hr, h57, TP.rf h37, ⟨y47, y37, y42⟩, Nat.le_refl p, Int.le_refl _⟩
theorem Sim_prod {f : Nat → Int} {N b n : Nat} {u : St} {o : Int} {S : PT} (hn : (n : Int) + o = 8) (hS : 0 < n → SimS f N b u (o + 1) S) {A T : St} {p D : Nat} (h : MS f N b p A) (hr : RN u A) (h57 : A 0 57 = 0) (hD : A 0 53 = (D : Int)) (h1 : 1 ≤ D) (h54 : A 0 54 = o) (hpl : pln f N p D A) (hph : A 36 (D - 1) < 2) (hT : T 19 2 ≤ (p : Int)) (hp : 1 ≤ p) : Out f N b u D A T p (p + 1) (nmul f N) (sProd f N n S T p) := by
  have N16 : N ≤ 1600 := h.1.2.1
  unfold sProd
  rcases Sim_part hn hS h hr h57 hD h1 h54 hpl hT hp with ⟨f1, bd⟩ | ⟨a, A', sa, ms, hr2, m57, tp, _, q, cd⟩
  · exact Or.inl ⟨f1, bd.bd (fun a ha => bad_prodL ha _)⟩
  · rw [sa]
    show Out f N b u D A T p (p + 1) (nmul f N) (sProdL f N n S 1600 a.1 a.2)
    rcases Sim_prodL hn hS h1 1600 A' a.1 a.2 ms hr2 m57 (tp.1.trans hD) (tp.2.1.trans h54) (by rw [(tp.2.2.1 (D - 1) (by omega)).2]; exact hph) tp.2.2.2.2 (by omega) (by omega) (by omega) with ⟨f1, bd⟩ | ⟨c2, A2, sc, ms2, hr3, m572, tp2, X2, q2, cd2⟩
    · exact Or.inl ⟨f1, bd⟩
    · exact Or.inr ⟨c2, A2, sc, ms2, hr3, m572, tp.trans tp2, X2, by omega, by omega⟩
theorem Sim_sumL {f : Nat → Int} {N b n : Nat} {u : St} {o : Int} {S : PT} (hn : (n : Int) + o = 8) (hS : 0 < n → SimS f N b u (o + 1) S) {D : Nat} (h1 : 1 ≤ D) : ∀ (k : Nat) (A T : St) (p : Nat), MS f N b p A → RN u A → A 0 57 = 1 → A 0 53 = (D : Int) → A 0 54 = o → A 36 (D - 1) < 2 → A 37 (D - 1) = 0 → T 19 2 ≤ (p : Int) → 1 ≤ p → N < k + p → nmul f N p → Out f N b u D A T p p (fun e => ¬ tari f N e) (sSumL f N n S k T p) := by
  intro k
  induction k with
  | zero =>
    intro A T p h _ _ _ _ _ _ _ _ hN _
    have := h.le
    omega
  | succ k ih =>
    intro A T p h hr h57 hD h54 hph h37 hT hp hN hnm
    have tb := tEnd_b (f := f) h.le
    have N16 : N ≤ 1600 := h.1.2.1
    have turn : ∀ (c x : Int), tsg f N p c → tari f N p → Out f N b u D A T p p (fun e => ¬ tari f N e) ((sAd2 (sProd f N n S T (tEnd f N p)) x).bind fun a => sSumL f N n S k a.1 a.2) := by
      intro c x y ya
      have lt := tb.2.2.2 (by have := y.1; omega)
      rcases A_step h hr h57 hD h1 hph ya with ⟨f1, t4⟩ | ⟨v, sv, rv, v57, v53, v54, v35, v36, v37⟩
      · refine Or.inl ⟨f1, ?_⟩
        rw [bad_prod t4]
        exact Or.inl rfl
      · have sp := Sim_prod (T := T) (D := D) hn hS sv rv v57 (v53.trans hD) h1 (v54.trans h54) (fun g => absurd (by rw [v37]; exact h37) g.2) (by rw [v36]; exact hph) (by omega) (by omega)
        rcases sp with ⟨f1, bd⟩ | ⟨a, A', sa, ms, hr2, m57, tp, X1, q, cd⟩
        · exact Or.inl ⟨f1, (Bad.ad2 bd).bd (fun a ha => bad_sumL ha k)⟩
        · rw [sa]
          obtain ⟨t, st, et⟩ := sAd2_ok (T := a.1) (e := a.2) (x := x) (by have := ms.le; omega)
          rw [show sAd2 (some a) x = some (t, a.2) from st]
          show Out f N b u D A T p p (fun e => ¬ tari f N e) (sSumL f N n S k t a.2)
          have tp' := tp.cg v53 v54 v35 v36 v37
          rcases ih A' t a.2 ms hr2 m57 (tp'.1.trans hD) (tp'.2.1.trans h54) (by rw [(tp'.2.2.1 (D - 1) (by omega)).2]; exact hph) tp'.2.2.2.2 (by omega) (by omega) (by omega) X1 with ⟨f1, bd⟩ | ⟨c2, A2, sc, ms2, hr3, m572, tp2, X2, q2, cd2⟩
          · exact Or.inl ⟨f1, bd⟩
          · exact Or.inr ⟨c2, A2, sc, ms2, hr3, m572, tp'.trans tp2, X2, by omega, by omega⟩
    by_cases y45 : tsg f N p 45
    · have := turn 45 (-13) y45 (Or.inr (Or.inl y45))
      unfold sSumL
      rw [sSign_pos y45]
      exact this
    · by_cases y43 : tsg f N p 43
      · have := turn 43 (-12) y43 (Or.inl y43)
        unfold sSumL
        rw [sSign_neg y45, sSign_pos y43]
        exact this
      · unfold sSumL
        rw [sSign_neg y45, sSign_neg y43]
        refine Or.inr ⟨(T, p), A, rfl, h, hr, h57, TP.rf h37, ?_, Nat.le_refl p, Int.le_refl _⟩
        rintro (g | g | g | g | g)
        · exact y43 g
        · exact y45 g
        · exact hnm.2.2 g
        · exact hnm.1 g
        · exact hnm.2.1 g
theorem Sim_sum {f : Nat → Int} {N b n : Nat} {u : St} {o : Int} {S : PT} (hn : (n : Int) + o = 8) (hS : 0 < n → SimS f N b u (o + 1) S) : SimS f N b u o (sSum f N n S) := by
  refine ⟨fun T p h => bad_sum h, ?_⟩
  intro A T p D h hr h57 hD h1 h54 hpl hph hT hp
  have N16 : N ≤ 1600 := h.1.2.1
  unfold sSum
  rcases Sim_prod hn hS h hr h57 hD h1 h54 hpl hph hT hp with ⟨f1, bd⟩ | ⟨a, A', sa, ms, hr2, m57, tp, X1, q, cd⟩
  · exact Or.inl ⟨f1, bd.bd (fun a ha => bad_sumL ha _)⟩
  · rw [sa]
    show Out f N b u D A T p (p + 1) (fun e => ¬ tari f N e) (sSumL f N n S 1600 a.1 a.2)
    rcases Sim_sumL hn hS h1 1600 A' a.1 a.2 ms hr2 m57 (tp.1.trans hD) (tp.2.1.trans h54) (by rw [(tp.2.2.1 (D - 1) (by omega)).2]; exact hph) tp.2.2.2.2 (by omega) (by omega) (by omega) X1 with ⟨f1, bd⟩ | ⟨c2, A2, sc, ms2, hr3, m572, tp2, X2, q2, cd2⟩
    · exact Or.inl ⟨f1, bd⟩
    · exact Or.inr ⟨c2, A2, sc, ms2, hr3, m572, tp.trans tp2, X2, by omega, by omega⟩
theorem Sim_sumN {f : Nat → Int} {N b : Nat} {u : St} : ∀ n : Nat, SimS f N b u (8 - (n : Int)) (sSumN f N n)
  | 0 => Sim_sum (n := 0) (by omega) (fun h => absurd h (by omega))
  | n + 1 => Sim_sum (n := n + 1) (by omega) (fun _ => by
    have := Sim_sumN (f := f) (N := N) (b := b) (u := u) n
    rw [show 8 - ((n + 1 : Nat) : Int) + 1 = 8 - (n : Int) by omega]
    exact this)
