/-! The reference's sums against the class's. -/
theorem A_step {f : Nat → Int} {N b p D : Nat} {u A : St} (h : MS f N b p A) (hr : RN u A) (h57 : A 0 57 = 1) (hD : A 0 53 = (D : Int)) (h1 : 1 ≤ D) (hph : A 36 (D - 1) < 2) (ha : tari f N p) : (1 ≤ u 0 8 ∧ tKind f N (tEnd f N p) = 4) ∨ (∃ v, MS f N b (tEnd f N p) v ∧ RN u v ∧ v 0 57 = 0 ∧ v 0 53 = A 0 53 ∧ v 0 54 = A 0 54 ∧ v 35 = A 35 ∧ v 36 = A 36 ∧ v 37 = A 37) := by
  obtain ⟨z, v, hg, h3⟩ := RN_go hr (by rw [h57]; decide)
  rcases G_base h hD h1 hg with ⟨_, _, hz, a1, a2, a3, a4, a5, a6, a7⟩ | ⟨g, _⟩
  · have nz : ¬ z = 0 := by rw [hz]; decide
    rcases h3 with ⟨c, _⟩ | ⟨_, c8, e⟩ | ⟨_, c8, hr2⟩
    · exact absurd c nz
    · have g := a1.ff c8
      exact Or.inl ⟨by rw [e]; exact g.2, g.1⟩
    · exact Or.inr ⟨v, a1.nf c8, hr2, a4, a2, a3, a5, a6, a7⟩
  · exact absurd ⟨hph, ha⟩ g
theorem TP.cg {D : Nat} {A v A' : St} (h : TP D v A') (h53 : v 0 53 = A 0 53) (h54 : v 0 54 = A 0 54) (h35 : v 35 = A 35) (h36 : v 36 = A 36) (h37 : v 37 = A 37) : TP D A A' := by
  unfold TP
  rw [← h53, ← h54, ← h35, ← h36, ← h37]
  exact h
theorem TP.rf {D : Nat} {A : St} (h : A 37 (D - 1) = 0) : TP D A A := ⟨rfl, rfl, fun _ _ => ⟨rfl, rfl⟩, fun _ _ => rfl, h⟩
theorem bad_prodL {f : Nat → Int} {N n p : Nat} {S : PT} {T : St} (h : tKind f N p = 4) : ∀ k, Bad f N (sProdL f N n S k T p)
  | 0 => Or.inl rfl
  | k + 1 => by
    unfold sProdL
    rw [bad_sign h, bad_sign h, bad_sign h]
    exact Or.inr ⟨(T, p), rfl, h⟩
theorem bad_sumL {f : Nat → Int} {N n p : Nat} {S : PT} {T : St} (h : tKind f N p = 4) : ∀ k, Bad f N (sSumL f N n S k T p)
  | 0 => Or.inl rfl
  | k + 1 => by
    unfold sSumL
    rw [bad_sign h, bad_sign h]
    exact Or.inr ⟨(T, p), rfl, h⟩
theorem bad_prod {f : Nat → Int} {N n p : Nat} {S : PT} {T : St} (h : tKind f N p = 4) : sProd f N n S T p = none := by
  unfold sProd
  rw [bad_part h]
  rfl
theorem bad_sum {f : Nat → Int} {N n p : Nat} {S : PT} {T : St} (h : tKind f N p = 4) : sSum f N n S T p = none := by
  unfold sSum
  rw [bad_prod h]
  rfl
abbrev nmul (f : Nat → Int) (N e : Nat) : Prop := ¬ tsg f N e 47 ∧ ¬ tsg f N e 37 ∧ ¬ tsg f N e 42
theorem tsg_ne {f : Nat → Int} {N p : Nat} {c d : Int} (h : tsg f N p c) (ne : c ≠ d) : ¬ tsg f N p d := fun g => ne (h.2.symm.trans g.2)
theorem Sim_prodL {f : Nat → Int} {N b n : Nat} {u : St} {o : Int} {S : PT} (hn : (n : Int) + o = 8) (hS : 0 < n → SimS f N b u (o + 1) S) {D : Nat} (h1 : 1 ≤ D) : ∀ (k : Nat) (A T : St) (p : Nat), MS f N b p A → RN u A → A 0 57 = 1 → A 0 53 = (D : Int) → A 0 54 = o → A 36 (D - 1) < 2 → A 37 (D - 1) = 0 → T 19 2 ≤ (p : Int) → 1 ≤ p → N < k + p → Out f N b u D A T p p (nmul f N) (sProdL f N n S k T p) := by
  intro k
  induction k with
  | zero =>
    intro A T p h _ _ _ _ _ _ _ _ hN
    have := h.le
    omega
  | succ k ih =>
    intro A T p h hr h57 hD h54 hph h37 hT hp hN
    have tb := tEnd_b (f := f) h.le
    have N16 : N ≤ 1600 := h.1.2.1
    have turn : ∀ (c x : Int), tsg f N p c → tari f N p → Out f N b u D A T p p (nmul f N) ((sAd2 (sPart f N n S T (tEnd f N p)) x).bind fun a => sProdL f N n S k a.1 a.2) := by
      intro c x y ya
      have lt := tb.2.2.2 (by have := y.1; omega)
      rcases A_step h hr h57 hD h1 hph ya with ⟨f1, t4⟩ | ⟨v, sv, rv, v57, v53, v54, v35, v36, v37⟩
      · refine Or.inl ⟨f1, ?_⟩
        rw [bad_part t4]
        exact Or.inl rfl
      · have sp := Sim_part (T := T) (D := D) hn hS sv rv v57 (v53.trans hD) h1 (v54.trans h54) (fun g => absurd (by rw [v37]; exact h37) g.2) (by omega) (by omega)
        rcases sp with ⟨f1, bd⟩ | ⟨a, A', sa, ms, hr2, m57, tp, _, q, cd⟩
        · exact Or.inl ⟨f1, (Bad.ad2 bd).bd (fun a ha => bad_prodL ha k)⟩
        · rw [sa]
          obtain ⟨t, st, et⟩ := sAd2_ok (T := a.1) (e := a.2) (x := x) (by have := ms.le; omega)
          rw [show sAd2 (some a) x = some (t, a.2) from st]
          show Out f N b u D A T p p (nmul f N) (sProdL f N n S k t a.2)
          have tp' := tp.cg v53 v54 v35 v36 v37
          rcases ih A' t a.2 ms hr2 m57 (tp'.1.trans hD) (tp'.2.1.trans h54) (by rw [(tp'.2.2.1 (D - 1) (by omega)).2]; exact hph) tp'.2.2.2.2 (by omega) (by omega) (by omega) with ⟨f1, bd⟩ | ⟨c2, A2, sc, ms2, hr3, m572, tp2, X2, q2, cd2⟩
          · exact Or.inl ⟨f1, bd⟩
          · exact Or.inr ⟨c2, A2, sc, ms2, hr3, m572, tp'.trans tp2, X2, by omega, by omega⟩
    by_cases y47 : tsg f N p 47
    · have := turn 47 (-15) y47 (Or.inr (Or.inr (Or.inr (Or.inl y47))))
      unfold sProdL
      rw [sSign_pos y47]
      exact this
    · by_cases y37 : tsg f N p 37
      · have := turn 37 (-16) y37 (Or.inr (Or.inr (Or.inr (Or.inr y37))))
        unfold sProdL
        rw [sSign_neg y47, sSign_pos y37]
        exact this
      · by_cases y42 : tsg f N p 42
        · have := turn 42 (-14) y42 (Or.inr (Or.inr (Or.inl y42)))
          unfold sProdL
          rw [sSign_neg y47, sSign_neg y37, sSign_pos y42]
          exact this
        · unfold sProdL
          rw [sSign_neg y47, sSign_neg y37, sSign_neg y42]
          exact Or.inr ⟨(T, p), A, rfl, h, hr, h57, TP.rf h37, ⟨y47, y37, y42⟩, Nat.le_refl p, Int.le_refl _⟩
theorem Sim_prod {f : Nat → Int} {N b n : Nat} {u : St} {o : Int} {S : PT} (hn : (n : Int) + o = 8) (hS : 0 < n → SimS f N b u (o + 1) S) {A T : St} {p D : Nat} (h : MS f N b p A) (hr : RN u A) (h57 : A 0 57 = 0) (hD : A 0 53 = (D : Int)) (h1 : 1 ≤ D) (h54 : A 0 54 = o) (hpl : pln f N p D A) (hph : A 36 (D - 1) < 2) (hT : T 19 2 ≤ (p : Int)) (hp : 1 ≤ p) : Out f N b u D A T p (p + 1) (nmul f N) (sProd f N n S T p) := by
  have N16 : N ≤ 1600 := h.1.2.1
  unfold sProd
  rcases Sim_part hn hS h hr h57 hD h1 h54 hpl hT hp with ⟨f1, bd⟩ | ⟨a, A', sa, ms, hr2, m57, tp, _, q, cd⟩
  · exact Or.inl ⟨f1, bd.bd (fun a ha => bad_prodL ha _)⟩
  · rw [sa]
    show Out f N b u D A T p (p + 1) (nmul f N) (sProdL f N n S 1600 a.1 a.2)
    rcases Sim_prodL hn hS h1 1600 A' a.1 a.2 ms hr2 m57 (tp.1.trans hD) (tp.2.1.trans h54) (by rw [(tp.2.2.1 (D - 1) (by omega)).2]; exact hph) tp.2.2.2.2 (by omega) (by omega) (by omega) with ⟨f1, bd⟩ | ⟨c2, A2, sc, ms2, hr3, m572, tp2, X2, q2, cd2⟩
    · exact Or.inl ⟨f1, bd⟩
    · exact Or.inr ⟨c2, A2, sc, ms2, hr3, m572, tp.trans tp2, X2, by omega, by omega⟩
theorem Sim_sumL {f : Nat → Int} {N b n : Nat} {u : St} {o : Int} {S : PT} (hn : (n : Int) + o = 8) (hS : 0 < n → SimS f N b u (o + 1) S) {D : Nat} (h1 : 1 ≤ D) : ∀ (k : Nat) (A T : St) (p : Nat), MS f N b p A → RN u A → A 0 57 = 1 → A 0 53 = (D : Int) → A 0 54 = o → A 36 (D - 1) < 2 → A 37 (D - 1) = 0 → T 19 2 ≤ (p : Int) → 1 ≤ p → N < k + p → nmul f N p → Out f N b u D A T p p (fun e => ¬ tari f N e) (sSumL f N n S k T p) := by
  intro k
  induction k with
  | zero =>
    intro A T p h _ _ _ _ _ _ _ _ hN _
    have := h.le
    omega
  | succ k ih =>
    intro A T p h hr h57 hD h54 hph h37 hT hp hN hnm
    have tb := tEnd_b (f := f) h.le
    have N16 : N ≤ 1600 := h.1.2.1
    have turn : ∀ (c x : Int), tsg f N p c → tari f N p → Out f N b u D A T p p (fun e => ¬ tari f N e) ((sAd2 (sProd f N n S T (tEnd f N p)) x).bind fun a => sSumL f N n S k a.1 a.2) := by
      intro c x y ya
      have lt := tb.2.2.2 (by have := y.1; omega)
      rcases A_step h hr h57 hD h1 hph ya with ⟨f1, t4⟩ | ⟨v, sv, rv, v57, v53, v54, v35, v36, v37⟩
      · refine Or.inl ⟨f1, ?_⟩
        rw [bad_prod t4]
        exact Or.inl rfl
      · have sp := Sim_prod (T := T) (D := D) hn hS sv rv v57 (v53.trans hD) h1 (v54.trans h54) (fun g => absurd (by rw [v37]; exact h37) g.2) (by rw [v36]; exact hph) (by omega) (by omega)
        rcases sp with ⟨f1, bd⟩ | ⟨a, A', sa, ms, hr2, m57, tp, X1, q, cd⟩
        · exact Or.inl ⟨f1, (Bad.ad2 bd).bd (fun a ha => bad_sumL ha k)⟩
        · rw [sa]
          obtain ⟨t, st, et⟩ := sAd2_ok (T := a.1) (e := a.2) (x := x) (by have := ms.le; omega)
          rw [show sAd2 (some a) x = some (t, a.2) from st]
          show Out f N b u D A T p p (fun e => ¬ tari f N e) (sSumL f N n S k t a.2)
          have tp' := tp.cg v53 v54 v35 v36 v37
          rcases ih A' t a.2 ms hr2 m57 (tp'.1.trans hD) (tp'.2.1.trans h54) (by rw [(tp'.2.2.1 (D - 1) (by omega)).2]; exact hph) tp'.2.2.2.2 (by omega) (by omega) (by omega) X1 with ⟨f1, bd⟩ | ⟨c2, A2, sc, ms2, hr3, m572, tp2, X2, q2, cd2⟩
          · exact Or.inl ⟨f1, bd⟩
          · exact Or.inr ⟨c2, A2, sc, ms2, hr3, m572, tp'.trans tp2, X2, by omega, by omega⟩
    by_cases y45 : tsg f N p 45
    · have := turn 45 (-13) y45 (Or.inr (Or.inl y45))
      unfold sSumL
      rw [sSign_pos y45]
      exact this
    · by_cases y43 : tsg f N p 43
      · have := turn 43 (-12) y43 (Or.inl y43)
        unfold sSumL
        rw [sSign_neg y45, sSign_pos y43]
        exact this
      · unfold sSumL
        rw [sSign_neg y45, sSign_neg y43]
        refine Or.inr ⟨(T, p), A, rfl, h, hr, h57, TP.rf h37, ?_, Nat.le_refl p, Int.le_refl _⟩
        rintro (g | g | g | g | g)
        · exact y43 g
        · exact y45 g
        · exact hnm.2.2 g
        · exact hnm.1 g
        · exact hnm.2.1 g
theorem Sim_sum {f : Nat → Int} {N b n : Nat} {u : St} {o : Int} {S : PT} (hn : (n : Int) + o = 8) (hS : 0 < n → SimS f N b u (o + 1) S) : SimS f N b u o (sSum f N n S) := by
  refine ⟨fun T p h => bad_sum h, ?_⟩
  intro A T p D h hr h57 hD h1 h54 hpl hph hT hp
  have N16 : N ≤ 1600 := h.1.2.1
  unfold sSum
  rcases Sim_prod hn hS h hr h57 hD h1 h54 hpl hph hT hp with ⟨f1, bd⟩ | ⟨a, A', sa, ms, hr2, m57, tp, X1, q, cd⟩
  · exact Or.inl ⟨f1, bd.bd (fun a ha => bad_sumL ha _)⟩
  · rw [sa]
    show Out f N b u D A T p (p + 1) (fun e => ¬ tari f N e) (sSumL f N n S 1600 a.1 a.2)
    rcases Sim_sumL hn hS h1 1600 A' a.1 a.2 ms hr2 m57 (tp.1.trans hD) (tp.2.1.trans h54) (by rw [(tp.2.2.1 (D - 1) (by omega)).2]; exact hph) tp.2.2.2.2 (by omega) (by omega) (by omega) X1 with ⟨f1, bd⟩ | ⟨c2, A2, sc, ms2, hr3, m572, tp2, X2, q2, cd2⟩
    · exact Or.inl ⟨f1, bd⟩
    · exact Or.inr ⟨c2, A2, sc, ms2, hr3, m572, tp.trans tp2, X2, by omega, by omega⟩
theorem Sim_sumN {f : Nat → Int} {N b : Nat} {u : St} : ∀ n : Nat, SimS f N b u (8 - (n : Int)) (sSumN f N n)
  | 0 => Sim_sum (n := 0) (by omega) (fun h => absurd h (by omega))
  | n + 1 => Sim_sum (n := n + 1) (by omega) (fun _ => by
    have := Sim_sumN (f := f) (N := N) (b := b) (u := u) n
    rw [show 8 - ((n + 1 : Nat) : Int) + 1 = 8 - (n : Int) by omega]
    exact this)
/-! The reference's facts against the class's. -/
def TQ (D : Nat) (A A' : St) : Prop := A' 0 53 = A 0 53 ∧ A' 0 54 = A 0 54 ∧ (∀ i, i < D → A' 35 i = A 35 i) ∧ ∀ i, i + 1 < D → A' 36 i = A 36 i ∧ A' 37 i = A 37 i
theorem TQ.rf {D : Nat} {A : St} : TQ D A A := ⟨rfl, rfl, fun _ _ => rfl, fun _ _ => ⟨rfl, rfl⟩⟩
theorem TQ.trans {D : Nat} {A B C : St} (h : TQ D A B) (g : TQ D B C) : TQ D A C := ⟨g.1.trans h.1, g.2.1.trans h.2.1, fun i hi => (g.2.2.1 i hi).trans (h.2.2.1 i hi), fun i hi => ⟨(g.2.2.2 i hi).1.trans (h.2.2.2 i hi).1, (g.2.2.2 i hi).2.trans (h.2.2.2 i hi).2⟩⟩
def OutF (f : Nat → Int) (N b : Nat) (u : St) (D : Nat) (A T : St) (p q : Nat) (X : Nat → Prop) (r : Option (St × Nat)) : Prop := (1 ≤ u 0 8 ∧ Bad f N r) ∨ (∃ a A', r = some a ∧ MS f N b a.2 A' ∧ RN u A' ∧ A' 0 57 = 1 ∧ TQ D A A' ∧ A' 37 (D - 1) = 0 ∧ ¬ A' 36 (D - 1) = 0 ∧ (A' 36 (D - 1) < 2 → ¬ tari f N a.2) ∧ X a.2 ∧ q ≤ a.2 ∧ a.1 19 2 + (p : Int) ≤ T 19 2 + (a.2 : Int))
abbrev nao (f : Nat → Int) (N e : Nat) : Prop := ¬ tow f N e 17 ∧ ¬ tow f N e 16
def SimT (f : Nat → Int) (N b : Nat) (u : St) (o : Int) (S : PT) : Prop := (∀ T p, tKind f N p = 4 → S T p = none) ∧ ∀ (A T : St) (p D : Nat), MS f N b p A → RN u A → A 0 57 = 0 → A 0 53 = (D : Int) → 1 ≤ D → A 0 54 = o → (A 35 (D - 1) = 1 ∨ A 35 (D - 1) = 5) → ¬ A 37 (D - 1) = 0 → A 36 (D - 1) = 0 → T 19 2 ≤ (p : Int) → 1 ≤ p → OutF f N b u D A T p (p + 1) (nao f N) (S T p)
theorem sCmp_pos {f : Nat → Int} {N p : Nat} (h : tcmp f N p) : ∃ c, sCmp f N p = some (c, tEnd f N p) := by
  unfold sCmp
  rcases h with h | h | h
  · exact ⟨-9, by rw [sSign_pos h]⟩
  · refine ⟨-10, ?_⟩
    rw [sSign_neg (tsg_ne h (by decide)), sSign_pos h]
  · refine ⟨-11, ?_⟩
    rw [sSign_neg (tsg_ne h (by decide)), sSign_neg (tsg_ne h (by decide)), sSign_pos h]
theorem sCmp_neg {f : Nat → Int} {N p : Nat} (h : ¬ tcmp f N p) : sCmp f N p = none := by
  unfold sCmp
  rw [sSign_neg (fun g => h (Or.inl g)), sSign_neg (fun g => h (Or.inr (Or.inl g))), sSign_neg (fun g => h (Or.inr (Or.inr g)))]
theorem bad_cmp {f : Nat → Int} {N p : Nat} (h : tKind f N p = 4) : sCmp f N p = none := sCmp_neg (fun g => by rcases g with g | g | g <;> · have := g.1; omega)
theorem bad_factB {f : Nat → Int} {N n p : Nat} {S S2 : PT} {T : St} (hS : ∀ T p, tKind f N p = 4 → S T p = none) (h : tKind f N p = 4) : sFactB f N n S S2 T p = none := by
  unfold sFactB
  rw [bad_own h, bad_sign h]
  show ((S T p).bind _) = none
  rw [hS T p h]
  rfl
theorem Sim_factB {f : Nat → Int} {N b n : Nat} {u : St} {o : Int} {S S2 : PT} (hn : (n : Int) + o = 8) (hS : SimS f N b u o S) (hS2 : 0 < n → SimT f N b u (o + 1) S2) {A T : St} {p D : Nat} (h : MS f N b p A) (hr : RN u A) (h57 : A 0 57 = 0) (hD : A 0 53 = (D : Int)) (h1 : 1 ≤ D) (h54 : A 0 54 = o) (hk : A 35 (D - 1) = 1 ∨ A 35 (D - 1) = 5) (h37 : ¬ A 37 (D - 1) = 0) (h36 : A 36 (D - 1) = 0) (n18 : ¬ tow f N p 18) (hT : T 19 2 ≤ (p : Int)) (hp : 1 ≤ p) : OutF f N b u D A T p (p + 1) (fun _ => True) (sFactB f N n S S2 T p) := by
  have tb := tEnd_b (f := f) h.le
  have N16 : N ≤ 1600 := h.1.2.1
  have s49 : MS f N b p (stA A 37 (D - 1) 0) := h.fr rfl (fun _ _ => rfl)
  have fs : fst1 D A := ⟨hk, h37⟩
  by_cases y19 : tow f N p 19
  · obtain ⟨z, B, hq, h2⟩ := RN_op hr h57
    have lt := tb.2.2.2 (by have := y19.1; omega)
    unfold sFactB
    rw [sOwn_pos y19]
    obtain ⟨t, st, et⟩ := sAd2_ok (T := T) (e := tEnd f N p) (x := -5) (by omega)
    show OutF f N b u D A T p (p + 1) (fun _ => True) (sAd2 (some (T, tEnd f N p)) (-5))
    rw [st]
    rcases O_base h hD h1 hq with ⟨_, g, _⟩ | ⟨_, g, _⟩ | ⟨_, _, hz, a1, a2, a3, a4, a5, a6, a7⟩ | ⟨g, _⟩
    · exact absurd g n18
    · exact absurd g (tow_sg y19)
    · rcases h2 with ⟨c, e⟩ | ⟨c, hr2⟩
      · have g := a1.ff c
        exact Or.inl ⟨by rw [e]; exact g.2, Or.inr ⟨_, rfl, g.1⟩⟩
      · have r36 : stA B 0 57 z 36 = up (A 36) (D - 1) 2 := a6
        have r37 : stA B 0 57 z 37 = up (A 37) (D - 1) 0 := a7
        have r35 : stA B 0 57 z 35 = A 35 := a5
        refine Or.inr ⟨(t, tEnd f N p), stA B 0 57 z, rfl, (a1.nf c).fr rfl (fun k hk => st0_k (by decide) (by decide) hk), hr2, hz, ⟨a2, a3, fun i hi => by rw [r35], fun i hi => ?_⟩, by rw [r37, up_same], by rw [r36, up_same]; decide, fun g => ?_, trivial, by show p + 1 ≤ tEnd f N p; omega, by show t 19 2 + (p : Int) ≤ T 19 2 + (tEnd f N p : Int); omega⟩
        · rw [r36, r37, up_ne _ _ (by omega), up_ne _ _ (by omega)]
          exact ⟨rfl, rfl⟩
        · rw [r36, up_same] at g
          exact absurd g (by decide)
    · exact absurd y19 (g fs).2.2
  · by_cases y91 : tsg f N p 91
    · obtain ⟨z, B, hq, h2⟩ := RN_op hr h57
      have lt := tb.2.2.2 (by have := y91.1; omega)
      unfold sFactB
      rw [sOwn_neg y19, sSign_pos y91]
      show OutF f N b u D A T p (p + 1) (fun _ => True) (if n = 0 then none else (S2 T (tEnd f N p)).bind fun a => (sSign f N 93 a.2).bind fun p2 => some (a.1, p2))
      rcases O_base h hD h1 hq with ⟨_, g, _⟩ | ⟨_, _, hz, ho⟩ | ⟨_, g, _⟩ | ⟨g, _⟩
      · exact absurd y91 (tow_sg g)
      · have e57 : stA A 37 (D - 1) 0 0 57 = 0 := h57
        have e54 : stA A 37 (D - 1) 0 0 54 = o := h54
        rcases O_opens s49 hD ho with ⟨o8, f1⟩ | ⟨o8, op⟩
        · have o8 : o = 8 := by rw [← e54]; exact o8
          rw [if_pos (by omega)]
          refine Or.inl ⟨?_, Or.inl rfl⟩
          rcases h2 with ⟨_, e⟩ | ⟨c, _⟩
          · rw [e]; exact f1
          · omega
        · rw [e54] at o8
          rw [e54, e57] at op
          rw [if_neg (by omega)]
          have hS2 := hS2 (by omega)
          rcases h2 with ⟨c, e⟩ | ⟨c, hr2⟩
          · have g := op.1.ff c
            refine Or.inl ⟨by rw [e]; exact g.2, Or.inl ?_⟩
            rw [hS2.1 T _ g.1]
            rfl
          · have hop : OP f N b (tEnd f N p) D o 0 5 (stA A 37 (D - 1) 0) (stA B 0 57 z) := by
              obtain ⟨a1, a2, a3, a4, a5, a6, a7⟩ := op
              exact ⟨a1.fr rfl (fun k hk => st0_k (by decide) (by decide) hk), a2, a3, hz, a5, a6, a7⟩
            obtain ⟨B1, eB1⟩ : ∃ B1, B1 = stA B 0 57 z := ⟨_, rfl⟩
            have c1 : B1 0 8 = 0 := by rw [eB1]; exact c
            rw [← eB1] at hop hr2
            obtain ⟨a1, a2, a3, a4, a5, a6, a7⟩ := hop
            have ed : D + 1 - 1 = D := by omega
            have sd := hS2.2 B1 T (tEnd f N p) (D + 1) (a1.nf c1) hr2 a4 (by rw [a2]; rfl) (by omega) a3 (Or.inr (by rw [a5, ed, up_same])) (by rw [a7, ed, up_same]; decide) (by rw [a6, ed, up_same]) (by omega) (by omega)
            rcases sd with ⟨f1, bd⟩ | ⟨a, A2, sa, ms, hr3, m57, tq, m37, m36, m36t, na, q, cd⟩
            · exact Or.inl ⟨f1, bd.bd (fun c hc => by rw [bad_sign hc]; exact Or.inl rfl)⟩
            · rw [sa]
              show OutF f N b u D A T p (p + 1) (fun _ => True) ((sSign f N 93 a.2).bind fun p2 => some (a.1, p2))
              rw [ed] at m37 m36 m36t
              have tb2 := tEnd_b (f := f) ms.le
              have d2 : A2 0 53 = ((D + 1 : Nat) : Int) := by rw [tq.1, a2]; rfl
              have k5 : A2 35 D = 5 := by rw [tq.2.2.1 D (by omega), a5, up_same]
              obtain ⟨z3, C, hg, h3⟩ := RN_go hr3 (by rw [m57]; decide)
              have g8 : d_X12_goesOn_8 A2 z3 C 5 A2 := by
                rcases G_base (D := D + 1) ms d2 (by omega) hg with ⟨g1, g2, _⟩ | ⟨_, z2, hz2, g2⟩
                · rw [ed] at g1
                  exact absurd g2 (m36t g1)
                · rw [ed, k5] at hz2 g2
                  have e2 : z2 = 1 := by
                    rcases hz2 with ⟨g, _⟩ | ⟨_, g⟩
                    · exact g
                    · exact absurd (Or.inr rfl) g
                  rcases G_cmp (D := D + 1) ms d2 (by omega) (Or.inl e2) g2 with ⟨_, g, _⟩ | ⟨_, g2⟩
                  · rw [ed] at g; exact absurd g m36
                  · rcases G_andor (D := D + 1) ms d2 (by omega) (Or.inl e2) g2 with ⟨_, g, _⟩ | ⟨_, g2⟩
                    · rcases g with g | g
                      · exact absurd g na.1
                      · exact absurd g na.2
                    · rcases G_end (D := D + 1) ms d2 (by omega) (Or.inl e2) g2 with ⟨_, g, _⟩ | ⟨_, g2⟩
                      · rw [ed] at g; exact absurd g m36
                      · exact g2
              rcases G_kc (x := 93) (D := D + 1) (Or.inr (Or.inr ⟨rfl, rfl⟩)) ms d2 (by omega) g8 with ⟨n93, hz3, f1⟩ | ⟨y93, hz3, mo, c53, c54, c57, c35, c36, c37⟩
              · refine Or.inl ⟨?_, Or.inl (by rw [sSign_neg n93]; rfl)⟩
                rcases h3 with ⟨_, e⟩ | ⟨c, _⟩ | ⟨c, _⟩
                · rw [e]; exact f1
                · exact absurd hz3 c
                · exact absurd hz3 c
              · rw [sSign_pos y93]
                have nz : ¬ z3 = 0 := by rw [hz3]; decide
                rcases h3 with ⟨c, _⟩ | ⟨_, c8, e⟩ | ⟨_, c8, hr4⟩
                · exact absurd c nz
                · have g := mo.ff c8
                  exact Or.inl ⟨by rw [e]; exact g.2, Or.inr ⟨_, rfl, g.1⟩⟩
                · rw [if_pos rfl, show D + 1 - 2 = D - 1 by omega] at c36
                  refine Or.inr ⟨(a.1, tEnd f N a.2), C, rfl, mo.nf c8, hr4, c57.trans m57, ⟨?_, ?_, fun i hi => ?_, fun i hi => ?_⟩, ?_, by rw [c36, up_same]; decide, fun g => ?_, trivial, by show p + 1 ≤ tEnd f N a.2; omega, by show a.1 19 2 + (p : Int) ≤ T 19 2 + (tEnd f N a.2 : Int); omega⟩
                  · rw [c53, hD]
                    show ((D + 1 : Nat) : Int) - 1 = (D : Int)
                    omega
                  · rw [c54, tq.2.1, a3, h54]; omega
                  · rw [c35, tq.2.2.1 i (by omega), a5, up_lt hi]
                    rfl
                  · have t := tq.2.2.2 i (by omega)
                    rw [c36, c37, up_ne _ _ (by omega), t.1, t.2, a6, a7, up_lt (by omega), up_lt (by omega)]
                    refine ⟨rfl, ?_⟩
                    show up (A 37) (D - 1) 0 i = A 37 i
                    rw [up_ne _ _ (by omega)]
                  · have t := tq.2.2.2 (D - 1) (by omega)
                    rw [c37, t.2, a7, up_lt (by omega)]
                    show up (A 37) (D - 1) 0 (D - 1) = 0
                    rw [up_same]
                  · rw [c36, up_same] at g
                    exact absurd g (by decide)
      · exact absurd y91 (tow_sg g)
      · exact absurd y91 (g fs).2.1
    · unfold sFactB
      rw [sOwn_neg y19, sSign_neg y91]
      show OutF f N b u D A T p (p + 1) (fun _ => True) ((S T p).bind fun a => (sCmp f N a.2).bind fun c => sAd2 (S a.1 c.2) c.1)
      rcases hS.2 A T p D h hr h57 hD h1 h54 (fun _ => ⟨n18, y91, y19⟩) (by rw [h36]; decide) hT hp with ⟨f1, bd⟩ | ⟨a, A1, sa, ms, hr2, m57, tp, na, q, cd⟩
      · exact Or.inl ⟨f1, bd.bd (fun a ha => by rw [bad_cmp ha]; exact Or.inl rfl)⟩
      · rw [sa]
        show OutF f N b u D A T p (p + 1) (fun _ => True) ((sCmp f N a.2).bind fun c => sAd2 (S a.1 c.2) c.1)
        have tb2 := tEnd_b (f := f) ms.le
        have d2 : A1 0 53 = (D : Int) := tp.1.trans hD
        have k1 : A1 35 (D - 1) = A 35 (D - 1) := (tp.2.2.1 (D - 1) (by omega)).1
        have p1 : A1 36 (D - 1) = 0 := (tp.2.2.1 (D - 1) (by omega)).2.trans h36
        obtain ⟨z3, v, hg, h3⟩ := RN_go hr2 (by rw [m57]; decide)
        rcases G_base ms d2 h1 hg with ⟨_, g2, _⟩ | ⟨_, z2, hz2, g2⟩
        · exact absurd g2 na
        · have e2 : z2 = 1 := by
            rw [k1] at hz2
            rcases hz2 with ⟨g, _⟩ | ⟨_, g⟩
            · exact g
            · exact absurd hk g
          rcases G_cmp ms d2 h1 (Or.inl e2) g2 with ⟨_, _, yc, hz3, Bc, eBc, c1, c2, c3, c4, c5, c6, c7⟩ | ⟨g, g2⟩
          · obtain ⟨cc, sc⟩ := sCmp_pos yc
            rw [sc]
            show OutF f N b u D A T p (p + 1) (fun _ => True) (sAd2 (S a.1 (tEnd f N a.2)) cc)
            have nz : ¬ z3 = 0 := by rw [hz3]; decide
            have lt2 := tb2.2.2.2 (by rcases yc with g | g | g <;> · have := g.1; omega)
            rcases h3 with ⟨c, _⟩ | ⟨_, c8, e⟩ | ⟨_, c8, hr4⟩
            · exact absurd c nz
            · have g := c1.ff c8
              refine Or.inl ⟨by rw [e]; exact g.2, Bad.ad2 (Or.inl ?_)⟩
              exact hS.1 _ _ g.1
            · have v36 : v 36 = up (A1 36) (D - 1) 1 := by rw [c6, eBc]; rfl
              have v37 : v 37 = A1 37 := by rw [c7, eBc]; rfl
              have v35 : v 35 = A1 35 := by rw [c5, eBc]; rfl
              have v53 : v 0 53 = A1 0 53 := by rw [c2, eBc]; rfl
              have v54 : v 0 54 = A1 0 54 := by rw [c3, eBc]; rfl
              rcases hS.2 v a.1 (tEnd f N a.2) D (c1.nf c8) hr4 c4 (v53.trans d2) h1 (v54.trans (tp.2.1.trans h54)) (fun g => absurd (by rw [v37]; exact tp.2.2.2.2) g.2) (by rw [v36, up_same]; decide) (by omega) (by omega) with ⟨f1, bd⟩ | ⟨b2, A3, sb2, ms3, hr5, m573, tp3, na3, q3, cd3⟩
              · exact Or.inl ⟨f1, Bad.ad2 bd⟩
              · rw [sb2]
                obtain ⟨t, st, et⟩ := sAd2_ok (T := b2.1) (e := b2.2) (x := cc) (by have := ms3.le; omega)
                rw [show sAd2 (some b2) cc = some (t, b2.2) from st]
                have t3 := tp3.2.2.1 (D - 1) (by omega)
                refine Or.inr ⟨(t, b2.2), A3, rfl, ms3, hr5, m573, ⟨?_, ?_, fun i hi => ?_, fun i hi => ?_⟩, tp3.2.2.2.2, by rw [t3.2, v36, up_same]; decide, fun _ => na3, trivial, by show p + 1 ≤ b2.2; omega, by show t 19 2 + (p : Int) ≤ T 19 2 + (b2.2 : Int); omega⟩
                · rw [tp3.1, v53, tp.1]
                · rw [tp3.2.1, v54, tp.2.1]
                · rw [(tp3.2.2.1 i hi).1, v35, (tp.2.2.1 i hi).1]
                · rw [(tp3.2.2.1 i (by omega)).2, tp3.2.2.2.1 i hi, v36, v37, up_ne _ _ (by omega), (tp.2.2.1 i (by omega)).2, tp.2.2.2.1 i hi]
                  exact ⟨rfl, rfl⟩
          · have nc : ¬ tcmp f N a.2 := fun y => g ⟨e2, p1, y⟩
            rw [sCmp_neg nc]
            refine Or.inl ⟨?_, Or.inl rfl⟩
            have fz : z3 = 0 ∧ 1 ≤ v 0 8 := by
              rcases G_andor ms d2 h1 (Or.inl e2) g2 with ⟨_, _, g⟩ | ⟨_, g2⟩
              · rcases g with ⟨_, g⟩ | ⟨g, _⟩
                · exact g
                · exact absurd p1 g
              · rcases G_end ms d2 h1 (Or.inl e2) g2 with ⟨_, _, g⟩ | ⟨g, _⟩
                · exact g
                · exact absurd ⟨e2, p1⟩ g
            rcases h3 with ⟨_, e⟩ | ⟨c, _⟩ | ⟨c, _⟩
            · rw [e]; exact fz.2
            · exact absurd fz.1 c
            · exact absurd fz.1 c
/-! The reference's tests against the class's. -/
theorem sNots_le {f : Nat → Int} {N : Nat} : ∀ (k : Nat) (t : Int) (p : Nat), p ≤ N → p ≤ (sNots f N k t p).2 ∧ ((sNots f N k t p).1 ≠ t → p < (sNots f N k t p).2) := by
  intro k
  induction k with
  | zero => intro t p _; exact ⟨Nat.le_refl p, fun g => absurd rfl g⟩
  | succ k ih =>
    intro t p hp
    by_cases y : tow f N p 18
    · have e : sNots f N (k + 1) t p = sNots f N k (if t = 0 then 1 else 0) (tEnd f N p) := by
        show (match sOwn f N 18 p with | some e => sNots f N k (if t = 0 then 1 else 0) e | none => (t, p)) = _
        rw [sOwn_pos y]
      have tb := tEnd_b (f := f) hp
      have lt := tb.2.2.2 (by have := y.1; omega)
      have := ih (if t = 0 then 1 else 0) (tEnd f N p) tb.2.2.1
      rw [e]
      exact ⟨by omega, fun _ => by omega⟩
    · have e : sNots f N (k + 1) t p = (t, p) := by
        show (match sOwn f N 18 p with | some e => sNots f N k (if t = 0 then 1 else 0) e | none => (t, p)) = _
        rw [sOwn_neg y]
      rw [e]
      exact ⟨Nat.le_refl p, fun g => absurd rfl g⟩
theorem sNots_bad {f : Nat → Int} {N p : Nat} {t : Int} (h : tKind f N p = 4) : ∀ k, sNots f N k t p = (t, p)
  | 0 => rfl
  | k + 1 => by
    show (match sOwn f N 18 p with | some e => sNots f N k (if t = 0 then 1 else 0) e | none => (t, p)) = _
    rw [bad_own h]
theorem Sim_nots {f : Nat → Int} {N b D : Nat} {u : St} (h1 : 1 ≤ D) : ∀ (k : Nat) (A : St) (p : Nat) (t : Int), MS f N b p A → RN u A → A 0 57 = 0 → A 0 53 = (D : Int) → (A 35 (D - 1) = 1 ∨ A 35 (D - 1) = 5) → ¬ A 37 (D - 1) = 0 → N < k + p → (1 ≤ u 0 8 ∧ tKind f N (sNots f N k t p).2 = 4) ∨ (∃ A', MS f N b (sNots f N k t p).2 A' ∧ RN u A' ∧ A' 0 57 = 0 ∧ A' 0 53 = A 0 53 ∧ A' 0 54 = A 0 54 ∧ A' 35 = A 35 ∧ A' 36 = A 36 ∧ A' 37 = A 37 ∧ ¬ tow f N (sNots f N k t p).2 18) := by
  intro k
  induction k with
  | zero =>
    intro A p t h _ _ _ _ _ hN
    have := h.le
    omega
  | succ k ih =>
    intro A p t h hr h57 hD hk h37 hN
    have tb := tEnd_b (f := f) h.le
    by_cases y : tow f N p 18
    · have e : sNots f N (k + 1) t p = sNots f N k (if t = 0 then 1 else 0) (tEnd f N p) := by
        show (match sOwn f N 18 p with | some e => sNots f N k (if t = 0 then 1 else 0) e | none => (t, p)) = _
        rw [sOwn_pos y]
      have lt := tb.2.2.2 (by have := y.1; omega)
      rw [e]
      obtain ⟨z, B, hq, h2⟩ := RN_op hr h57
      rcases O_base h hD h1 hq with ⟨_, _, hz, a1, a2, a3, a4, a5, a6, a7⟩ | ⟨_, g, _⟩ | ⟨_, g, _⟩ | ⟨g, _⟩
      · rcases h2 with ⟨c, e2⟩ | ⟨c, hr2⟩
        · have g := a1.ff c
          refine Or.inl ⟨by rw [e2]; exact g.2, ?_⟩
          rw [sNots_bad g.1]
          exact g.1
        · have r35 : stA B 0 57 z 35 = A 35 := a5
          have r36 : stA B 0 57 z 36 = A 36 := a6
          have r37 : stA B 0 57 z 37 = A 37 := a7
          rcases ih (stA B 0 57 z) (tEnd f N p) (if t = 0 then 1 else 0) ((a1.nf c).fr rfl (fun k hk => st0_k (by decide) (by decide) hk)) hr2 hz (a2.trans hD) (by rw [r35]; exact hk) (by rw [r37]; exact h37) (by omega) with g | ⟨A', b1, b2, b3, b4, b5, b6, b7, b8, b9⟩
          · exact Or.inl g
          · exact Or.inr ⟨A', b1, b2, b3, b4.trans a2, b5.trans a3, b6.trans r35, b7.trans r36, b8.trans r37, b9⟩
      · exact absurd g (tow_sg y)
      · exact absurd g (tow_ne y (by decide) (by decide) (by decide))
      · exact absurd y (g ⟨hk, h37⟩).1
    · have e : sNots f N (k + 1) t p = (t, p) := by
        show (match sOwn f N 18 p with | some e => sNots f N k (if t = 0 then 1 else 0) e | none => (t, p)) = _
        rw [sOwn_neg y]
      rw [e]
      exact Or.inr ⟨A, h, hr, h57, rfl, rfl, rfl, rfl, rfl, y⟩
theorem bad_fact {f : Nat → Int} {N n p : Nat} {S S2 : PT} {T : St} (hS : ∀ T p, tKind f N p = 4 → S T p = none) (h : tKind f N p = 4) : sFact f N n S S2 T p = none := by
  unfold sFact
  rw [sNots_bad h, bad_factB hS h]
  rfl
theorem Sim_fact {f : Nat → Int} {N b n : Nat} {u : St} {o : Int} {S S2 : PT} (hn : (n : Int) + o = 8) (hS : SimS f N b u o S) (hS2 : 0 < n → SimT f N b u (o + 1) S2) {A T : St} {p D : Nat} (h : MS f N b p A) (hr : RN u A) (h57 : A 0 57 = 0) (hD : A 0 53 = (D : Int)) (h1 : 1 ≤ D) (h54 : A 0 54 = o) (hk : A 35 (D - 1) = 1 ∨ A 35 (D - 1) = 5) (h37 : ¬ A 37 (D - 1) = 0) (h36 : A 36 (D - 1) = 0) (hT : T 19 2 ≤ (p : Int)) (hp : 1 ≤ p) : OutF f N b u D A T p (p + 1) (fun _ => True) (sFact f N n S S2 T p) := by
  have N16 : N ≤ 1600 := h.1.2.1
  have nl := sNots_le (f := f) 1600 0 p h.le
  unfold sFact
  rcases Sim_nots h1 1600 A p 0 h hr h57 hD hk h37 (by omega) with ⟨f1, t4⟩ | ⟨A', b1, b2, b3, b4, b5, b6, b7, b8, b9⟩
  · refine Or.inl ⟨f1, ?_⟩
    rw [bad_factB hS.1 t4]
    exact Or.inl rfl
  · rcases Sim_factB (T := T) hn hS hS2 b1 b2 b3 (b4.trans hD) h1 (b5.trans h54) (by rw [b6]; exact hk) (by rw [b8]; exact h37) (by rw [b7]; exact h36) b9 (by omega) (by omega) with ⟨f1, bd⟩ | ⟨a, A2, sa, ms, hr2, m57, tq, m37, m36, m36t, _, q, cd⟩
    · refine Or.inl ⟨f1, bd.bd (fun a ha => ?_)⟩
      by_cases g : (sNots f N 1600 0 p).1 = 0
      · rw [if_pos g]; exact bad_some ha
      · rw [if_neg g]; exact Bad.ad2 (bad_some ha)
    · rw [sa]
      show OutF f N b u D A T p (p + 1) (fun _ => True) (if (sNots f N 1600 0 p).1 = 0 then some a else sAd2 (some a) (-6))
      have tq' : TQ D A A2 := by
        unfold TQ
        rw [← b4, ← b5, ← b6, ← b7, ← b8]
        exact tq
      by_cases g : (sNots f N 1600 0 p).1 = 0
      · rw [if_pos g]
        exact Or.inr ⟨a, A2, rfl, ms, hr2, m57, tq', m37, m36, m36t, trivial, by omega, by omega⟩
      · rw [if_neg g]
        have l2 := nl.2 g
        obtain ⟨t, st, et⟩ := sAd2_ok (T := a.1) (e := a.2) (x := -6) (by have := ms.le; omega)
        rw [show sAd2 (some a) (-6) = some (t, a.2) from st]
        exact Or.inr ⟨(t, a.2), A2, rfl, ms, hr2, m57, tq', m37, m36, m36t, trivial, by show p + 1 ≤ a.2; omega, by show t 19 2 + (p : Int) ≤ T 19 2 + (a.2 : Int); omega⟩
/-- and, or: the next fact begins -/
theorem W_step {f : Nat → Int} {N b p D : Nat} {u A : St} (h : MS f N b p A) (hr : RN u A) (h57 : A 0 57 = 1) (hD : A 0 53 = (D : Int)) (h1 : 1 ≤ D) (hk : A 35 (D - 1) = 1 ∨ A 35 (D - 1) = 5) (h36 : ¬ A 36 (D - 1) = 0) (hw : tow f N p 17 ∨ tow f N p 16) : (1 ≤ u 0 8 ∧ tKind f N (tEnd f N p) = 4) ∨ (∃ v, MS f N b (tEnd f N p) v ∧ RN u v ∧ v 0 57 = 0 ∧ TQ D A v ∧ ¬ v 37 (D - 1) = 0 ∧ v 36 (D - 1) = 0) := by
  obtain ⟨z, v, hg, h3⟩ := RN_go hr (by rw [h57]; decide)
  have tk : tKind f N p = 1 := by rcases hw with g | g <;> exact g.1
  rcases G_base h hD h1 hg with ⟨_, g, _⟩ | ⟨_, z2, hz2, g2⟩
  · rcases g with g | g | g | g | g <;> · have := g.1; omega
  · have e2 : z2 = 1 := by
      rcases hz2 with ⟨g, _⟩ | ⟨_, g⟩
      · exact g
      · exact absurd hk g
    rcases G_cmp h hD h1 (Or.inl e2) g2 with ⟨_, g, _⟩ | ⟨_, g2⟩
    · exact absurd g h36
    · rcases G_andor h hD h1 (Or.inl e2) g2 with ⟨_, _, g⟩ | ⟨g, _⟩
      · rcases g with ⟨g, _⟩ | ⟨_, hz, Bc, eBc, c1, c2, c3, c4, c5, c6, c7⟩
        · exact absurd g h36
        · have nz : ¬ z = 0 := by rw [hz]; decide
          rcases h3 with ⟨c, _⟩ | ⟨_, c8, e⟩ | ⟨_, c8, hr4⟩
          · exact absurd c nz
          · have g := c1.ff c8
            exact Or.inl ⟨by rw [e]; exact g.2, g.1⟩
          · have v36 : v 36 = up (A 36) (D - 1) 0 := by rw [c6, eBc]; rfl
            have v37 : v 37 = up (A 37) (D - 1) 1 := by rw [c7, eBc]; rfl
            have v35 : v 35 = A 35 := by rw [c5, eBc]; rfl
            refine Or.inr ⟨v, c1.nf c8, hr4, c4, ⟨by rw [c2, eBc]; rfl, by rw [c3, eBc]; rfl, fun i hi => by rw [v35], fun i hi => ?_⟩, by rw [v37, up_same]; decide, by rw [v36, up_same]⟩
            rw [v36, v37, up_ne _ _ (by omega), up_ne _ _ (by omega)]
            exact ⟨rfl, rfl⟩
      · exact absurd ⟨e2, hw⟩ g
theorem bad_bothL {f : Nat → Int} {N n p : Nat} {S S2 : PT} {T : St} (h : tKind f N p = 4) : ∀ k, Bad f N (sBothL f N n S S2 k T p)
  | 0 => Or.inr ⟨(T, p), rfl, h⟩
  | k + 1 => by
    unfold sBothL
    rw [bad_own h]
    exact Or.inr ⟨(T, p), rfl, h⟩
theorem bad_testL {f : Nat → Int} {N n p : Nat} {S S2 : PT} {T : St} (h : tKind f N p = 4) : ∀ k, Bad f N (sTestL f N n S S2 k T p)
  | 0 => Or.inr ⟨(T, p), rfl, h⟩
  | k + 1 => by
    unfold sTestL
    rw [bad_own h]
    exact Or.inr ⟨(T, p), rfl, h⟩
theorem bad_both {f : Nat → Int} {N n p : Nat} {S S2 : PT} {T : St} (hS : ∀ T p, tKind f N p = 4 → S T p = none) (h : tKind f N p = 4) : sBoth f N n S S2 T p = none := by
  unfold sBoth
  rw [bad_fact hS h]
  rfl
theorem bad_test {f : Nat → Int} {N n p : Nat} {S S2 : PT} {T : St} (hS : ∀ T p, tKind f N p = 4 → S T p = none) (h : tKind f N p = 4) : sTest f N n S S2 T p = none := by
  unfold sTest
  rw [bad_both hS h]
  rfl
theorem Sim_bothL {f : Nat → Int} {N b n : Nat} {u : St} {o : Int} {S S2 : PT} (hn : (n : Int) + o = 8) (hS : SimS f N b u o S) (hS2 : 0 < n → SimT f N b u (o + 1) S2) {D : Nat} (h1 : 1 ≤ D) : ∀ (k : Nat) (A T : St) (p : Nat), MS f N b p A → RN u A → A 0 57 = 1 → A 0 53 = (D : Int) → A 0 54 = o → (A 35 (D - 1) = 1 ∨ A 35 (D - 1) = 5) → A 37 (D - 1) = 0 → ¬ A 36 (D - 1) = 0 → (A 36 (D - 1) < 2 → ¬ tari f N p) → T 19 2 ≤ (p : Int) → 1 ≤ p → N < k + p → OutF f N b u D A T p p (fun e => ¬ tow f N e 17) (sBothL f N n S S2 k T p) := by
  intro k
  induction k with
  | zero =>
    intro A T p h _ _ _ _ _ _ _ _ _ _ hN
    have := h.le
    omega
  | succ k ih =>
    intro A T p h hr h57 hD h54 hk h37 h36 h36t hT hp hN
    have tb := tEnd_b (f := f) h.le
    have N16 : N ≤ 1600 := h.1.2.1
    by_cases y : tow f N p 17
    · have lt := tb.2.2.2 (by have := y.1; omega)
      unfold sBothL
      rw [sOwn_pos y]
      show OutF f N b u D A T p p (fun e => ¬ tow f N e 17) ((sAd2 (sFact f N n S S2 T (tEnd f N p)) (-8)).bind fun a => sBothL f N n S S2 k a.1 a.2)
      rcases W_step h hr h57 hD h1 hk h36 (Or.inl y) with ⟨f1, t4⟩ | ⟨v, sv, rv, v57, tqv, v37, v36⟩
      · refine Or.inl ⟨f1, ?_⟩
        rw [bad_fact hS.1 t4]
        exact Or.inl rfl
      · rcases Sim_fact (T := T) hn hS hS2 sv rv v57 (tqv.1.trans hD) h1 (tqv.2.1.trans h54) (by rw [tqv.2.2.1 (D - 1) (by omega)]; exact hk) v37 v36 (by omega) (by omega) with ⟨f1, bd⟩ | ⟨a, A', sa, ms, hr2, m57, tq, m37, m36, m36t, _, q, cd⟩
        · exact Or.inl ⟨f1, (Bad.ad2 bd).bd (fun a ha => bad_bothL ha k)⟩
        · rw [sa]
          obtain ⟨t, st, et⟩ := sAd2_ok (T := a.1) (e := a.2) (x := -8) (by have := ms.le; omega)
          rw [show sAd2 (some a) (-8) = some (t, a.2) from st]
          show OutF f N b u D A T p p (fun e => ¬ tow f N e 17) (sBothL f N n S S2 k t a.2)
          have tq' := tqv.trans tq
          rcases ih A' t a.2 ms hr2 m57 (tq'.1.trans hD) (tq'.2.1.trans h54) (by rw [tq'.2.2.1 (D - 1) (by omega)]; exact hk) m37 m36 m36t (by omega) (by omega) (by omega) with ⟨f1, bd⟩ | ⟨c2, A2, sc, ms2, hr3, m572, tq2, n37, n36, n36t, X2, q2, cd2⟩
          · exact Or.inl ⟨f1, bd⟩
          · exact Or.inr ⟨c2, A2, sc, ms2, hr3, m572, tq'.trans tq2, n37, n36, n36t, X2, by omega, by omega⟩
    · unfold sBothL
      rw [sOwn_neg y]
      exact Or.inr ⟨(T, p), A, rfl, h, hr, h57, TQ.rf, h37, h36, h36t, y, Nat.le_refl p, Int.le_refl _⟩
theorem Sim_both {f : Nat → Int} {N b n : Nat} {u : St} {o : Int} {S S2 : PT} (hn : (n : Int) + o = 8) (hS : SimS f N b u o S) (hS2 : 0 < n → SimT f N b u (o + 1) S2) {A T : St} {p D : Nat} (h : MS f N b p A) (hr : RN u A) (h57 : A 0 57 = 0) (hD : A 0 53 = (D : Int)) (h1 : 1 ≤ D) (h54 : A 0 54 = o) (hk : A 35 (D - 1) = 1 ∨ A 35 (D - 1) = 5) (h37 : ¬ A 37 (D - 1) = 0) (h36 : A 36 (D - 1) = 0) (hT : T 19 2 ≤ (p : Int)) (hp : 1 ≤ p) : OutF f N b u D A T p (p + 1) (fun e => ¬ tow f N e 17) (sBoth f N n S S2 T p) := by
  have N16 : N ≤ 1600 := h.1.2.1
  unfold sBoth
  rcases Sim_fact hn hS hS2 h hr h57 hD h1 h54 hk h37 h36 hT hp with ⟨f1, bd⟩ | ⟨a, A', sa, ms, hr2, m57, tq, m37, m36, m36t, _, q, cd⟩
  · exact Or.inl ⟨f1, bd.bd (fun a ha => bad_bothL ha _)⟩
  · rw [sa]
    show OutF f N b u D A T p (p + 1) (fun e => ¬ tow f N e 17) (sBothL f N n S S2 1600 a.1 a.2)
    rcases Sim_bothL hn hS hS2 h1 1600 A' a.1 a.2 ms hr2 m57 (tq.1.trans hD) (tq.2.1.trans h54) (by rw [tq.2.2.1 (D - 1) (by omega)]; exact hk) m37 m36 m36t (by omega) (by omega) (by omega) with ⟨f1, bd⟩ | ⟨c2, A2, sc, ms2, hr3, m572, tq2, n37, n36, n36t, X2, q2, cd2⟩
    · exact Or.inl ⟨f1, bd⟩
    · exact Or.inr ⟨c2, A2, sc, ms2, hr3, m572, tq.trans tq2, n37, n36, n36t, X2, by omega, by omega⟩
theorem Sim_testL {f : Nat → Int} {N b n : Nat} {u : St} {o : Int} {S S2 : PT} (hn : (n : Int) + o = 8) (hS : SimS f N b u o S) (hS2 : 0 < n → SimT f N b u (o + 1) S2) {D : Nat} (h1 : 1 ≤ D) : ∀ (k : Nat) (A T : St) (p : Nat), MS f N b p A → RN u A → A 0 57 = 1 → A 0 53 = (D : Int) → A 0 54 = o → (A 35 (D - 1) = 1 ∨ A 35 (D - 1) = 5) → A 37 (D - 1) = 0 → ¬ A 36 (D - 1) = 0 → (A 36 (D - 1) < 2 → ¬ tari f N p) → T 19 2 ≤ (p : Int) → 1 ≤ p → N < k + p → ¬ tow f N p 17 → OutF f N b u D A T p p (nao f N) (sTestL f N n S S2 k T p) := by
  intro k
  induction k with
  | zero =>
    intro A T p h _ _ _ _ _ _ _ _ _ _ hN _
    have := h.le
    omega
  | succ k ih =>
    intro A T p h hr h57 hD h54 hk h37 h36 h36t hT hp hN n17
    have tb := tEnd_b (f := f) h.le
    have N16 : N ≤ 1600 := h.1.2.1
    by_cases y : tow f N p 16
    · have lt := tb.2.2.2 (by have := y.1; omega)
      unfold sTestL
      rw [sOwn_pos y]
      show OutF f N b u D A T p p (nao f N) ((sAd2 (sBoth f N n S S2 T (tEnd f N p)) (-7)).bind fun a => sTestL f N n S S2 k a.1 a.2)
      rcases W_step h hr h57 hD h1 hk h36 (Or.inr y) with ⟨f1, t4⟩ | ⟨v, sv, rv, v57, tqv, v37, v36⟩
      · refine Or.inl ⟨f1, ?_⟩
        rw [bad_both hS.1 t4]
        exact Or.inl rfl
      · rcases Sim_both (T := T) hn hS hS2 sv rv v57 (tqv.1.trans hD) h1 (tqv.2.1.trans h54) (by rw [tqv.2.2.1 (D - 1) (by omega)]; exact hk) v37 v36 (by omega) (by omega) with ⟨f1, bd⟩ | ⟨a, A', sa, ms, hr2, m57, tq, m37, m36, m36t, X1, q, cd⟩
        · exact Or.inl ⟨f1, (Bad.ad2 bd).bd (fun a ha => bad_testL ha k)⟩
        · rw [sa]
          obtain ⟨t, st, et⟩ := sAd2_ok (T := a.1) (e := a.2) (x := -7) (by have := ms.le; omega)
          rw [show sAd2 (some a) (-7) = some (t, a.2) from st]
          show OutF f N b u D A T p p (nao f N) (sTestL f N n S S2 k t a.2)
          have tq' := tqv.trans tq
          rcases ih A' t a.2 ms hr2 m57 (tq'.1.trans hD) (tq'.2.1.trans h54) (by rw [tq'.2.2.1 (D - 1) (by omega)]; exact hk) m37 m36 m36t (by omega) (by omega) (by omega) X1 with ⟨f1, bd⟩ | ⟨c2, A2, sc, ms2, hr3, m572, tq2, n37, n36, n36t, X2, q2, cd2⟩
          · exact Or.inl ⟨f1, bd⟩
          · exact Or.inr ⟨c2, A2, sc, ms2, hr3, m572, tq'.trans tq2, n37, n36, n36t, X2, by omega, by omega⟩
    · unfold sTestL
      rw [sOwn_neg y]
      exact Or.inr ⟨(T, p), A, rfl, h, hr, h57, TQ.rf, h37, h36, h36t, ⟨n17, y⟩, Nat.le_refl p, Int.le_refl _⟩
theorem Sim_test {f : Nat → Int} {N b n : Nat} {u : St} {o : Int} {S S2 : PT} (hn : (n : Int) + o = 8) (hS : SimS f N b u o S) (hS2 : 0 < n → SimT f N b u (o + 1) S2) : SimT f N b u o (sTest f N n S S2) := by
  refine ⟨fun T p h => bad_test hS.1 h, ?_⟩
  intro A T p D h hr h57 hD h1 h54 hk h37 h36 hT hp
  have N16 : N ≤ 1600 := h.1.2.1
  unfold sTest
  rcases Sim_both hn hS hS2 h hr h57 hD h1 h54 hk h37 h36 hT hp with ⟨f1, bd⟩ | ⟨a, A', sa, ms, hr2, m57, tq, m37, m36, m36t, X1, q, cd⟩
  · exact Or.inl ⟨f1, bd.bd (fun a ha => bad_testL ha _)⟩
  · rw [sa]
    show OutF f N b u D A T p (p + 1) (nao f N) (sTestL f N n S S2 1600 a.1 a.2)
    rcases Sim_testL hn hS hS2 h1 1600 A' a.1 a.2 ms hr2 m57 (tq.1.trans hD) (tq.2.1.trans h54) (by rw [tq.2.2.1 (D - 1) (by omega)]; exact hk) m37 m36 m36t (by omega) (by omega) (by omega) X1 with ⟨f1, bd⟩ | ⟨c2, A2, sc, ms2, hr3, m572, tq2, n37, n36, n36t, X2, q2, cd2⟩
    · exact Or.inl ⟨f1, bd⟩
    · exact Or.inr ⟨c2, A2, sc, ms2, hr3, m572, tq.trans tq2, n37, n36, n36t, X2, by omega, by omega⟩
theorem Sim_testN {f : Nat → Int} {N b : Nat} {u : St} : ∀ n : Nat, SimT f N b u (8 - (n : Int)) (sTestN f N n)
  | 0 => Sim_test (n := 0) (by omega) (Sim_sumN 0) (fun h => absurd h (by omega))
  | n + 1 => Sim_test (n := n + 1) (by omega) (Sim_sumN (n + 1)) (fun _ => by
    have := Sim_testN (f := f) (N := N) (b := b) (u := u) n
    rw [show 8 - ((n + 1 : Nat) : Int) + 1 = 8 - (n : Int) by omega]
    exact this)
/-! The reference's bars. -/
def Kp (T : St) (r : Option (St × Nat)) : Prop := ∀ a, r = some a → ∀ j, j ≠ 19 → j ≠ 20 → a.1 j = T j
theorem Kp.no {T : St} : Kp T none := fun a h => absurd h (by simp)
theorem Kp.so {T : St} {e : Nat} : Kp T (some (T, e)) := fun a h j _ _ => by rw [← Option.some.inj h]
theorem Kp.bd {T : St} {r : Option (St × Nat)} {k : St × Nat → Option (St × Nat)} (h : Kp T r) (hk : ∀ a, Kp a.1 (k a)) : Kp T (r.bind k) := by
  intro c hc j h1 h2
  cases hr : r with
  | none => rw [hr] at hc; exact absurd hc (by simp)
  | some a =>
    rw [hr] at hc
    exact (hk a c hc j h1 h2).trans (h a hr j h1 h2)
theorem Kp.bn {T : St} {α : Type} {r : Option α} {k : α → Option (St × Nat)} (hk : ∀ a, Kp T (k a)) : Kp T (r.bind k) := by
  intro c hc j h1 h2
  cases hr : r with
  | none => rw [hr] at hc; exact absurd hc (by simp)
  | some a =>
    rw [hr] at hc
    exact hk a c hc j h1 h2
theorem Kp.adc {T : St} {e : Nat} {x : Int} : Kp T ((sAdC T x).bind fun t => some (t, e)) := by
  intro c hc j h1 h2
  unfold sAdC at hc
  by_cases g : T 19 2 < 1600
  · rw [if_pos g] at hc
    have hc := Option.some.inj hc
    rw [← hc]
    show stA (stA T 20 (T 19 2).toNat x) 19 2 (T 19 2 + 1) j = T j
    rw [stA_ne _ _ h1, stA_ne _ _ h2]
  · rw [if_neg g] at hc
    exact absurd hc (by simp)
theorem Kp.ad2 {T : St} {r : Option (St × Nat)} {x : Int} (h : Kp T r) : Kp T (sAd2 r x) := h.bd (fun _ => Kp.adc)
def KS (S : PT) : Prop := ∀ T p, Kp T (S T p)
theorem KS_part {f : Nat → Int} {N n : Nat} {S : PT} (hS : KS S) : KS (sPart f N n S) := by
  intro T p
  have hp : ∀ e, Kp T (sPair f N n S T e) := by
    intro e
    unfold sPair
    refine Kp.bn (fun p1 => ?_)
    by_cases g : n = 0
    · rw [if_pos g]; exact Kp.no
    · rw [if_neg g]
      exact (hS T p1).bd (fun a => Kp.bn (fun p2 => (hS a.1 p2).bd (fun b => Kp.bn (fun p3 => Kp.so))))
  unfold sPart
  by_cases h2 : tKind f N p = 2
  · rw [if_pos h2]; exact Kp.ad2 Kp.so
  · rw [if_neg h2]
    cases sSign f N 40 p with
    | some p1 =>
      show Kp T (if n = 0 then none else (S T p1).bind fun a => (sSign f N 41 a.2).bind fun p2 => some (a.1, p2))
      by_cases g : n = 0
      · rw [if_pos g]; exact Kp.no
      · rw [if_neg g]
        exact (hS T p1).bd (fun a => Kp.bn (fun p2 => Kp.so))
    | none =>
      cases sOwn f N 20 p with
      | some e => exact Kp.ad2 Kp.so
      | none =>
        cases sOwn f N 21 p with
        | some e => exact Kp.ad2 Kp.so
        | none =>
          cases sOwn f N 22 p with
          | some e => exact Kp.ad2 Kp.so
          | none =>
            cases sOwn f N 23 p with
            | some e => exact Kp.ad2 Kp.so
            | none =>
              cases sOwn f N 24 p with
              | some e => exact Kp.ad2 (hp e)
              | none =>
                cases sOwn f N 25 p with
                | some e => exact Kp.ad2 (hp e)
                | none => exact Kp.no
theorem KS_prod {f : Nat → Int} {N n : Nat} {S : PT} (hS : KS S) : KS (sProd f N n S) := by
  have lp : ∀ k, KS (sProdL f N n S k) := by
    intro k
    induction k with
    | zero => intro T p; exact Kp.no
    | succ k ih =>
      intro T p
      unfold sProdL
      cases sSign f N 47 p with
      | some e => exact (Kp.ad2 (KS_part hS T e)).bd (fun a => ih a.1 a.2)
      | none =>
        cases sSign f N 37 p with
        | some e => exact (Kp.ad2 (KS_part hS T e)).bd (fun a => ih a.1 a.2)
        | none =>
          cases sSign f N 42 p with
          | some e => exact (Kp.ad2 (KS_part hS T e)).bd (fun a => ih a.1 a.2)
          | none => exact Kp.so
  intro T p
  exact (KS_part hS T p).bd (fun a => lp 1600 a.1 a.2)
theorem KS_sum {f : Nat → Int} {N n : Nat} {S : PT} (hS : KS S) : KS (sSum f N n S) := by
  have lp : ∀ k, KS (sSumL f N n S k) := by
    intro k
    induction k with
    | zero => intro T p; exact Kp.no
    | succ k ih =>
      intro T p
      unfold sSumL
      cases sSign f N 45 p with
      | some e => exact (Kp.ad2 (KS_prod hS T e)).bd (fun a => ih a.1 a.2)
      | none =>
        cases sSign f N 43 p with
        | some e => exact (Kp.ad2 (KS_prod hS T e)).bd (fun a => ih a.1 a.2)
        | none => exact Kp.so
  intro T p
  exact (KS_prod hS T p).bd (fun a => lp 1600 a.1 a.2)
theorem KS_sumN {f : Nat → Int} {N : Nat} : ∀ n, KS (sSumN f N n)
  | 0 => KS_sum (fun _ _ => Kp.no)
  | n + 1 => KS_sum (KS_sumN n)
theorem KS_fact {f : Nat → Int} {N n : Nat} {S S2 : PT} (hS : KS S) (hS2 : KS S2) : KS (sFact f N n S S2) := by
  intro T p
  unfold sFact
  refine Kp.bd ?_ (fun a => ?_)
  · unfold sFactB
    cases sOwn f N 19 (sNots f N 1600 0 p).2 with
    | some e => exact Kp.ad2 Kp.so
    | none =>
      cases sSign f N 91 (sNots f N 1600 0 p).2 with
      | some e =>
        show Kp T (if n = 0 then none else (S2 T e).bind fun a => (sSign f N 93 a.2).bind fun p2 => some (a.1, p2))
        by_cases g : n = 0
        · rw [if_pos g]; exact Kp.no
        · rw [if_neg g]
          exact (hS2 T e).bd (fun a => Kp.bn (fun p2 => Kp.so))
      | none => exact (hS T _).bd (fun a => Kp.bn (fun c => Kp.ad2 (hS a.1 c.2)))
  · by_cases g : (sNots f N 1600 0 p).1 = 0
    · rw [if_pos g]; exact Kp.so
    · rw [if_neg g]; exact Kp.ad2 Kp.so
theorem KS_both {f : Nat → Int} {N n : Nat} {S S2 : PT} (hS : KS S) (hS2 : KS S2) : KS (sBoth f N n S S2) := by
  have lp : ∀ k, KS (sBothL f N n S S2 k) := by
    intro k
    induction k with
    | zero => intro T p; exact Kp.so
    | succ k ih =>
      intro T p
      unfold sBothL
      cases sOwn f N 17 p with
      | some e => exact (Kp.ad2 (KS_fact hS hS2 T e)).bd (fun a => ih a.1 a.2)
      | none => exact Kp.so
  intro T p
  exact (KS_fact hS hS2 T p).bd (fun a => lp 1600 a.1 a.2)
theorem KS_test {f : Nat → Int} {N n : Nat} {S S2 : PT} (hS : KS S) (hS2 : KS S2) : KS (sTest f N n S S2) := by
  have lp : ∀ k, KS (sTestL f N n S S2 k) := by
    intro k
    induction k with
    | zero => intro T p; exact Kp.so
    | succ k ih =>
      intro T p
      unfold sTestL
      cases sOwn f N 16 p with
      | some e => exact (Kp.ad2 (KS_both hS hS2 T e)).bd (fun a => ih a.1 a.2)
      | none => exact Kp.so
  intro T p
  exact (KS_both hS hS2 T p).bd (fun a => lp 1600 a.1 a.2)
theorem KS_testN {f : Nat → Int} {N : Nat} : ∀ n, KS (sTestN f N n)
  | 0 => KS_test (KS_sumN 0) (fun _ _ => Kp.no)
  | n + 1 => KS_test (KS_sumN (n + 1)) (KS_testN n)
theorem MR.keep {b : Nat} {A T T' : St} (h : MR b A T) (g : ∀ j, j ≠ 19 → j ≠ 20 → T' j = T j) : MR b A T' := by
  have e : T' = fun j => bif Nat.beq j 19 then T' 19 else bif Nat.beq j 20 then T' 20 else T j := by
    funext j
    by_cases h1 : j = 19
    · subst h1; rfl
    · by_cases h2 : j = 20
      · subst h2; rfl
      · show T' j = bif Nat.beq j 19 then T' 19 else bif Nat.beq j 20 then T' 20 else T j
        rw [beq_ne h1, beq_ne h2, g j h1 h2]
        rfl
  obtain ⟨⟨k0, k1, k2, k3, k4⟩, hc, ht, hB, hd, hl, hk, hp, hh, hwn, hm, hb⟩ := h
  rw [e]
  refine ⟨⟨k0, k1, k2, k3, k4⟩, hc, ht, hB, hd, hl, hk.cg rfl rfl rfl rfl rfl rfl (fun k => ?_), hp, hh, hwn, hm, hb⟩
  show (bif Nat.beq (27 + k) 19 then T' 19 else bif Nat.beq (27 + k) 20 then T' 20 else T (27 + k)) = T (27 + k)
  rw [beq_ne (show 27 + k ≠ 19 by omega), beq_ne (show 27 + k ≠ 20 by omega)]
  rfl
theorem M_reads {f : Nat → Int} {N b p : Nat} {A u T : St} (h : MS f N b p A) (hT : T 19 2 ≤ (p : Int)) (hp : 1 ≤ p) (hq : q_X12_reads 1 A u) : (1 ≤ u 0 8 ∧ Bad f N (sTestN f N 8 T p)) ∨ (u 0 8 = 0 ∧ ∃ a, sTestN f N 8 T p = some a ∧ MS f N b a.2 u ∧ p < a.2 ∧ a.1 19 2 ≤ (a.2 : Int)) := by
  rcases (hq.1 : tr_r_X12_reads 1 A u) with ⟨_, A2, e2, h2⟩ | ⟨c, _⟩
  · rcases h2 with ⟨c, _⟩ | ⟨_, h2⟩
    · exact absurd c (by decide)
    · obtain ⟨_, A9, hpu, nn, h2⟩ := (h2 : tr_d_X12_reads_1 A2 u 1)
      obtain ⟨A1, e1, e9⟩ := (hpu.1 : tr_r_X12_pushes 1 A2 A9)
      have d2 : A2 0 53 = 0 := by rw [e2]; rfl
      rw [d2] at e1
      have s9 : MS f N b p A9 := by
        rw [e9, e1, e2]
        refine h.fr rfl (fun k hk => ?_)
        show stA (stA (stA (stA (stA (stA (stA (stA (stA A 0 53 0) 0 54 0) 0 56 0) 0 57 0) 35 _ 1) 36 _ 0) 37 _ 1) 39 _ _) 0 53 _ 0 k = A 0 k
        rw [st0_k (by decide) (by decide) hk]
        show stA (stA (stA (stA A 0 53 0) 0 54 0) 0 56 0) 0 57 0 0 k = A 0 k
        rw [st0_k (by decide) (by decide) hk, st0_k (by decide) (by decide) hk, st0_k (by decide) (by decide) hk, st0_k (by decide) (by decide) hk]
      have f53 : A9 0 53 = ((1 : Nat) : Int) := by rw [e9, e1]; rfl
      have f54 : A9 0 54 = 0 := by rw [e9, e1, e2]; rfl
      have f57 : A9 0 57 = 0 := by rw [e9, e1, e2]; rfl
      have r35 : A9 35 0 = 1 := by rw [e9, e1]; rfl
      have r36 : A9 36 0 = 0 := by rw [e9, e1]; rfl
      have r37 : A9 37 0 = 1 := by rw [e9, e1]; rfl
      have sim := (Sim_testN (f := f) (N := N) (b := b) (u := u) 8).2 A9 T p 1 s9 ⟨nn, h2⟩ f57 f53 (by decide) (by rw [f54]; rfl) (Or.inl r35) (by show ¬ A9 37 0 = 0; rw [r37]; decide) r36 hT hp
      rcases sim with g | ⟨a, A', sa, ms, hr, m57, tq, m37, m36, m36t, na, q, cd⟩
      · exact Or.inl g
      · have k1 : A' 35 0 = 1 := (tq.2.2.1 0 (by decide)).trans r35
        have d1 : A' 0 53 = ((1 : Nat) : Int) := tq.1.trans f53
        obtain ⟨z, v, hg, h3⟩ := RN_go hr (by rw [m57]; decide)
        have m36 : ¬ A' 36 0 = 0 := m36
        have g8 : d_X12_goesOn_8 A' z v 1 A' := by
          rcases G_base (D := 1) ms d1 (by decide) hg with ⟨g1, g2, _⟩ | ⟨_, z2, hz2, g2⟩
          · exact absurd g2 (m36t g1)
          · have hz2 : (z2 = 1 ∧ (A' 35 0 = 1 ∨ A' 35 0 = 5)) ∨ (z2 = 0 ∧ ¬ (A' 35 0 = 1 ∨ A' 35 0 = 5)) := hz2
            have g2 : d_X12_goesOn_2 A' z v (A' 35 0) z2 := g2
            rw [k1] at hz2 g2
            have e2 : z2 = 1 := by
              rcases hz2 with ⟨g, _⟩ | ⟨_, g⟩
              · exact g
              · exact absurd (Or.inl rfl) g
            rcases G_cmp (D := 1) ms d1 (by decide) (Or.inl e2) g2 with ⟨_, g, _⟩ | ⟨_, g2⟩
            · exact absurd g m36
            · rcases G_andor (D := 1) ms d1 (by decide) (Or.inl e2) g2 with ⟨_, g, _⟩ | ⟨_, g2⟩
              · rcases g with g | g
                · exact absurd g na.1
                · exact absurd g na.2
              · rcases G_end (D := 1) ms d1 (by decide) (Or.inl e2) g2 with ⟨_, g, _⟩ | ⟨_, g2⟩
                · exact absurd g m36
                · exact g2
        have gk := G_k1 (by decide) ms.ns g8
        have eu : u = v := by
          rcases h3 with ⟨_, e⟩ | ⟨c, _⟩ | ⟨c, _⟩
          · exact e
          · exact absurd gk.1 c
          · exact absurd gk.1 c
        have mu : MS f N b a.2 u := by rw [eu]; exact ms.sb gk.2
        exact Or.inr ⟨mu.ns, a, sa, mu, by omega, by omega⟩
  · exact absurd (Int.le_of_eq h.ns) c
/-! The reference's bars, statements, town. -/
def rr (A B : St) : Prop := ∀ j, j ≠ 0 → j ≤ 30 → A j = B j
theorem rq.rr {A B : St} (h : rq A B) : rr A B := fun j hj _ => h j hj
theorem rr.trans {A B C : St} (h : rr A B) (g : rr B C) : rr A C := fun j h0 h1 => (h j h0 h1).trans (g j h0 h1)
theorem rr.st {A B : St} {i : Nat} {v : Int} {j : Nat} (h : rr A B) : rr (stA A j i v) (stA B j i v) := by
  intro k hk h30
  by_cases e : k = j
  · subst e
    rw [stA_same, stA_same, h k hk h30]
  · rw [stA_ne _ _ e, stA_ne _ _ e, h k hk h30]
theorem rr.so {A B : St} {i : Nat} {v : Int} {j : Nat} (h : rr A B) (hj : 30 < j) : rr (stA A j i v) B := by
  intro k hk h30
  rw [stA_ne _ _ (by omega), h k hk h30]
theorem rr.s0 {A B : St} {i : Nat} {v : Int} (h : rr A B) : rr (stA A 0 i v) B := by
  intro k hk h30
  rw [stA_ne _ _ hk, h k hk h30]
theorem MR.rr {b : Nat} {A u T : St} (h : MR b A T) (g : rr u A) : MR b u T := by
  have e : u = fun j => bif Nat.beq j 0 then u 0 else bif Nat.ble j 30 then A j else u j := by
    funext j
    cases j with
    | zero => rfl
    | succ j =>
      show u (j + 1) = bif Nat.ble (j + 1) 30 then A (j + 1) else u (j + 1)
      cases hb : Nat.ble (j + 1) 30 with
      | false => rfl
      | true => exact g (j + 1) (by omega) (Nat.le_of_ble_eq_true hb)
  rw [e]
  exact h
/-- a statement's answer, with the codes' bound -/
def MTb (f : Nat → Int) (N b p : Nat) (r : Option (St × Nat)) (u : St) : Prop := (u 0 8 = 0 ∧ ∃ a, r = some a ∧ MR b u a.1 ∧ MS f N b a.2 u ∧ a.1 19 2 ≤ (a.2 : Int) ∧ p ≤ a.2) ∨ (1 ≤ u 0 8 ∧ Bad f N r)
theorem tEnd_ge {f : Nat → Int} {N p : Nat} : p ≤ tEnd f N p := by
  by_cases h : p ≤ N
  · have := tEnd_b (f := f) h
    omega
  · have hs : sAt f N p = p := by
      unfold sAt
      rw [show N - p = 0 by omega]
      rfl
    unfold tEnd
    rw [hs, if_pos (by omega)]
    exact Nat.le_refl p
theorem pos_name {f : Nat → Int} {N p : Nat} {a : Int × Nat} (h : sName f N p = some a) : a.2 = tEnd f N p := by
  unfold sName at h
  split at h
  · rw [← Option.some.inj h]
  · exact absurd h (by simp)
theorem pos_new {f : Nat → Int} {N p : Nat} {T : St} {a : Int × Nat} (h : sNew f N T p = some a) : a.2 = tEnd f N p := by
  unfold sNew at h
  cases hs : sName f N p with
  | none => rw [hs] at h; exact absurd h (by simp)
  | some c =>
    rw [hs] at h
    have h : (if sFind T 0 c.1 = -1 ∧ sFind T 1 c.1 = -1 ∧ sFind T 2 c.1 = -1 ∧ sFind T 3 c.1 = -1 ∧ sFind T 4 c.1 = -1 then some (c.1, c.2) else none) = some a := h
    split at h
    · rw [← Option.some.inj h]; exact pos_name hs
    · exact absurd h (by simp)
theorem pos_ask {f : Nat → Int} {N p k : Nat} {T : St} {a : Int × Nat} (h : sAsk f N T k p = some a) : a.2 = tEnd f N p := by
  unfold sAsk at h
  cases hs : sName f N p with
  | none => rw [hs] at h; exact absurd h (by simp)
  | some c =>
    rw [hs] at h
    have h : (if sFind T k c.1 = -1 then none else some (sFind T k c.1, c.2)) = some a := h
    split at h
    · exact absurd h (by simp)
    · rw [← Option.some.inj h]; exact (pos_name hs : c.2 = tEnd f N p)
theorem pos_spot {f : Nat → Int} {N p : Nat} {T : St} {a : Int × Nat} (h : sSpot f N T p = some a) : a.2 = tEnd f N p := by
  unfold sSpot at h
  cases hs : sName f N p with
  | none => rw [hs] at h; exact absurd h (by simp)
  | some c =>
    rw [hs] at h
    have h : (if sFind T 0 c.1 ≠ -1 then some (sFind T 0 c.1 + 10, c.2) else if sFind T 1 c.1 ≠ -1 ∧ T 10 (sFind T 1 c.1).toNat = 0 then some (sFind T 1 c.1 + 20, c.2) else none) = some a := h
    split at h
    · rw [← Option.some.inj h]; exact (pos_name hs : c.2 = tEnd f N p)
    · split at h
      · rw [← Option.some.inj h]; exact (pos_name hs : c.2 = tEnd f N p)
      · exact absurd h (by simp)
theorem pos_num {f : Nat → Int} {N p : Nat} {lo hi : Int} {a : Int × Nat} (h : sNum f N lo hi p = some a) : a.2 = tEnd f N p := by
  unfold sNum at h
  split at h
  · rw [← Option.some.inj h]
  · exact absurd h (by simp)
theorem pos_own0 {f : Nat → Int} {N p k e : Nat} (h : sOwn f N k p = some e) : e = tEnd f N p := by
  unfold sOwn at h
  split at h
  · rw [← Option.some.inj h]
  · exact absurd h (by simp)
theorem pos_own {f : Nat → Int} {N p k e : Nat} (hp : p ≤ N) (h : sOwn f N k p = some e) : p + 1 ≤ e := by
  have e1 := pos_own0 h
  unfold sOwn at h
  split at h
  · rename_i g
    have tb := tEnd_b (f := f) hp
    have := tb.2.2.2 (by have := g.1; omega)
    omega
  · exact absurd h (by simp)
theorem pos_sign {f : Nat → Int} {N p e : Nat} {c : Int} (hp : p ≤ N) (h : sSign f N c p = some e) : p + 1 ≤ e := by
  unfold sSign at h
  split at h
  · rename_i g
    have tb := tEnd_b (f := f) hp
    have := tb.2.2.2 (by have := g.1; omega)
    rw [← Option.some.inj h]
    omega
  · exact absurd h (by simp)
theorem M_bar {f : Nat → Int} {N b p : Nat} {A u T : St} (hI : IM A) (h : MS f N b p A) (hR : MR b A T) (hT : T 19 2 ≤ (p : Int)) (hq : q_X12_barring A u) : MTb f N b p (if T 1 7 < 6 then sBar f N T (tEnd f N p) else none) u := by
  have hb := h.bk
  have eb : (A 0 47).toNat = b := by rw [hb]; exact Int.toNat_natCast b
  have hct : A 29 b = T 1 7 := hR.2.1.2.2
  have r2 : (0 : Int) ≤ A 29 b ∧ A 29 b ≤ 6 := hI 29 b
  obtain ⟨n, hn⟩ : ∃ n : Nat, T 1 7 = (n : Int) := ⟨(T 1 7).toNat, by omega⟩
  obtain ⟨z1, hz1, h2⟩ := (hq.1 : tr_r_X12_barring A u)
  rw [eb, hct] at hz1
  have d1 : ∀ x, (x = 0 ↔ T 1 7 < 6) → d_X12_barring_1 A u x → MTb f N b p (if T 1 7 < 6 then sBar f N T (tEnd f N p) else none) u := by
    intro x hx h2
    obtain ⟨_, z8, A9, hc, h2⟩ := (h2 : tr_d_X12_barring_1 A u x)
    obtain ⟨q9, g⟩ := M_counts h hc
    rcases h2 with ⟨c1, h2⟩ | ⟨c1, rfl⟩
    · rcases g with ⟨_, x0, s9⟩ | ⟨g, _⟩
      · have lt := hx.mp x0
        rw [if_pos lt]
        obtain ⟨z14, hz14, h2⟩ := h2
        have e14 : z14 = (n : Int) := by rw [hz14, eb, q9 29 (by decide), hct, hn]
        have hNA := hR.1.rq q9
        have ix : (6 * A 0 47 + z14).toNat = 6 * b + n := by rw [hb, e14]; omega
        have n1 := hNA.2.1
        have f5 : ∀ A76 : St, 1 ≤ A76 0 8 → d_X12_barring_5 z14 A u A76 → 1 ≤ u 0 8 := by
          intro A76 g h3
          obtain ⟨_, A80, e, h3⟩ := (h3 : tr_d_X12_barring_5 z14 A u A76)
          rcases h3 with ⟨_, hu⟩ | ⟨c, _⟩
          · rw [hu, e]; exact g
          · omega
        have f4 : ∀ A39 : St, 1 ≤ A39 0 8 → d_X12_barring_4 z14 A u A39 → 1 ≤ u 0 8 := by
          intro A39 g h3
          obtain ⟨_, z41, A42, hk, A46, e46, A47, hwd, A51, e51, h3⟩ := (h3 : tr_d_X12_barring_4 z14 A u A39)
          have e1 := X_ask_1 g hk
          have g46 : 1 ≤ A46 0 8 := by rw [e46, e1]; exact g
          have e2 := X_wd g46 hwd
          rcases h3 with ⟨_, h3⟩ | ⟨c, _⟩
          · refine f5 A51 ?_ h3
            rw [e51, e2]; exact g46
          · rw [e2] at c; omega
        have sp : ∀ p, sBar f N T p = (sAsk f N T 1 p).bind fun a => if T 10 a.1.toNat = 0 then none else (sOwn f N 15 a.2).bind fun e => (sTestN f N 8 T e).bind fun b => some (sBarAdd b.1 a.1 (T 19 2) (b.1 19 2), b.2) := fun _ => rfl
        rw [sp]
        have d4 : (∀ c, sAsk f N T 1 (tEnd f N p) = some c → ¬ T 10 c.1.toNat = 0) → d_X12_barring_4 z14 A u A9 → MTb f N b p ((sAsk f N T 1 (tEnd f N p)).bind fun a => if T 10 a.1.toNat = 0 then none else (sOwn f N 15 a.2).bind fun e => (sTestN f N 8 T e).bind fun b => some (sBarAdd b.1 a.1 (T 19 2) (b.1 19 2), b.2)) u := by
          intro hs h3
          obtain ⟨_, z41, A42, hk, A46, e46, A47, hwd, A51, e51, h3⟩ := (h3 : tr_d_X12_barring_4 z14 A u A9)
          rw [ix] at e46 e51
          obtain ⟨m, q42⟩ := M_ask_1 s9 n1 hk
          have e468 : A46 0 8 = A42 0 8 := by rw [e46]; rfl
          have e518 : A51 0 8 = A47 0 8 := by rw [e51]; rfl
          have f47 : 1 ≤ A47 0 8 → 1 ≤ u 0 8 := by
            intro g
            rcases h3 with ⟨_, h3⟩ | ⟨c, _⟩
            · exact f5 A51 (by omega) h3
            · omega
          rcases m with ⟨m8, a, sa, hz41, s42⟩ | ⟨m8, mb⟩
          · rw [sa]
            show MTb f N b p (if T 10 a.1.toNat = 0 then none else (sOwn f N 15 a.2).bind fun e => (sTestN f N 8 T e).bind fun b => some (sBarAdd b.1 a.1 (T 19 2) (b.1 19 2), b.2)) u
            rw [if_neg (hs a sa)]
            have s46 : MS f N b a.2 A46 := by rw [e46]; exact s42.fr rfl (fun k _ => rfl)
            obtain ⟨m1, q47⟩ := M_wd (k := 15) (by decide) rfl s46 hwd
            rcases m1 with ⟨m18, e, se, s47⟩ | ⟨m18, mb1⟩
            · rw [se]
              show MTb f N b p ((sTestN f N 8 T e).bind fun b => some (sBarAdd b.1 a.1 (T 19 2) (b.1 19 2), b.2)) u
              have s51 : MS f N b e A51 := by rw [e51]; exact s47.fr rfl (fun k _ => rfl)
              have pa : tEnd f N p ≤ a.2 := by rw [pos_ask sa]; exact tEnd_ge
              have pe : a.2 + 1 ≤ e := pos_own (s46.le) se
              have pp : p ≤ tEnd f N p := tEnd_ge
              rcases h3 with ⟨c, _⟩ | ⟨_, A71, hre, h3⟩
              · exact absurd m18 c
              · have q71 : rr A71 A51 := by
                  intro j h0 h30
                  refine hre.2.2.1.1 j h0 ?_
                  rcases (show j = 1 ∨ j = 2 ∨ j = 3 ∨ j = 4 ∨ j = 5 ∨ j = 6 ∨ j = 7 ∨ j = 8 ∨ j = 9 ∨ j = 10 ∨ j = 11 ∨ j = 12 ∨ j = 13 ∨ j = 14 ∨ j = 15 ∨ j = 16 ∨ j = 17 ∨ j = 18 ∨ j = 19 ∨ j = 20 ∨ j = 21 ∨ j = 22 ∨ j = 23 ∨ j = 24 ∨ j = 25 ∨ j = 26 ∨ j = 27 ∨ j = 28 ∨ j = 29 ∨ j = 30 by omega) with rfl | rfl | rfl | rfl | rfl | rfl | rfl | rfl | rfl | rfl | rfl | rfl | rfl | rfl | rfl | rfl | rfl | rfl | rfl | rfl | rfl | rfl | rfl | rfl | rfl | rfl | rfl | rfl | rfl | rfl <;> rfl
                obtain ⟨_, A80, e80, h3⟩ := (h3 : tr_d_X12_barring_5 z14 A u A71)
                rw [ix] at e80
                rw [eb] at h3
                rcases M_reads (T := T) s51 (by omega) (by omega) hre with ⟨f1, bd⟩ | ⟨f1, c, sc, s71, lc, cd⟩
                · refine Or.inr ⟨?_, bd.bd (fun c hc => bad_some hc)⟩
                  rcases h3 with ⟨_, hu⟩ | ⟨c, _⟩
                  · rw [hu, e80]; exact f1
                  · omega
                · rcases h3 with ⟨c, _⟩ | ⟨_, z97, hz97, A98, e98, hu⟩
                  · exact absurd f1 c
                  · have q46 : rr A46 (stA A 30 (6 * b + n) a.1) := by rw [e46, hz41]; exact (q42.trans q9).rr.st
                    have q80 : rr A80 (stA A 30 (6 * b + n) a.1) := by
                      rw [e80]
                      refine rr.so (q71.trans ?_) (by decide)
                      rw [e51]
                      exact rr.so (q47.rr.trans q46) (by decide)
                    have e97 : z97 = (n : Int) := by
                      rw [hz97, q80 29 (by decide) (by decide)]
                      exact hct.trans hn
                    rw [sc]
                    have kp := KS_testN (f := f) (N := N) 8 T e c sc
                    have hn' : c.1 1 7 = (n : Int) := by rw [kp 1 (by decide) (by decide)]; exact hn
                    refine Or.inl ⟨by rw [hu, e98, e80]; exact f1, (sBarAdd c.1 a.1 (T 19 2) (c.1 19 2), c.2), rfl, ?_, ?_, cd, by show p ≤ c.2; omega⟩
                    · refine (MR_bar (hR.keep kp) hn').rr ?_
                      rw [hu, e98, e97]
                      exact q80.st
                    · rw [hu, e98, e80]
                      exact s71.fr rfl (fun k _ => rfl)
            · exact Or.inr ⟨f47 m18, mb1.bd (fun c hc => by rw [(Sim_testN (f := f) (N := N) (b := b) (u := u) 8).1 T c hc]; exact Or.inl rfl)⟩
          · have g46 : 1 ≤ A46 0 8 := by omega
            have e2 := X_wd g46 hwd
            refine Or.inr ⟨f47 (by rw [e2]; exact g46), mb.bd (fun c hc => ?_)⟩
            by_cases g : T 10 c.1.toNat = 0
            · rw [if_pos g]; exact Or.inl rfl
            · rw [if_neg g, bad_own hc]; exact Or.inl rfl
        have d3 : sAsk f N T 1 (tEnd f N p) = none → d_X12_barring_3 z14 A A9 u (-1) → MTb f N b p ((sAsk f N T 1 (tEnd f N p)).bind fun a => if T 10 a.1.toNat = 0 then none else (sOwn f N 15 a.2).bind fun e => (sTestN f N 8 T e).bind fun b => some (sBarAdd b.1 a.1 (T 19 2) (b.1 19 2), b.2)) u := by
          intro hs h3
          obtain ⟨_, h3⟩ := (h3 : tr_d_X12_barring_3 z14 A A9 u (-1))
          rcases h3 with ⟨_, h3⟩ | ⟨c, _⟩
          · exact d4 (fun c sc => by rw [hs] at sc; exact absurd sc (by simp)) h3
          · exact absurd rfl c
        rcases pre_1 (P0 := d_X12_barring_2 z14 A A9 u) (P := fun v => d_X12_barring_3 z14 A A9 u v) s9 n1 h2 with ⟨hs, h3⟩ | ⟨v, v1, vb, hs, _, _, _, h3⟩
        · rcases h3 with h3 | h3
          · exact d3 hs h3
          · exact d3 hs h3
        · obtain ⟨_, h3⟩ := (h3 : tr_d_X12_barring_3 z14 A A9 u v)
          rcases h3 with ⟨c, _⟩ | ⟨_, z33, hz33, h3⟩
          · exact absurd c v1
          · have ix2 : (10 * A 0 47 + v).toNat = 10 * b + v.toNat := by rw [hb]; omega
            have kb := hR.2.2.2.1 v.toNat (by omega)
            rw [ix2, q9 8 (by decide)] at hz33
            rw [← hz33] at kb
            rcases h3 with ⟨c2, h3⟩ | ⟨c2, A35, hbl, h3⟩
            · refine d4 (fun c sc => ?_) h3
              rw [hs] at sc
              have sc := Option.some.inj sc
              rw [← sc]
              exact kb.mp c2
            · refine Or.inr ⟨f4 A35 hbl.2.2.2 h3, Or.inl ?_⟩
              rw [hs]
              show (if T 10 v.toNat = 0 then none else _) = none
              by_cases g : T 10 v.toNat = 0
              · rw [if_pos g]
              · exact absurd (kb.mpr g) c2
      · exact absurd g c1
    · rcases g with ⟨g, _⟩ | ⟨_, g8, g⟩
      · omega
      · refine Or.inr ⟨g8, ?_⟩
        by_cases lt : T 1 7 < 6
        · rw [if_pos lt]
          rcases g with g | g
          · exact absurd (hx.mpr lt) g
          · exact Or.inl (bad_Bar g)
        · rw [if_neg lt]
          exact Or.inl rfl
  rcases h2 with ⟨c, h2⟩ | ⟨c, h2⟩
  · exact d1 0 ⟨fun _ => by omega, fun _ => rfl⟩ h2
  · exact d1 1 ⟨fun g => absurd g (by decide), fun g => by omega⟩ h2
/-! The reference's statement, and its town. -/
theorem adv_Place {f : Nat → Int} {N p : Nat} {T : St} {a : St × Nat} (h : sPlace f N T p = some a) : a.1 19 = T 19 ∧ p ≤ a.2 := by
  have g1 := tEnd_ge (f := f) (N := N) (p := p)
  obtain ⟨c, hc, e⟩ := Option.bind_eq_some_iff.mp h
  rw [← Option.some.inj e]
  exact ⟨rfl, by show p ≤ c.2; rw [pos_new hc]; exact g1⟩
theorem adv_Key {f : Nat → Int} {N p : Nat} {T : St} {a : St × Nat} (h : sKey f N T p = some a) : a.1 19 = T 19 ∧ p ≤ a.2 := by
  have g1 := tEnd_ge (f := f) (N := N) (p := p)
  obtain ⟨c, hc, e⟩ := Option.bind_eq_some_iff.mp h
  obtain ⟨d, hd, e⟩ := Option.bind_eq_some_iff.mp e
  obtain ⟨k, hk, e⟩ := Option.bind_eq_some_iff.mp e
  rw [← Option.some.inj e]
  refine ⟨rfl, ?_⟩
  show p ≤ k.2
  have h1 := pos_new hc
  have h2 := pos_own0 hd
  have h3 := pos_spot hk
  have g2 := tEnd_ge (f := f) (N := N) (p := c.2)
  have g3 := tEnd_ge (f := f) (N := N) (p := d)
  omega
theorem adv_Thing {f : Nat → Int} {N p : Nat} {T : St} {a : St × Nat} (h : sThing f N T p = some a) : a.1 19 = T 19 ∧ p ≤ a.2 := by
  have g1 := tEnd_ge (f := f) (N := N) (p := p)
  obtain ⟨c, hc, e⟩ := Option.bind_eq_some_iff.mp h
  obtain ⟨d, hd, e⟩ := Option.bind_eq_some_iff.mp e
  obtain ⟨k, hk, e⟩ := Option.bind_eq_some_iff.mp e
  rw [← Option.some.inj e]
  refine ⟨rfl, ?_⟩
  show p ≤ k.2
  have h1 := pos_new hc
  have h2 := pos_own0 hd
  have h3 := pos_spot hk
  have g2 := tEnd_ge (f := f) (N := N) (p := c.2)
  have g3 := tEnd_ge (f := f) (N := N) (p := d)
  omega
theorem adv_Box {f : Nat → Int} {N p : Nat} {T : St} {a : St × Nat} (h : sBox f N T p = some a) : a.1 19 = T 19 ∧ p ≤ a.2 := by
  have g1 := tEnd_ge (f := f) (N := N) (p := p)
  obtain ⟨c, hc, e⟩ := Option.bind_eq_some_iff.mp h
  obtain ⟨d, hd, e⟩ := Option.bind_eq_some_iff.mp e
  obtain ⟨k, hk, e⟩ := Option.bind_eq_some_iff.mp e
  rw [← Option.some.inj e]
  refine ⟨rfl, ?_⟩
  show p ≤ k.2
  have h1 := pos_new hc
  have h2 := pos_own0 hd
  have h3 := pos_ask hk
  have g2 := tEnd_ge (f := f) (N := N) (p := c.2)
  have g3 := tEnd_ge (f := f) (N := N) (p := d)
  omega
theorem adv_Person {f : Nat → Int} {N p : Nat} {T : St} {a : St × Nat} (h : sPerson f N T p = some a) : a.1 19 = T 19 ∧ p ≤ a.2 := by
  have g1 := tEnd_ge (f := f) (N := N) (p := p)
  obtain ⟨c, hc, e⟩ := Option.bind_eq_some_iff.mp h
  obtain ⟨d, hd, e⟩ := Option.bind_eq_some_iff.mp e
  obtain ⟨k, hk, e⟩ := Option.bind_eq_some_iff.mp e
  rw [← Option.some.inj e]
  refine ⟨rfl, ?_⟩
  show p ≤ k.2
  have h1 := pos_new hc
  have h2 := pos_own0 hd
  have h3 := pos_ask hk
  have g2 := tEnd_ge (f := f) (N := N) (p := c.2)
  have g3 := tEnd_ge (f := f) (N := N) (p := d)
  omega
theorem adv_Must {f : Nat → Int} {N p : Nat} {T : St} {a : St × Nat} (h : sMust f N T p = some a) : a.1 19 = T 19 ∧ p ≤ a.2 := by
  have g1 := tEnd_ge (f := f) (N := N) (p := p)
  obtain ⟨c, hc, e⟩ := Option.bind_eq_some_iff.mp h
  obtain ⟨d, hd, e⟩ := Option.bind_eq_some_iff.mp e
  obtain ⟨k, hk, e⟩ := Option.bind_eq_some_iff.mp e
  rw [← Option.some.inj e]
  refine ⟨rfl, ?_⟩
  show p ≤ k.2
  have h1 := pos_ask hc
  have h2 := pos_num hd
  have h3 := pos_num hk
  have g2 := tEnd_ge (f := f) (N := N) (p := c.2)
  have g3 := tEnd_ge (f := f) (N := N) (p := d.2)
  omega
theorem adv_Door {f : Nat → Int} {N p : Nat} {T : St} {a : St × Nat} (h : sDoor f N T p = some a) : a.1 19 = T 19 ∧ p ≤ a.2 := by
  have g1 := tEnd_ge (f := f) (N := N) (p := p)
  obtain ⟨c, hc, e⟩ := Option.bind_eq_some_iff.mp h
  obtain ⟨d, hd, e⟩ := Option.bind_eq_some_iff.mp e
  obtain ⟨k, hk, e⟩ := Option.bind_eq_some_iff.mp e
  by_cases g : k.1 = d.1
  · rw [if_pos g] at e; exact absurd e (by simp)
  · rw [if_neg g] at e
    obtain ⟨m, hm, e⟩ := Option.bind_eq_some_iff.mp e
    rw [← Option.some.inj e]
    refine ⟨rfl, ?_⟩
    show p ≤ m.2
    have h1 := pos_new hc
    have h2 := pos_ask hd
    have h3 := pos_ask hk
    have h4 := pos_num hm
    have g2 := tEnd_ge (f := f) (N := N) (p := c.2)
    have g3 := tEnd_ge (f := f) (N := N) (p := d.2)
    have g4 := tEnd_ge (f := f) (N := N) (p := k.2)
    omega
theorem adv_Has {f : Nat → Int} {N p : Nat} {T : St} {a : St × Nat} (h : sHas f N T p = some a) : a.1 19 = T 19 ∧ p ≤ a.2 := by
  have g1 := tEnd_ge (f := f) (N := N) (p := p)
  obtain ⟨c, hc, e⟩ := Option.bind_eq_some_iff.mp h
  obtain ⟨d, hd, e⟩ := Option.bind_eq_some_iff.mp e
  by_cases g : 10 ≤ T 24 d.1.toNat
  · rw [if_pos g] at e
    rw [← Option.some.inj e]
    refine ⟨rfl, ?_⟩
    show p ≤ d.2
    have h1 := pos_ask hc
    have h2 := pos_ask hd
    have g2 := tEnd_ge (f := f) (N := N) (p := c.2)
    omega
  · rw [if_neg g] at e; exact absurd e (by simp)
theorem adv_Lost {f : Nat → Int} {N p : Nat} {T : St} {a : St × Nat} (h : sLost f N T p = some a) : a.1 19 = T 19 ∧ p ≤ a.2 := by
  have g1 := tEnd_ge (f := f) (N := N) (p := p)
  obtain ⟨c, hc, e⟩ := Option.bind_eq_some_iff.mp h
  by_cases g : oAnd (oShr (T 0 15) c.1) 1 = 0
  · rw [if_pos g] at e
    rw [← Option.some.inj e]
    exact ⟨rfl, by show p ≤ c.2; rw [pos_ask hc]; exact g1⟩
  · rw [if_neg g] at e; exact absurd e (by simp)
theorem adv_Shut {f : Nat → Int} {N p : Nat} {T : St} {a : St × Nat} (h : sShut f N T p = some a) : a.1 19 = T 19 ∧ p ≤ a.2 := by
  have g1 := tEnd_ge (f := f) (N := N) (p := p)
  obtain ⟨c, hc, e⟩ := Option.bind_eq_some_iff.mp h
  obtain ⟨d, hd, e⟩ := Option.bind_eq_some_iff.mp e
  obtain ⟨k, hk, e⟩ := Option.bind_eq_some_iff.mp e
  obtain ⟨t, ht, e⟩ := Option.bind_eq_some_iff.mp e
  rw [← Option.some.inj e]
  refine ⟨?_, ?_⟩
  · show t 19 = T 19
    unfold sPush at ht
    split at ht
    · rw [← Option.some.inj ht, stA_ne _ _ (by decide), stA_ne _ _ (by omega)]
    · exact absurd ht (by simp)
  · show p ≤ k.2
    have h1 := pos_ask hc
    have h2 := pos_own0 hd
    have h3 := pos_ask hk
    have g2 := tEnd_ge (f := f) (N := N) (p := c.2)
    have g3 := tEnd_ge (f := f) (N := N) (p := d)
    omega
theorem adv_Wants {f : Nat → Int} {N p : Nat} {T : St} {a : St × Nat} (h : sWants f N T p = some a) : a.1 19 = T 19 ∧ p ≤ a.2 := by
  have g1 := tEnd_ge (f := f) (N := N) (p := p)
  obtain ⟨c, hc, e⟩ := Option.bind_eq_some_iff.mp h
  by_cases g : bc (T 12 c.1.toNat) < 2
  · rw [if_pos g] at e
    obtain ⟨d, hd, e⟩ := Option.bind_eq_some_iff.mp e
    by_cases g2 : oAnd (oShr (T 12 c.1.toNat) d.1) 1 = 0
    · rw [if_pos g2] at e
      rw [← Option.some.inj e]
      refine ⟨rfl, ?_⟩
      show p ≤ d.2
      have h1 := pos_ask hc
      have h2 := pos_ask hd
      have g2 := tEnd_ge (f := f) (N := N) (p := c.2)
      omega
    · rw [if_neg g2] at e; exact absurd e (by simp)
  · rw [if_neg g] at e; exact absurd e (by simp)
theorem MT.tb {f : Nat → Int} {N b p : Nat} {T u : St} {r : Option (St × Nat)} (h : MT f N b r u) (ha : ∀ a, r = some a → a.1 19 = T 19 ∧ p ≤ a.2) (hT : T 19 2 ≤ (p : Int)) : MTb f N b p r u := by
  rcases h with ⟨h8, a, hr, hm, hs⟩ | h
  · have g := ha a hr
    exact Or.inl ⟨h8, a, hr, hm, hs, by rw [g.1]; omega, g.2⟩
  · exact Or.inr h
theorem adv_if {p q : Nat} {T : St} {r : Option (St × Nat)} {c : Prop} [Decidable c] (h : ∀ a, r = some a → a.1 19 = T 19 ∧ q ≤ a.2) (hq : p ≤ q) : ∀ a, (if c then r else none) = some a → a.1 19 = T 19 ∧ p ≤ a.2 := by
  intro a ha
  by_cases g : c
  · rw [if_pos g] at ha
    have := h a ha
    exact ⟨this.1, by omega⟩
  · rw [if_neg g] at ha; exact absurd ha (by simp)
/-- a statement with its end -/
def sSt (f : Nat → Int) (N : Nat) (T : St) (p : Nat) : Option (St × Nat) := (sStmt f N T p).bind fun a => (sSign f N 59 a.2).bind fun e => some (a.1, e)
theorem M_stmt1 {f : Nat → Int} {N b p : Nat} {A u T : St} {r : Option (St × Nat)} (h : MTb f N b p r A) (hq : d_X12_statement_1 u A) : MTb f N b (p + 1) (r.bind fun a => (sSign f N 59 a.2).bind fun e => some (a.1, e)) u := by
  obtain ⟨_, hq⟩ := (hq : tr_d_X12_statement_1 u A)
  rcases h with ⟨h8, a, hr, hm, hs, hc, hpa⟩ | ⟨h8, bd⟩
  · rw [hr]
    show MTb f N b (p + 1) ((sSign f N 59 a.2).bind fun e => some (a.1, e)) u
    rcases hq with ⟨c, _⟩ | ⟨_, A62, hmu, hu⟩
    · exact absurd h8 c
    · rw [hu]
      obtain ⟨m, q⟩ := M_sign hs hmu
      rcases m with ⟨m8, e, se, ms⟩ | ⟨m8, mb⟩
      · have pe := pos_sign hs.le se
        rw [se]
        exact Or.inl ⟨m8, (a.1, e), rfl, hm.rq q, ms, by show a.1 19 2 ≤ (e : Int); omega, by show p + 1 ≤ e; omega⟩
      · exact Or.inr ⟨m8, mb.bd (fun c hc => Or.inr ⟨(a.1, c), rfl, hc⟩)⟩
  · refine Or.inr ⟨?_, bd.bd (fun a ha => by rw [bad_sign ha]; exact Or.inl rfl)⟩
    rcases hq with ⟨_, hu⟩ | ⟨c, _⟩
    · rw [hu]; exact h8
    · omega
theorem M_statement {f : Nat → Int} {N b p : Nat} {A u T : St} (hI : IM A) (h : MS f N b p A) (hR : MR b A T) (hT : T 19 2 ≤ (p : Int)) (hq : q_X12_statement A u) : MTb f N b (p + 1) (sSt f N T p) u := by
  have gp : p ≤ tEnd f N p := tEnd_ge
  unfold sSt
  have oth : ∀ B : St, (∀ k, k < 12 → (k < 5 ∨ k = 9) → ¬ tow f N p k) → q_X12_others A B → MTb f N b p (sStmt f N T p) B := by
    intro B hno hq
    obtain ⟨z0, i0, h2⟩ := (hq.1 : tr_r_X12_others A B)
    have i0 := h.isW (WR_own10 : WR 1936225652 677139) i0
    rcases h2 with ⟨c0, z1, i1, h2⟩ | ⟨c0, C, hs, hu⟩
    rotate_left
    · rcases i0 with ⟨_, g⟩ | ⟨g, _⟩
      · rw [hu, sStmt_10 g.1 g.2]
        exact (M_shut hI h hR hs).tb (fun a ha => ⟨(adv_Shut ha).1, Nat.le_trans gp (adv_Shut ha).2⟩) hT
      · exact absurd g c0
    have n0 : ¬ tow f N p 10 := by
      rcases i0 with ⟨g, _⟩ | ⟨_, g⟩
      · exact absurd (g.symm.trans c0) (by decide)
      · exact g
    have i1 := h.isW (WR_own11 : WR 1819243380 675308) i1
    rcases h2 with ⟨c1, z2, i2, h2⟩ | ⟨c1, C, hs, hu⟩
    rotate_left
    · rcases i1 with ⟨_, g⟩ | ⟨g, _⟩
      · rw [hu, sStmt_11 g.1 g.2]
        exact (M_lost hI h hR hs).tb (fun a ha => ⟨(adv_Lost ha).1, Nat.le_trans gp (adv_Lost ha).2⟩) hT
      · exact absurd g c1
    have n1 : ¬ tow f N p 11 := by
      rcases i1 with ⟨g, _⟩ | ⟨_, g⟩
      · exact absurd (g.symm.trans c1) (by decide)
      · exact g
    have i2 := h.isW (WR_own5 : WR 499967946343 7808276) i2
    rcases h2 with ⟨c2, z3, i3, h2⟩ | ⟨c2, C, hs, hu⟩
    rotate_left
    · rcases i2 with ⟨_, g⟩ | ⟨g, _⟩
      · rw [hu, sStmt_5 g.1 g.2]
        exact (M_thing hI h hR hs).tb (adv_if (fun a ha => adv_Thing ha) gp) hT
      · exact absurd g c2
    have n2 : ¬ tow f N p 5 := by
      rcases i2 with ⟨g, _⟩ | ⟨_, g⟩
      · exact absurd (g.symm.trans c2) (by decide)
      · exact g
    have i3 := h.isW (WR_own6 : WR 512735736947 20592695) i3
    rcases h2 with ⟨c3, z4, i4, h2⟩ | ⟨c3, C, hs, hu⟩
    rotate_left
    · rcases i3 with ⟨_, g⟩ | ⟨g, _⟩
      · rw [hu, sStmt_6 g.1 g.2]
        exact (M_wants hI h hR hs).tb (adv_if (fun a ha => adv_Wants ha) gp) hT
      · exact absurd g c3
    have n3 : ¬ tow f N p 6 := by
      rcases i3 with ⟨g, _⟩ | ⟨_, g⟩
      · exact absurd (g.symm.trans c3) (by decide)
      · exact g
    have i4 := h.isW (WR_own7 : WR 1836413812 675501) i4
    rcases h2 with ⟨c4, z5, i5, h2⟩ | ⟨c4, C, hs, hu⟩
    rotate_left
    · rcases i4 with ⟨_, g⟩ | ⟨g, _⟩
      · rw [hu, sStmt_7 g.1 g.2]
        exact (M_must hI h hR hs).tb (adv_if (fun a ha => adv_Must ha) gp) hT
      · exact absurd g c4
    have n4 : ¬ tow f N p 7 := by
      rcases i4 with ⟨g, _⟩ | ⟨_, g⟩
      · exact absurd (g.symm.trans c4) (by decide)
      · exact g
    have i5 := h.isW (WR_own8 : WR 6447474 18466) i5
    rcases h2 with ⟨c5, C, hs, hu⟩ | ⟨c5, C, hs, hu⟩
    rotate_left
    · rcases i5 with ⟨_, g⟩ | ⟨g, _⟩
      · rw [hu, sStmt_8 g.1 g.2]
        exact M_bar hI h hR hT hs
      · exact absurd g c5
    have n5 : ¬ tow f N p 8 := by
      rcases i5 with ⟨g, _⟩ | ⟨_, g⟩
      · exact absurd (g.symm.trans c5) (by decide)
      · exact g
    refine Or.inr ⟨by rw [hu]; exact hs.2.2.2, Or.inl (sStmt_none ?_)⟩
    by_cases tk : tKind f N p = 1
    · refine Or.inr (Or.inl (fun k hk e => ?_))
      have ht : tow f N p k := ⟨tk, e⟩
      by_cases g : k < 5 ∨ k = 9
      · exact hno k hk g ht
      · rcases (show k = 10 ∨ k = 11 ∨ k = 5 ∨ k = 6 ∨ k = 7 ∨ k = 8 by omega) with rfl | rfl | rfl | rfl | rfl | rfl
        · exact n0 ht
        · exact n1 ht
        · exact n2 ht
        · exact n3 ht
        · exact n4 ht
        · exact n5 ht
    · exact Or.inl tk
  obtain ⟨z0, i0, h2⟩ := (hq.1 : tr_r_X12_statement A u)
  have i0 := h.isW (WR_own0 : WR 482854658917 5342608) i0
  rcases h2 with ⟨c0, z1, i1, h2⟩ | ⟨c0, C, hs, h3⟩
  rotate_left
  · rcases i0 with ⟨_, g⟩ | ⟨g, _⟩
    · rw [sStmt_0 g.1 g.2]
      exact M_stmt1 (T := T) ((M_place hI h hR hs).tb (adv_if (fun a ha => adv_Place ha) gp) hT) h3
    · exact absurd g c0
  have n0 : ¬ tow f N p 0 := by
    rcases i0 with ⟨g, _⟩ | ⟨_, g⟩
    · exact absurd (g.symm.trans c0) (by decide)
    · exact g
  have i1 := h.isW (WR_own1 : WR 1685024626 605668) i1
  rcases h2 with ⟨c1, z2, i2, h2⟩ | ⟨c1, C, hs, h3⟩
  rotate_left
  · rcases i1 with ⟨_, g⟩ | ⟨g, _⟩
    · rw [sStmt_1 g.1 g.2]
      exact M_stmt1 (T := T) ((M_door hI h hR hs).tb (adv_if (fun a ha => adv_Door ha) gp) hT) h3
    · exact absurd g c1
  have n1 : ¬ tow f N p 1 := by
    rcases i1 with ⟨g, _⟩ | ⟨_, g⟩
    · exact absurd (g.symm.trans c1) (by decide)
    · exact g
  have i2 := h.isW (WR_own2 : WR 6451064 25058) i2
  rcases h2 with ⟨c2, z3, i3, h2⟩ | ⟨c2, C, hs, h3⟩
  rotate_left
  · rcases i2 with ⟨_, g⟩ | ⟨g, _⟩
    · rw [sStmt_2 g.1 g.2]
      exact M_stmt1 (T := T) ((M_box hI h hR hs).tb (adv_if (fun a ha => adv_Box ha) gp) hT) h3
    · exact absurd g c2
  have n2 : ¬ tow f N p 2 := by
    rcases i2 with ⟨g, _⟩ | ⟨_, g⟩
    · exact absurd (g.symm.trans c2) (by decide)
    · exact g
  have i3 := h.isW (WR_own3 : WR 7038329 25771) i3
  rcases h2 with ⟨c3, z4, i4, h2⟩ | ⟨c3, C, hs, h3⟩
  rotate_left
  · rcases i3 with ⟨_, g⟩ | ⟨g, _⟩
    · rw [sStmt_3 g.1 g.2]
      exact M_stmt1 (T := T) ((M_key hI h hR hs).tb (adv_if (fun a ha => adv_Key ha) gp) hT) h3
    · exact absurd g c3
  have n3 : ¬ tow f N p 3 := by
    rcases i3 with ⟨g, _⟩ | ⟨_, g⟩
    · exact absurd (g.symm.trans c3) (by decide)
    · exact g
  have i4 := h.isW (WR_own4 : WR 123581014175598 486131888) i4
  rcases h2 with ⟨c4, z5, i5, h2⟩ | ⟨c4, C, hs, h3⟩
  rotate_left
  · rcases i4 with ⟨_, g⟩ | ⟨g, _⟩
    · rw [sStmt_4 g.1 g.2]
      exact M_stmt1 (T := T) ((M_person hI h hR hs).tb (adv_if (fun a ha => adv_Person ha) gp) hT) h3
    · exact absurd g c4
  have n4 : ¬ tow f N p 4 := by
    rcases i4 with ⟨g, _⟩ | ⟨_, g⟩
    · exact absurd (g.symm.trans c4) (by decide)
    · exact g
  have i5 := h.isW (WR_own9 : WR 6840691 19496) i5
  rcases h2 with ⟨c5, C, hs, h3⟩ | ⟨c5, C, hs, h3⟩
  rotate_left
  · rcases i5 with ⟨_, g⟩ | ⟨g, _⟩
    · rw [sStmt_9 g.1 g.2]
      exact M_stmt1 (T := T) ((M_has h hR hs).tb (fun a ha => ⟨(adv_Has ha).1, Nat.le_trans gp (adv_Has ha).2⟩) hT) h3
    · exact absurd g c5
  have n5 : ¬ tow f N p 9 := by
    rcases i5 with ⟨g, _⟩ | ⟨_, g⟩
    · exact absurd (g.symm.trans c5) (by decide)
    · exact g
  refine M_stmt1 (T := T) (oth C (fun k hk g ht => ?_) hs) h3
  rcases (show k = 0 ∨ k = 1 ∨ k = 2 ∨ k = 3 ∨ k = 4 ∨ k = 9 by omega) with rfl | rfl | rfl | rfl | rfl | rfl
  · exact n0 ht
  · exact n1 ht
  · exact n2 ht
  · exact n3 ht
  · exact n4 ht
  · exact n5 ht
/-! The reference's town. -/
theorem bad_stmt {f : Nat → Int} {N p : Nat} {T : St} (h : tKind f N p = 4) : sStmt f N T p = none := sStmt_none (Or.inl (by omega))
theorem bad_townL {f : Nat → Int} {N p n : Nat} {T : St} (h : tKind f N p = 4) : ∀ k, sTownL f N k n T p = none
  | 0 => rfl
  | k + 1 => by
    show (if tKind f N p = 0 then some (n, T) else (sStmt f N T p).bind fun a => (sSign f N 59 a.2).bind fun e => sTownL f N k (n + 1) a.1 e) = none
    rw [if_neg (by omega), bad_stmt h]
    rfl
theorem sTownL_st {f : Nat → Int} {N p n k : Nat} {T : St} (h : ¬ tKind f N p = 0) : sTownL f N (k + 1) n T p = (sSt f N T p).bind fun a => sTownL f N k (n + 1) a.1 a.2 := by
  show (if tKind f N p = 0 then some (n, T) else (sStmt f N T p).bind fun a => (sSign f N 59 a.2).bind fun e => sTownL f N k (n + 1) a.1 e) = _
  rw [if_neg h]
  unfold sSt
  simp only [Option.bind_assoc, Option.bind_some]
/-- the town's answer -/
def MX (b : Nat) (r : Option (Nat × St)) (z : Int) (u : St) : Prop := (∃ a, r = some a ∧ z = (a.1 : Int) ∧ MR b u a.2 ∧ u 0 12 = (b : Int)) ∨ (r = none ∧ z = -1)
theorem town2_f {A0 B u : St} {z i : Int} (h : 1 ≤ B 0 8) (hq : d_X12_town_2 i A0 B z u) : z = -1 := by
  rcases (hq : tr_d_X12_town_2 i A0 B z u) with ⟨c, _⟩ | ⟨_, A28, _, z29, A30, hr, hz, _⟩
  · omega
  · rw [hz]; exact hr.2.2.2
theorem town1_f {A0 B u : St} {z i : Int} {nn : Nat} (h : 1 ≤ B 0 8) (hq : d_X12_town_1 A0 z u nn i B) : z = -1 := by
  cases nn with
  | zero => exact hq.elim
  | succ nn =>
    obtain ⟨_, _, hq⟩ := (hq : tr_d_X12_town_1 A0 z u (fun z5 A7 => d_X12_town_1 A0 z u nn z5 A7) i B)
    rcases hq with ⟨_, hq⟩ | ⟨c, _⟩
    · exact town2_f h hq
    · omega
theorem M_townL {f : Nat → Int} {N b : Nat} {A0 u : St} {z : Int} (hb : -(A0 0 12) + 1 = (b : Int)) : ∀ (nn i : Nat) (A T : St) (p : Nat), MS f N b p A → MR b A T → T 19 2 ≤ (p : Int) → i ≤ p → d_X12_town_1 A0 z u nn (i : Int) A → MX b (sTownL f N (1601 - i) i T p) z u := by
  intro nn
  induction nn with
  | zero => intro i A T p _ _ _ _ hq; exact hq.elim
  | succ nn ih =>
    intro i A T p h hR hT hip hq
    have N16 : N ≤ 1600 := h.1.2.1
    have hpN := h.le
    obtain ⟨k, hk⟩ : ∃ k, 1601 - i = k + 1 := ⟨1600 - i, by omega⟩
    obtain ⟨hI, _, hq⟩ := (hq : tr_d_X12_town_1 A0 z u (fun z5 A7 => d_X12_town_1 A0 z u nn z5 A7) i A)
    rw [hk]
    rcases hq with ⟨c, _⟩ | ⟨_, hq⟩
    · exact absurd h.ns c
    · rcases hq with ⟨c0, hq⟩ | ⟨c0, A19, hst, z24, hz24, hq⟩
      · have tk : tKind f N p = 0 := by rw [← h.sg]; exact c0
        have e : sTownL f N (k + 1) i T p = some (i, T) := by
          show (if tKind f N p = 0 then some (i, T) else _) = _
          rw [if_pos tk]
        rw [e]
        rcases (hq : tr_d_X12_town_2 (i : Int) A0 A z u) with ⟨_, A27, e27, hz, hu⟩ | ⟨c, _⟩
        · refine Or.inl ⟨(i, T), rfl, hz, ?_, ?_⟩
          · refine hR.rq ?_
            rw [hu, e27]
            exact rq.rf.s0.s0.s0.s0
          · rw [hu, e27]
            exact hb
        · exact absurd (Int.le_of_eq h.ns) c
      · have tk : ¬ tKind f N p = 0 := by rw [← h.sg]; exact c0
        rw [sTownL_st tk]
        have e24 : z24 = ((i + 1 : Nat) : Int) := by
          rw [hz24]
          exact oWrap_id ⟨by omega, by omega⟩
        rcases M_statement hI h hR hT hst with ⟨_, a, sa, mr, ms, cd, pa⟩ | ⟨f1, bd⟩
        · rw [sa]
          show MX b (sTownL f N k (i + 1) a.1 a.2) z u
          rw [show k = 1601 - (i + 1) by omega]
          rw [e24] at hq
          exact ih (i + 1) A19 a.1 a.2 ms mr cd (by omega) hq
        · refine Or.inr ⟨?_, town1_f f1 hq⟩
          rcases bd with bd | ⟨a, ha, t4⟩
          · rw [bd]; rfl
          · rw [ha]; exact bad_townL t4 k
theorem MR_0 {b : Nat} {A T : St} (h : A 2 b = 0 ∧ A 4 b = 0 ∧ A 11 b = 0 ∧ A 16 b = 0 ∧ A 19 b = 0 ∧ A 22 b = 0 ∧ A 25 b = 0 ∧ A 29 b = 0) : MR b A (sClear T) := by
  have nk : ∀ (o : Nat) (g h : Nat → Int), NKx 0 o g h := fun o g h j hj => absurd hj (by omega)
  refine ⟨⟨⟨h.1, nk _ _ _⟩, ⟨h.2.1, nk _ _ _⟩, ⟨h.2.2.1, nk _ _ _⟩, ⟨h.2.2.2.1, nk _ _ _⟩, ⟨h.2.2.2.2.1, nk _ _ _⟩⟩, ⟨h.2.2.2.2.2.1, h.2.2.2.2.2.2.1, h.2.2.2.2.2.2.2⟩, fun w => Or.inl rfl, ?_, ?_, ⟨⟨(by decide : (0 : Int) ≤ 0), (by decide : (0 : Int) < 1024)⟩, ?_, ?_⟩, ⟨?_, ?_⟩, ?_, ?_, ?_, ?_, ?_⟩
  · intro k hk; exact absurd (show (k : Int) < 0 from hk) (by omega)
  · intro k hk; exact absurd (show (k : Int) < 0 from hk) (by omega)
  · intro k hk; exact absurd (show (k : Int) < 0 from hk) (by omega)
  · intro k _; show (0 : Nat).testBit k = false; exact Nat.zero_testBit k
  · intro k hk; exact absurd (show (k : Int) < 0 from hk) (by omega)
  · intro k hk _
    rcases (show k = 0 ∨ k = 1 ∨ k = 2 ∨ k = 3 by omega) with rfl | rfl | rfl | rfl <;> rfl
  · intro k hk; exact absurd (show (k : Int) < 0 from hk) (by omega)
  · intro k hk; exact absurd (show (k : Int) < 0 from hk) (by omega)
  · intro q hq
    have e : sClear T 12 q = 0 := by
      rcases (show q = 0 ∨ q = 1 ∨ q = 2 by omega) with rfl | rfl | rfl <;> rfl
    have b0 : bc 0 = 0 := by decide +kernel
    rw [e, b0]
    refine ⟨⟨by decide, by decide, by decide⟩, rfl, fun t _ => ⟨fun g => ?_, fun g => ?_⟩⟩
    · have g : (0 : Nat).testBit t = true := g
      rw [Nat.zero_testBit] at g
      exact absurd g (by decide)
    · obtain ⟨i, hi, _⟩ := g
      exact absurd (show (i : Int) < 0 from hi) (by omega)
  · intro k hk; exact absurd (show (k : Int) < 0 from hk) (by omega)
  · intro k hk; exact absurd (show (k : Int) < 0 from hk) (by omega)
theorem M_town {f : Nat → Int} {N b : Nat} {A u T : St} {z : Int} (hN : A 0 1 = (N : Int)) (h16 : N ≤ 1600) (hf : ∀ k, k < N → f k = A 1 k) (hb : -(A 0 12) + 1 = (b : Int)) (hb1 : b ≤ 1) (hq : q_X12_town A z u) : MX b (sTown f N T) z u := by
  obtain ⟨A1, e1, A2, ha, nn, hq⟩ := (hq.1 : tr_r_X12_town A z u)
  rw [hb, Int.toNat_natCast] at e1
  have hG : MG f N b 0 A1 := by
    rw [e1]
    exact ⟨⟨hN, h16, hf⟩, rfl, hb1, rfl, by omega, rfl⟩
  obtain ⟨mo, q⟩ := hG.ahead ha
  unfold sTown
  rcases mo with ⟨t4, f1⟩ | ⟨_, ms⟩
  · exact Or.inr ⟨bad_townL t4 1601, town1_f f1 hq⟩
  · have mr : MR b A2 (sClear T) := by
      refine MR.rq (MR_0 ?_) q
      rw [e1]
      exact ⟨up_same _ _ _, up_same _ _ _, up_same _ _ _, up_same _ _ _, up_same _ _ _, up_same _ _ _, up_same _ _ _, up_same _ _ _⟩
    exact M_townL hb nn 0 A2 (sClear T) 0 ms mr (by decide : (0 : Int) ≤ 0) (Nat.le_refl 0) hq
/-! Both tapes, and the town's answers. -/
theorem i2b_and (x : Int) : oI2b x % 256 = oAnd x 255 := by
  have e1 : oI2b x = (iI x).toInt.bmod 256 := by
    unfold oI2b
    rw [Int8.toInt_toInt32, Int32.toInt_toInt8]
  have e2 : (iI x &&& iI 255).toBitVec = (iI x).toBitVec &&& (iI 255).toBitVec := Int32.toBitVec_and _ _
  have n255 : (iI 255).toBitVec.toNat = 2 ^ 8 - 1 := by decide +kernel
  have e3 : oAnd x 255 = (((iI x).toBitVec.toNat % 256 : Nat) : Int) := by
    show (iI x &&& iI 255).toBitVec.toInt = _
    rw [BitVec.toInt_eq_toNat_cond, e2, BitVec.toNat_and, n255, Nat.and_two_pow_sub_one_eq_mod]
    have : (iI x).toBitVec.toNat % 2 ^ 8 < 256 := Nat.mod_lt _ (by decide)
    rw [if_pos (by omega)]
  have e4 : (iI x).toInt = (iI x).toBitVec.toInt := rfl
  have bm : ∀ a : Int, a.bmod 256 % 256 = a % 256 := by
    intro a
    show (if (a % ((256 : Nat) : Int)) < (((256 : Nat) : Int) + 1) / 2 then a % ((256 : Nat) : Int) else a % ((256 : Nat) : Int) - ((256 : Nat) : Int)) % 256 = a % 256
    split <;> omega
  rw [e1, bm, e3, e4, BitVec.toInt_eq_toNat_cond]
  split <;> omega
def TB (B A : St) : Prop := ∀ k : Nat, (k : Int) < A 0 1 → A 1 k = B 2 k % 256
def OW (B : St) : Prop := ∀ k : Nat, k < 26 → B 4 k = own5 k
theorem TB.fr {B A B2 A2 : St} (h : TB B A) (hb : ∀ k, B2 2 k = B 2 k) (ha : A2 1 = A 1) (hn : A2 0 1 ≤ A 0 1) : TB B2 A2 := by
  intro k hk
  rw [ha, hb]
  exact h k (by omega)
theorem put_eq {v : Int} {u1 u2 : St} : ∀ (n1 n2 : Nat) (s : Int) (B A : St), TB B A → B 1 1 = A 0 1 → 8 * B 1 1 + s ≤ 12792 → d_X7_put_1 v u1 n1 s B → d_X12_put_1 v u2 n2 s A → TB u1 u2 := by
  intro n1
  induction n1 with
  | zero => intro n2 s B A _ _ _ h _; exact h.elim
  | succ n1 ih =>
    intro n2 s B A hT he hb h1 h2
    cases n2 with
    | zero => exact h2.elim
    | succ n2 =>
      obtain ⟨_, _, h1⟩ := (h1 : tr_d_X7_put_1 v u1 (fun z1 A3 => d_X7_put_1 v u1 n1 z1 A3) s B)
      obtain ⟨hI, _, h2⟩ := (h2 : tr_d_X12_put_1 v u2 (fun z1 A3 => d_X12_put_1 v u2 n2 z1 A3) s A)
      have r1 : (0 : Int) ≤ A 0 1 := (hI 0 1).1
      rcases h1 with ⟨c, e1⟩ | ⟨c, h1⟩
      · rcases h2 with ⟨_, e2⟩ | ⟨c2, _⟩
        · rw [e1, e2]; exact hT
        · exact absurd c c2
      · rcases h2 with ⟨c2, _⟩ | ⟨_, z13, hz13, z14, hz14, A15, eA, h2⟩
        · exact absurd c2 c
        · rcases h1 with ⟨c3, _⟩ | ⟨_, z15, hz15, z16, hz16, A17, e17, A19, e19, h1⟩
          · omega
          · have hz : z14 = z16 % 256 := by rw [hz14, hz16, i2b_and, hz13, hz15]
            have b11 : A19 1 1 = B 1 1 + 1 := by rw [e19]; rfl
            have a01 : A15 0 1 = A 0 1 + 1 := by rw [eA]; rfl
            refine ih n2 (s - 8) A19 A15 ?_ (by rw [b11, a01, he]) (by rw [b11]; omega) h1 h2
            intro k hk
            rw [a01] at hk
            have ra : A15 1 = up (A 1) (A 0 1).toNat z14 := by rw [eA]; rfl
            have rb : A19 2 = up (B 2) (A 0 1).toNat z16 := by rw [e19, e17, he]; rfl
            rw [ra, rb]
            by_cases e : k = (A 0 1).toNat
            · rw [e, up_same, up_same]; exact hz
            · rw [up_ne _ _ e, up_ne _ _ e]
              exact hT k (by omega)
theorem feed_tb {x1 x2 x3 x4 x5 z1 z2 : Int} {B A u1 u2 : St} (hT : TB B A) (he : B 1 1 = A 0 1) (h1 : r_X11_feed x1 x2 x3 x4 x5 B z1 u1) (h2 : r_X12_feed x1 x2 x3 x4 x5 A z2 u2) : TB u1 u2 := by
  have one : ∀ {v : Int} {B A u1 u2 : St}, TB B A → B 1 1 = A 0 1 → B 1 1 + 4 ≤ 1600 → q_X7_put v B u1 → q_X12_put v A u2 → TB u1 u2 ∧ u1 1 1 = u2 0 1 ∧ u1 1 1 = B 1 1 + 4 := by
    intro v B A u1 u2 hT he hb h1 h2
    have g1 := h1.2.2.2
    have g2 := h2.2.2.2
    obtain ⟨n1, p1⟩ := (h1.1 : tr_r_X7_put v B u1)
    obtain ⟨n2, p2⟩ := (h2.1 : tr_r_X12_put v A u2)
    exact ⟨put_eq n1 n2 24 B A hT he (by omega) p1 p2, by omega, g1⟩
  obtain ⟨zr, hr, h1⟩ := (h1 : tr_r_X11_feed x1 x2 x3 x4 x5 B z1 u1)
  have g1 := hr.2.2.1
  have g0 := hr.2.2.2
  have gr := hr.2.1
  rcases h1 with ⟨c, B1, p1, B2, p2, B3, p3, B4, p4, B5, p5, _, e1⟩ | ⟨c, zq, Bq, hq, _, e1⟩
  · have room := g1 (by omega)
    rcases (h2 : tr_r_X12_feed x1 x2 x3 x4 x5 A z2 u2) with ⟨_, A1, r1, A2, r2, A3, r3, A4, r4, A5, r5, _, e2⟩ | ⟨c2, _⟩
    · obtain ⟨t1, f1, s1⟩ := one hT he (by omega) p1 r1
      obtain ⟨t2, f2, s2⟩ := one t1 f1 (by omega) p2 r2
      obtain ⟨t3, f3, s3⟩ := one t2 f2 (by omega) p3 r3
      obtain ⟨t4, f4, s4⟩ := one t3 f3 (by omega) p4 r4
      obtain ⟨t5, f5, s5⟩ := one t4 f4 (by omega) p5 r5
      rw [e1, e2]
      exact t5
    · exact absurd c2 (by omega)
  · have room := g0 c
    rcases (h2 : tr_r_X12_feed x1 x2 x3 x4 x5 A z2 u2) with ⟨c2, _⟩ | ⟨_, z17, A18, hf, _, e2⟩
    · exact absurd c2 (by omega)
    · rw [e1, e2]
      exact hT.fr (fun k => hq.2.2.1 2 k rfl rfl) (hf.2.2.1.1 1 (by decide) rfl) (Int.le_of_eq (hf.2.2.1.2 1 rfl))
