/-! The reference's facts against the class's. -/
def TQ (D : Nat) (A A' : St) : Prop := A' 0 53 = A 0 53 ∧ A' 0 54 = A 0 54 ∧ (∀ i, i < D → A' 35 i = A 35 i) ∧ ∀ i, i + 1 < D → A' 36 i = A 36 i ∧ A' 37 i = A 37 i
theorem TQ.rf {D : Nat} {A : St} : TQ D A A := ⟨rfl, rfl, fun _ _ => rfl, fun _ _ => ⟨rfl, rfl⟩⟩
theorem TQ.trans {D : Nat} {A B C : St} (h : TQ D A B) (g : TQ D B C) : TQ D A C := ⟨g.1.trans h.1, g.2.1.trans h.2.1, fun i hi => (g.2.2.1 i hi).trans (h.2.2.1 i hi), fun i hi => ⟨(g.2.2.2 i hi).1.trans (h.2.2.2 i hi).1, (g.2.2.2 i hi).2.trans (h.2.2.2 i hi).2⟩⟩
theorem TP.tq {D : Nat} {A A' : St} (h : TP D A A') : TQ D A A' := ⟨h.1, h.2.1, fun i hi => (h.2.2.1 i hi).1, fun i hi => ⟨(h.2.2.1 i (by omega)).2, h.2.2.2.1 i hi⟩⟩
def OutF (f : Nat → Int) (N b : Nat) (u : St) (D : Nat) (A T : St) (p q : Nat) (X : Nat → Prop) (r : Option (St × Nat)) : Prop := (1 ≤ u 0 8 ∧ Bad f N r) ∨ (∃ a A', r = some a ∧ MS f N b a.2 A' ∧ RN u A' ∧ A' 0 57 = 1 ∧ TQ D A A' ∧ A' 37 (D - 1) = 0 ∧ ¬ A' 36 (D - 1) = 0 ∧ (A' 36 (D - 1) < 2 → ¬ tari f N a.2) ∧ X a.2 ∧ q ≤ a.2 ∧ a.1 19 2 + (p : Int) ≤ T 19 2 + (a.2 : Int))
abbrev nao (f : Nat → Int) (N e : Nat) : Prop := ¬ tow f N e 17 ∧ ¬ tow f N e 16
def SimT (f : Nat → Int) (N b : Nat) (u : St) (o : Int) (S : PT) : Prop := (∀ T p, tKind f N p = 4 → S T p = none) ∧ ∀ (A T : St) (p D : Nat), MS f N b p A → RN u A → A 0 57 = 0 → A 0 53 = (D : Int) → 1 ≤ D → A 0 54 = o → (A 35 (D - 1) = 1 ∨ A 35 (D - 1) = 5) → ¬ A 37 (D - 1) = 0 → A 36 (D - 1) = 0 → T 19 2 ≤ (p : Int) → 1 ≤ p → OutF f N b u D A T p (p + 1) (nao f N) (S T p)
theorem sCmp_pos {f : Nat → Int} {N p : Nat} (h : tcmp f N p) : ∃ c, sCmp f N p = some (c, tEnd f N p) := by
  unfold sCmp
  rcases h with h | h | h
  · exact ⟨-9, by rw [sSign_pos h]⟩
  · refine ⟨-10, ?_⟩
    rw [sSign_neg (tsg_ne h (by decide)), sSign_pos h]
  · refine ⟨-11, ?_⟩
    rw [sSign_neg (tsg_ne h (by decide)), sSign_neg (tsg_ne h (by decide)), sSign_pos h]
theorem sCmp_neg {f : Nat → Int} {N p : Nat} (h : ¬ tcmp f N p) : sCmp f N p = none := by
  unfold sCmp
  rw [sSign_neg (fun g => h (Or.inl g)), sSign_neg (fun g => h (Or.inr (Or.inl g))), sSign_neg (fun g => h (Or.inr (Or.inr g)))]
theorem bad_cmp {f : Nat → Int} {N p : Nat} (h : tKind f N p = 4) : sCmp f N p = none := sCmp_neg (fun g => by rcases g with g | g | g <;> · have := g.1; omega)
theorem bad_factB {f : Nat → Int} {N n p : Nat} {S S2 : PT} {T : St} (hS : ∀ T p, tKind f N p = 4 → S T p = none) (h : tKind f N p = 4) : sFactB f N n S S2 T p = none := by
  unfold sFactB
  rw [bad_own h, bad_sign h]
  show ((S T p).bind _) = none
  rw [hS T p h]
  rfl
theorem Sim_factB {f : Nat → Int} {N b n : Nat} {u : St} {o : Int} {S S2 : PT} (hn : (n : Int) + o = 8) (hS : SimS f N b u o S) (hS2 : 0 < n → SimT f N b u (o + 1) S2) {A T : St} {p D : Nat} (h : MS f N b p A) (hr : RN u A) (h57 : A 0 57 = 0) (hD : A 0 53 = (D : Int)) (h1 : 1 ≤ D) (h54 : A 0 54 = o) (hk : A 35 (D - 1) = 1 ∨ A 35 (D - 1) = 5) (h37 : ¬ A 37 (D - 1) = 0) (h36 : A 36 (D - 1) = 0) (n18 : ¬ tow f N p 18) (hT : T 19 2 ≤ (p : Int)) (hp : 1 ≤ p) : OutF f N b u D A T p (p + 1) (fun _ => True) (sFactB f N n S S2 T p) := by
  have tb := tEnd_b (f := f) h.le
  have N16 : N ≤ 1600 := h.1.2.1
  have s49 : MS f N b p (stA A 37 (D - 1) 0) := h.fr rfl (fun _ _ => rfl)
  have fs : fst1 D A := ⟨hk, h37⟩
  by_cases y19 : tow f N p 19
  · obtain ⟨z, B, hq, h2⟩ := RN_op hr h57
    have lt := tb.2.2.2 (by have := y19.1; omega)
    unfold sFactB
    rw [sOwn_pos y19]
    obtain ⟨t, st, et⟩ := sAd2_ok (T := T) (e := tEnd f N p) (x := -5) (by omega)
    show OutF f N b u D A T p (p + 1) (fun _ => True) (sAd2 (some (T, tEnd f N p)) (-5))
    rw [st]
    rcases O_base h hD h1 hq with ⟨_, g, _⟩ | ⟨_, g, _⟩ | ⟨_, _, hz, a1, a2, a3, a4, a5, a6, a7⟩ | ⟨g, _⟩
    · exact absurd g n18
    · exact absurd g (tow_sg y19)
    · rcases h2 with ⟨c, e⟩ | ⟨c, hr2⟩
      · have g := a1.ff c
        exact Or.inl ⟨by rw [e]; exact g.2, Or.inr ⟨_, rfl, g.1⟩⟩
      · have r36 : stA B 0 57 z 36 = up (A 36) (D - 1) 2 := a6
        have r37 : stA B 0 57 z 37 = up (A 37) (D - 1) 0 := a7
        have r35 : stA B 0 57 z 35 = A 35 := a5
        refine Or.inr ⟨(t, tEnd f N p), stA B 0 57 z, rfl, (a1.nf c).fr rfl (fun k hk => st0_k (by decide) (by decide) hk), hr2, hz, ⟨a2, a3, fun i hi => by rw [r35], fun i hi => ?_⟩, by rw [r37, up_same], by rw [r36, up_same]; decide, fun g => ?_, trivial, by show p + 1 ≤ tEnd f N p; omega, by show t 19 2 + (p : Int) ≤ T 19 2 + (tEnd f N p : Int); omega⟩
        · rw [r36, r37, up_ne _ _ (by omega), up_ne _ _ (by omega)]
          exact ⟨rfl, rfl⟩
        · rw [r36, up_same] at g
          exact absurd g (by decide)
    · exact absurd y19 (g fs).2.2
  · by_cases y91 : tsg f N p 91
    · obtain ⟨z, B, hq, h2⟩ := RN_op hr h57
      have lt := tb.2.2.2 (by have := y91.1; omega)
      unfold sFactB
      rw [sOwn_neg y19, sSign_pos y91]
      show OutF f N b u D A T p (p + 1) (fun _ => True) (if n = 0 then none else (S2 T (tEnd f N p)).bind fun a => (sSign f N 93 a.2).bind fun p2 => some (a.1, p2))
      rcases O_base h hD h1 hq with ⟨_, g, _⟩ | ⟨_, _, hz, ho⟩ | ⟨_, g, _⟩ | ⟨g, _⟩
      · exact absurd y91 (tow_sg g)
      · have e57 : stA A 37 (D - 1) 0 0 57 = 0 := h57
        have e54 : stA A 37 (D - 1) 0 0 54 = o := h54
        rcases O_opens s49 hD ho with ⟨o8, f1⟩ | ⟨o8, op⟩
        · have o8 : o = 8 := by rw [← e54]; exact o8
          rw [if_pos (by omega)]
          refine Or.inl ⟨?_, Or.inl rfl⟩
          rcases h2 with ⟨_, e⟩ | ⟨c, _⟩
          · rw [e]; exact f1
          · omega
        · rw [e54] at o8
          rw [e54, e57] at op
          rw [if_neg (by omega)]
          have hS2 := hS2 (by omega)
          rcases h2 with ⟨c, e⟩ | ⟨c, hr2⟩
          · have g := op.1.ff c
            refine Or.inl ⟨by rw [e]; exact g.2, Or.inl ?_⟩
            rw [hS2.1 T _ g.1]
            rfl
          · have hop : OP f N b (tEnd f N p) D o 0 5 (stA A 37 (D - 1) 0) (stA B 0 57 z) := by
              obtain ⟨a1, a2, a3, a4, a5, a6, a7⟩ := op
              exact ⟨a1.fr rfl (fun k hk => st0_k (by decide) (by decide) hk), a2, a3, hz, a5, a6, a7⟩
            obtain ⟨B1, eB1⟩ : ∃ B1, B1 = stA B 0 57 z := ⟨_, rfl⟩
            have c1 : B1 0 8 = 0 := by rw [eB1]; exact c
            rw [← eB1] at hop hr2
            obtain ⟨a1, a2, a3, a4, a5, a6, a7⟩ := hop
            have ed : D + 1 - 1 = D := by omega
            have sd := hS2.2 B1 T (tEnd f N p) (D + 1) (a1.nf c1) hr2 a4 (by rw [a2]; rfl) (by omega) a3 (Or.inr (by rw [a5, ed, up_same])) (by rw [a7, ed, up_same]; decide) (by rw [a6, ed, up_same]) (by omega) (by omega)
            rcases sd with ⟨f1, bd⟩ | ⟨a, A2, sa, ms, hr3, m57, tq, m37, m36, m36t, na, q, cd⟩
            · exact Or.inl ⟨f1, bd.bd (fun c hc => by rw [bad_sign hc]; exact Or.inl rfl)⟩
            · rw [sa]
              show OutF f N b u D A T p (p + 1) (fun _ => True) ((sSign f N 93 a.2).bind fun p2 => some (a.1, p2))
              rw [ed] at m37 m36 m36t
              have tb2 := tEnd_b (f := f) ms.le
              have d2 : A2 0 53 = ((D + 1 : Nat) : Int) := by rw [tq.1, a2]; rfl
              have k5 : A2 35 D = 5 := by rw [tq.2.2.1 D (by omega), a5, up_same]
              obtain ⟨z3, C, hg, h3⟩ := RN_go hr3 (by rw [m57]; decide)
              have g8 : d_X12_goesOn_8 A2 z3 C 5 A2 := by
                rcases G_base (D := D + 1) ms d2 (by omega) hg with ⟨g1, g2, _⟩ | ⟨_, z2, hz2, g2⟩
                · rw [ed] at g1
                  exact absurd g2 (m36t g1)
                · rw [ed, k5] at hz2 g2
                  have e2 : z2 = 1 := by
                    rcases hz2 with ⟨g, _⟩ | ⟨_, g⟩
                    · exact g
                    · exact absurd (Or.inr rfl) g
                  rcases G_cmp (D := D + 1) ms d2 (by omega) (Or.inl e2) g2 with ⟨_, g, _⟩ | ⟨_, g2⟩
                  · rw [ed] at g; exact absurd g m36
                  · rcases G_andor (D := D + 1) ms d2 (by omega) (Or.inl e2) g2 with ⟨_, g, _⟩ | ⟨_, g2⟩
                    · rcases g with g | g
                      · exact absurd g na.1
                      · exact absurd g na.2
                    · rcases G_end (D := D + 1) ms d2 (by omega) (Or.inl e2) g2 with ⟨_, g, _⟩ | ⟨_, g2⟩
                      · rw [ed] at g; exact absurd g m36
                      · exact g2
              rcases G_kc (x := 93) (D := D + 1) (Or.inr (Or.inr ⟨rfl, rfl⟩)) ms d2 (by omega) g8 with ⟨n93, hz3, f1⟩ | ⟨y93, hz3, mo, c53, c54, c57, c35, c36, c37⟩
              · refine Or.inl ⟨?_, Or.inl (by rw [sSign_neg n93]; rfl)⟩
                rcases h3 with ⟨_, e⟩ | ⟨c, _⟩ | ⟨c, _⟩
                · rw [e]; exact f1
                · exact absurd hz3 c
                · exact absurd hz3 c
              · rw [sSign_pos y93]
                have nz : ¬ z3 = 0 := by rw [hz3]; decide
                rcases h3 with ⟨c, _⟩ | ⟨_, c8, e⟩ | ⟨_, c8, hr4⟩
                · exact absurd c nz
                · have g := mo.ff c8
                  exact Or.inl ⟨by rw [e]; exact g.2, Or.inr ⟨_, rfl, g.1⟩⟩
                · rw [if_pos rfl, show D + 1 - 2 = D - 1 by omega] at c36
                  refine Or.inr ⟨(a.1, tEnd f N a.2), C, rfl, mo.nf c8, hr4, c57.trans m57, ⟨?_, ?_, fun i hi => ?_, fun i hi => ?_⟩, ?_, by rw [c36, up_same]; decide, fun g => ?_, trivial, by show p + 1 ≤ tEnd f N a.2; omega, by show a.1 19 2 + (p : Int) ≤ T 19 2 + (tEnd f N a.2 : Int); omega⟩
                  · rw [c53, hD]
                    show ((D + 1 : Nat) : Int) - 1 = (D : Int)
                    omega
                  · rw [c54, tq.2.1, a3, h54]; omega
                  · rw [c35, tq.2.2.1 i (by omega), a5, up_lt hi]
                    rfl
                  · have t := tq.2.2.2 i (by omega)
                    rw [c36, c37, up_ne _ _ (by omega), t.1, t.2, a6, a7, up_lt (by omega), up_lt (by omega)]
                    refine ⟨rfl, ?_⟩
                    show up (A 37) (D - 1) 0 i = A 37 i
                    rw [up_ne _ _ (by omega)]
                  · have t := tq.2.2.2 (D - 1) (by omega)
                    rw [c37, t.2, a7, up_lt (by omega)]
                    show up (A 37) (D - 1) 0 (D - 1) = 0
                    rw [up_same]
                  · rw [c36, up_same] at g
                    exact absurd g (by decide)
      · exact absurd y91 (tow_sg g)
      · exact absurd y91 (g fs).2.1
    · unfold sFactB
      rw [sOwn_neg y19, sSign_neg y91]
      show OutF f N b u D A T p (p + 1) (fun _ => True) ((S T p).bind fun a => (sCmp f N a.2).bind fun c => sAd2 (S a.1 c.2) c.1)
      rcases hS.2 A T p D h hr h57 hD h1 h54 (fun _ => ⟨n18, y91, y19⟩) (by rw [h36]; decide) hT hp with ⟨f1, bd⟩ | ⟨a, A1, sa, ms, hr2, m57, tp, na, q, cd⟩
      · exact Or.inl ⟨f1, bd.bd (fun a ha => by rw [bad_cmp ha]; exact Or.inl rfl)⟩
      · rw [sa]
        show OutF f N b u D A T p (p + 1) (fun _ => True) ((sCmp f N a.2).bind fun c => sAd2 (S a.1 c.2) c.1)
        have tb2 := tEnd_b (f := f) ms.le
        have d2 : A1 0 53 = (D : Int) := tp.1.trans hD
        have k1 : A1 35 (D - 1) = A 35 (D - 1) := (tp.2.2.1 (D - 1) (by omega)).1
        have p1 : A1 36 (D - 1) = 0 := (tp.2.2.1 (D - 1) (by omega)).2.trans h36
        obtain ⟨z3, v, hg, h3⟩ := RN_go hr2 (by rw [m57]; decide)
        rcases G_base ms d2 h1 hg with ⟨_, g2, _⟩ | ⟨_, z2, hz2, g2⟩
        · exact absurd g2 na
        · have e2 : z2 = 1 := by
            rw [k1] at hz2
            rcases hz2 with ⟨g, _⟩ | ⟨_, g⟩
            · exact g
            · exact absurd hk g
          rcases G_cmp ms d2 h1 (Or.inl e2) g2 with ⟨_, _, yc, hz3, Bc, eBc, c1, c2, c3, c4, c5, c6, c7⟩ | ⟨g, g2⟩
          · obtain ⟨cc, sc⟩ := sCmp_pos yc
            rw [sc]
            show OutF f N b u D A T p (p + 1) (fun _ => True) (sAd2 (S a.1 (tEnd f N a.2)) cc)
            have nz : ¬ z3 = 0 := by rw [hz3]; decide
            have lt2 := tb2.2.2.2 (by rcases yc with g | g | g <;> · have := g.1; omega)
            rcases h3 with ⟨c, _⟩ | ⟨_, c8, e⟩ | ⟨_, c8, hr4⟩
            · exact absurd c nz
            · have g := c1.ff c8
              refine Or.inl ⟨by rw [e]; exact g.2, Bad.ad2 (Or.inl ?_)⟩
              exact hS.1 _ _ g.1
            · have v36 : v 36 = up (A1 36) (D - 1) 1 := by rw [c6, eBc]; rfl
              have v37 : v 37 = A1 37 := by rw [c7, eBc]; rfl
              have v35 : v 35 = A1 35 := by rw [c5, eBc]; rfl
              have v53 : v 0 53 = A1 0 53 := by rw [c2, eBc]; rfl
              have v54 : v 0 54 = A1 0 54 := by rw [c3, eBc]; rfl
              rcases hS.2 v a.1 (tEnd f N a.2) D (c1.nf c8) hr4 c4 (v53.trans d2) h1 (v54.trans (tp.2.1.trans h54)) (fun g => absurd (by rw [v37]; exact tp.2.2.2.2) g.2) (by rw [v36, up_same]; decide) (by omega) (by omega) with ⟨f1, bd⟩ | ⟨b2, A3, sb2, ms3, hr5, m573, tp3, na3, q3, cd3⟩
              · exact Or.inl ⟨f1, Bad.ad2 bd⟩
              · rw [sb2]
                obtain ⟨t, st, et⟩ := sAd2_ok (T := b2.1) (e := b2.2) (x := cc) (by have := ms3.le; omega)
                rw [show sAd2 (some b2) cc = some (t, b2.2) from st]
                have t3 := tp3.2.2.1 (D - 1) (by omega)
                refine Or.inr ⟨(t, b2.2), A3, rfl, ms3, hr5, m573, ⟨?_, ?_, fun i hi => ?_, fun i hi => ?_⟩, tp3.2.2.2.2, by rw [t3.2, v36, up_same]; decide, fun _ => na3, trivial, by show p + 1 ≤ b2.2; omega, by show t 19 2 + (p : Int) ≤ T 19 2 + (b2.2 : Int); omega⟩
                · rw [tp3.1, v53, tp.1]
                · rw [tp3.2.1, v54, tp.2.1]
                · rw [(tp3.2.2.1 i hi).1, v35, (tp.2.2.1 i hi).1]
                · rw [(tp3.2.2.1 i (by omega)).2, tp3.2.2.2.1 i hi, v36, v37, up_ne _ _ (by omega), (tp.2.2.1 i (by omega)).2, tp.2.2.2.1 i hi]
                  exact ⟨rfl, rfl⟩
          · have nc : ¬ tcmp f N a.2 := fun y => g ⟨e2, p1, y⟩
            rw [sCmp_neg nc]
            refine Or.inl ⟨?_, Or.inl rfl⟩
            have fz : z3 = 0 ∧ 1 ≤ v 0 8 := by
              rcases G_andor ms d2 h1 (Or.inl e2) g2 with ⟨_, _, g⟩ | ⟨_, g2⟩
              · rcases g with ⟨_, g⟩ | ⟨g, _⟩
                · exact g
                · exact absurd p1 g
              · rcases G_end ms d2 h1 (Or.inl e2) g2 with ⟨_, _, g⟩ | ⟨g, _⟩
                · exact g
                · exact absurd ⟨e2, p1⟩ g
            rcases h3 with ⟨_, e⟩ | ⟨c, _⟩ | ⟨c, _⟩
            · rw [e]; exact fz.2
            · exact absurd fz.1 c
            · exact absurd fz.1 c
