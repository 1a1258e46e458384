/-- a bracket closes: where it stands then -/
theorem C_close {f : Nat → Int} {N b D e e' : Nat} {u A B A2 T : St} {o : Int} {X : Nat → Prop} {a : St × Nat} {kk : Int} (h1 : 1 ≤ D) (hA53 : A 0 53 = (D : Int)) (hA54 : A 0 54 = o) (b54 : B 0 54 = o + 1) (b53 : B 0 53 = (D : Int) + 1) (hb : ∀ i, i < D → B 35 i = A 35 i ∧ B 36 i = A 36 i) (hb7 : ∀ i, i + 1 < D → B 37 i = A 37 i) (hb70 : B 37 (D - 1) = 0) (hs : MS f N b a.2 A2) (hr : RN u A2) (h57 : A2 0 57 = 1) (ht : TP (D + 1) B A2) (hX : ¬ tari f N a.2) (hkk : A2 35 D = kk) (hk24 : kk = 2 ∨ kk = 4) : (1 ≤ u 0 8 ∧ (¬ tsg f N a.2 41 ∨ (tsg f N a.2 41 ∧ tKind f N (tEnd f N a.2) = 4))) ∨ (tsg f N a.2 41 ∧ ∃ A', MS f N b (tEnd f N a.2) A' ∧ RN u A' ∧ A' 0 57 = 1 ∧ TP D A A') := by
  obtain ⟨z, C, hg, h3⟩ := RN_go hr (by rw [h57]; decide)
  have d2 : A2 0 53 = ((D + 1 : Nat) : Int) := by rw [ht.1, b53]; rfl
  have ed : D + 1 - 1 = D := by omega
  have g8 := G_in (D := D + 1) hs d2 (by omega) (by rw [ed, hkk]; omega) hX hg
  rw [ed, hkk] at g8
  have hk : (kk = 2 ∧ (41 : Int) = 41) ∨ (kk = 4 ∧ (41 : Int) = 41) ∨ (kk = 5 ∧ (41 : Int) = 93) := by
    rcases hk24 with g | g
    · exact Or.inl ⟨g, rfl⟩
    · exact Or.inr (Or.inl ⟨g, rfl⟩)
  rcases G_kc hk hs d2 (by omega) g8 with ⟨n, hz, f1⟩ | ⟨y, hz, mo, c53, c54, c57, c35, c36, c37⟩
  · refine Or.inl ⟨?_, Or.inl n⟩
    rcases h3 with ⟨_, e⟩ | ⟨c, _⟩ | ⟨c, _⟩
    · rw [e]; exact f1
    · exact absurd hz c
    · exact absurd hz c
  · have nz : ¬ z = 0 := by rw [hz]; decide
    rcases h3 with ⟨c, _⟩ | ⟨_, c8, e⟩ | ⟨_, c8, hr2⟩
    · exact absurd c nz
    · have g := mo.ff c8
      exact Or.inl ⟨by rw [e]; exact g.2, Or.inr ⟨y, g.1⟩⟩
    · refine Or.inr ⟨y, C, mo.nf c8, hr2, c57.trans h57, ?_, ?_, fun i hi => ?_, fun i hi => ?_, ?_⟩
      · rw [c53, hA53]
        show ((D + 1 : Nat) : Int) - 1 = (D : Int)
        omega
      · rw [c54, ht.2.1, b54, hA54]; omega
      · have t := ht.2.2.1 i (by omega)
        rw [c35, c36, if_neg (by omega)]
        exact ⟨t.1.trans (hb i hi).1, t.2.trans (hb i hi).2⟩
      · rw [c37, ht.2.2.2.1 i (by omega)]
        exact hb7 i hi
      · rw [c37, ht.2.2.2.1 (D - 1) (by omega)]
        exact hb70
theorem Sim_part {f : Nat → Int} {N b n : Nat} {u : St} {o : Int} {S : PT} (hn : (n : Int) + o = 8) (hS : 0 < n → SimS f N b u (o + 1) S) {A T : St} {p D : Nat} (h : MS f N b p A) (hr : RN u A) (h57 : A 0 57 = 0) (hD : A 0 53 = (D : Int)) (h1 : 1 ≤ D) (h54 : A 0 54 = o) (hpl : pln f N p D A) (hT : T 19 2 ≤ (p : Int)) (hp : 1 ≤ p) : Out f N b u D A T p (p + 1) (fun _ => True) (sPart f N n S T p) := by
  obtain ⟨z, B, hq, h2⟩ := RN_op hr h57
  have s49 : MS f N b p (stA A 37 (D - 1) 0) := h.fr rfl (fun _ _ => rfl)
  have tb := tEnd_b (f := f) h.le
  have N16 : N ≤ 1600 := h.1.2.1
  rcases O_base h hD h1 hq with ⟨g, g2, _⟩ | ⟨g, g2, _⟩ | ⟨g, g2, _⟩ | ⟨_, h5⟩
  · exact absurd g2 (hpl g).1
  · exact absurd g2 (hpl g).2.1
  · exact absurd g2 (hpl g).2.2
  · have r5 := O_5 (D := D) s49 rfl rfl hD h5
    have e57 : stA A 37 (D - 1) 0 0 57 = 0 := h57
    have e54 : stA A 37 (D - 1) 0 0 54 = o := h54
    rw [e57, e54] at r5
    have r37 : ∀ i, i + 1 < D → up (A 37) (D - 1) 0 i = A 37 i := fun i hi => up_ne _ _ (by omega)
    rcases r5 with ⟨lf, hz, a1, a2, a3, a4, a5, a6, a7⟩ | ⟨_, y, hz, ho⟩ | ⟨nlf, n40, mm, hz, pr⟩ | ⟨nlf, n40, nmm, hz, f1⟩
    · obtain ⟨x, sx⟩ := sPart_lf lf
      have tk0 : tKind f N p ≠ 0 := by
        rcases lf with g | g | g | g | g
        · omega
        · have := g.1; omega
        · have := g.1; omega
        · have := g.1; omega
        · have := g.1; omega
      have lt := tb.2.2.2 tk0
      obtain ⟨t, st, et⟩ := sAd2_ok (T := T) (e := tEnd f N p) (x := x) (by omega)
      rw [sx, st]
      rcases h2 with ⟨c, e⟩ | ⟨c, hr2⟩
      · have g := a1.ff c
        exact Or.inl ⟨by rw [e]; exact g.2, Or.inr ⟨_, rfl, g.1⟩⟩
      · refine Or.inr ⟨(t, tEnd f N p), stA B 0 57 z, rfl, (a1.nf c).fr rfl (fun k hk => st0_k (by decide) (by decide) hk), hr2, hz, ⟨a2, a3, fun i hi => ?_, fun i hi => ?_, ?_⟩, trivial, by show p + 1 ≤ tEnd f N p; omega, ?_⟩
        · show B 35 i = A 35 i ∧ B 36 i = A 36 i
          rw [a5, a6]
          exact ⟨rfl, rfl⟩
        · show B 37 i = A 37 i
          rw [a7]
          exact r37 i hi
        · show B 37 (D - 1) = 0
          rw [a7, stA_same, up_same]
        · show t 19 2 + (p : Int) ≤ T 19 2 + (tEnd f N p : Int)
          omega
    · rw [sPart_br y]
      have lt := tb.2.2.2 (by have := y.1; omega)
      rcases O_opens s49 hD ho with ⟨o8, f1⟩ | ⟨o8, op⟩
      · have o8 : o = 8 := by rw [← e54]; exact o8
        have n0 : n = 0 := by omega
        rw [if_pos n0]
        refine Or.inl ⟨?_, Or.inl rfl⟩
        rcases h2 with ⟨_, e⟩ | ⟨c, _⟩
        · rw [e]; exact f1
        · omega
      · rw [e54] at o8
        rw [e54, e57] at op
        have n0 : 0 < n := by omega
        rw [if_neg (by omega)]
        have hS := hS n0
        rcases h2 with ⟨c, e⟩ | ⟨c, hr2⟩
        · have g := op.1.ff c
          refine Or.inl ⟨by rw [e]; exact g.2, Or.inl ?_⟩
          rw [hS.1 T _ g.1]
          rfl
        · have hop : OP f N b (tEnd f N p) D o 0 2 (stA A 37 (D - 1) 0) (stA B 0 57 z) := by
            obtain ⟨a1, a2, a3, a4, a5, a6, a7⟩ := op
            exact ⟨a1.fr rfl (fun k hk => st0_k (by decide) (by decide) hk), a2, a3, hz, a5, a6, a7⟩
          have sd := S_deep (k := 2) (B := stA B 0 57 z) hS (by decide) c hop hr2 (show T 19 2 ≤ (tEnd f N p : Int) by omega) (by omega)
          obtain ⟨a1, a2, a3, a4, a5, a6, a7⟩ := hop
          rcases sd with ⟨f1, bd⟩ | ⟨a, A2, sa, ms, hr3, m57, tp, na, q, cd⟩
          · exact Or.inl ⟨f1, bd.bd (fun c hc => by rw [bad_sign hc]; exact Or.inl rfl)⟩
          · rw [sa]
            show Out f N b u D A T p (p + 1) (fun _ => True) ((sSign f N 41 a.2).bind fun p2 => some (a.1, p2))
            have tb2 := tEnd_b (f := f) ms.le
            have cl := C_close (T := T) (X := fun _ => True) (e := 0) (e' := 0) (kk := 2) h1 hD h54 a3 a2 (fun i hi => by rw [a5, a6, up_lt hi, up_lt hi]; exact ⟨rfl, rfl⟩) (fun i hi => by rw [a7, up_lt (by omega)]; exact r37 i hi) (by rw [a7, up_lt (by omega), stA_same, up_same]) ms hr3 m57 tp na (by rw [(tp.2.2.1 D (by omega)).1, a5, up_same]) (Or.inl rfl)
            rcases cl with ⟨f1, g⟩ | ⟨y2, A', s', r', x', t'⟩
            · refine Or.inl ⟨f1, ?_⟩
              rcases g with g | ⟨g, g4⟩
              · rw [sSign_neg g]; exact Or.inl rfl
              · rw [sSign_pos g]; exact Or.inr ⟨_, rfl, g4⟩
            · rw [sSign_pos y2]
              refine Or.inr ⟨(a.1, tEnd f N a.2), A', rfl, s', r', x', t', trivial, ?_, ?_⟩
              · show p + 1 ≤ tEnd f N a.2; omega
              · show a.1 19 2 + (p : Int) ≤ T 19 2 + (tEnd f N a.2 : Int)
                omega
    · obtain ⟨x, sx⟩ := sPart_mm mm
      rw [sx]
      have lt := tb.2.2.2 (by rcases mm with g | g <;> · have := g.1; omega)
      rcases pr with ⟨f1, g⟩ | ⟨y, o8, f8, op⟩
      · refine Or.inl ⟨?_, Bad.ad2 (Or.inl ?_)⟩
        · rcases h2 with ⟨_, e⟩ | ⟨c, _⟩
          · rw [e]; exact f1
          · omega
        · unfold sPair
          rcases g with g | g | g | ⟨g, g4⟩
          · rw [bad_sign g]; rfl
          · rw [sSign_neg g]; rfl
          · have n0 : n = 0 := by omega
            cases sSign f N 40 (tEnd f N p) with
            | none => rfl
            | some p1 =>
              show (if n = 0 then none else _) = none
              rw [if_pos n0]
          · rw [sSign_pos g]
            show (if n = 0 then none else (S T (tEnd f N (tEnd f N p))).bind _) = none
            by_cases n0 : n = 0
            · rw [if_pos n0]
            · rw [if_neg n0, (hS (by omega)).1 T _ g4]
              rfl
      · have n0 : 0 < n := by omega
        have hS := hS n0
        have sp : sPair f N n S T (tEnd f N p) = (S T (tEnd f N (tEnd f N p))).bind fun a => (sSign f N 44 a.2).bind fun p2 => (S a.1 p2).bind fun b => (sSign f N 41 b.2).bind fun p3 => some (b.1, p3) := by
          unfold sPair
          rw [sSign_pos y]
          show (if n = 0 then none else _) = _
          rw [if_neg (by omega)]
        rw [sp]
        rcases h2 with ⟨c, _⟩ | ⟨_, hr2⟩
        · exact absurd f8 c
        · have tb1 := tEnd_b (f := f) (p := tEnd f N p) tb.2.2.1
          have lt1 := tb1.2.2.2 (by have := y.1; omega)
          have hop : OP f N b (tEnd f N (tEnd f N p)) D o 0 3 (stA A 37 (D - 1) 0) (stA B 0 57 z) := by
            obtain ⟨a1, a2, a3, a4, a5, a6, a7⟩ := op
            exact ⟨a1.fr rfl (fun k hk => st0_k (by decide) (by decide) hk), a2, a3, hz, a5, a6, a7⟩
          have sd := S_deep (k := 3) (B := stA B 0 57 z) hS (by decide) f8 hop hr2 (show T 19 2 ≤ (tEnd f N (tEnd f N p) : Int) by omega) (by omega)
          obtain ⟨a1, a2, a3, a4, a5, a6, a7⟩ := hop
          rcases sd with ⟨f1, bd⟩ | ⟨a, A2, sa, ms, hr3, m57, tp, na, q, cd⟩
          · exact Or.inl ⟨f1, Bad.ad2 (bd.bd (fun c hc => by rw [bad_sign hc]; exact Or.inl rfl))⟩
          · rw [sa]
            show Out f N b u D A T p (p + 1) (fun _ => True) (sAd2 ((sSign f N 44 a.2).bind fun p2 => (S a.1 p2).bind fun b => (sSign f N 41 b.2).bind fun p3 => some (b.1, p3)) x)
            have ed : D + 1 - 1 = D := by omega
            have d2 : A2 0 53 = ((D + 1 : Nat) : Int) := by rw [tp.1, a2]; rfl
            have k3 : A2 35 D = 3 := by rw [(tp.2.2.1 D (by omega)).1, a5, up_same]
            have ph0 : A2 36 D = 0 := by rw [(tp.2.2.1 D (by omega)).2, a6, up_same]
            obtain ⟨z3, C, hg, h3⟩ := RN_go hr3 (by rw [m57]; decide)
            have g8 := G_in (D := D + 1) ms d2 (by omega) (by rw [ed, k3]; decide) na hg
            rw [ed, k3] at g8
            have tb2 := tEnd_b (f := f) ms.le
            rcases G_k3 (D := D + 1) ms d2 (by omega) g8 with ⟨n44, hz3, f1⟩ | ⟨y44, hz3, Bc, eBc, c1, c2, c3, c4, c5, c6, c7⟩
            · refine Or.inl ⟨?_, Bad.ad2 (Or.inl (by rw [sSign_neg n44]; rfl))⟩
              rcases h3 with ⟨_, e⟩ | ⟨c, _⟩ | ⟨c, _⟩
              · rw [e]; exact f1
              · exact absurd hz3 c
              · exact absurd hz3 c
            · rw [sSign_pos y44]
              show Out f N b u D A T p (p + 1) (fun _ => True) (sAd2 ((S a.1 (tEnd f N a.2)).bind fun b => (sSign f N 41 b.2).bind fun p3 => some (b.1, p3)) x)
              have nz : ¬ z3 = 0 := by rw [hz3]; decide
              have lt2 := tb2.2.2.2 (by have := y44.1; omega)
              rcases h3 with ⟨c, _⟩ | ⟨_, c8, e⟩ | ⟨_, c8, hr4⟩
              · exact absurd c nz
              · have g := c1.ff c8
                refine Or.inl ⟨by rw [e]; exact g.2, Bad.ad2 (Or.inl ?_)⟩
                rw [hS.1 _ _ g.1]
                rfl
              · have C35 : C 35 = up (A2 35) D 4 := by rw [c5, eBc, ed]; rfl
                have C36 : C 36 = A2 36 := by rw [c6, eBc]; rfl
                have C37 : C 37 = A2 37 := by rw [c7, eBc]; rfl
                have C53 : C 0 53 = ((D + 1 : Nat) : Int) := by rw [c2, eBc]; exact d2
                have C54 : C 0 54 = o + 1 := by
                  rw [c3, eBc]
                  show A2 0 54 = o + 1
                  rw [tp.2.1, a3]
                have sd2 := hS.2 C a.1 (tEnd f N a.2) (D + 1) (c1.nf c8) hr4 c4 C53 (by omega) C54 (fun g => by have := g.1; rw [ed, C35, up_same] at this; exact absurd this (by decide)) (by rw [ed, C36, ph0]; decide) (by omega) (by omega)
                rcases sd2 with ⟨f1, bd⟩ | ⟨b2, A4, sb2, ms4, hr5, m574, tp4, na4, q4, cd4⟩
                · exact Or.inl ⟨f1, Bad.ad2 (bd.bd (fun c hc => by rw [bad_sign hc]; exact Or.inl rfl))⟩
                · rw [sb2]
                  show Out f N b u D A T p (p + 1) (fun _ => True) (sAd2 ((sSign f N 41 b2.2).bind fun p3 => some (b2.1, p3)) x)
                  have tb4 := tEnd_b (f := f) ms4.le
                  have cl := C_close (T := T) (X := fun _ => True) (e := 0) (e' := 0) (kk := 4) (B := C) h1 hD h54 C54 (by rw [C53]; rfl) (fun i hi => by
                    have t := tp.2.2.1 i (by omega)
                    rw [C35, C36, up_lt hi, t.1, t.2, a5, a6, up_lt hi, up_lt hi]
                    exact ⟨rfl, rfl⟩) (fun i hi => by
                    rw [C37, tp.2.2.2.1 i (by omega), a7, up_lt (by omega)]
                    exact r37 i hi) (by rw [C37, tp.2.2.2.1 (D - 1) (by omega), a7, up_lt (by omega), stA_same, up_same]) ms4 hr5 m574 tp4 na4 (by rw [(tp4.2.2.1 D (by omega)).1, C35, up_same]) (Or.inr rfl)
                  rcases cl with ⟨f1, g⟩ | ⟨y2, A', s', r', x', t'⟩
                  · refine Or.inl ⟨f1, Bad.ad2 ?_⟩
                    rcases g with g | ⟨g, g4⟩
                    · rw [sSign_neg g]; exact Or.inl rfl
                    · rw [sSign_pos g]; exact Or.inr ⟨_, rfl, g4⟩
                  · rw [sSign_pos y2]
                    obtain ⟨t, st, et⟩ := sAd2_ok (T := b2.1) (e := tEnd f N b2.2) (x := x) (by omega)
                    show Out f N b u D A T p (p + 1) (fun _ => True) (sAd2 (some (b2.1, tEnd f N b2.2)) x)
                    rw [st]
                    refine Or.inr ⟨(t, tEnd f N b2.2), A', rfl, s', r', x', t', trivial, ?_, ?_⟩
                    · show p + 1 ≤ tEnd f N b2.2; omega
                    · show t 19 2 + (p : Int) ≤ T 19 2 + (tEnd f N b2.2 : Int)
                      omega
    · rw [sPart_no nlf n40 nmm]
      refine Or.inl ⟨?_, Or.inl rfl⟩
      rcases h2 with ⟨_, e⟩ | ⟨c, _⟩
      · rw [e]; exact f1
      · omega
