/-! Tests: both rows of codes are worth the same. -/
def OutFC (f : Nat → Int) (N b : Nat) (u : St) (D m : Nat) (lo : Int) (k : Nat) (A0 T0 A T : St) (p q : Nat) (X : Nat → Prop) (r : Option (St × Nat)) : Prop := ∃ a A', r = some a ∧ MS f N b a.2 A' ∧ RN u A' ∧ A' 0 57 = 1 ∧ TQ D A A' ∧ A' 37 (D - 1) = 0 ∧ ¬ A' 36 (D - 1) = 0 ∧ (A' 36 (D - 1) < 2 → ¬ tari f N a.2) ∧ X a.2 ∧ q ≤ a.2 ∧ (a.1 19 2 + (p : Int) ≤ T 19 2 + (a.2 : Int)) ∧ CX b D m lo k V1 A0 A' T0 a.1
def SimTC (f : Nat → Int) (N b : Nat) (u : St) (o : Int) (k : Nat) (S : PT) : Prop := ∀ (A T : St) (p D m : Nat), MS f N b p A → RN u A → A 0 57 = 0 → A 0 53 = (D : Int) → 1 ≤ D → A 0 54 = o → (A 35 (D - 1) = 1 ∨ A 35 (D - 1) = 5) → ¬ A 37 (D - 1) = 0 → A 36 (D - 1) = 0 → T 19 2 ≤ (p : Int) → 1 ≤ p → LO 1 m D A → OutFC f N b u D m 1 k A T A T p (p + 1) (nao f N) (S T p)
theorem sCmpC {f : Nat → Int} {N p : Nat} {x : Int} (h : (tsg f N p 60 ∧ x = 17) ∨ (tsg f N p 62 ∧ x = 18) ∨ (tsg f N p 61 ∧ x = 19)) : sCmp f N p = some (sc x, tEnd f N p) := by
  unfold sCmp
  rcases h with ⟨h, rfl⟩ | ⟨h, rfl⟩ | ⟨h, rfl⟩
  · rw [sSign_pos h]; rfl
  · rw [sSign_neg (tsg_ne h (by decide)), sSign_pos h]; rfl
  · rw [sSign_neg (tsg_ne h (by decide)), sSign_neg (tsg_ne h (by decide)), sSign_pos h]; rfl
theorem Sim_factBC {f : Nat → Int} {N b n : Nat} {u : St} {o : Int} {S S2 : PT} (hu : u 0 8 = 0) (hn : (n : Int) + o = 8) (hS : SimSC f N b u o (3 * n + 3) S) (hS2 : 0 < n → SimTC f N b u (o + 1) (3 * n + 3) S2) {A T : St} {p D m : Nat} (h : MS f N b p A) (hr : RN u A) (h57 : A 0 57 = 0) (hD : A 0 53 = (D : Int)) (h1 : 1 ≤ D) (h54 : A 0 54 = o) (hk : A 35 (D - 1) = 1 ∨ A 35 (D - 1) = 5) (h37 : ¬ A 37 (D - 1) = 0) (h36 : A 36 (D - 1) = 0) (n18 : ¬ tow f N p 18) (hT : T 19 2 ≤ (p : Int)) (hp : 1 ≤ p) (hL : LO 4 m D A) : OutFC f N b u D m 4 (3 * n + 4) A T A T p (p + 1) (fun _ => True) (sFactB f N n S S2 T p) := by
  have tb := tEnd_b (f := f) h.le
  have N16 : N ≤ 1600 := h.1.2.1
  have s49 : MS f N b p (stA A 37 (D - 1) 0) := h.fr rfl (fun _ _ => rfl)
  have fs : fst1 D A := ⟨hk, h37⟩
  obtain ⟨l0, l1, l2⟩ := id hL
  by_cases y19 : tow f N p 19
  · obtain ⟨z, B, hq, h2⟩ := RN_op hr h57
    have lt := tb.2.2.2 (by have := y19.1; omega)
    unfold sFactB
    rw [sOwn_pos y19]
    show OutFC f N b u D m 4 (3 * n + 4) A T A T p (p + 1) (fun _ => True) (sAd2 (some (T, tEnd f N p)) (-5))
    rw [sAd2_ap (by omega)]
    rcases O_base h hD h1 hq with ⟨_, g, _⟩ | ⟨_, g, _⟩ | ⟨_, _, hz, a1, a2, a3, a4, a5, a6, a7⟩ | ⟨g, _⟩
    · exact absurd g n18
    · exact absurd g (tow_sg y19)
    · rcases h2 with ⟨c, e⟩ | ⟨c, hr2⟩
      · exfalso
        rw [e] at hu
        exact c hu
      · obtain ⟨C, had, cs⟩ := (J_first h hD h1 fs hq).2 y19
        have ad := add_ew (w := -5) (show stA A 37 (D - 1) 0 0 47 = (b : Int) from h.bk) (show 0 ≤ stA A 37 (D - 1) 0 0 46 from l0) (Or.inr ⟨by decide, by decide, by decide, Or.inr (by decide)⟩) had
        obtain ⟨w1, w2, w3, w4, w5, _⟩ := ad
        have cs2 : CSm C (stA B 0 57 z) := cs.trans cs57
        have ew : EW b A (stA B 0 57 z) [-5] := EW.rw3 (B := stA A 37 (D - 1) 0) rfl rfl rfl (w1.cs cs2)
        obtain ⟨_, _, k3, k4, k5, _, k7⟩ := cs2
        have r36 : stA B 0 57 z 36 = up (A 36) (D - 1) 2 := a6
        have r37 : stA B 0 57 z 37 = up (A 37) (D - 1) 0 := a7
        have r35 : stA B 0 57 z 35 = A 35 := a5
        have z19 := apT_sz [-5] T
        have z19 : apT T [-5] 19 2 = T 19 2 + 1 := z19
        refine ⟨(apT T [-5], tEnd f N p), stA B 0 57 z, rfl, (a1.nf c).fr rfl (fun k hk => st0_k (by decide) (by decide) hk), hr2, hz, ⟨a2, a3, fun i hi => by rw [r35], fun i hi => ?_⟩, by rw [r37, up_same], by rw [r36, up_same]; decide, fun g => ?_, trivial, by show p + 1 ≤ tEnd f N p; omega, by show apT T [-5] 19 2 + (p : Int) ≤ T 19 2 + (tEnd f N p : Int); omega, [-5], [], [-5], ew, ?_, True.intro, fun x hx => absurd hx List.not_mem_nil, fun i hi => ?_, fun i hi => ⟨?_, ?_⟩, rfl, ?_⟩
        · rw [r36, r37, up_ne _ _ (by omega), up_ne _ _ (by omega)]
          exact ⟨rfl, rfl⟩
        · rw [r36, up_same] at g
          exact absurd g (by decide)
        · exact k7.trans (w5.trans l1)
        · rw [k5, w4]; rfl
        · rw [k4, w3]; rfl
        · rw [k3, w2]; rfl
        · exact Sem_all.mono (by omega)
    · exact absurd y19 (g fs).2.2
  · by_cases y91 : tsg f N p 91
    · obtain ⟨z, B, hq, h2⟩ := RN_op hr h57
      have lt := tb.2.2.2 (by have := y91.1; omega)
      unfold sFactB
      rw [sOwn_neg y19, sSign_pos y91]
      show OutFC f N b u D m 4 (3 * n + 4) A T A T p (p + 1) (fun _ => True) (if n = 0 then none else (S2 T (tEnd f N p)).bind fun a => (sSign f N 93 a.2).bind fun p2 => some (a.1, p2))
      have B8 : B 0 8 = 0 := by
        rcases h2 with ⟨c, e⟩ | ⟨c, _⟩
        · rw [e] at hu; exact hu
        · exact c
      have hr2 : RN u (stA B 0 57 z) := by
        rcases h2 with ⟨c, _⟩ | ⟨_, g⟩
        · exact absurd B8 c
        · exact g
      rcases O_base h hD h1 hq with ⟨_, g, _⟩ | ⟨_, _, hz, ho⟩ | ⟨_, g, _⟩ | ⟨g, _⟩
      · exact absurd y91 (tow_sg g)
      · have e57 : stA A 37 (D - 1) 0 0 57 = 0 := h57
        have e54 : stA A 37 (D - 1) 0 0 54 = o := h54
        rcases O_opens s49 hD ho with ⟨o8, f1⟩ | ⟨o8, op⟩
        · omega
        · rw [e54] at o8
          rw [e54, e57] at op
          rw [if_neg (by omega)]
          have hS2 := hS2 (by omega)
          have cop := J_opens (D := D) s49.ns (by rw [e54]; exact o8) hD ho
          have hop : OP f N b (tEnd f N p) D o 0 5 (stA A 37 (D - 1) 0) (stA B 0 57 z) := by
            obtain ⟨a1, a2, a3, a4, a5, a6, a7⟩ := op
            exact ⟨a1.fr rfl (fun k hk => st0_k (by decide) (by decide) hk), a2, a3, hz, a5, a6, a7⟩
          have c39 : stA B 0 57 z 39 = up (A 39) D (m : Int) := by
            show B 39 = _
            rw [cop.2.2.2.1]
            show up (A 39) D (A 0 56) = _
            rw [l1]
          have c40 : stA B 0 57 z 40 = A 40 := cop.2.2.2.2.1
          have c38 : stA B 0 57 z 38 = A 38 := cop.2.2.1
          have c56 : stA B 0 57 z 0 56 = (m : Int) := cop.2.2.2.2.2.2.trans l1
          have c46 : stA B 0 57 z 0 46 = A 0 46 := cop.2.2.2.2.2.1
          have c33 : stA B 0 57 z 33 = A 33 := cop.1
          have c34 : stA B 0 57 z 34 = A 34 := cop.2.1
          obtain ⟨B1, eB1⟩ : ∃ B1, B1 = stA B 0 57 z := ⟨_, rfl⟩
          have c1 : B1 0 8 = 0 := by rw [eB1]; exact B8
          rw [← eB1] at hop hr2 c39 c40 c38 c56 c46 c33 c34
          obtain ⟨a1, a2, a3, a4, a5, a6, a7⟩ := hop
          have ed : D + 1 - 1 = D := by omega
          obtain ⟨a, A2, sa, ms, hr3, m57, tq, m37, m36, m36t, na, q, cd, R, P, C, x1, x2, x3, x4, x5, x6, x7, x8⟩ := hS2 B1 T (tEnd f N p) (D + 1) m (a1.nf c1) hr2 a4 (by rw [a2]; rfl) (by omega) a3 (Or.inr (by rw [a5, ed, up_same])) (by rw [a7, ed, up_same]; decide) (by rw [a6, ed, up_same]) (by omega) (by omega) ⟨by rw [c46]; exact l0, c56, Or.inl (by rw [c39, ed, up_same])⟩
          rw [sa]
          show OutFC f N b u D m 4 (3 * n + 4) A T A T p (p + 1) (fun _ => True) ((sSign f N 93 a.2).bind fun p2 => some (a.1, p2))
          rw [ed] at m37 m36 m36t
          have tb2 := tEnd_b (f := f) ms.le
          have d2 : A2 0 53 = ((D + 1 : Nat) : Int) := by rw [tq.1, a2]; rfl
          have k5 : A2 35 D = 5 := by rw [tq.2.2.1 D (by omega), a5, up_same]
          obtain ⟨z3, C0, hg, h3⟩ := RN_go hr3 (by rw [m57]; decide)
          have g8 : d_X12_goesOn_8 A2 z3 C0 5 A2 := by
            rcases G_base (D := D + 1) ms d2 (by omega) hg with ⟨g1, g2, _⟩ | ⟨_, z2, hz2, g2⟩
            · rw [ed] at g1
              exact absurd g2 (m36t g1)
            · rw [ed, k5] at hz2 g2
              have e2 : z2 = 1 := by
                rcases hz2 with ⟨g, _⟩ | ⟨_, g⟩
                · exact g
                · exact absurd (Or.inr rfl) g
              rcases G_cmp (D := D + 1) ms d2 (by omega) (Or.inl e2) g2 with ⟨_, g, _⟩ | ⟨_, g2⟩
              · rw [ed] at g; exact absurd g m36
              · rcases G_andor (D := D + 1) ms d2 (by omega) (Or.inl e2) g2 with ⟨_, g, _⟩ | ⟨_, g2⟩
                · rcases g with g | g
                  · exact absurd g na.1
                  · exact absurd g na.2
                · rcases G_end (D := D + 1) ms d2 (by omega) (Or.inl e2) g2 with ⟨_, g, _⟩ | ⟨_, g2⟩
                  · rw [ed] at g; exact absurd g m36
                  · exact g2
          have ew1 : EW b A A2 R := EW.rw3 (B := B1) c33 c34 c46 x1
          have n46 := ew1.nn l0
          rcases G_kc (x := 93) (D := D + 1) (Or.inr (Or.inr ⟨rfl, rfl⟩)) ms d2 (by omega) g8 with ⟨n93, hz3, f1⟩ | ⟨y93, hz3, mo, c53, c54, c57, c35, c36, c37⟩
          · exfalso
            rcases h3 with ⟨_, e⟩ | ⟨c, _⟩ | ⟨c, _⟩
            · rw [e] at hu; omega
            · exact absurd hz3 c
            · exact absurd hz3 c
          · rw [sSign_pos y93]
            have nz : ¬ z3 = 0 := by rw [hz3]; decide
            rcases h3 with ⟨c, _⟩ | ⟨_, c8, e⟩ | ⟨_, c8, hr4⟩
            · exact absurd c nz
            · exfalso
              rw [e] at hu
              exact c8 hu
            · rw [if_pos rfl, show D + 1 - 2 = D - 1 by omega] at c36
              obtain ⟨Bj, Bk, hj, cs, _, hc⟩ := J_kc (x := 93) (D := D + 1) (Or.inr (Or.inr ⟨rfl, rfl⟩)) ms d2 (by omega) y93 g8
              obtain ⟨j1, j2, j3, j4, j5, _⟩ := q_joins_ew (D := D + 1) (m := m) d2 (by omega) ms.bk n46 x2 x3 x4 (Or.inl (by rw [ed, (x6 D (by omega)).1, c39, up_same])) hj
              have cs2 : CSm Bj C0 := by
                rcases hc with ⟨_, g⟩ | ⟨g, _⟩
                · exact cs.trans g
                · exact absurd g (by decide)
              have jc := j1.cs cs2
              obtain ⟨_, _, t3, t4, t5, _, t7⟩ := cs2
              refine ⟨(a.1, tEnd f N a.2), C0, rfl, mo.nf c8, hr4, c57.trans m57, ⟨?_, ?_, fun i hi => ?_, fun i hi => ?_⟩, ?_, by rw [c36, up_same]; decide, fun g => ?_, trivial, by show p + 1 ≤ tEnd f N a.2; omega, by show a.1 19 2 + (p : Int) ≤ T 19 2 + (tEnd f N a.2 : Int); omega, R ++ P.map sc, [], C, EW.trans l0 ew1 jc, t7.trans j5, True.intro, fun x hx => absurd hx List.not_mem_nil, fun i hi => ?_, fun i hi => ⟨?_, ?_⟩, x7, ?_⟩
              · rw [c53, hD]
                show ((D + 1 : Nat) : Int) - 1 = (D : Int)
                omega
              · rw [c54, tq.2.1, a3, h54]; omega
              · rw [c35, tq.2.2.1 i (by omega), a5, up_lt hi]
                rfl
              · have t := tq.2.2.2 i (by omega)
                rw [c36, c37, up_ne _ _ (by omega), t.1, t.2, a6, a7, up_lt (by omega), up_lt (by omega)]
                refine ⟨rfl, ?_⟩
                show up (A 37) (D - 1) 0 i = A 37 i
                rw [up_ne _ _ (by omega)]
              · have t := tq.2.2.2 (D - 1) (by omega)
                rw [c37, t.2, a7, up_lt (by omega)]
                show up (A 37) (D - 1) 0 (D - 1) = 0
                rw [up_same]
              · rw [c36, up_same] at g
                exact absurd g (by decide)
              · rw [t5, j4, x5 i hi, c40]
              · rw [t4, j3, (x6 i (by omega)).1, c39, up_lt hi]
              · rw [t3, j2, (x6 i (by omega)).2, c38]
              · rw [List.map_nil, List.append_nil]
                exact x8.mono (by omega)
      · exact absurd y91 (tow_sg g)
      · exact absurd y91 (g fs).2.1
    · unfold sFactB
      rw [sOwn_neg y19, sSign_neg y91]
      show OutFC f N b u D m 4 (3 * n + 4) A T A T p (p + 1) (fun _ => True) ((S T p).bind fun a => (sCmp f N a.2).bind fun c => sAd2 (S a.1 c.2) c.1)
      obtain ⟨a, A1, sa, ms, hr2, m57, tp, na, q, cd, cx⟩ := hS A T p D m h hr h57 hD h1 h54 (fun _ => ⟨n18, y91, y19⟩) (by rw [h36]; decide) hT hp (hL.mono (by decide))
      rw [sa]
      show OutFC f N b u D m 4 (3 * n + 4) A T A T p (p + 1) (fun _ => True) ((sCmp f N a.2).bind fun c => sAd2 (S a.1 c.2) c.1)
      have tb2 := tEnd_b (f := f) ms.le
      have d2 : A1 0 53 = (D : Int) := tp.1.trans hD
      have k1 : A1 35 (D - 1) = A 35 (D - 1) := (tp.2.2.1 (D - 1) (by omega)).1
      have p1 : A1 36 (D - 1) = 0 := (tp.2.2.1 (D - 1) (by omega)).2.trans h36
      obtain ⟨z3, v, hg, h3⟩ := RN_go hr2 (by rw [m57]; decide)
      rcases G_base ms d2 h1 hg with ⟨_, g2, _⟩ | ⟨_, z2, hz2, g2⟩
      · exact absurd g2 na
      · have e2 : z2 = 1 := by
          rw [k1] at hz2
          rcases hz2 with ⟨g, _⟩ | ⟨_, g⟩
          · exact g
          · exact absurd hk g
        rcases G_cmp ms d2 h1 (Or.inl e2) g2 with ⟨_, _, yc, hz3, Bc, eBc, c1, c2, c3, c4, c5, c6, c7⟩ | ⟨g, g3⟩
        · obtain ⟨x, B, B1, hx, hj, hh, cs⟩ := J_cmp ms d2 h1 e2 p1 yc g2
          rw [sCmpC hx]
          show OutFC f N b u D m 4 (3 * n + 4) A T A T p (p + 1) (fun _ => True) (sAd2 (S a.1 (tEnd f N a.2)) (sc x))
          have nz : ¬ z3 = 0 := by rw [hz3]; decide
          have lt2 := tb2.2.2.2 (by rcases yc with g | g | g <;> · have := g.1; omega)
          have hx3 : x = 17 ∨ x = 18 ∨ x = 19 := by rcases hx with ⟨_, e⟩ | ⟨_, e⟩ | ⟨_, e⟩ <;> omega
          have rx : rk x = 4 := by rcases hx3 with rfl | rfl | rfl <;> rfl
          have sx : sc x = -9 ∨ sc x = -10 ∨ sc x = -11 := by
            rcases hx3 with rfl | rfl | rfl
            · exact Or.inl (by decide)
            · exact Or.inr (Or.inl (by decide))
            · exact Or.inr (Or.inr (by decide))
          rcases h3 with ⟨c, _⟩ | ⟨_, c8, e⟩ | ⟨_, c8, hr4⟩
          · exact absurd c nz
          · exfalso
            rw [e] at hu
            exact c8 hu
          · have v36 : v 36 = up (A1 36) (D - 1) 1 := by rw [c6, eBc]; rfl
            have v37 : v 37 = A1 37 := by rw [c7, eBc]; rfl
            have v35 : v 35 = A1 35 := by rw [c5, eBc]; rfl
            have v53 : v 0 53 = A1 0 53 := by rw [c2, eBc]; rfl
            have v54 : v 0 54 = A1 0 54 := by rw [c3, eBc]; rfl
            have tl := CX_turn (lo2 := 5) (lo' := 4) (k2 := 3 * n + 3) (k' := 3 * n + 4) (VB := V1) (A' := v) (T2 := T) ms.bk d2 h1 (hL.mono (show (4 : Int) ≤ 5 by decide)) (by omega) cx (by decide) hj hh cs
            obtain ⟨b2, A3, sb2, ms3, hr5, m573, tp3, na3, q3, cd3, cx3⟩ := hS v a.1 (tEnd f N a.2) D (m + 1) (c1.nf c8) hr4 c4 (v53.trans d2) h1 (v54.trans (tp.2.1.trans h54)) (fun g => absurd (by rw [v37]; exact tp.2.2.2.2) g.2) (by rw [v36, up_same]; decide) (by omega) (by omega) (tl.1 5 (by omega))
            rw [sb2]
            rw [show sAd2 (some b2) (sc x) = some (apT b2.1 [sc x], b2.2) from sAd2_ap (T := b2.1) (e := b2.2) (x := sc x) (by have := ms3.le; omega)]
            have z19 := apT_sz [sc x] b2.1
            have z19 : apT b2.1 [sc x] 19 2 = b2.1 19 2 + 1 := z19
            have cx4 := (CX_turn (lo2 := 5) (lo' := 4) (k2 := 3 * n + 3) (k' := 3 * n + 4) (VB := V1) ms.bk d2 h1 (hL.mono (show (4 : Int) ≤ 5 by decide)) (by omega) cx (by decide) hj hh cs).2 cx3 ⟨by decide, by omega⟩ ⟨by omega, by omega⟩ (by omega) (fun a c ha hc => jn_v1c sx ha hc)
            have t3 := tp3.2.2.1 (D - 1) (by omega)
            refine ⟨(apT b2.1 [sc x], b2.2), A3, rfl, ms3, hr5, m573, ⟨?_, ?_, fun i hi => ?_, fun i hi => ?_⟩, tp3.2.2.2.2, by rw [t3.2, v36, up_same]; decide, fun _ => na3, trivial, by show p + 1 ≤ b2.2; omega, by show apT b2.1 [sc x] 19 2 + (p : Int) ≤ T 19 2 + (b2.2 : Int); omega, cx4⟩
            · rw [tp3.1, v53, tp.1]
            · rw [tp3.2.1, v54, tp.2.1]
            · rw [(tp3.2.2.1 i hi).1, v35, (tp.2.2.1 i hi).1]
            · rw [(tp3.2.2.1 i (by omega)).2, tp3.2.2.2.1 i hi, v36, v37, up_ne _ _ (by omega), (tp.2.2.1 i (by omega)).2, tp.2.2.2.1 i hi]
              exact ⟨rfl, rfl⟩
        · exfalso
          have fz : z3 = 0 ∧ 1 ≤ v 0 8 := by
            rcases G_andor ms d2 h1 (Or.inl e2) g3 with ⟨_, _, g⟩ | ⟨_, g2⟩
            · rcases g with ⟨_, g⟩ | ⟨g, _⟩
              · exact g
              · exact absurd p1 g
            · rcases G_end ms d2 h1 (Or.inl e2) g2 with ⟨_, _, g⟩ | ⟨g, _⟩
              · exact g
              · exact absurd ⟨e2, p1⟩ g
          rcases h3 with ⟨_, e⟩ | ⟨c, _⟩ | ⟨c, _⟩
          · rw [e] at hu
            have := fz.2
            omega
          · exact absurd fz.1 c
          · exact absurd fz.1 c
theorem replicate_snoc {x : Int} : ∀ j, List.replicate (j + 1) x = List.replicate j x ++ [x] := by
  intro j
  induction j with
  | zero => rfl
  | succ j ih =>
    show x :: List.replicate (j + 1) x = x :: (List.replicate j x ++ [x])
    rw [ih]
theorem PD_rep {g : Nat → Int} {x : Int} {P : List Int} : ∀ (j m : Nat), PD (m + j) g P → (∀ i, i < j → g (m + i) = x) → PD m g (P ++ List.replicate j x) := by
  intro j
  induction j with
  | zero => intro m h _; rw [show List.replicate 0 x = [] from rfl, List.append_nil]; exact h
  | succ j ih =>
    intro m h e
    rw [replicate_snoc, ← List.append_assoc]
    refine PD.snoc _ (ih (m + 1) ?_ (fun i hi => ?_)) (e 0 (Nat.succ_pos _))
    · rw [show m + 1 + j = m + (j + 1) by omega]; exact h
    · have := e (i + 1) (by omega)
      rw [show m + (i + 1) = m + 1 + i by omega] at this
      exact this
/-- the nots of a fact, all held back -/
theorem Sim_notsC {f : Nat → Int} {N b D : Nat} {u : St} (hu : u 0 8 = 0) (h1 : 1 ≤ D) : ∀ (k : Nat) (A : St) (p m : Nat) (t : Int), MS f N b p A → RN u A → A 0 57 = 0 → A 0 53 = (D : Int) → (A 35 (D - 1) = 1 ∨ A 35 (D - 1) = 5) → ¬ A 37 (D - 1) = 0 → N < k + p → (t = 0 ∨ t = 1) → A 0 56 = (m : Int) → ∃ (A' : St) (j : Nat), MS f N b (sNots f N k t p).2 A' ∧ RN u A' ∧ A' 0 57 = 0 ∧ A' 0 53 = A 0 53 ∧ A' 0 54 = A 0 54 ∧ A' 35 = A 35 ∧ A' 36 = A 36 ∧ A' 37 = A 37 ∧ ¬ tow f N (sNots f N k t p).2 18 ∧ (sNots f N k t p).1 = (if j % 2 = 0 then t else 1 - t) ∧ EW b A A' [] ∧ A' 38 = A 38 ∧ A' 39 = A 39 ∧ A' 0 56 = ((m + j : Nat) : Int) ∧ (∀ i, i < m → A' 40 i = A 40 i) ∧ ∀ i, i < j → A' 40 (m + i) = 22 := by
  intro k
  induction k with
  | zero =>
    intro A p m t h _ _ _ _ _ hN
    have := h.le
    omega
  | succ k ih =>
    intro A p m t h hr h57 hD hk h37 hN ht h56
    have tb := tEnd_b (f := f) h.le
    by_cases y : tow f N p 18
    · have e : sNots f N (k + 1) t p = sNots f N k (if t = 0 then 1 else 0) (tEnd f N p) := by
        show (match sOwn f N 18 p with | some e => sNots f N k (if t = 0 then 1 else 0) e | none => (t, p)) = _
        rw [sOwn_pos y]
      have lt := tb.2.2.2 (by have := y.1; omega)
      rw [e]
      obtain ⟨z, B, hq, h2⟩ := RN_op hr h57
      rcases O_base h hD h1 hq with ⟨fs, _, hz, a1, a2, a3, a4, a5, a6, a7⟩ | ⟨_, g, _⟩ | ⟨_, g, _⟩ | ⟨g, _⟩
      · rcases h2 with ⟨c, e2⟩ | ⟨c, hr2⟩
        · exfalso
          rw [e2] at hu
          exact c hu
        · obtain ⟨C, hh, cs⟩ := (J_first h hD h1 fs hq).1 y
          obtain ⟨w1, w2, w3, w4, w5⟩ := q_holds_ew (b := b) h56 hh
          have cs2 : CSm C (stA B 0 57 z) := cs.trans cs57
          have wb := w1.cs cs2
          obtain ⟨_, _, k3, k4, k5, k6, k7⟩ := cs2
          have r35 : stA B 0 57 z 35 = A 35 := a5
          have r36 : stA B 0 57 z 36 = A 36 := a6
          have r37 : stA B 0 57 z 37 = A 37 := a7
          have t01 : (if t = 0 then (1 : Int) else 0) = 1 - t := by
            rcases ht with rfl | rfl
            · rw [if_pos rfl]; rfl
            · rw [if_neg (by decide)]; rfl
          rw [t01]
          obtain ⟨A', j, b1, b2, b3, b4, b5, b6, b7, b8, b9, b10, b11, b12, b13, b14, b15, b16⟩ := ih (stA B 0 57 z) (tEnd f N p) (m + 1) (1 - t) ((a1.nf c).fr rfl (fun k hk => st0_k (by decide) (by decide) hk)) hr2 hz (a2.trans hD) (by rw [r35]; exact hk) (by rw [r37]; exact h37) (by omega) (by omega) (k7.trans w5)
          have e40 : stA B 0 57 z 40 = up (A 40) m 22 := k5.trans w4
          refine ⟨A', j + 1, b1, b2, b3, b4.trans a2, b5.trans a3, b6.trans r35, b7.trans r36, b8.trans r37, b9, ?_, ?_, b12.trans (k3.trans w2), b13.trans (k4.trans w3), by rw [b14]; omega, fun i hi => ?_, fun i hi => ?_⟩
          · rw [b10]
            by_cases c2 : j % 2 = 0
            · rw [if_pos c2, if_neg (by omega)]
            · rw [if_neg c2, if_pos (by omega)]; omega
          · have g46 : stA B 0 57 z 0 46 = A 0 46 := by
              have := wb.1
              have l0 : (([] : List Int).length : Int) = 0 := rfl
              omega
            refine ⟨?_, fun k hk => ?_, fun i hi => absurd hi (Nat.not_lt_zero i)⟩
            · have := b11.1
              have l0 : (([] : List Int).length : Int) = 0 := rfl
              omega
            · have x1 := b11.2.1 k (by rw [g46]; exact hk)
              have x2 := wb.2.1 k hk
              exact ⟨x1.1.trans x2.1, x1.2.trans x2.2⟩
          · rw [b15 i (by omega), e40, up_ne _ _ (by omega)]
          · by_cases c2 : i = 0
            · subst c2
              rw [Nat.add_zero, b15 m (by omega), e40, up_same]
            · have := b16 (i - 1) (by omega)
              rw [show m + 1 + (i - 1) = m + i by omega] at this
              exact this
      · exact absurd g (tow_sg y)
      · exact absurd g (tow_ne y (by decide) (by decide) (by decide))
      · exact absurd y (g ⟨hk, h37⟩).1
    · have e : sNots f N (k + 1) t p = (t, p) := by
        show (match sOwn f N 18 p with | some e => sNots f N k (if t = 0 then 1 else 0) e | none => (t, p)) = _
        rw [sOwn_neg y]
      rw [e]
      exact ⟨A, 0, h, hr, h57, rfl, rfl, rfl, rfl, rfl, y, rfl, EW.rf, rfl, rfl, h56, fun _ _ => rfl, fun i hi => absurd hi (Nat.not_lt_zero i)⟩
theorem Sim_factC {f : Nat → Int} {N b n : Nat} {u : St} {o : Int} {S S2 : PT} (hu : u 0 8 = 0) (hn : (n : Int) + o = 8) (hS : SimSC f N b u o (3 * n + 3) S) (hS2 : 0 < n → SimTC f N b u (o + 1) (3 * n + 3) S2) {A T : St} {p D m : Nat} (h : MS f N b p A) (hr : RN u A) (h57 : A 0 57 = 0) (hD : A 0 53 = (D : Int)) (h1 : 1 ≤ D) (h54 : A 0 54 = o) (hk : A 35 (D - 1) = 1 ∨ A 35 (D - 1) = 5) (h37 : ¬ A 37 (D - 1) = 0) (h36 : A 36 (D - 1) = 0) (hT : T 19 2 ≤ (p : Int)) (hp : 1 ≤ p) (hL : LO 3 m D A) : OutFC f N b u D m 3 (3 * n + 4) A T A T p (p + 1) (fun _ => True) (sFact f N n S S2 T p) := by
  have N16 : N ≤ 1600 := h.1.2.1
  have nl := sNots_le (f := f) 1600 0 p h.le
  obtain ⟨l0, l1, l2⟩ := id hL
  unfold sFact
  obtain ⟨A', j, b1, b2, b3, b4, b5, b6, b7, b8, b9, b10, b11, b12, b13, b14, b15, b16⟩ := Sim_notsC hu h1 1600 A p m 0 h hr h57 hD hk h37 (by omega) (Or.inl rfl) l1
  have n46 := b11.nn l0
  have hL2 : LO 4 (m + j) D A' := by
    refine ⟨n46, b14, ?_⟩
    rw [b13]
    rcases Nat.eq_zero_or_pos j with e | e
    · subst e
      rcases l2 with g | ⟨g1, g2, g3⟩
      · exact Or.inl g
      · exact Or.inr ⟨g1, g2, by rw [Nat.add_zero, b15 (m - 1) (by omega)]; omega⟩
    · refine Or.inr ⟨by omega, ?_, ?_⟩
      · rcases l2 with g | ⟨g1, g2, g3⟩ <;> omega
      · have := b16 (j - 1) (by omega)
        rw [show m + j - 1 = m + (j - 1) by omega, this]
        decide
  obtain ⟨a, A2, sa, ms, hr2, m57, tq, m37, m36, m36t, _, q, cd, R, P, C, x1, x2, x3, x4, x5, x6, x7, x8⟩ := Sim_factBC (T := T) hu hn hS hS2 b1 b2 b3 (b4.trans hD) h1 (b5.trans h54) (by rw [b6]; exact hk) (by rw [b8]; exact h37) (by rw [b7]; exact h36) b9 (by omega) (by omega) hL2
  rw [sa]
  show OutFC f N b u D m 3 (3 * n + 4) A T A T p (p + 1) (fun _ => True) (if (sNots f N 1600 0 p).1 = 0 then some a else sAd2 (some a) (-6))
  have tq' : TQ D A A2 := by
    unfold TQ
    rw [← b4, ← b5, ← b6, ← b7, ← b8]
    exact tq
  have ew : EW b A A2 R := EW.trans l0 b11 x1
  have pend : ∀ (N1 : List Int) (T' : St), N1 = (if j % 2 = 0 then [] else [-6]) → T' = apT a.1 N1 → CX b D m 3 (3 * n + 4) V1 A A2 T T' := by
    intro N1 T' hN hT'
    refine ⟨R, P ++ List.replicate j 22, C ++ N1, ew, ?_, PD_rep j m x3 (fun i hi => ?_), ?_, fun i hi => ?_, fun i hi => ?_, by rw [apT_app, ← x7]; exact hT', ?_⟩
    · rw [x2, List.length_append, List.length_replicate]; omega
    · rw [x5 (m + i) (by omega)]
      exact b16 i hi
    · refine RG.app (x4.mono (by decide)) (fun x hx => ?_)
      rw [List.eq_of_mem_replicate hx]
      decide
    · rw [x5 i (by omega)]
      exact b15 i hi
    · have g := x6 i hi
      rw [g.1, g.2, b13, b12]
      exact ⟨rfl, rfl⟩
    · have g := Sem_nots x8 j hN
      rw [List.map_append, List.map_replicate, ← List.append_assoc]
      exact g
  by_cases g : (sNots f N 1600 0 p).1 = 0
  · rw [if_pos g]
    have j0 : j % 2 = 0 := by
      rw [b10] at g
      by_cases c : j % 2 = 0
      · exact c
      · rw [if_neg c] at g; exact absurd g (by decide)
    exact ⟨a, A2, rfl, ms, hr2, m57, tq', m37, m36, m36t, trivial, by omega, by omega, pend [] a.1 (by rw [if_pos j0]) rfl⟩
  · rw [if_neg g]
    have l2 := nl.2 g
    have j1 : ¬ j % 2 = 0 := by
      intro c
      rw [b10, if_pos c] at g
      exact g rfl
    rw [show sAd2 (some a) (-6) = some (apT a.1 [-6], a.2) from sAd2_ap (T := a.1) (e := a.2) (x := -6) (by have := ms.le; omega)]
    have z19 := apT_sz [-6] a.1
    have z19 : apT a.1 [-6] 19 2 = a.1 19 2 + 1 := z19
    exact ⟨(apT a.1 [-6], a.2), A2, rfl, ms, hr2, m57, tq', m37, m36, m36t, trivial, by show p + 1 ≤ a.2; omega, by show apT a.1 [-6] 19 2 + (p : Int) ≤ T 19 2 + (a.2 : Int); omega, pend [-6] _ (by rw [if_neg j1]) rfl⟩
theorem W_stepC {f : Nat → Int} {N b p D : Nat} {u A : St} (hu : u 0 8 = 0) (h : MS f N b p A) (hr : RN u A) (h57 : A 0 57 = 1) (hD : A 0 53 = (D : Int)) (h1 : 1 ≤ D) (hk : A 35 (D - 1) = 1 ∨ A 35 (D - 1) = 5) (h36 : ¬ A 36 (D - 1) = 0) (hw : tow f N p 17 ∨ tow f N p 16) : ∃ v, MS f N b (tEnd f N p) v ∧ RN u v ∧ v 0 57 = 0 ∧ TQ D A v ∧ ¬ v 37 (D - 1) = 0 ∧ v 36 (D - 1) = 0 ∧ ∃ (l x : Int) (B B1 : St), ((tow f N p 17 ∧ l = 2 ∧ x = 20) ∨ (tow f N p 16 ∧ l = 1 ∧ x = 21)) ∧ q_X12_joins l A B ∧ q_X12_holdsBack x B B1 ∧ CSm B1 v := by
  obtain ⟨z, v, hg, h3⟩ := RN_go hr (by rw [h57]; decide)
  have tk : tKind f N p = 1 := by rcases hw with g | g <;> exact g.1
  rcases G_base h hD h1 hg with ⟨_, g, _⟩ | ⟨_, z2, hz2, g2⟩
  · exfalso
    rcases g with g | g | g | g | g <;> · have := g.1; omega
  · have e2 : z2 = 1 := by
      rcases hz2 with ⟨g, _⟩ | ⟨_, g⟩
      · exact g
      · exact absurd hk g
    rcases G_cmp h hD h1 (Or.inl e2) g2 with ⟨_, g, _⟩ | ⟨_, g2⟩
    · exact absurd g h36
    · rcases G_andor h hD h1 (Or.inl e2) g2 with ⟨_, _, g⟩ | ⟨g, _⟩
      · rcases g with ⟨g, _⟩ | ⟨_, hz, Bc, eBc, c1, c2, c3, c4, c5, c6, c7⟩
        · exact absurd g h36
        · have nz : ¬ z = 0 := by rw [hz]; decide
          rcases h3 with ⟨c, _⟩ | ⟨_, c8, e⟩ | ⟨_, c8, hr4⟩
          · exact absurd c nz
          · exfalso
            rw [e] at hu
            exact c8 hu
          · have v36 : v 36 = up (A 36) (D - 1) 0 := by rw [c6, eBc]; rfl
            have v37 : v 37 = up (A 37) (D - 1) 1 := by rw [c7, eBc]; rfl
            have v35 : v 35 = A 35 := by rw [c5, eBc]; rfl
            refine ⟨v, c1.nf c8, hr4, c4, ⟨by rw [c2, eBc]; rfl, by rw [c3, eBc]; rfl, fun i hi => by rw [v35], fun i hi => ?_⟩, by rw [v37, up_same]; decide, by rw [v36, up_same], J_andor h hD h1 e2 h36 hw g2⟩
            rw [v36, v37, up_ne _ _ (by omega), up_ne _ _ (by omega)]
            exact ⟨rfl, rfl⟩
      · exact absurd ⟨e2, hw⟩ g
theorem Sim_bothLC {f : Nat → Int} {N b n m : Nat} {u : St} {o : Int} {S S2 : PT} (hu : u 0 8 = 0) (hn : (n : Int) + o = 8) (hS : SimSC f N b u o (3 * n + 3) S) (hS2 : 0 < n → SimTC f N b u (o + 1) (3 * n + 3) S2) {D : Nat} (h1 : 1 ≤ D) {A0 T0 : St} (hL : LO 2 m D A0) : ∀ (k : Nat) (A T : St) (p : Nat), MS f N b p A → RN u A → A 0 57 = 1 → A 0 53 = (D : Int) → A 0 54 = o → (A 35 (D - 1) = 1 ∨ A 35 (D - 1) = 5) → A 37 (D - 1) = 0 → ¬ A 36 (D - 1) = 0 → (A 36 (D - 1) < 2 → ¬ tari f N p) → T 19 2 ≤ (p : Int) → 1 ≤ p → N < k + p → CX b D m 2 (3 * n + 5) V1 A0 A T0 T → OutFC f N b u D m 2 (3 * n + 5) A0 T0 A T p p (fun e => ¬ tow f N e 17) (sBothL f N n S S2 k T p) := by
  intro k
  induction k with
  | zero =>
    intro A T p h _ _ _ _ _ _ _ _ _ _ hN _
    have := h.le
    omega
  | succ k ih =>
    intro A T p h hr h57 hD h54 hk h37 h36 h36t hT hp hN hC
    have tb := tEnd_b (f := f) h.le
    have N16 : N ≤ 1600 := h.1.2.1
    by_cases y : tow f N p 17
    · have lt := tb.2.2.2 (by have := y.1; omega)
      unfold sBothL
      rw [sOwn_pos y]
      show OutFC f N b u D m 2 (3 * n + 5) A0 T0 A T p p (fun e => ¬ tow f N e 17) ((sAd2 (sFact f N n S S2 T (tEnd f N p)) (-8)).bind fun a => sBothL f N n S S2 k a.1 a.2)
      obtain ⟨v, sv, rv, v57, tqv, v37, v36, l, x, B, B1, hd, hj, hh, cs⟩ := W_stepC hu h hr h57 hD h1 hk h36 (Or.inl y)
      have e : l = 2 ∧ x = 20 := by
        rcases hd with ⟨_, e1, e2⟩ | ⟨g, _⟩
        · exact ⟨e1, e2⟩
        · exact absurd g (tow_ne y (by decide) (by decide) (by decide))
      rw [e.1] at hj
      rw [e.2] at hh
      have tl := CX_turn (lo2 := 3) (lo' := 2) (k2 := 3 * n + 4) (k' := 3 * n + 5) (VB := V1) (A' := v) (T2 := T) h.bk hD h1 hL (by decide) hC (by decide) hj hh cs
      obtain ⟨a, A', sa, ms, hr2, m57, tq, m37, m36, m36t, _, q, cd, cx⟩ := Sim_factC (T := T) (m := m + 1) hu hn hS hS2 sv rv v57 (tqv.1.trans hD) h1 (tqv.2.1.trans h54) (by rw [tqv.2.2.1 (D - 1) (by omega)]; exact hk) v37 v36 (by omega) (by omega) (tl.1 3 (by decide))
      rw [sa]
      rw [show sAd2 (some a) (-8) = some (apT a.1 [sc 20], a.2) from sAd2_ap (T := a.1) (e := a.2) (x := -8) (by have := ms.le; omega)]
      show OutFC f N b u D m 2 (3 * n + 5) A0 T0 A T p p (fun e => ¬ tow f N e 17) (sBothL f N n S S2 k (apT a.1 [sc 20]) a.2)
      have tq' := tqv.trans tq
      have z19 := apT_sz [sc 20] a.1
      have z19 : apT a.1 [sc 20] 19 2 = a.1 19 2 + 1 := z19
      have cx2 := (CX_turn (lo2 := 3) (lo' := 2) (k2 := 3 * n + 4) (k' := 3 * n + 5) (VB := V1) h.bk hD h1 hL (by decide) hC (by decide) hj hh cs).2 cx ⟨by decide, by decide⟩ ⟨by omega, by omega⟩ (by decide) (fun a c ha hc => jn_v1l (Or.inr (by decide)) ha hc)
      obtain ⟨c2, A2, sc2, ms2, hr3, m572, tq2, n37, n36, n36t, X2, q2, cd2, cx3⟩ := ih A' (apT a.1 [sc 20]) a.2 ms hr2 m57 (tq'.1.trans hD) (tq'.2.1.trans h54) (by rw [tq'.2.2.1 (D - 1) (by omega)]; exact hk) m37 m36 m36t (by omega) (by omega) (by omega) cx2
      exact ⟨c2, A2, sc2, ms2, hr3, m572, tq'.trans tq2, n37, n36, n36t, X2, by omega, by omega, cx3⟩
    · unfold sBothL
      rw [sOwn_neg y]
      exact ⟨(T, p), A, rfl, h, hr, h57, TQ.rf, h37, h36, h36t, y, Nat.le_refl p, Int.le_refl _, hC⟩
theorem Sim_bothC {f : Nat → Int} {N b n m : Nat} {u : St} {o : Int} {S S2 : PT} (hu : u 0 8 = 0) (hn : (n : Int) + o = 8) (hS : SimSC f N b u o (3 * n + 3) S) (hS2 : 0 < n → SimTC f N b u (o + 1) (3 * n + 3) S2) {A T : St} {p D : Nat} (h : MS f N b p A) (hr : RN u A) (h57 : A 0 57 = 0) (hD : A 0 53 = (D : Int)) (h1 : 1 ≤ D) (h54 : A 0 54 = o) (hk : A 35 (D - 1) = 1 ∨ A 35 (D - 1) = 5) (h37 : ¬ A 37 (D - 1) = 0) (h36 : A 36 (D - 1) = 0) (hT : T 19 2 ≤ (p : Int)) (hp : 1 ≤ p) (hL : LO 2 m D A) : OutFC f N b u D m 2 (3 * n + 5) A T A T p (p + 1) (fun e => ¬ tow f N e 17) (sBoth f N n S S2 T p) := by
  have N16 : N ≤ 1600 := h.1.2.1
  unfold sBoth
  obtain ⟨a, A', sa, ms, hr2, m57, tq, m37, m36, m36t, _, q, cd, cx⟩ := Sim_factC hu hn hS hS2 h hr h57 hD h1 h54 hk h37 h36 hT hp (hL.mono (by decide))
  rw [sa]
  show OutFC f N b u D m 2 (3 * n + 5) A T A T p (p + 1) (fun e => ¬ tow f N e 17) (sBothL f N n S S2 1600 a.1 a.2)
  obtain ⟨c2, A2, sc2, ms2, hr3, m572, tq2, n37, n36, n36t, X2, q2, cd2, cx2⟩ := Sim_bothLC hu hn hS hS2 h1 hL 1600 A' a.1 a.2 ms hr2 m57 (tq.1.trans hD) (tq.2.1.trans h54) (by rw [tq.2.2.1 (D - 1) (by omega)]; exact hk) m37 m36 m36t (by omega) (by omega) (by omega) (cx.mono (by decide) (by omega))
  exact ⟨c2, A2, sc2, ms2, hr3, m572, tq.trans tq2, n37, n36, n36t, X2, by omega, by omega, cx2⟩
theorem Sim_testLC {f : Nat → Int} {N b n m : Nat} {u : St} {o : Int} {S S2 : PT} (hu : u 0 8 = 0) (hn : (n : Int) + o = 8) (hS : SimSC f N b u o (3 * n + 3) S) (hS2 : 0 < n → SimTC f N b u (o + 1) (3 * n + 3) S2) {D : Nat} (h1 : 1 ≤ D) {A0 T0 : St} (hL : LO 1 m D A0) : ∀ (k : Nat) (A T : St) (p : Nat), MS f N b p A → RN u A → A 0 57 = 1 → A 0 53 = (D : Int) → A 0 54 = o → (A 35 (D - 1) = 1 ∨ A 35 (D - 1) = 5) → A 37 (D - 1) = 0 → ¬ A 36 (D - 1) = 0 → (A 36 (D - 1) < 2 → ¬ tari f N p) → T 19 2 ≤ (p : Int) → 1 ≤ p → N < k + p → ¬ tow f N p 17 → CX b D m 1 (3 * n + 6) V1 A0 A T0 T → OutFC f N b u D m 1 (3 * n + 6) A0 T0 A T p p (nao f N) (sTestL f N n S S2 k T p) := by
  intro k
  induction k with
  | zero =>
    intro A T p h _ _ _ _ _ _ _ _ _ _ hN _ _
    have := h.le
    omega
  | succ k ih =>
    intro A T p h hr h57 hD h54 hk h37 h36 h36t hT hp hN n17 hC
    have tb := tEnd_b (f := f) h.le
    have N16 : N ≤ 1600 := h.1.2.1
    by_cases y : tow f N p 16
    · have lt := tb.2.2.2 (by have := y.1; omega)
      unfold sTestL
      rw [sOwn_pos y]
      show OutFC f N b u D m 1 (3 * n + 6) A0 T0 A T p p (nao f N) ((sAd2 (sBoth f N n S S2 T (tEnd f N p)) (-7)).bind fun a => sTestL f N n S S2 k a.1 a.2)
      obtain ⟨v, sv, rv, v57, tqv, v37, v36, l, x, B, B1, hd, hj, hh, cs⟩ := W_stepC hu h hr h57 hD h1 hk h36 (Or.inr y)
      have e : l = 1 ∧ x = 21 := by
        rcases hd with ⟨g, _⟩ | ⟨_, e1, e2⟩
        · exact absurd g n17
        · exact ⟨e1, e2⟩
      rw [e.1] at hj
      rw [e.2] at hh
      have tl := CX_turn (lo2 := 2) (lo' := 1) (k2 := 3 * n + 5) (k' := 3 * n + 6) (VB := V1) (A' := v) (T2 := T) h.bk hD h1 hL (by decide) hC (by decide) hj hh cs
      obtain ⟨a, A', sa, ms, hr2, m57, tq, m37, m36, m36t, X1, q, cd, cx⟩ := Sim_bothC (T := T) (m := m + 1) hu hn hS hS2 sv rv v57 (tqv.1.trans hD) h1 (tqv.2.1.trans h54) (by rw [tqv.2.2.1 (D - 1) (by omega)]; exact hk) v37 v36 (by omega) (by omega) (tl.1 2 (by decide))
      rw [sa]
      rw [show sAd2 (some a) (-7) = some (apT a.1 [sc 21], a.2) from sAd2_ap (T := a.1) (e := a.2) (x := -7) (by have := ms.le; omega)]
      show OutFC f N b u D m 1 (3 * n + 6) A0 T0 A T p p (nao f N) (sTestL f N n S S2 k (apT a.1 [sc 21]) a.2)
      have tq' := tqv.trans tq
      have z19 := apT_sz [sc 21] a.1
      have z19 : apT a.1 [sc 21] 19 2 = a.1 19 2 + 1 := z19
      have cx2 := (CX_turn (lo2 := 2) (lo' := 1) (k2 := 3 * n + 5) (k' := 3 * n + 6) (VB := V1) h.bk hD h1 hL (by decide) hC (by decide) hj hh cs).2 cx ⟨by decide, by decide⟩ ⟨by omega, by omega⟩ (by decide) (fun a c ha hc => jn_v1l (Or.inl (by decide)) ha hc)
      obtain ⟨c2, A2, sc2, ms2, hr3, m572, tq2, n37, n36, n36t, X2, q2, cd2, cx3⟩ := ih A' (apT a.1 [sc 21]) a.2 ms hr2 m57 (tq'.1.trans hD) (tq'.2.1.trans h54) (by rw [tq'.2.2.1 (D - 1) (by omega)]; exact hk) m37 m36 m36t (by omega) (by omega) (by omega) X1 cx2
      exact ⟨c2, A2, sc2, ms2, hr3, m572, tq'.trans tq2, n37, n36, n36t, X2, by omega, by omega, cx3⟩
    · unfold sTestL
      rw [sOwn_neg y]
      exact ⟨(T, p), A, rfl, h, hr, h57, TQ.rf, h37, h36, h36t, ⟨n17, y⟩, Nat.le_refl p, Int.le_refl _, hC⟩
theorem Sim_testC {f : Nat → Int} {N b n : Nat} {u : St} {o : Int} {S S2 : PT} (hu : u 0 8 = 0) (hn : (n : Int) + o = 8) (hS : SimSC f N b u o (3 * n + 3) S) (hS2 : 0 < n → SimTC f N b u (o + 1) (3 * n + 3) S2) : SimTC f N b u o (3 * n + 6) (sTest f N n S S2) := by
  intro A T p D m h hr h57 hD h1 h54 hk h37 h36 hT hp hL
  have N16 : N ≤ 1600 := h.1.2.1
  unfold sTest
  obtain ⟨a, A', sa, ms, hr2, m57, tq, m37, m36, m36t, X1, q, cd, cx⟩ := Sim_bothC hu hn hS hS2 h hr h57 hD h1 h54 hk h37 h36 hT hp (hL.mono (by decide))
  rw [sa]
  show OutFC f N b u D m 1 (3 * n + 6) A T A T p (p + 1) (nao f N) (sTestL f N n S S2 1600 a.1 a.2)
  obtain ⟨c2, A2, sc2, ms2, hr3, m572, tq2, n37, n36, n36t, X2, q2, cd2, cx2⟩ := Sim_testLC hu hn hS hS2 h1 hL 1600 A' a.1 a.2 ms hr2 m57 (tq.1.trans hD) (tq.2.1.trans h54) (by rw [tq.2.2.1 (D - 1) (by omega)]; exact hk) m37 m36 m36t (by omega) (by omega) (by omega) X1 (cx.mono (by decide) (by omega))
  exact ⟨c2, A2, sc2, ms2, hr3, m572, tq.trans tq2, n37, n36, n36t, X2, by omega, by omega, cx2⟩
theorem Sim_testNC {f : Nat → Int} {N b : Nat} {u : St} (hu : u 0 8 = 0) : ∀ n : Nat, SimTC f N b u (8 - (n : Int)) (3 * n + 6) (sTestN f N n)
  | 0 => Sim_testC (n := 0) hu (by omega) (Sim_sumNC hu 0) (fun h => absurd h (by omega))
  | n + 1 => Sim_testC (n := n + 1) hu (by omega) (Sim_sumNC hu (n + 1)) (fun _ => by
    have := Sim_testNC (f := f) (N := N) (b := b) (u := u) hu n
    rw [show 8 - ((n + 1 : Nat) : Int) + 1 = 8 - (n : Int) by omega, show 3 * (n + 1) + 3 = 3 * n + 6 by omega]
    exact this)
