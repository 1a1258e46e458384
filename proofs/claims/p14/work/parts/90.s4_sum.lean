/-! Sums: both rows of codes are worth the same. -/
def OutC (f : Nat → Int) (N b : Nat) (u : St) (D m : Nat) (lo : Int) (k : Nat) (VB : Int → Prop) (A0 T0 A T : St) (p q : Nat) (X : Nat → Prop) (r : Option (St × Nat)) : Prop := ∃ a A', r = some a ∧ MS f N b a.2 A' ∧ RN u A' ∧ A' 0 57 = 1 ∧ TP D A A' ∧ X a.2 ∧ q ≤ a.2 ∧ (a.1 19 2 + (p : Int) ≤ T 19 2 + (a.2 : Int)) ∧ CX b D m lo k VB A0 A' T0 a.1
def SimSC (f : Nat → Int) (N b : Nat) (u : St) (o : Int) (k : Nat) (S : PT) : Prop := ∀ (A T : St) (p D m : Nat), MS f N b p A → RN u A → A 0 57 = 0 → A 0 53 = (D : Int) → 1 ≤ D → A 0 54 = o → pln f N p D A → A 36 (D - 1) < 2 → T 19 2 ≤ (p : Int) → 1 ≤ p → LO 5 m D A → OutC f N b u D m 5 k VN A T A T p (p + 1) (fun e => ¬ tari f N e) (S T p)
abbrev LFC (f : Nat → Int) (N p : Nat) (x : Int) : Prop := (tKind f N p = 2 ∧ x = 0) ∨ (tow f N p 20 ∧ x = 1) ∨ (tow f N p 21 ∧ x = 2) ∨ (tow f N p 22 ∧ x = 3) ∨ (tow f N p 23 ∧ x = 4)
theorem sPart_lfC {f : Nat → Int} {N p : Nat} {x v : Int} (hx : LFC f N p x) (hv : tKind f N p = 2 → v = nv f N p) : ∃ w, (∀ n S T, sPart f N n S T p = sAd2 (some (T, tEnd f N p)) w) ∧ (-4 ≤ w ∧ w ≤ 9999) ∧ ENC x v w := by
  rcases hx with ⟨h, rfl⟩ | ⟨h, rfl⟩ | ⟨h, rfl⟩ | ⟨h, rfl⟩ | ⟨h, rfl⟩
  · have b := nv_b h
    exact ⟨nv f N p, fun n S T => by unfold sPart; rw [if_pos h], ⟨by omega, b.2⟩, Or.inl ⟨rfl, (hv h).symm, by rw [hv h]; exact b.1, by rw [hv h]; exact b.2⟩⟩
  · refine ⟨-1, fun n S T => ?_, by decide, Or.inr ⟨by decide, by decide, by decide, Or.inl (by decide)⟩⟩
    unfold sPart
    rw [if_neg (by have := h.1; omega), sSign_neg (tow_sg h), sOwn_pos h]
  · refine ⟨-2, fun n S T => ?_, by decide, Or.inr ⟨by decide, by decide, by decide, Or.inl (by decide)⟩⟩
    unfold sPart
    rw [if_neg (by have := h.1; omega), sSign_neg (tow_sg h), sOwn_neg (tow_ne h (by decide) (by decide) (by decide)), sOwn_pos h]
  · refine ⟨-3, fun n S T => ?_, by decide, Or.inr ⟨by decide, by decide, by decide, Or.inl (by decide)⟩⟩
    unfold sPart
    rw [if_neg (by have := h.1; omega), sSign_neg (tow_sg h), sOwn_neg (tow_ne h (by decide) (by decide) (by decide)), sOwn_neg (tow_ne h (by decide) (by decide) (by decide)), sOwn_pos h]
  · refine ⟨-4, fun n S T => ?_, by decide, Or.inr ⟨by decide, by decide, by decide, Or.inl (by decide)⟩⟩
    unfold sPart
    rw [if_neg (by have := h.1; omega), sSign_neg (tow_sg h), sOwn_neg (tow_ne h (by decide) (by decide) (by decide)), sOwn_neg (tow_ne h (by decide) (by decide) (by decide)), sOwn_neg (tow_ne h (by decide) (by decide) (by decide)), sOwn_pos h]
theorem sPart_mmC {f : Nat → Int} {N p : Nat} {x : Int} (h : (tow f N p 24 ∧ x = 15) ∨ (tow f N p 25 ∧ x = 16)) : (∀ n S T, sPart f N n S T p = sAd2 (sPair f N n S T (tEnd f N p)) (sc x)) ∧ 15 ≤ x ∧ x ≤ 16 := by
  rcases h with ⟨h, rfl⟩ | ⟨h, rfl⟩
  · refine ⟨fun n S T => ?_, by decide, by decide⟩
    rw [show sc 15 = -17 by decide]
    unfold sPart
    rw [if_neg (by have := h.1; omega), sSign_neg (tow_sg h), sOwn_neg (tow_ne h (by decide) (by decide) (by decide)), sOwn_neg (tow_ne h (by decide) (by decide) (by decide)), sOwn_neg (tow_ne h (by decide) (by decide) (by decide)), sOwn_neg (tow_ne h (by decide) (by decide) (by decide)), sOwn_pos h]
  · refine ⟨fun n S T => ?_, by decide, by decide⟩
    rw [show sc 16 = -18 by decide]
    unfold sPart
    rw [if_neg (by have := h.1; omega), sSign_neg (tow_sg h), sOwn_neg (tow_ne h (by decide) (by decide) (by decide)), sOwn_neg (tow_ne h (by decide) (by decide) (by decide)), sOwn_neg (tow_ne h (by decide) (by decide) (by decide)), sOwn_neg (tow_ne h (by decide) (by decide) (by decide)), sOwn_neg (tow_ne h (by decide) (by decide) (by decide)), sOwn_pos h]
theorem EW.rw3 {b : Nat} {A B C : St} {W : List Int} (h33 : B 33 = A 33) (h34 : B 34 = A 34) (h46 : B 0 46 = A 0 46) (h : EW b B C W) : EW b A C W := by
  unfold EW at h ⊢
  rw [h33, h34, h46] at h
  exact h
theorem C_closeC {f : Nat → Int} {N b D m : Nat} {u A B A2 : St} {o : Int} {a : St × Nat} {kk : Int} {P : List Int} (hu : u 0 8 = 0) (h1 : 1 ≤ D) (hA53 : A 0 53 = (D : Int)) (hA54 : A 0 54 = o) (b54 : B 0 54 = o + 1) (b53 : B 0 53 = (D : Int) + 1) (hb : ∀ i, i < D → B 35 i = A 35 i ∧ B 36 i = A 36 i) (hb7 : ∀ i, i + 1 < D → B 37 i = A 37 i) (hb70 : B 37 (D - 1) = 0) (hs : MS f N b a.2 A2) (hr : RN u A2) (h57 : A2 0 57 = 1) (ht : TP (D + 1) B A2) (hX : ¬ tari f N a.2) (hkk : A2 35 D = kk) (hk24 : kk = 2 ∨ kk = 4) (h46 : 0 ≤ A2 0 46) (h56 : A2 0 56 = ((m + P.length : Nat) : Int)) (hP : PD m (A2 40) P) (hR : RG 5 P) (h39 : A2 39 D = (m : Int)) : tsg f N a.2 41 ∧ ∃ A', MS f N b (tEnd f N a.2) A' ∧ RN u A' ∧ A' 0 57 = 1 ∧ TP D A A' ∧ A' 0 56 = (m : Int) ∧ A' 38 = A2 38 ∧ A' 39 = A2 39 ∧ A' 40 = A2 40 ∧ ((kk = 2 ∧ EW b A2 A' (P.map sc)) ∨ (kk = 4 ∧ (10 ≤ A2 38 D ∧ A2 38 D ≤ 22 → EW b A2 A' (P.map sc ++ [sc (A2 38 D)])))) := by
  obtain ⟨z, C, hg, h3⟩ := RN_go hr (by rw [h57]; decide)
  have d2 : A2 0 53 = ((D + 1 : Nat) : Int) := by rw [ht.1, b53]; rfl
  have ed : D + 1 - 1 = D := by omega
  have g8 := G_in (D := D + 1) hs d2 (by omega) (by rw [ed, hkk]; omega) hX hg
  rw [ed, hkk] at g8
  have hk : (kk = 2 ∧ (41 : Int) = 41) ∨ (kk = 4 ∧ (41 : Int) = 41) ∨ (kk = 5 ∧ (41 : Int) = 93) := by
    rcases hk24 with g | g
    · exact Or.inl ⟨g, rfl⟩
    · exact Or.inr (Or.inl ⟨g, rfl⟩)
  rcases G_kc hk hs d2 (by omega) g8 with ⟨n, hz, f1⟩ | ⟨y, hz, mo, c53, c54, c57, c35, c36, c37⟩
  · exfalso
    rcases h3 with ⟨_, e⟩ | ⟨c, _⟩ | ⟨c, _⟩
    · rw [e] at hu; omega
    · exact absurd hz c
    · exact absurd hz c
  · have nz : ¬ z = 0 := by rw [hz]; decide
    rcases h3 with ⟨c, _⟩ | ⟨_, c8, e⟩ | ⟨_, c8, hr2⟩
    · exact absurd c nz
    · exfalso
      rw [e] at hu
      exact c8 hu
    · obtain ⟨Bj, Bk, hj, cs, e47, hc⟩ := J_kc hk hs d2 (by omega) y g8
      obtain ⟨j1, j2, j3, j4, j5, j6⟩ := q_joins_ew (D := D + 1) d2 (by omega) hs.bk h46 h56 hP (hR.mono (by decide)) (Or.inl (by rw [ed]; exact h39)) hj
      have jk := j1.cs cs
      obtain ⟨k1, k2, k3, k4, k5, k6, k7⟩ := cs
      have fin : A2 38 = A2 38 → C 0 56 = (m : Int) ∧ C 38 = A2 38 ∧ C 39 = A2 39 ∧ C 40 = A2 40 ∧ ((kk = 2 ∧ EW b A2 C (P.map sc)) ∨ (kk = 4 ∧ (10 ≤ A2 38 D ∧ A2 38 D ≤ 22 → EW b A2 C (P.map sc ++ [sc (A2 38 D)])))) := by
        intro _
        rcases hc with ⟨n4, c1⟩ | ⟨y4, B2, had, c1⟩
        · have jc := jk.cs c1
          obtain ⟨_, _, m3, m4, m5, _, m7⟩ := c1
          exact ⟨m7.trans (k7.trans j5), m3.trans (k3.trans j2), m4.trans (k4.trans j3), m5.trans (k5.trans j4), Or.inl ⟨by omega, jc⟩⟩
        · rw [j2, show D + 1 - 1 = D by omega] at had
          have b47 : Bk 0 47 = (b : Int) := by rw [e47, j6]; exact hs.bk
          have e46 := jk.nn h46
          obtain ⟨A1, q1, q2⟩ := (had.1 : tr_r_X12_add (A2 38 D) 0 Bk B2)
          have w38 : B2 38 = Bk 38 := by rw [q2, q1]; rfl
          have w39 : B2 39 = Bk 39 := by rw [q2, q1]; rfl
          have w40 : B2 40 = Bk 40 := by rw [q2, q1]; rfl
          have w56 : B2 0 56 = Bk 0 56 := by rw [q2, q1]; rfl
          refine ⟨?_, ?_, ?_, ?_, Or.inr ⟨y4, fun hx => ?_⟩⟩
          · rw [c1.2.2.2.2.2.2, w56, k7, j5]
          · rw [c1.2.2.1, w38, k3, j2]
          · rw [c1.2.2.2.1, w39, k4, j3]
          · rw [c1.2.2.2.2.1, w40, k5, j4]
          · exact EW.trans h46 jk ((add_ew b47 e46 (enc_op hx) had).1.cs c1)
      refine ⟨y, C, mo.nf c8, hr2, c57.trans h57, ⟨?_, ?_, fun i hi => ?_, fun i hi => ?_, ?_⟩, fin rfl⟩
      · rw [c53, hA53]
        show ((D + 1 : Nat) : Int) - 1 = (D : Int)
        omega
      · rw [c54, ht.2.1, b54, hA54]; omega
      · have t := ht.2.2.1 i (by omega)
        rw [c35, c36, if_neg (by omega)]
        exact ⟨t.1.trans (hb i hi).1, t.2.trans (hb i hi).2⟩
      · rw [c37, ht.2.2.2.1 i (by omega)]
        exact hb7 i hi
      · rw [c37, ht.2.2.2.1 (D - 1) (by omega)]
        exact hb70
theorem Sim_partC {f : Nat → Int} {N b n : Nat} {u : St} {o : Int} {S : PT} (hu : u 0 8 = 0) (hn : (n : Int) + o = 8) (hS : 0 < n → SimSC f N b u (o + 1) (3 * n) S) {A T : St} {p D m : Nat} (h : MS f N b p A) (hr : RN u A) (h57 : A 0 57 = 0) (hD : A 0 53 = (D : Int)) (h1 : 1 ≤ D) (h54 : A 0 54 = o) (hpl : pln f N p D A) (hT : T 19 2 ≤ (p : Int)) (hp : 1 ≤ p) (hL : LO 7 m D A) : OutC f N b u D m 7 (3 * n + 1) VN A T A T p (p + 1) (fun _ => True) (sPart f N n S T p) := by
  obtain ⟨z, B, hq, h2⟩ := RN_op hr h57
  have s49 : MS f N b p (stA A 37 (D - 1) 0) := h.fr rfl (fun _ _ => rfl)
  have tb := tEnd_b (f := f) h.le
  have N16 : N ≤ 1600 := h.1.2.1
  have B8 : B 0 8 = 0 := by
    rcases h2 with ⟨c, e⟩ | ⟨c, _⟩
    · rw [e] at hu; exact hu
    · exact c
  have hr2 : RN u (stA B 0 57 z) := by
    rcases h2 with ⟨c, _⟩ | ⟨_, g⟩
    · exact absurd B8 c
    · exact g
  obtain ⟨l0, l1, l2⟩ := hL
  rcases O_base h hD h1 hq with ⟨g, g2, _⟩ | ⟨g, g2, _⟩ | ⟨g, g2, _⟩ | ⟨_, h5⟩
  · exact absurd g2 (hpl g).1
  · exact absurd g2 (hpl g).2.1
  · exact absurd g2 (hpl g).2.2
  · have r5 := O_5 (D := D) s49 rfl rfl hD h5
    have e57 : stA A 37 (D - 1) 0 0 57 = 0 := h57
    have e54 : stA A 37 (D - 1) 0 0 54 = o := h54
    rw [e57, e54] at r5
    have r37 : ∀ i, i + 1 < D → up (A 37) (D - 1) 0 i = A 37 i := fun i hi => up_ne _ _ (by omega)
    rcases r5 with ⟨lf, hz, a1, a2, a3, a4, a5, a6, a7⟩ | ⟨_, y, hz, ho⟩ | ⟨nlf, n40, mm, hz, pr⟩ | ⟨nlf, n40, nmm, hz, f1⟩
    · obtain ⟨x, C, hx, had, cs⟩ := J_leaf s49 rfl lf h5
      obtain ⟨w, sx, wb, we⟩ := sPart_lfC (v := A 0 6) hx (fun g => h.rt.2.2.2.2.1 g)
      have tk0 : tKind f N p ≠ 0 := by
        rcases lf with g | g | g | g | g
        · omega
        · have := g.1; omega
        · have := g.1; omega
        · have := g.1; omega
        · have := g.1; omega
      have lt := tb.2.2.2 tk0
      rw [sx, sAd2_ap (by omega)]
      have ad := add_ew (show stA A 37 (D - 1) 0 0 47 = (b : Int) from h.bk) (show 0 ≤ stA A 37 (D - 1) 0 0 46 from l0) we had
      obtain ⟨w1, w2, w3, w4, w5, _⟩ := ad
      have cs2 : CSm C (stA B 0 57 z) := cs.trans cs57
      have ew : EW b A (stA B 0 57 z) [w] := EW.rw3 (B := stA A 37 (D - 1) 0) rfl rfl rfl (w1.cs cs2)
      obtain ⟨_, _, k3, k4, k5, _, k7⟩ := cs2
      refine ⟨(apT T [w], tEnd f N p), stA B 0 57 z, rfl, (a1.nf B8).fr rfl (fun k hk => st0_k (by decide) (by decide) hk), hr2, hz, ⟨a2, a3, fun i hi => ?_, fun i hi => ?_, ?_⟩, trivial, by show p + 1 ≤ tEnd f N p; omega, ?_, [w], [], [w], ew, ?_, True.intro, fun x hx => absurd hx List.not_mem_nil, fun i hi => ?_, fun i hi => ⟨?_, ?_⟩, rfl, ?_⟩
      · show B 35 i = A 35 i ∧ B 36 i = A 36 i
        rw [a5, a6]
        exact ⟨rfl, rfl⟩
      · show B 37 i = A 37 i
        rw [a7]
        exact r37 i hi
      · show B 37 (D - 1) = 0
        rw [a7, stA_same, up_same]
      · have z19 := apT_sz [w] T
        show apT T [w] 19 2 + (p : Int) ≤ T 19 2 + (tEnd f N p : Int)
        rw [z19]
        show T 19 2 + ((1 : Nat) : Int) + (p : Int) ≤ _
        omega
      · exact k7.trans (w5.trans l1)
      · rw [k5, w4]; rfl
      · rw [k4, w3]; rfl
      · rw [k3, w2]; rfl
      · exact (Sem_leaf wb.1 wb.2).mono (by omega)
    · rw [sPart_br y]
      have lt := tb.2.2.2 (by have := y.1; omega)
      rcases O_opens s49 hD ho with ⟨o8, f1⟩ | ⟨o8, op⟩
      · omega
      · rw [e54] at o8
        rw [e54, e57] at op
        have n0 : 0 < n := by omega
        rw [if_neg (by omega)]
        have hS := hS n0
        have cop := J_opens (D := D) s49.ns (by rw [e54]; exact o8) hD ho
        have hop : OP f N b (tEnd f N p) D o 0 2 (stA A 37 (D - 1) 0) (stA B 0 57 z) := by
          obtain ⟨a1, a2, a3, a4, a5, a6, a7⟩ := op
          exact ⟨a1.fr rfl (fun k hk => st0_k (by decide) (by decide) hk), a2, a3, hz, a5, a6, a7⟩
        obtain ⟨a1, a2, a3, a4, a5, a6, a7⟩ := hop
        have ed : D + 1 - 1 = D := by omega
        have c39 : stA B 0 57 z 39 = up (A 39) D (m : Int) := by
          show B 39 = _
          rw [cop.2.2.2.1]
          show up (A 39) D (A 0 56) = _
          rw [l1]
        have c40 : stA B 0 57 z 40 = A 40 := cop.2.2.2.2.1
        have c38 : stA B 0 57 z 38 = A 38 := cop.2.2.1
        have c56 : stA B 0 57 z 0 56 = (m : Int) := cop.2.2.2.2.2.2.trans l1
        have c46 : stA B 0 57 z 0 46 = A 0 46 := cop.2.2.2.2.2.1
        obtain ⟨a, A2, sa, ms, hr3, m57, tp, na, q, cd, R, P, C, x1, x2, x3, x4, x5, x6, x7, x8⟩ := hS (stA B 0 57 z) T (tEnd f N p) (D + 1) m (a1.nf B8) hr2 a4 (by rw [a2]; rfl) (by omega) a3 (fun g => by have := g.1; rw [a5, ed, up_same] at this; exact absurd this (by decide)) (by rw [a6, ed, up_same]; decide) (show T 19 2 ≤ (tEnd f N p : Int) by omega) (by omega) ⟨by rw [c46]; exact l0, c56, Or.inl (by rw [c39, ed, up_same])⟩
        rw [sa]
        show OutC f N b u D m 7 (3 * n + 1) VN A T A T p (p + 1) (fun _ => True) ((sSign f N 41 a.2).bind fun p2 => some (a.1, p2))
        have tb2 := tEnd_b (f := f) ms.le
        have ew1 : EW b A A2 R := EW.rw3 (B := stA B 0 57 z) cop.1 cop.2.1 c46 x1
        obtain ⟨y2, A', s', r', x', t', e56, e38, e39, e40, cc⟩ := C_closeC (m := m) (P := P) (kk := 2) hu h1 hD h54 a3 a2 (fun i hi => by rw [a5, a6, up_lt hi, up_lt hi]; exact ⟨rfl, rfl⟩) (fun i hi => by rw [a7, up_lt (by omega)]; exact r37 i hi) (by rw [a7, up_lt (by omega), stA_same, up_same]) ms hr3 m57 tp na (by rw [(tp.2.2.1 D (by omega)).1, a5, up_same]) (Or.inl rfl) (ew1.nn l0) x2 x3 x4 (by rw [(x6 D (by omega)).1, c39, up_same])
        rw [sSign_pos y2]
        have e1 : EW b A2 A' (P.map sc) := by
          rcases cc with ⟨_, g⟩ | ⟨g, _⟩
          · exact g
          · exact absurd g (by decide)
        refine ⟨(a.1, tEnd f N a.2), A', rfl, s', r', x', t', trivial, ?_, ?_, R ++ P.map sc, [], C, EW.trans l0 ew1 e1, e56, True.intro, fun x hx => absurd hx List.not_mem_nil, fun i hi => ?_, fun i hi => ⟨?_, ?_⟩, x7, ?_⟩
        · show p + 1 ≤ tEnd f N a.2; omega
        · show a.1 19 2 + (p : Int) ≤ T 19 2 + (tEnd f N a.2 : Int)
          omega
        · rw [e40, x5 i hi, c40]
        · rw [e39, (x6 i (by omega)).1, c39, up_lt hi]
        · rw [e38, (x6 i (by omega)).2, c38]
        · rw [List.map_nil, List.append_nil]
          exact x8.mono (by omega)
    · rcases pr with ⟨f1, g⟩ | ⟨y, o8, f8, op⟩
      · omega
      · have n0 : 0 < n := by omega
        have hS := hS n0
        obtain ⟨x, C0, E0, hx, cs0, cop, eB⟩ := J_mm (D := D) s49 hD mm B8 (by rw [e54]; exact o8) h5
        have lt := tb.2.2.2 (by rcases mm with g | g <;> · have := g.1; omega)
        have sm := sPart_mmC hx
        rw [sm.1]
        have sp : sPair f N n S T (tEnd f N p) = (S T (tEnd f N (tEnd f N p))).bind fun a => (sSign f N 44 a.2).bind fun p2 => (S a.1 p2).bind fun b => (sSign f N 41 b.2).bind fun p3 => some (b.1, p3) := by
          unfold sPair
          rw [sSign_pos y]
          show (if n = 0 then none else _) = _
          rw [if_neg (by omega)]
        rw [sp]
        have tb1 := tEnd_b (f := f) (p := tEnd f N p) tb.2.2.1
        have lt1 := tb1.2.2.2 (by have := y.1; omega)
        have hop : OP f N b (tEnd f N (tEnd f N p)) D o 0 3 (stA A 37 (D - 1) 0) (stA B 0 57 z) := by
          obtain ⟨a1, a2, a3, a4, a5, a6, a7⟩ := op
          exact ⟨a1.fr rfl (fun k hk => st0_k (by decide) (by decide) hk), a2, a3, hz, a5, a6, a7⟩
        obtain ⟨a1, a2, a3, a4, a5, a6, a7⟩ := hop
        have ed : D + 1 - 1 = D := by omega
        obtain ⟨q1, q2, q3, q4, q5, q6, q7⟩ := cs0
        obtain ⟨p1, p2, p3, p4, p5, p6, p7⟩ := cop
        have c33 : stA B 0 57 z 33 = A 33 := by
          show B 33 = _
          rw [eB]
          exact p1.trans q1
        have c34 : stA B 0 57 z 34 = A 34 := by
          show B 34 = _
          rw [eB]
          exact p2.trans q2
        have c46 : stA B 0 57 z 0 46 = A 0 46 := by
          show B 0 46 = _
          rw [eB]
          exact p6.trans q6
        have c56 : stA B 0 57 z 0 56 = (m : Int) := by
          show B 0 56 = _
          rw [eB]
          exact (p7.trans q7).trans l1
        have c40 : stA B 0 57 z 40 = A 40 := by
          show B 40 = _
          rw [eB]
          exact p5.trans q5
        have c39 : stA B 0 57 z 39 = up (A 39) D (m : Int) := by
          show B 39 = _
          rw [eB]
          show E0 39 = _
          rw [p4, q4, q7]
          show up (A 39) D (A 0 56) = _
          rw [l1]
        have c38 : stA B 0 57 z 38 = up (A 38) D x := by
          show B 38 = _
          rw [eB]
          show up (E0 38) D x = _
          rw [p3, q3]
          rfl
        obtain ⟨a, A2, sa, ms, hr3, m57, tp, na, q, cd, R, P, C, x1, x2, x3, x4, x5, x6, x7, x8⟩ := hS (stA B 0 57 z) T (tEnd f N (tEnd f N p)) (D + 1) m (a1.nf B8) hr2 a4 (by rw [a2]; rfl) (by omega) a3 (fun g => by have := g.1; rw [a5, ed, up_same] at this; exact absurd this (by decide)) (by rw [a6, ed, up_same]; decide) (by omega) (by omega) ⟨by rw [c46]; exact l0, c56, Or.inl (by rw [c39, ed, up_same])⟩
        rw [sa]
        show OutC f N b u D m 7 (3 * n + 1) VN A T A T p (p + 1) (fun _ => True) (sAd2 ((sSign f N 44 a.2).bind fun p2 => (S a.1 p2).bind fun b => (sSign f N 41 b.2).bind fun p3 => some (b.1, p3)) (sc x))
        have ew1 : EW b A A2 R := EW.rw3 (B := stA B 0 57 z) c33 c34 c46 x1
        have d2 : A2 0 53 = ((D + 1 : Nat) : Int) := by rw [tp.1, a2]; rfl
        have k3 : A2 35 D = 3 := by rw [(tp.2.2.1 D (by omega)).1, a5, up_same]
        have ph0 : A2 36 D = 0 := by rw [(tp.2.2.1 D (by omega)).2, a6, up_same]
        obtain ⟨z3, Cc, hg, h3⟩ := RN_go hr3 (by rw [m57]; decide)
        have g8 := G_in (D := D + 1) ms d2 (by omega) (by rw [ed, k3]; decide) na hg
        rw [ed, k3] at g8
        have tb2 := tEnd_b (f := f) ms.le
        rcases G_k3 (D := D + 1) ms d2 (by omega) g8 with ⟨n44, hz3, f1⟩ | ⟨y44, hz3, Bc, eBc, c1, c2, c3, c4, c5, c6, c7⟩
        · exfalso
          rcases h3 with ⟨_, e⟩ | ⟨c, _⟩ | ⟨c, _⟩
          · rw [e] at hu; omega
          · exact absurd hz3 c
          · exact absurd hz3 c
        · rw [sSign_pos y44]
          show OutC f N b u D m 7 (3 * n + 1) VN A T A T p (p + 1) (fun _ => True) (sAd2 ((S a.1 (tEnd f N a.2)).bind fun b => (sSign f N 41 b.2).bind fun p3 => some (b.1, p3)) (sc x))
          have nz : ¬ z3 = 0 := by rw [hz3]; decide
          have lt2 := tb2.2.2.2 (by have := y44.1; omega)
          rcases h3 with ⟨c, _⟩ | ⟨_, c8, e⟩ | ⟨_, c8, hr4⟩
          · exact absurd c nz
          · exfalso
            rw [e] at hu
            exact c8 hu
          · obtain ⟨Bj, hj, csj⟩ := J_k3 ms y44 g8
            have n46 := ew1.nn l0
            obtain ⟨j1, j2, j3, j4, j5, _⟩ := q_joins_ew (D := D + 1) (m := m) d2 (by omega) ms.bk n46 x2 x3 (x4.mono (by decide)) (Or.inl (by rw [ed, (x6 D (by omega)).1, c39, up_same])) hj
            have jc := j1.cs csj
            obtain ⟨_, _, t3, t4, t5, _, t7⟩ := csj
            have d39 : Cc 39 = A2 39 := t4.trans j3
            have d38 : Cc 38 = A2 38 := t3.trans j2
            have d40 : Cc 40 = A2 40 := t5.trans j4
            have C35 : Cc 35 = up (A2 35) D 4 := by rw [c5, eBc, ed]; rfl
            have C36 : Cc 36 = A2 36 := by rw [c6, eBc]; rfl
            have C37 : Cc 37 = A2 37 := by rw [c7, eBc]; rfl
            have C53 : Cc 0 53 = ((D + 1 : Nat) : Int) := by rw [c2, eBc]; exact d2
            have C54 : Cc 0 54 = o + 1 := by
              rw [c3, eBc]
              show A2 0 54 = o + 1
              rw [tp.2.1, a3]
            obtain ⟨b2, A4, sb2, ms4, hr5, m574, tp4, na4, q4, cd4, R2, P2, C2, y1, y2, y3, y4, y5, y6, y7, y8⟩ := hS Cc a.1 (tEnd f N a.2) (D + 1) m (c1.nf c8) hr4 c4 C53 (by omega) C54 (fun g => by have := g.1; rw [ed, C35, up_same] at this; exact absurd this (by decide)) (by rw [ed, C36, ph0]; decide) (by omega) (by omega) ⟨jc.nn n46, t7.trans j5, Or.inl (by rw [d39, ed, (x6 D (by omega)).1, c39, up_same])⟩
            rw [sb2]
            show OutC f N b u D m 7 (3 * n + 1) VN A T A T p (p + 1) (fun _ => True) (sAd2 ((sSign f N 41 b2.2).bind fun p3 => some (b2.1, p3)) (sc x))
            have tb4 := tEnd_b (f := f) ms4.le
            have ew2 : EW b A A4 (R ++ P.map sc ++ R2) := EW.trans l0 (EW.trans l0 ew1 jc) y1
            have p38 : A4 38 D = x := by rw [(y6 D (by omega)).2, d38, (x6 D (by omega)).2, c38, up_same]
            obtain ⟨yc, A', s', r', x', t', e56, e38, e39, e40, cc⟩ := C_closeC (m := m) (P := P2) (kk := 4) (B := Cc) hu h1 hD h54 C54 (by rw [C53]; rfl) (fun i hi => by
              have t := tp.2.2.1 i (by omega)
              rw [C35, C36, up_lt hi, t.1, t.2, a5, a6, up_lt hi, up_lt hi]
              exact ⟨rfl, rfl⟩) (fun i hi => by
              rw [C37, tp.2.2.2.1 i (by omega), a7, up_lt (by omega)]
              exact r37 i hi) (by rw [C37, tp.2.2.2.1 (D - 1) (by omega), a7, up_lt (by omega), stA_same, up_same]) ms4 hr5 m574 tp4 na4 (by rw [(tp4.2.2.1 D (by omega)).1, C35, up_same]) (Or.inr rfl) (ew2.nn l0) y2 y3 y4 (by rw [(y6 D (by omega)).1, d39, (x6 D (by omega)).1, c39, up_same])
            rw [sSign_pos yc]
            have e1 : EW b A4 A' (P2.map sc ++ [sc x]) := by
              rcases cc with ⟨g, _⟩ | ⟨_, g⟩
              · exact absurd g (by decide)
              · rw [p38] at g
                exact g ⟨by omega, by omega⟩
            show OutC f N b u D m 7 (3 * n + 1) VN A T A T p (p + 1) (fun _ => True) (sAd2 (some (b2.1, tEnd f N b2.2)) (sc x))
            rw [sAd2_ap (by omega)]
            refine ⟨(apT b2.1 [sc x], tEnd f N b2.2), A', rfl, s', r', x', t', trivial, ?_, ?_, R ++ P.map sc ++ R2 ++ (P2.map sc ++ [sc x]), [], C ++ C2 ++ [sc x], EW.trans l0 ew2 e1, e56, True.intro, fun x hx => absurd hx List.not_mem_nil, fun i hi => ?_, fun i hi => ⟨?_, ?_⟩, ?_, ?_⟩
            · show p + 1 ≤ tEnd f N b2.2; omega
            · have z19 := apT_sz [sc x] b2.1
              show apT b2.1 [sc x] 19 2 + (p : Int) ≤ T 19 2 + (tEnd f N b2.2 : Int)
              rw [z19]
              show b2.1 19 2 + ((1 : Nat) : Int) + (p : Int) ≤ _
              omega
            · rw [e40, y5 i hi, d40, x5 i hi, c40]
            · rw [e39, (y6 i (by omega)).1, d39, (x6 i (by omega)).1, c39, up_lt hi]
            · rw [e38, (y6 i (by omega)).2, d38, (x6 i (by omega)).2, c38, up_lt hi]
            · rw [apT_app, apT_app, ← x7, y7]
            · have sw : -18 ≤ sc x ∧ sc x ≤ -12 := by
                rcases hx with ⟨_, rfl⟩ | ⟨_, rfl⟩ <;> decide
              have g := Sem_bin (VB := VN) (k := 3 * n + 1) (w := sc x) x8 y8 (by omega) ⟨by omega, by omega⟩ (fun a c ha hc => jn_vn sw ha hc)
              have e : R ++ P.map sc ++ R2 ++ (P2.map sc ++ [sc x]) ++ ([] : List Int).map sc = (R ++ P.map sc) ++ (R2 ++ P2.map sc) ++ [sc x] := by
                rw [List.map_nil, List.append_nil]
                simp only [List.append_assoc]
              rw [e]
              exact g
    · omega
abbrev OPC (c l x : Int) : Prop := (c = 43 ∧ l = 5 ∧ x = 10) ∨ (c = 45 ∧ l = 5 ∧ x = 11) ∨ (c = 42 ∧ l = 6 ∧ x = 12) ∨ (c = 47 ∧ l = 6 ∧ x = 13) ∨ (c = 37 ∧ l = 6 ∧ x = 14)
theorem A_stepC {f : Nat → Int} {N b p D : Nat} {u A : St} {c l x : Int} (hu : u 0 8 = 0) (h : MS f N b p A) (hr : RN u A) (h57 : A 0 57 = 1) (hD : A 0 53 = (D : Int)) (h1 : 1 ≤ D) (hph : A 36 (D - 1) < 2) (hc : OPC c l x) (y : tsg f N p c) : ∃ v, MS f N b (tEnd f N p) v ∧ RN u v ∧ v 0 57 = 0 ∧ v 0 53 = A 0 53 ∧ v 0 54 = A 0 54 ∧ v 35 = A 35 ∧ v 36 = A 36 ∧ v 37 = A 37 ∧ ∃ B B1, q_X12_joins l A B ∧ q_X12_holdsBack x B B1 ∧ CSm B1 v := by
  have ha : tari f N p := by
    rcases hc with ⟨e, _⟩ | ⟨e, _⟩ | ⟨e, _⟩ | ⟨e, _⟩ | ⟨e, _⟩
    · rw [e] at y; exact Or.inl y
    · rw [e] at y; exact Or.inr (Or.inl y)
    · rw [e] at y; exact Or.inr (Or.inr (Or.inl y))
    · rw [e] at y; exact Or.inr (Or.inr (Or.inr (Or.inl y)))
    · rw [e] at y; exact Or.inr (Or.inr (Or.inr (Or.inr y)))
  obtain ⟨z, v, hg, h3⟩ := RN_go hr (by rw [h57]; decide)
  rcases G_base h hD h1 hg with ⟨_, _, hz, a1, a2, a3, a4, a5, a6, a7⟩ | ⟨g, _⟩
  · have nz : ¬ z = 0 := by rw [hz]; decide
    rcases h3 with ⟨c, _⟩ | ⟨_, c8, e⟩ | ⟨_, c8, hr2⟩
    · exact absurd c nz
    · exfalso
      rw [e] at hu
      exact c8 hu
    · obtain ⟨l', x', B, B1, hd, hj, hh, cs⟩ := J_arith h hD h1 hph ha hg
      have e : l' = l ∧ x' = x := by
        have y2 := y.2
        rcases hd with ⟨g, e1, e2⟩ | ⟨g, e1, e2⟩ | ⟨g, e1, e2⟩ | ⟨g, e1, e2⟩ | ⟨g, e1, e2⟩
        · have := g.2; omega
        · have := g.2; omega
        · have := g.2; omega
        · have := g.2; omega
        · have := g.2; omega
      rw [e.1] at hj
      rw [e.2] at hh
      exact ⟨v, a1.nf c8, hr2, a4, a2, a3, a5, a6, a7, B, B1, hj, hh, cs⟩
  · exact absurd ⟨hph, ha⟩ g
theorem Sim_prodLC {f : Nat → Int} {N b n m : Nat} {u : St} {o : Int} {S : PT} (hu : u 0 8 = 0) (hn : (n : Int) + o = 8) (hS : 0 < n → SimSC f N b u (o + 1) (3 * n) S) {D : Nat} (h1 : 1 ≤ D) {A0 T0 : St} (hL : LO 6 m D A0) : ∀ (k : Nat) (A T : St) (p : Nat), MS f N b p A → RN u A → A 0 57 = 1 → A 0 53 = (D : Int) → A 0 54 = o → A 36 (D - 1) < 2 → A 37 (D - 1) = 0 → T 19 2 ≤ (p : Int) → 1 ≤ p → N < k + p → CX b D m 6 (3 * n + 2) VN A0 A T0 T → OutC f N b u D m 6 (3 * n + 2) VN A0 T0 A T p p (nmul f N) (sProdL f N n S k T p) := by
  intro k
  induction k with
  | zero =>
    intro A T p h _ _ _ _ _ _ _ _ hN _
    have := h.le
    omega
  | succ k ih =>
    intro A T p h hr h57 hD h54 hph h37 hT hp hN hC
    have tb := tEnd_b (f := f) h.le
    have N16 : N ≤ 1600 := h.1.2.1
    have turn : ∀ (c x : Int), OPC c 6 x → tsg f N p c → OutC f N b u D m 6 (3 * n + 2) VN A0 T0 A T p p (nmul f N) ((sAd2 (sPart f N n S T (tEnd f N p)) (sc x)).bind fun a => sProdL f N n S k a.1 a.2) := by
      intro c x hc y
      have lt := tb.2.2.2 (by have := y.1; omega)
      obtain ⟨v, sv, rv, v57, v53, v54, v35, v36, v37, B, B1, hj, hh, cs⟩ := A_stepC hu h hr h57 hD h1 hph hc y
      have hx : x = 12 ∨ x = 13 ∨ x = 14 := by
        rcases hc with ⟨_, e, _⟩ | ⟨_, e, _⟩ | ⟨_, _, e⟩ | ⟨_, _, e⟩ | ⟨_, _, e⟩ <;> omega
      have rx : rk x = 6 := by rcases hx with rfl | rfl | rfl <;> rfl
      have sx : -18 ≤ sc x ∧ sc x ≤ -12 := by rcases hx with rfl | rfl | rfl <;> decide
      have tl := CX_turn (lo2 := 7) (lo' := 6) (k2 := 3 * n + 1) (k' := 3 * n + 2) (VB := VN) (A' := v) (T2 := T) h.bk hD h1 hL (by omega) hC (by decide) hj hh cs
      obtain ⟨a, A', sa, ms, hr2, m57, tp, _, q, cd, cx⟩ := Sim_partC (T := T) (D := D) (m := m + 1) hu hn hS sv rv v57 (v53.trans hD) h1 (v54.trans h54) (fun g => absurd (by rw [v37]; exact h37) g.2) (by omega) (by omega) (tl.1 7 (by omega))
      rw [sa]
      rw [show sAd2 (some a) (sc x) = some (apT a.1 [sc x], a.2) from sAd2_ap (T := a.1) (e := a.2) (x := sc x) (by have := ms.le; omega)]
      show OutC f N b u D m 6 (3 * n + 2) VN A0 T0 A T p p (nmul f N) (sProdL f N n S k (apT a.1 [sc x]) a.2)
      have tp' := tp.cg v53 v54 v35 v36 v37
      have z19 := apT_sz [sc x] a.1
      have z19 : apT a.1 [sc x] 19 2 = a.1 19 2 + 1 := z19
      have cx2 := (CX_turn (lo2 := 7) (lo' := 6) (k2 := 3 * n + 1) (k' := 3 * n + 2) (VB := VN) h.bk hD h1 hL (by omega) hC (by decide) hj hh cs).2 cx ⟨by decide, by omega⟩ ⟨by omega, by omega⟩ (by omega) (fun a c ha hc => jn_vn sx ha hc)
      obtain ⟨c2, A2, sc2, ms2, hr3, m572, tp2, X2, q2, cd2, cx3⟩ := ih A' (apT a.1 [sc x]) a.2 ms hr2 m57 (tp'.1.trans hD) (tp'.2.1.trans h54) (by rw [(tp'.2.2.1 (D - 1) (by omega)).2]; exact hph) tp'.2.2.2.2 (by omega) (by omega) (by omega) cx2
      exact ⟨c2, A2, sc2, ms2, hr3, m572, tp'.trans tp2, X2, by omega, by omega, cx3⟩
    by_cases y47 : tsg f N p 47
    · have := turn 47 13 (Or.inr (Or.inr (Or.inr (Or.inl ⟨rfl, rfl, rfl⟩)))) y47
      unfold sProdL
      rw [sSign_pos y47]
      exact this
    · by_cases y37 : tsg f N p 37
      · have := turn 37 14 (Or.inr (Or.inr (Or.inr (Or.inr ⟨rfl, rfl, rfl⟩)))) y37
        unfold sProdL
        rw [sSign_neg y47, sSign_pos y37]
        exact this
      · by_cases y42 : tsg f N p 42
        · have := turn 42 12 (Or.inr (Or.inr (Or.inl ⟨rfl, rfl, rfl⟩))) y42
          unfold sProdL
          rw [sSign_neg y47, sSign_neg y37, sSign_pos y42]
          exact this
        · unfold sProdL
          rw [sSign_neg y47, sSign_neg y37, sSign_neg y42]
          exact ⟨(T, p), A, rfl, h, hr, h57, TP.rf h37, ⟨y47, y37, y42⟩, Nat.le_refl p, Int.le_refl _, hC⟩
theorem Sim_prodC {f : Nat → Int} {N b n m : Nat} {u : St} {o : Int} {S : PT} (hu : u 0 8 = 0) (hn : (n : Int) + o = 8) (hS : 0 < n → SimSC f N b u (o + 1) (3 * n) S) {A T : St} {p D : Nat} (h : MS f N b p A) (hr : RN u A) (h57 : A 0 57 = 0) (hD : A 0 53 = (D : Int)) (h1 : 1 ≤ D) (h54 : A 0 54 = o) (hpl : pln f N p D A) (hph : A 36 (D - 1) < 2) (hT : T 19 2 ≤ (p : Int)) (hp : 1 ≤ p) (hL : LO 6 m D A) : OutC f N b u D m 6 (3 * n + 2) VN A T A T p (p + 1) (nmul f N) (sProd f N n S T p) := by
  have N16 : N ≤ 1600 := h.1.2.1
  unfold sProd
  obtain ⟨a, A', sa, ms, hr2, m57, tp, _, q, cd, cx⟩ := Sim_partC hu hn hS h hr h57 hD h1 h54 hpl hT hp (hL.mono (by decide))
  rw [sa]
  show OutC f N b u D m 6 (3 * n + 2) VN A T A T p (p + 1) (nmul f N) (sProdL f N n S 1600 a.1 a.2)
  obtain ⟨c2, A2, sc2, ms2, hr3, m572, tp2, X2, q2, cd2, cx2⟩ := Sim_prodLC hu hn hS h1 hL 1600 A' a.1 a.2 ms hr2 m57 (tp.1.trans hD) (tp.2.1.trans h54) (by rw [(tp.2.2.1 (D - 1) (by omega)).2]; exact hph) tp.2.2.2.2 (by omega) (by omega) (by omega) (cx.mono (by decide) (by omega))
  exact ⟨c2, A2, sc2, ms2, hr3, m572, tp.trans tp2, X2, by omega, by omega, cx2⟩
theorem Sim_sumLC {f : Nat → Int} {N b n m : Nat} {u : St} {o : Int} {S : PT} (hu : u 0 8 = 0) (hn : (n : Int) + o = 8) (hS : 0 < n → SimSC f N b u (o + 1) (3 * n) S) {D : Nat} (h1 : 1 ≤ D) {A0 T0 : St} (hL : LO 5 m D A0) : ∀ (k : Nat) (A T : St) (p : Nat), MS f N b p A → RN u A → A 0 57 = 1 → A 0 53 = (D : Int) → A 0 54 = o → A 36 (D - 1) < 2 → A 37 (D - 1) = 0 → T 19 2 ≤ (p : Int) → 1 ≤ p → N < k + p → nmul f N p → CX b D m 5 (3 * n + 3) VN A0 A T0 T → OutC f N b u D m 5 (3 * n + 3) VN A0 T0 A T p p (fun e => ¬ tari f N e) (sSumL f N n S k T p) := by
  intro k
  induction k with
  | zero =>
    intro A T p h _ _ _ _ _ _ _ _ hN _ _
    have := h.le
    omega
  | succ k ih =>
    intro A T p h hr h57 hD h54 hph h37 hT hp hN hnm hC
    have tb := tEnd_b (f := f) h.le
    have N16 : N ≤ 1600 := h.1.2.1
    have turn : ∀ (c x : Int), OPC c 5 x → tsg f N p c → OutC f N b u D m 5 (3 * n + 3) VN A0 T0 A T p p (fun e => ¬ tari f N e) ((sAd2 (sProd f N n S T (tEnd f N p)) (sc x)).bind fun a => sSumL f N n S k a.1 a.2) := by
      intro c x hc y
      have lt := tb.2.2.2 (by have := y.1; omega)
      obtain ⟨v, sv, rv, v57, v53, v54, v35, v36, v37, B, B1, hj, hh, cs⟩ := A_stepC hu h hr h57 hD h1 hph hc y
      have hx : x = 10 ∨ x = 11 := by
        rcases hc with ⟨_, _, e⟩ | ⟨_, _, e⟩ | ⟨_, e, _⟩ | ⟨_, e, _⟩ | ⟨_, e, _⟩ <;> omega
      have rx : rk x = 5 := by rcases hx with rfl | rfl <;> rfl
      have sx : -18 ≤ sc x ∧ sc x ≤ -12 := by rcases hx with rfl | rfl <;> decide
      have tl := CX_turn (lo2 := 6) (lo' := 5) (k2 := 3 * n + 2) (k' := 3 * n + 3) (VB := VN) (A' := v) (T2 := T) h.bk hD h1 hL (by omega) hC (by decide) hj hh cs
      obtain ⟨a, A', sa, ms, hr2, m57, tp, X1, q, cd, cx⟩ := Sim_prodC (T := T) (D := D) (m := m + 1) hu hn hS sv rv v57 (v53.trans hD) h1 (v54.trans h54) (fun g => absurd (by rw [v37]; exact h37) g.2) (by rw [v36]; exact hph) (by omega) (by omega) (tl.1 6 (by omega))
      rw [sa]
      rw [show sAd2 (some a) (sc x) = some (apT a.1 [sc x], a.2) from sAd2_ap (T := a.1) (e := a.2) (x := sc x) (by have := ms.le; omega)]
      show OutC f N b u D m 5 (3 * n + 3) VN A0 T0 A T p p (fun e => ¬ tari f N e) (sSumL f N n S k (apT a.1 [sc x]) a.2)
      have tp' := tp.cg v53 v54 v35 v36 v37
      have z19 := apT_sz [sc x] a.1
      have z19 : apT a.1 [sc x] 19 2 = a.1 19 2 + 1 := z19
      have cx2 := (CX_turn (lo2 := 6) (lo' := 5) (k2 := 3 * n + 2) (k' := 3 * n + 3) (VB := VN) h.bk hD h1 hL (by omega) hC (by decide) hj hh cs).2 cx ⟨by decide, by omega⟩ ⟨by omega, by omega⟩ (by omega) (fun a c ha hc => jn_vn sx ha hc)
      obtain ⟨c2, A2, sc2, ms2, hr3, m572, tp2, X2, q2, cd2, cx3⟩ := ih A' (apT a.1 [sc x]) a.2 ms hr2 m57 (tp'.1.trans hD) (tp'.2.1.trans h54) (by rw [(tp'.2.2.1 (D - 1) (by omega)).2]; exact hph) tp'.2.2.2.2 (by omega) (by omega) (by omega) X1 cx2
      exact ⟨c2, A2, sc2, ms2, hr3, m572, tp'.trans tp2, X2, by omega, by omega, cx3⟩
    by_cases y45 : tsg f N p 45
    · have := turn 45 11 (Or.inr (Or.inl ⟨rfl, rfl, rfl⟩)) y45
      unfold sSumL
      rw [sSign_pos y45]
      exact this
    · by_cases y43 : tsg f N p 43
      · have := turn 43 10 (Or.inl ⟨rfl, rfl, rfl⟩) y43
        unfold sSumL
        rw [sSign_neg y45, sSign_pos y43]
        exact this
      · unfold sSumL
        rw [sSign_neg y45, sSign_neg y43]
        refine ⟨(T, p), A, rfl, h, hr, h57, TP.rf h37, ?_, Nat.le_refl p, Int.le_refl _, hC⟩
        rintro (g | g | g | g | g)
        · exact y43 g
        · exact y45 g
        · exact hnm.2.2 g
        · exact hnm.1 g
        · exact hnm.2.1 g
theorem Sim_sumC {f : Nat → Int} {N b n : Nat} {u : St} {o : Int} {S : PT} (hu : u 0 8 = 0) (hn : (n : Int) + o = 8) (hS : 0 < n → SimSC f N b u (o + 1) (3 * n) S) : SimSC f N b u o (3 * n + 3) (sSum f N n S) := by
  intro A T p D m h hr h57 hD h1 h54 hpl hph hT hp hL
  have N16 : N ≤ 1600 := h.1.2.1
  unfold sSum
  obtain ⟨a, A', sa, ms, hr2, m57, tp, X1, q, cd, cx⟩ := Sim_prodC hu hn hS h hr h57 hD h1 h54 hpl hph hT hp (hL.mono (by decide))
  rw [sa]
  show OutC f N b u D m 5 (3 * n + 3) VN A T A T p (p + 1) (fun e => ¬ tari f N e) (sSumL f N n S 1600 a.1 a.2)
  obtain ⟨c2, A2, sc2, ms2, hr3, m572, tp2, X2, q2, cd2, cx2⟩ := Sim_sumLC hu hn hS h1 hL 1600 A' a.1 a.2 ms hr2 m57 (tp.1.trans hD) (tp.2.1.trans h54) (by rw [(tp.2.2.1 (D - 1) (by omega)).2]; exact hph) tp.2.2.2.2 (by omega) (by omega) (by omega) X1 (cx.mono (by decide) (by omega))
  exact ⟨c2, A2, sc2, ms2, hr3, m572, tp.trans tp2, X2, by omega, by omega, cx2⟩
theorem Sim_sumNC {f : Nat → Int} {N b : Nat} {u : St} (hu : u 0 8 = 0) : ∀ n : Nat, SimSC f N b u (8 - (n : Int)) (3 * n + 3) (sSumN f N n)
  | 0 => Sim_sumC (n := 0) hu (by omega) (fun h => absurd h (by omega))
  | n + 1 => Sim_sumC (n := n + 1) hu (by omega) (fun _ => by
    have := Sim_sumNC (f := f) (N := N) (b := b) (u := u) hu n
    rw [show 8 - ((n + 1 : Nat) : Int) + 1 = 8 - (n : Int) by omega, show 3 * (n + 1) = 3 * n + 3 by omega]
    exact this)
