/-! The reference's bars. -/
def Kp (T : St) (r : Option (St × Nat)) : Prop := ∀ a, r = some a → ∀ j, j ≠ 19 → j ≠ 20 → a.1 j = T j
theorem Kp.no {T : St} : Kp T none := fun a h => absurd h (by simp)
theorem Kp.so {T : St} {e : Nat} : Kp T (some (T, e)) := fun a h j _ _ => by rw [← Option.some.inj h]
theorem Kp.bd {T : St} {r : Option (St × Nat)} {k : St × Nat → Option (St × Nat)} (h : Kp T r) (hk : ∀ a, Kp a.1 (k a)) : Kp T (r.bind k) := by
  intro c hc j h1 h2
  cases hr : r with
  | none => rw [hr] at hc; exact absurd hc (by simp)
  | some a =>
    rw [hr] at hc
    exact (hk a c hc j h1 h2).trans (h a hr j h1 h2)
theorem Kp.bn {T : St} {α : Type} {r : Option α} {k : α → Option (St × Nat)} (hk : ∀ a, Kp T (k a)) : Kp T (r.bind k) := by
  intro c hc j h1 h2
  cases hr : r with
  | none => rw [hr] at hc; exact absurd hc (by simp)
  | some a =>
    rw [hr] at hc
    exact hk a c hc j h1 h2
theorem Kp.adc {T : St} {e : Nat} {x : Int} : Kp T ((sAdC T x).bind fun t => some (t, e)) := by
  intro c hc j h1 h2
  unfold sAdC at hc
  by_cases g : T 19 2 < 1600
  · rw [if_pos g] at hc
    have hc := Option.some.inj hc
    rw [← hc]
    show stA (stA T 20 (T 19 2).toNat x) 19 2 (T 19 2 + 1) j = T j
    rw [stA_ne _ _ h1, stA_ne _ _ h2]
  · rw [if_neg g] at hc
    exact absurd hc (by simp)
theorem Kp.ad2 {T : St} {r : Option (St × Nat)} {x : Int} (h : Kp T r) : Kp T (sAd2 r x) := h.bd (fun _ => Kp.adc)
def KS (S : PT) : Prop := ∀ T p, Kp T (S T p)
theorem KS_part {f : Nat → Int} {N n : Nat} {S : PT} (hS : KS S) : KS (sPart f N n S) := by
  intro T p
  have hp : ∀ e, Kp T (sPair f N n S T e) := by
    intro e
    unfold sPair
    refine Kp.bn (fun p1 => ?_)
    by_cases g : n = 0
    · rw [if_pos g]; exact Kp.no
    · rw [if_neg g]
      exact (hS T p1).bd (fun a => Kp.bn (fun p2 => (hS a.1 p2).bd (fun b => Kp.bn (fun p3 => Kp.so))))
  unfold sPart
  by_cases h2 : tKind f N p = 2
  · rw [if_pos h2]; exact Kp.ad2 Kp.so
  · rw [if_neg h2]
    cases sSign f N 40 p with
    | some p1 =>
      show Kp T (if n = 0 then none else (S T p1).bind fun a => (sSign f N 41 a.2).bind fun p2 => some (a.1, p2))
      by_cases g : n = 0
      · rw [if_pos g]; exact Kp.no
      · rw [if_neg g]
        exact (hS T p1).bd (fun a => Kp.bn (fun p2 => Kp.so))
    | none =>
      cases sOwn f N 20 p with
      | some e => exact Kp.ad2 Kp.so
      | none =>
        cases sOwn f N 21 p with
        | some e => exact Kp.ad2 Kp.so
        | none =>
          cases sOwn f N 22 p with
          | some e => exact Kp.ad2 Kp.so
          | none =>
            cases sOwn f N 23 p with
            | some e => exact Kp.ad2 Kp.so
            | none =>
              cases sOwn f N 24 p with
              | some e => exact Kp.ad2 (hp e)
              | none =>
                cases sOwn f N 25 p with
                | some e => exact Kp.ad2 (hp e)
                | none => exact Kp.no
theorem KS_prod {f : Nat → Int} {N n : Nat} {S : PT} (hS : KS S) : KS (sProd f N n S) := by
  have lp : ∀ k, KS (sProdL f N n S k) := by
    intro k
    induction k with
    | zero => intro T p; exact Kp.no
    | succ k ih =>
      intro T p
      unfold sProdL
      cases sSign f N 47 p with
      | some e => exact (Kp.ad2 (KS_part hS T e)).bd (fun a => ih a.1 a.2)
      | none =>
        cases sSign f N 37 p with
        | some e => exact (Kp.ad2 (KS_part hS T e)).bd (fun a => ih a.1 a.2)
        | none =>
          cases sSign f N 42 p with
          | some e => exact (Kp.ad2 (KS_part hS T e)).bd (fun a => ih a.1 a.2)
          | none => exact Kp.so
  intro T p
  exact (KS_part hS T p).bd (fun a => lp 1600 a.1 a.2)
theorem KS_sum {f : Nat → Int} {N n : Nat} {S : PT} (hS : KS S) : KS (sSum f N n S) := by
  have lp : ∀ k, KS (sSumL f N n S k) := by
    intro k
    induction k with
    | zero => intro T p; exact Kp.no
    | succ k ih =>
      intro T p
      unfold sSumL
      cases sSign f N 45 p with
      | some e => exact (Kp.ad2 (KS_prod hS T e)).bd (fun a => ih a.1 a.2)
      | none =>
        cases sSign f N 43 p with
        | some e => exact (Kp.ad2 (KS_prod hS T e)).bd (fun a => ih a.1 a.2)
        | none => exact Kp.so
  intro T p
  exact (KS_prod hS T p).bd (fun a => lp 1600 a.1 a.2)
theorem KS_sumN {f : Nat → Int} {N : Nat} : ∀ n, KS (sSumN f N n)
  | 0 => KS_sum (fun _ _ => Kp.no)
  | n + 1 => KS_sum (KS_sumN n)
theorem KS_fact {f : Nat → Int} {N n : Nat} {S S2 : PT} (hS : KS S) (hS2 : KS S2) : KS (sFact f N n S S2) := by
  intro T p
  unfold sFact
  refine Kp.bd ?_ (fun a => ?_)
  · unfold sFactB
    cases sOwn f N 19 (sNots f N 1600 0 p).2 with
    | some e => exact Kp.ad2 Kp.so
    | none =>
      cases sSign f N 91 (sNots f N 1600 0 p).2 with
      | some e =>
        show Kp T (if n = 0 then none else (S2 T e).bind fun a => (sSign f N 93 a.2).bind fun p2 => some (a.1, p2))
        by_cases g : n = 0
        · rw [if_pos g]; exact Kp.no
        · rw [if_neg g]
          exact (hS2 T e).bd (fun a => Kp.bn (fun p2 => Kp.so))
      | none => exact (hS T _).bd (fun a => Kp.bn (fun c => Kp.ad2 (hS a.1 c.2)))
  · by_cases g : (sNots f N 1600 0 p).1 = 0
    · rw [if_pos g]; exact Kp.so
    · rw [if_neg g]; exact Kp.ad2 Kp.so
theorem KS_both {f : Nat → Int} {N n : Nat} {S S2 : PT} (hS : KS S) (hS2 : KS S2) : KS (sBoth f N n S S2) := by
  have lp : ∀ k, KS (sBothL f N n S S2 k) := by
    intro k
    induction k with
    | zero => intro T p; exact Kp.so
    | succ k ih =>
      intro T p
      unfold sBothL
      cases sOwn f N 17 p with
      | some e => exact (Kp.ad2 (KS_fact hS hS2 T e)).bd (fun a => ih a.1 a.2)
      | none => exact Kp.so
  intro T p
  exact (KS_fact hS hS2 T p).bd (fun a => lp 1600 a.1 a.2)
theorem KS_test {f : Nat → Int} {N n : Nat} {S S2 : PT} (hS : KS S) (hS2 : KS S2) : KS (sTest f N n S S2) := by
  have lp : ∀ k, KS (sTestL f N n S S2 k) := by
    intro k
    induction k with
    | zero => intro T p; exact Kp.so
    | succ k ih =>
      intro T p
      unfold sTestL
      cases sOwn f N 16 p with
      | some e => exact (Kp.ad2 (KS_both hS hS2 T e)).bd (fun a => ih a.1 a.2)
      | none => exact Kp.so
  intro T p
  exact (KS_both hS hS2 T p).bd (fun a => lp 1600 a.1 a.2)
theorem KS_testN {f : Nat → Int} {N : Nat} : ∀ n, KS (sTestN f N n)
  | 0 => KS_test (KS_sumN 0) (fun _ _ => Kp.no)
  | n + 1 => KS_test (KS_sumN (n + 1)) (KS_testN n)
theorem MR.keep {b : Nat} {A T T' : St} (h : MR b A T) (g : ∀ j, j ≠ 19 → j ≠ 20 → T' j = T j) : MR b A T' := by
  have e : T' = fun j => bif Nat.beq j 19 then T' 19 else bif Nat.beq j 20 then T' 20 else T j := by
    funext j
    by_cases h1 : j = 19
    · subst h1; rfl
    · by_cases h2 : j = 20
      · subst h2; rfl
      · show T' j = bif Nat.beq j 19 then T' 19 else bif Nat.beq j 20 then T' 20 else T j
        rw [beq_ne h1, beq_ne h2, g j h1 h2]
        rfl
  obtain ⟨⟨k0, k1, k2, k3, k4⟩, hc, ht, hB, hd, hl, hk, hp, hh, hwn, hm, hb⟩ := h
  rw [e]
  refine ⟨⟨k0, k1, k2, k3, k4⟩, hc, ht, hB, hd, hl, hk.cg rfl rfl rfl rfl rfl rfl (fun k => ?_), hp, hh, hwn, hm, hb⟩
  show (bif Nat.beq (27 + k) 19 then T' 19 else bif Nat.beq (27 + k) 20 then T' 20 else T (27 + k)) = T (27 + k)
  rw [beq_ne (show 27 + k ≠ 19 by omega), beq_ne (show 27 + k ≠ 20 by omega)]
  rfl
theorem M_reads {f : Nat → Int} {N b p : Nat} {A u T : St} (h : MS f N b p A) (hT : T 19 2 ≤ (p : Int)) (hp : 1 ≤ p) (hq : q_X12_reads 1 A u) : (1 ≤ u 0 8 ∧ Bad f N (sTestN f N 8 T p)) ∨ (u 0 8 = 0 ∧ ∃ a, sTestN f N 8 T p = some a ∧ MS f N b a.2 u ∧ p < a.2 ∧ a.1 19 2 ≤ (a.2 : Int)) := by
  rcases (hq.1 : tr_r_X12_reads 1 A u) with ⟨_, A2, e2, h2⟩ | ⟨c, _⟩
  · rcases h2 with ⟨c, _⟩ | ⟨_, h2⟩
    · exact absurd c (by decide)
    · obtain ⟨_, A9, hpu, nn, h2⟩ := (h2 : tr_d_X12_reads_1 A2 u 1)
      obtain ⟨A1, e1, e9⟩ := (hpu.1 : tr_r_X12_pushes 1 A2 A9)
      have d2 : A2 0 53 = 0 := by rw [e2]; rfl
      rw [d2] at e1
      have s9 : MS f N b p A9 := by
        rw [e9, e1, e2]
        refine h.fr rfl (fun k hk => ?_)
        show stA (stA (stA (stA (stA (stA (stA (stA (stA A 0 53 0) 0 54 0) 0 56 0) 0 57 0) 35 _ 1) 36 _ 0) 37 _ 1) 39 _ _) 0 53 _ 0 k = A 0 k
        rw [st0_k (by decide) (by decide) hk]
        show stA (stA (stA (stA A 0 53 0) 0 54 0) 0 56 0) 0 57 0 0 k = A 0 k
        rw [st0_k (by decide) (by decide) hk, st0_k (by decide) (by decide) hk, st0_k (by decide) (by decide) hk, st0_k (by decide) (by decide) hk]
      have f53 : A9 0 53 = ((1 : Nat) : Int) := by rw [e9, e1]; rfl
      have f54 : A9 0 54 = 0 := by rw [e9, e1, e2]; rfl
      have f57 : A9 0 57 = 0 := by rw [e9, e1, e2]; rfl
      have r35 : A9 35 0 = 1 := by rw [e9, e1]; rfl
      have r36 : A9 36 0 = 0 := by rw [e9, e1]; rfl
      have r37 : A9 37 0 = 1 := by rw [e9, e1]; rfl
      have sim := (Sim_testN (f := f) (N := N) (b := b) (u := u) 8).2 A9 T p 1 s9 ⟨nn, h2⟩ f57 f53 (by decide) (by rw [f54]; rfl) (Or.inl r35) (by show ¬ A9 37 0 = 0; rw [r37]; decide) r36 hT hp
      rcases sim with g | ⟨a, A', sa, ms, hr, m57, tq, m37, m36, m36t, na, q, cd⟩
      · exact Or.inl g
      · have k1 : A' 35 0 = 1 := (tq.2.2.1 0 (by decide)).trans r35
        have d1 : A' 0 53 = ((1 : Nat) : Int) := tq.1.trans f53
        obtain ⟨z, v, hg, h3⟩ := RN_go hr (by rw [m57]; decide)
        have m36 : ¬ A' 36 0 = 0 := m36
        have g8 : d_X12_goesOn_8 A' z v 1 A' := by
          rcases G_base (D := 1) ms d1 (by decide) hg with ⟨g1, g2, _⟩ | ⟨_, z2, hz2, g2⟩
          · exact absurd g2 (m36t g1)
          · have hz2 : (z2 = 1 ∧ (A' 35 0 = 1 ∨ A' 35 0 = 5)) ∨ (z2 = 0 ∧ ¬ (A' 35 0 = 1 ∨ A' 35 0 = 5)) := hz2
            have g2 : d_X12_goesOn_2 A' z v (A' 35 0) z2 := g2
            rw [k1] at hz2 g2
            have e2 : z2 = 1 := by
              rcases hz2 with ⟨g, _⟩ | ⟨_, g⟩
              · exact g
              · exact absurd (Or.inl rfl) g
            rcases G_cmp (D := 1) ms d1 (by decide) (Or.inl e2) g2 with ⟨_, g, _⟩ | ⟨_, g2⟩
            · exact absurd g m36
            · rcases G_andor (D := 1) ms d1 (by decide) (Or.inl e2) g2 with ⟨_, g, _⟩ | ⟨_, g2⟩
              · rcases g with g | g
                · exact absurd g na.1
                · exact absurd g na.2
              · rcases G_end (D := 1) ms d1 (by decide) (Or.inl e2) g2 with ⟨_, g, _⟩ | ⟨_, g2⟩
                · exact absurd g m36
                · exact g2
        have gk := G_k1 (by decide) ms.ns g8
        have eu : u = v := by
          rcases h3 with ⟨_, e⟩ | ⟨c, _⟩ | ⟨c, _⟩
          · exact e
          · exact absurd gk.1 c
          · exact absurd gk.1 c
        have mu : MS f N b a.2 u := by rw [eu]; exact ms.sb gk.2
        exact Or.inr ⟨mu.ns, a, sa, mu, by omega, by omega⟩
  · exact absurd (Int.le_of_eq h.ns) c
theorem X_reads {A u : St} {x : Int} (h : 1 ≤ A 0 8) (hq : q_X12_reads x A u) : u = A := by
  rcases (hq.1 : tr_r_X12_reads x A u) with ⟨c, _⟩ | ⟨_, e⟩
  · omega
  · exact e
