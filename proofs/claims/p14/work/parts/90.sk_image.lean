/-! An image that is read in: when it is one, on both sides. -/
theorem and_255 : ∀ k : Fin 256, oAnd ((k.val : Int) - 128) 255 = ((k.val : Int) - 128) % 256 := by decide +kernel
def tp (f : Nat → Int) (N k : Nat) : Int := if k < N then f k else -1
theorem K_at {f : Nat → Int} {N k : Nat} {C : St} {z : Int} (hI : IK C) (hN : C 1 1 = (N : Int)) (hf : ∀ k, k < N → f k = C 2 k % 256) (h : q_X7_at (k : Int) C z) : z = tp f N k := by
  unfold tp
  rcases (h.1 : tr_r_X7_at (k : Int) C z) with ⟨c, -⟩ | ⟨_, h⟩
  · omega
  rcases h with ⟨c, hz⟩ | ⟨c, z5, e5, z6, e6, hz⟩
  · rw [if_neg (by omega)]
    exact hz
  · rw [Int.toNat_natCast] at e5
    have hr : -128 ≤ z5 ∧ z5 ≤ 127 := by rw [e5]; exact irTPb hI
    have t : oAnd ((((z5 + 128).toNat : Nat) : Int) - 128) 255 = ((((z5 + 128).toNat : Nat) : Int) - 128) % 256 := and_255 ⟨(z5 + 128).toNat, by omega⟩
    rw [show (((z5 + 128).toNat : Nat) : Int) - 128 = z5 by omega] at t
    rw [if_pos (by omega), hz, e6, t, hf k (by omega), e5]
def ps (f : Nat → Int) (N P : Nat) : Nat → Nat
  | 0 => P
  | k + 1 => ps f N P k + 2 + (tp f N (ps f N P k + 1)).toNat
theorem ps_ge {f : Nat → Int} {N P : Nat} : ∀ k d, ps f N P k + 2 * d ≤ ps f N P (k + d) := by
  intro k d
  induction d with
  | zero => exact Nat.le_refl _
  | succ d ih =>
    have e : ps f N P (k + (d + 1)) = ps f N P (k + d) + 2 + (tp f N (ps f N P (k + d) + 1)).toNat := rfl
    omega
def rowOk (T : St) (f : Nat → Int) (N a m : Nat) : Prop := (∀ i, i < m → 0 ≤ tp f N (a + i) ∧ tp f N (a + i) < T 1 1) ∧ ∀ i j, i < j → j < m → tp f N (a + i) ≠ tp f N (a + j)
def keyOk (T : St) (f : Nat → Int) (N a : Nat) : Prop := WV T (tp f N a) ∧ (0 ≤ tp f N (a + 1) ∧ tp f N (a + 1) ≤ 6) ∧ rowOk T f N (a + 2) (tp f N (a + 1)).toNat
def sm (f : Nat → Int) (N : Nat) : Nat → Int
  | 0 => 19
  | k + 1 => (3 * sm f N k + tp f N k) % 233
def whole (T : St) (f : Nat → Int) (N : Nat) : Prop := (∀ p : Nat, (p : Int) < T 1 3 → 0 ≤ tp f N p ∧ tp f N p < T 1 0) ∧ (∀ k : Nat, (k : Int) < T 1 2 → keyOk T f N (ps f N (T 1 3).toNat k)) ∧ N = ps f N (T 1 3).toNat (T 1 2).toNat + 1 ∧ tp f N (N - 1) = sm f N (N - 1)
/-- the class's key of an image -/
def UP40 (A u : St) : Prop := ∀ j, (j < 32 ∨ 41 ≤ j) → u j = A j
theorem UP40.rf {A : St} : UP40 A A := fun _ _ => rfl
theorem UP40.trans {A B C : St} (h : UP40 A B) (g : UP40 B C) : UP40 A C := fun j hj => (g j hj).trans (h j hj)
theorem UP40.st {A B : St} {j i : Nat} {v : Int} (h : UP40 A B) (hj : 32 ≤ j ∧ j < 41) : UP40 A (stA B j i v) := fun j' h' => (stA_ne _ _ (by omega)).trans (h j' h')
def DK (f : Nat → Int) (N a k : Nat) (u : St) : Prop := u 34 k = tp f N a ∧ u 35 k = tp f N (a + 1) ∧ ∀ i : Nat, (i : Int) < tp f N (a + 1) → u (37 + k) i = tp f N (a + 2 + i)
def CI40 (f : Nat → Int) (N a k i : Nat) (S C : St) : Prop := UP40 S C ∧ C 33 = S 33 ∧ C 34 = S 34 ∧ (∀ k', k' ≠ k → C 35 k' = S 35 k') ∧ (∀ k', k' ≠ k → k' < 4 → C (37 + k') = S (37 + k')) ∧ C 35 k = (i : Int) ∧ ∀ i', i' < i → C (37 + k) i' = tp f N (a + 2 + i')
theorem K_accL {f : Nat → Int} {N t a k m : Nat} {S u : St} {z : Int} (hT : isT t) (hk : k < 4) (ha : a < 2000) (hm : m ≤ 6) (hN : S 1 1 = (N : Int)) (hf : ∀ k, k < N → f k = S 2 k % 256) : ∀ (nn i : Nat) (C : St), i ≤ m → CI40 f N a k i S C → rowOk (tw t S) f N (a + 2) i → d_X4_acceptKey_1 t (k : Int) (a : Int) (m : Int) z u nn (i : Int) C → (z = 1 ∧ rowOk (tw t S) f N (a + 2) m ∧ CI40 f N a k m S u) ∨ (z = 0 ∧ ¬ rowOk (tw t S) f N (a + 2) m ∧ UP40 S u) := by
  have t51 : t = 51 ∨ t = 82 := hT
  intro nn
  induction nn with
  | zero => intro i C _ _ _ h; exact h.elim
  | succ nn ih =>
    intro i C hi hC hr h
    obtain ⟨hI, _, h⟩ := (h : tr_d_X4_acceptKey_1 t (k : Int) (a : Int) (m : Int) z u (fun z16 A18 => d_X4_acceptKey_1 t (k : Int) (a : Int) (m : Int) z u nn z16 A18) (i : Int) C)
    have hC' := hC
    obtain ⟨c1, c2, c3, c4, c5, c6, c7⟩ := hC
    rcases h with ⟨c, hz, hu⟩ | ⟨c, z25, e25, z26, e26, z27, h27, z30, h30, h⟩
    · have e : i = m := by omega
      subst e
      rw [hu]
      exact Or.inl ⟨hz, hr, hC'⟩
    have him : i < m := by omega
    rw [oWrap_id ⟨by omega, by omega⟩] at e25
    rw [e25, oWrap_id ⟨by omega, by omega⟩] at e26
    have e26 : z26 = ((a + 2 + i : Nat) : Int) := by omega
    rw [e26] at h27
    have e27 := K_at (f := f) hI (by rw [c1 1 (by omega)]; exact hN) (fun k hk => by rw [c1 2 (by omega)]; exact hf k hk) h27
    have k30 := K_there1 h30
    rw [c1 (t + 1) (by (first | omega | (clear h; omega) | (clear h1; omega) | (clear h2; omega) | (clear h h1; omega) | (clear h h2; omega) | (clear h1 h2; omega) | (clear h h1 h2; omega)))] at k30
    rcases h with ⟨c8, hz, hu⟩ | ⟨c8, z34, A35, hp, h⟩
    · refine Or.inr ⟨hz, fun g => ?_, by rw [hu]; exact c1⟩
      have := g.1 i him
      rw [← e27] at this
      have : 0 ≤ z27 ∧ z27 < S (t + 1) 1 := this
      omega
    have v27 : 0 ≤ z27 ∧ z27 < S (t + 1) 1 := by omega
    obtain ⟨d, ed⟩ : ∃ d : Nat, z27 = (d : Int) := ⟨z27.toNat, by omega⟩
    rw [ed] at hp
    rcases (hp.1 : tr_r_X6_push 32 (k : Int) (d : Int) C z34 A35) with ⟨c9, -⟩ | ⟨_, hq⟩
    · omega
    rcases hq with ⟨c9, -⟩ | ⟨_, w3, hw3, hq⟩
    · omega
    have kp := K_placeIn (t := 10) (B := C) hk (by show C 35 k ≤ 6; omega) hw3
    have iin : inR (tw 10 C) k d ↔ ∃ i', i' < i ∧ tp f N (a + 2 + i') = (d : Int) := by
      constructor
      · rintro ⟨i', g1, g2⟩
        have g1 : (i' : Int) < C 35 k := g1
        have g2 : C (10 + (27 + k)) i' = (d : Int) := g2
        rw [show 10 + (27 + k) = 37 + k by omega, c7 i' (by omega)] at g2
        exact ⟨i', by omega, g2⟩
      · rintro ⟨i', g1, g2⟩
        refine ⟨i', ?_, ?_⟩
        · show (i' : Int) < C 35 k
          omega
        · show C (10 + (27 + k)) i' = (d : Int)
          rw [show 10 + (27 + k) = 37 + k by omega, c7 i' g1]
          exact g2
    rcases hq with ⟨c9, w7, e7, hq⟩ | ⟨c9, hz3, hu3⟩
    · have nin : ¬ inR (tw 10 C) k d := by
        rcases kp with g | g
        · exact g.2
        · exact absurd c9 g.1
      rw [Int.toNat_natCast] at e7
      have e7 : w7 = (i : Int) := by rw [e7]; exact c6
      rcases hq with ⟨_, A10, e10, A11, e11, hz3, hu3⟩ | ⟨c10, -⟩
      · rcases h with ⟨_, h⟩ | ⟨c11, -⟩
        · rw [e7, Int.toNat_natCast, Int.toNat_natCast] at e10
          rw [e7, Int.toNat_natCast] at e11
          have e10 : A10 = stA C (37 + k) i (d : Int) := e10
          have e11 : A11 = stA A10 35 k ((i : Int) + 1) := e11
          have lo : ∀ j, j ≠ 35 → j ≠ 37 + k → A35 j = C j := fun j h1 h2 => by rw [hu3, e11, stA_ne _ _ h1, e10, stA_ne _ _ h2]
          have r35 : A35 35 = up (C 35) k ((i : Int) + 1) := by rw [hu3, e11, stA_same, e10, stA_ne _ _ (by omega)]
          have r37 : A35 (37 + k) = up (C (37 + k)) i (d : Int) := by rw [hu3, e11, stA_ne _ _ (by omega), e10, stA_same]
          refine ih (i + 1) A35 (by omega) ⟨fun j hj => (lo j (by omega) (by omega)).trans (c1 j hj), (lo 33 (by decide) (by omega)).trans c2, (lo 34 (by decide) (by omega)).trans c3, fun k' g => ?_, fun k' g g4 => (lo _ (by omega) (by omega)).trans (c5 k' g g4), ?_, fun i' g => ?_⟩ ⟨fun i' g => ?_, fun i' j' g1 g2 => ?_⟩ (by rw [show ((i + 1 : Nat) : Int) = (i : Int) + 1 by omega]; exact h)
          · rw [r35, up_ne _ _ g]
            exact c4 k' g
          · rw [r35, up_same]
            omega
          · rw [r37]
            by_cases e : i' = i
            · rw [e, up_same, ← ed, e27]
            · rw [up_ne _ _ e]
              exact c7 i' (by omega)
          · by_cases e : i' = i
            · rw [e, ← e27]
              exact v27
            · exact hr.1 i' (by omega)
          · by_cases e : j' = i
            · rw [e, ← e27, ed]
              intro g
              exact nin (iin.mpr ⟨i', by omega, g⟩)
            · exact hr.2 i' j' g1 (by omega)
        · omega
      · omega
    · have isin : inR (tw 10 C) k d := by
        rcases kp with g | g
        · exact absurd g.1 c9
        · exact g.2
      rcases h with ⟨c11, -⟩ | ⟨_, hz, hu⟩
      · exact absurd hz3 c11
      · refine Or.inr ⟨hz, fun g => ?_, by rw [hu, hu3]; exact c1⟩
        obtain ⟨i', g1, g2⟩ := iin.mp isin
        exact g.2 i' i g1 him (g2.trans (ed.symm.trans e27))
theorem K_isWhere {t : Nat} {x z : Int} {C : St} (hx : -1 ≤ x ∧ x ≤ 255) (l0 : C (t + 1) 0 ≤ 8) (h : q_X4_isWhere t x C z) : (z = 1 ↔ WV (tw t C) x) ∧ (z = 0 ∨ z = 1) := by
  obtain ⟨z1, h1, h⟩ := (h.1 : tr_r_X4_isWhere t x C z)
  have k1 := K_there3 h1
  have un : WV (tw t C) x ↔ (0 ≤ x ∧ x < C (t + 1) 3) ∨ ((10 ≤ x ∧ x < 10 + C (t + 1) 0) ∨ (20 ≤ x ∧ x < 20 + C (t + 1) 1 ∧ C (t + 10) (x - 20).toNat = 0)) ∨ x = 40 := Iff.rfl
  rw [un]
  rcases h with ⟨c, hz⟩ | ⟨c, z5, e5, z6, h6, h⟩
  · omega
  rw [oWrap_id ⟨by omega, by omega⟩] at e5
  have k6 : (z6 = 1 ↔ 0 ≤ z5 ∧ z5 < C (t + 1) 0) ∧ (z6 = 0 ∨ z6 = 1) := by
    rcases (h6.1 : tr_r_X9_isThere_1_0 t z5 C z6) with ⟨c, e⟩ | ⟨c, z4, e4, h⟩
    · omega
    · have e4 : z4 = C (t + 1) 0 := e4
      rcases h with ⟨c2, e⟩ | ⟨c2, e⟩ <;> omega
  rcases h with ⟨c2, hz⟩ | ⟨c2, z10, e10, z11, h11, h⟩
  · omega
  rw [oWrap_id ⟨by omega, by omega⟩] at e10
  have k11 := K_isBox h11
  rw [e10] at k11
  rcases h with ⟨c3, hz⟩ | ⟨c3, h⟩
  · omega
  rcases h with ⟨c4, hz⟩ | ⟨c4, hz⟩ <;> omega
theorem K_accKey {f : Nat → Int} {N t a k : Nat} {S u : St} {z : Int} (hT : isT t) (hI : IK S) (hk : k < 4) (ha : a < 2000) (l0 : S (t + 1) 0 ≤ 8) (hN : S 1 1 = (N : Int)) (hf : ∀ k, k < N → f k = S 2 k % 256) (h : q_X4_acceptKey t (k : Int) (a : Int) S z u) : (z = 1 ∧ keyOk (tw t S) f N a ∧ DK f N a k u ∧ UP40 S u ∧ u 33 = S 33 ∧ (∀ k', k' ≠ k → k' < 4 → u 34 k' = S 34 k' ∧ u 35 k' = S 35 k' ∧ u (37 + k') = S (37 + k'))) ∨ (z = 0 ∧ ¬ keyOk (tw t S) f N a ∧ UP40 S u) := by
  obtain ⟨z1, h1, z4, e4, z5, h5, z8, h8, h⟩ := (h.1 : tr_r_X4_acceptKey t (k : Int) (a : Int) S z u)
  have e1 := K_at (f := f) hI hN hf h1
  rw [oWrap_id ⟨by omega, by omega⟩] at e4
  have e4 : z4 = ((a + 1 : Nat) : Int) := by omega
  rw [e4] at h5
  have e5 := K_at (f := f) hI hN hf h5
  have k8 := K_isWhere h1.2 l0 h8
  rw [e1] at k8
  rcases h with ⟨c, hz, hu⟩ | ⟨c, h⟩
  · refine Or.inr ⟨hz, fun g => ?_, by rw [hu]; exact UP40.rf⟩
    have := k8.1.mpr g.1
    omega
  have wv := k8.1.mp (by omega)
  rcases h with ⟨c2, hz, hu⟩ | ⟨c2, h⟩
  · refine Or.inr ⟨hz, fun g => ?_, by rw [hu]; exact UP40.rf⟩
    have := g.2.1
    omega
  rcases h with ⟨c3, A14, e14, A15, e15, nn, h⟩ | ⟨c3, hz, hu⟩
  case inr =>
    refine Or.inr ⟨hz, fun g => ?_, by rw [hu]; exact UP40.rf⟩
    have := g.2.1
    omega
  obtain ⟨m, em⟩ : ∃ m : Nat, z5 = (m : Int) := ⟨z5.toNat, by omega⟩
  rw [Int.toNat_natCast] at e14 e15
  have e14 : A14 = stA S 34 k z1 := e14
  have e15 : A15 = stA A14 35 k 0 := e15
  have u15 : UP40 S A15 := by rw [e15, e14]; exact (UP40.rf.st (by decide)).st (by decide)
  have r1 : tw t A15 1 = tw t S 1 := by
    have t51 : t = 51 ∨ t = 82 := hT
    exact u15 (t + 1) (by omega)
  have ci : CI40 f N a k 0 A15 A15 := by
    refine ⟨UP40.rf, rfl, rfl, fun _ _ => rfl, fun _ _ _ => rfl, ?_, fun i' g => absurd g (Nat.not_lt_zero i')⟩
    rw [e15, stA_same, up_same]
    rfl
  rw [em] at h
  have same : ∀ m', rowOk (tw t A15) f N (a + 2) m' ↔ rowOk (tw t S) f N (a + 2) m' := by
    intro m'
    unfold rowOk
    rw [r1]
  have r := K_accL hT hk ha (by omega) (by rw [u15 1 (by omega)]; exact hN) (fun k hk => by rw [u15 2 (by omega)]; exact hf k hk) nn 0 A15 (Nat.zero_le m) ci ⟨fun i g => absurd g (Nat.not_lt_zero i), fun i j _ g => absurd g (Nat.not_lt_zero j)⟩ h
  rcases r with ⟨hz, ok, hc⟩ | ⟨hz, no, hu⟩
  · obtain ⟨c1', c2', c3', c4', c5', c6', c7'⟩ := hc
    refine Or.inl ⟨hz, ⟨wv, by omega, ?_⟩, ⟨?_, ?_, fun i hi => ?_⟩, u15.trans c1', ?_, fun k' g g4 => ⟨?_, ?_, ?_⟩⟩
    · rw [← e5, em, Int.toNat_natCast]
      exact (same m).mp ok
    · rw [c3', e15, stA_ne _ _ (by decide), e14, stA_same, up_same, e1]
    · rw [c6', ← em, e5]
    · exact c7' i (by omega)
    · rw [c2', e15, stA_ne _ _ (by decide), e14, stA_ne _ _ (by decide)]
    · rw [c3', e15, stA_ne _ _ (by decide), e14, stA_same, up_ne _ _ g]
    · rw [c4' k' g, e15, stA_same, up_ne _ _ g, e14, stA_ne _ _ (by decide)]
    · rw [c5' k' g g4, e15, stA_ne _ _ (by omega), e14, stA_ne _ _ (by omega)]
  · refine Or.inr ⟨hz, fun g => no ?_, u15.trans hu⟩
    have := g.2.2
    rw [← e5, em, Int.toNat_natCast] at this
    exact (same m).mpr this
/-- the class's sum -/
theorem K_sumL {f : Nat → Int} {N n : Nat} {C : St} {z : Int} (hI : IK C) (hn : n < N) (hN16 : N ≤ 1600) (h0 : ∀ k, 0 ≤ f k ∧ f k ≤ 255) (hN : C 1 1 = (N : Int)) (hf : ∀ k, k < N → f k = C 2 k % 256) : ∀ (nn k : Nat) (v : Int), k ≤ n → v = sm f N k → (0 ≤ v ∧ v ≤ 232) → d_X4_sumOf_1 (n : Int) C z nn (k : Int) v → z = sm f N n := by
  intro nn
  induction nn with
  | zero => intro k v _ _ _ h; exact h.elim
  | succ nn ih =>
    intro k v hk hv hb h
    obtain ⟨_, _, h⟩ := (h : tr_d_X4_sumOf_1 (n : Int) C z (fun z1 z2 => d_X4_sumOf_1 (n : Int) C z nn z1 z2) (k : Int) v)
    rcases h with ⟨c, hz⟩ | ⟨c, h⟩
    · have e : k = n := by omega
      rw [hz, hv, e]
    rcases h with ⟨c2, -⟩ | ⟨_, z11, h11, z14, h14, h⟩
    · omega
    have e11 := K_at (f := f) hI hN hf h11
    have t0 : tp f N k = f k := by unfold tp; rw [if_pos (by omega)]
    have b := h0 k
    obtain ⟨w1, x1, w2, x2, w3, x3, hz4⟩ := (h14.1 : tr_r_X4_summed v z11 C z14)
    rw [oWrap_id ⟨by omega, by omega⟩] at x1
    rw [oWrap_id ⟨by omega, by omega⟩] at x2
    rw [oRem_nat ⟨by omega, by omega⟩ ⟨by decide, by decide⟩] at x3
    have ev : z14 = sm f N (k + 1) := by
      show z14 = (3 * sm f N k + tp f N k) % 233
      rw [hz4, x3, x2, x1, e11, hv]
    refine ih (k + 1) z14 (by omega) ev (by omega) (by rw [show ((k + 1 : Nat) : Int) = (k : Int) + 1 by omega]; exact h)
