/-! The reference takes an image, or doesn't; then both. -/
theorem tp_in {f : Nat → Int} {N k : Nat} (h : k < N) : tp f N k = f k := by
  unfold tp
  rw [if_pos h]
theorem M_rowIn {f : Nat → Int} {N a i : Nat} {A : St} {z : Int} {K1 : Int → Prop} (hai : a + i < N) (hf : ∀ k, k < N → A 1 k = f k) : ∀ (nn j : Nat), j ≤ i → (∀ j', j' < j → tp f N (a + j') ≠ tp f N (a + i)) → d_X12_isRowAt_2 K1 (a : Int) (i : Int) A z nn (j : Int) → (K1 ((i : Int) + 1) ∧ ∀ j', j' < i → tp f N (a + j') ≠ tp f N (a + i)) ∨ (z = 0 ∧ ∃ j', j' < i ∧ tp f N (a + j') = tp f N (a + i)) := by
  intro nn
  induction nn with
  | zero => intro j _ _ h; exact h.elim
  | succ nn ih =>
    intro j hj no h
    obtain ⟨_, h⟩ := (h : tr_d_X12_isRowAt_2 K1 (a : Int) (i : Int) A z (fun z15 => d_X12_isRowAt_2 K1 (a : Int) (i : Int) A z nn z15) (j : Int))
    rcases h with ⟨c, h⟩ | ⟨c, z23, e23, z24, e24, h⟩
    · have e : j = i := by omega
      subst e
      exact Or.inl ⟨h, no⟩
    · rw [show ((a : Int) + (j : Int)).toNat = a + j by omega, hf _ (by omega), ← tp_in (f := f) (N := N) (show a + j < N by omega)] at e23
      rw [show ((a : Int) + (i : Int)).toNat = a + i by omega, hf _ hai, ← tp_in (f := f) (N := N) hai] at e24
      rcases h with ⟨c2, h⟩ | ⟨c2, hz⟩
      · refine ih (j + 1) (by omega) (fun j' g => ?_) (by rw [show ((j + 1 : Nat) : Int) = (j : Int) + 1 by omega]; exact h)
        by_cases e : j' = j
        · subst e
          rw [← e23, ← e24]
          exact c2
        · exact no j' (by omega)
      · exact Or.inr ⟨hz, j, by omega, by rw [← e23, ← e24]; exact c2⟩
theorem M_rowAtL {f : Nat → Int} {N a m b : Nat} {A T : St} {z : Int} (hI : IM A) (hA : ACT b A T) (ham : a + m ≤ N) (hf : ∀ k, k < N → A 1 k = f k) : ∀ (nn i : Nat), i ≤ m → rowOk T f N a i → d_X12_isRowAt_1 (a : Int) (m : Int) A z nn (i : Int) → (z = 1 ∧ rowOk T f N a m) ∨ (z = 0 ∧ ¬ rowOk T f N a m) := by
  intro nn
  induction nn with
  | zero => intro i _ _ h; exact h.elim
  | succ nn ih =>
    intro i hi ok h
    obtain ⟨_, h⟩ := (h : tr_d_X12_isRowAt_1 (a : Int) (m : Int) A z (fun z1 => d_X12_isRowAt_1 (a : Int) (m : Int) A z nn z1) (i : Int))
    rcases h with ⟨c, hz⟩ | ⟨c, z10, e10, z11, h11, h⟩
    · have e : i = m := by omega
      subst e
      exact Or.inl ⟨hz, ok⟩
    · have him : i < m := by omega
      rw [show ((a : Int) + (i : Int)).toNat = a + i by omega, hf _ (by omega), ← tp_in (f := f) (N := N) (show a + i < N by omega)] at e10
      have md := M_isDoor hI hA h11
      rcases h with ⟨c2, n2, h⟩ | ⟨c2, hz⟩
      · rcases M_rowIn (by omega) hf n2 0 (Nat.zero_le i) (fun j' g => absurd g (Nat.not_lt_zero j')) h with ⟨g1, g2⟩ | ⟨hz, j', g1, g2⟩
        · refine ih (i + 1) (by omega) ⟨fun i' g => ?_, fun i' j' g3 g4 => ?_⟩ (by rw [show ((i + 1 : Nat) : Int) = (i : Int) + 1 by omega]; exact g1)
          · by_cases e : i' = i
            · rw [e, ← e10]
              omega
            · exact ok.1 i' (by omega)
          · by_cases e : j' = i
            · rw [e]
              exact g2 i' (by omega)
            · exact ok.2 i' j' g3 (by omega)
        · exact Or.inr ⟨hz, fun g => g.2 j' i g1 him g2⟩
      · refine Or.inr ⟨hz, fun g => ?_⟩
        have := g.1 i him
        rw [← e10] at this
        omega
theorem M_mayBe {b : Nat} {x z : Int} {A T : St} (hI : IM A) (hA : ACT b A T) (h : q_X12_mayBeAt x A z) : (z = 1 ↔ WV T x) ∧ (z = 0 ∨ z = 1) := by
  obtain ⟨l0, l1, l2, l3⟩ := hA.lim hI
  have un : WV T x ↔ (0 ≤ x ∧ x < T 1 3) ∨ ((10 ≤ x ∧ x < 10 + T 1 0) ∨ (20 ≤ x ∧ x < 20 + T 1 1 ∧ T 10 (x - 20).toNat = 0)) ∨ x = 40 := Iff.rfl
  rw [un]
  rcases (h.1 : tr_r_X12_mayBeAt x A z) with ⟨c, h⟩ | ⟨c, z17, h17, hz⟩
  · rcases h with ⟨c2, h⟩ | ⟨c2, z14, h14, hz⟩
    · rcases h with ⟨c3, hz⟩ | ⟨c3, h⟩
      · omega
      · rcases h with ⟨c4, hz⟩ | ⟨c4, z5, h5, h⟩
        · omega
        · have m5 := M_isDoor hI hA h5
          rcases h with ⟨c5, hz⟩ | ⟨c5, _, _, z12, e12, h⟩
          · omega
          · have nb := hA.st.1 (x - 20).toNat (by omega)
            rw [hA.1, show (10 * (b : Int) + x - 20).toNat = 10 * b + (x - 20).toNat by omega] at e12
            rw [← e12] at nb
            rcases h with ⟨c6, hz⟩ | ⟨c6, hz⟩
            · have := nb.mp c6
              omega
            · have : T 10 (x - 20).toNat = 0 := by
                by_cases g : T 10 (x - 20).toNat = 0
                · exact g
                · exact absurd (nb.mpr g) c6
              omega
    · have m14 := M_isPlace hI hA h14
      omega
  · have m17 := M_isPerson hI hA h17
    omega
theorem M_whole3 {f : Nat → Int} {N b P K : Nat} {A T : St} {z : Int} (hI : IM A) (hA : ACT b A T) (hK : T 1 2 = (K : Int)) (hN1 : 1 ≤ N) (hf : ∀ k, k < N → A 1 k = f k) (h0 : ∀ k, 0 ≤ f k ∧ f k ≤ 255) : ∀ (nn k : Nat), k ≤ K → (∀ k', k' < k → keyOk T f N (ps f N P k')) → d_X12_isWhole_3 (N : Int) A z nn (k : Int) ((ps f N P k : Nat) : Int) → (z = 1 ∧ (∀ k', k' < K → keyOk T f N (ps f N P k')) ∧ N = ps f N P K + 1) ∨ (z = 0 ∧ ¬ ((∀ k', k' < K → keyOk T f N (ps f N P k')) ∧ N = ps f N P K + 1)) := by
  intro nn
  induction nn with
  | zero => intro k _ _ h; exact h.elim
  | succ nn ih =>
    intro k hk ok h
    obtain ⟨_, _, z38, e38, h⟩ := (h : tr_d_X12_isWhole_3 (N : Int) A z (fun z26 z27 => d_X12_isWhole_3 (N : Int) A z nn z26 z27) (k : Int) ((ps f N P k : Nat) : Int))
    rw [hA.1, Int.toNat_natCast, hA.cnt.2.2.1, hK] at e38
    have nx : ps f N P (k + 1) = ps f N P k + 2 + (tp f N (ps f N P k + 1)).toNat := rfl
    rcases h with ⟨c, h⟩ | ⟨c, h⟩
    · have e : k = K := by omega
      subst e
      rcases h with ⟨c2, hz⟩ | ⟨c2, hz⟩
      · exact Or.inr ⟨hz, fun g => c2 (by omega)⟩
      · exact Or.inl ⟨hz, ok, by omega⟩
    · have mono := ps_ge (f := f) (N := N) (P := P) (k + 1) (K - (k + 1))
      rw [show k + 1 + (K - (k + 1)) = K by omega] at mono
      rcases h with ⟨c2, hz⟩ | ⟨c2, z42, e42, z43, h43, h⟩
      · exact Or.inr ⟨hz, fun g => by omega⟩
      rw [Int.toNat_natCast, hf _ (by omega), ← tp_in (f := f) (N := N) (show ps f N P k < N by omega)] at e42
      have m43 := M_mayBe hI hA h43
      rw [e42] at m43
      rcases h with ⟨c3, hz⟩ | ⟨c3, z47, e47, h⟩
      · exact Or.inr ⟨hz, fun g => by have := m43.1.mpr (g.1 k (by omega)).1; omega⟩
      have n1 : (((ps f N P k : Nat) : Int) + 1).toNat = ps f N P k + 1 := by omega
      have t1 := tp_in (f := f) (N := N) (show ps f N P k + 1 < N by omega)
      have b1 := h0 (ps f N P k + 1)
      rw [n1, hf _ (by omega), ← t1] at e47
      rcases h with ⟨c4, z49, e49, h⟩ | ⟨c4, hz⟩
      case inr => exact Or.inr ⟨hz, fun g => by have := (g.1 k (by omega)).2.1; omega⟩
      rw [n1, hf _ (by omega), ← t1] at e49
      rcases h with ⟨c5, hz⟩ | ⟨c5, z51, h51, h⟩
      · exact Or.inr ⟨hz, fun g => by omega⟩
      obtain ⟨m, em⟩ : ∃ m : Nat, z49 = (m : Int) := ⟨z49.toNat, by omega⟩
      have em2 : (tp f N (ps f N P k + 1)).toNat = m := by omega
      obtain ⟨n5, h51⟩ := (h51.1 : tr_r_X12_isRowAt (((ps f N P k : Nat) : Int) + 2) z49 A z51)
      rw [show ((ps f N P k : Nat) : Int) + 2 = ((ps f N P k + 2 : Nat) : Int) by omega, em] at h51
      have mr := M_rowAtL hI hA (by omega) hf n5 0 (Nat.zero_le m) ⟨fun i g => absurd g (Nat.not_lt_zero i), fun i j _ g => absurd g (Nat.not_lt_zero j)⟩ h51
      rcases h with ⟨c6, h⟩ | ⟨c6, hz⟩
      · rcases mr with ⟨_, ro⟩ | ⟨g, _⟩
        · rw [show ((ps f N P k : Nat) : Int) + z49 + 2 = ((ps f N P (k + 1) : Nat) : Int) by omega] at h
          refine ih (k + 1) (by omega) (fun k' g => ?_) (by rw [show ((k + 1 : Nat) : Int) = (k : Int) + 1 by omega]; exact h)
          by_cases e : k' = k
          · subst e
            exact ⟨m43.1.mp (by omega), by omega, by rw [em2]; exact ro⟩
          · exact ok k' (by omega)
        · omega
      · rcases mr with ⟨g, _⟩ | ⟨_, ro⟩
        · omega
        · refine Or.inr ⟨hz, fun g => ro ?_⟩
          have := (g.1 k (by omega)).2.2
          rw [em2] at this
          exact this
theorem M_whole2 {f : Nat → Int} {N b P K : Nat} {A T : St} {z : Int} (hI : IM A) (hA : ACT b A T) (hP : T 1 3 = (P : Int)) (hK : T 1 2 = (K : Int)) (hN1 : 1 ≤ N) (hf : ∀ k, k < N → A 1 k = f k) (h0 : ∀ k, 0 ≤ f k ∧ f k ≤ 255) : ∀ (nn p : Nat), p ≤ P → (∀ p', p' < p → 0 ≤ tp f N p' ∧ tp f N p' < T 1 0) → d_X12_isWhole_2 (N : Int) (P : Int) A z nn (p : Int) → (z = 1 ∧ (∀ p', p' < P → 0 ≤ tp f N p' ∧ tp f N p' < T 1 0) ∧ (∀ k', k' < K → keyOk T f N (ps f N P k')) ∧ N = ps f N P K + 1) ∨ (z = 0 ∧ ¬ ((∀ p', p' < P → 0 ≤ tp f N p' ∧ tp f N p' < T 1 0) ∧ (∀ k', k' < K → keyOk T f N (ps f N P k')) ∧ N = ps f N P K + 1)) := by
  intro nn
  induction nn with
  | zero => intro p _ _ h; exact h.elim
  | succ nn ih =>
    intro p hp ok h
    obtain ⟨_, z24, e24, h⟩ := (h : tr_d_X12_isWhole_2 (N : Int) (P : Int) A z (fun z15 => d_X12_isWhole_2 (N : Int) (P : Int) A z nn z15) (p : Int))
    rw [hA.1, Int.toNat_natCast, hA.cnt.2.2.2, hP] at e24
    rcases h with ⟨c, n3, h⟩ | ⟨c, h⟩
    · have e : p = P := by omega
      subst e
      rcases M_whole3 (P := p) hI hA hK hN1 hf h0 n3 0 (Nat.zero_le K) (fun k' g => absurd g (Nat.not_lt_zero k')) h with ⟨hz, g1, g2⟩ | ⟨hz, g⟩
      · exact Or.inl ⟨hz, ok, g1, g2⟩
      · exact Or.inr ⟨hz, fun x => g x.2⟩
    · have mono := ps_ge (f := f) (N := N) (P := P) 0 K
      rw [Nat.zero_add] at mono
      have e0 : ps f N P 0 = P := rfl
      rcases h with ⟨c2, hz⟩ | ⟨c2, z56, e56, z57, h57, h⟩
      · exact Or.inr ⟨hz, fun g => by have := g.2.2; omega⟩
      rw [Int.toNat_natCast, hf _ (by omega), ← tp_in (f := f) (N := N) (show p < N by omega)] at e56
      have m := M_isPlace hI hA h57
      rcases h with ⟨c3, h⟩ | ⟨c3, hz⟩
      · refine ih (p + 1) (by omega) (fun p' g => ?_) (by rw [show ((p + 1 : Nat) : Int) = (p : Int) + 1 by omega]; exact h)
        by_cases e : p' = p
        · rw [e, ← e56]
          omega
        · exact ok p' (by omega)
      · refine Or.inr ⟨hz, fun g => ?_⟩
        have := g.1 p (by omega)
        rw [← e56] at this
        omega
theorem M_whole1 {f : Nat → Int} {N b P K : Nat} {A T : St} {z : Int} (hI : IM A) (hA : ACT b A T) (hP : T 1 3 = (P : Int)) (hK : T 1 2 = (K : Int)) (hN1 : 1 ≤ N) (hf : ∀ k, k < N → A 1 k = f k) (h0 : ∀ k, 0 ≤ f k ∧ f k ≤ 255) : ∀ (nn k : Nat) (v : Int), k ≤ N - 1 → v = sm f N k → d_X12_isWhole_1 (N : Int) A z nn (k : Int) v → (z = 1 ∧ whole T f N) ∨ (z = 0 ∧ ¬ whole T f N) := by
  have eP : (T 1 3).toNat = P := by rw [hP]; exact Int.toNat_natCast P
  have eK : (T 1 2).toNat = K := by rw [hK]; exact Int.toNat_natCast K
  intro nn
  induction nn with
  | zero => intro k v _ _ h; exact h.elim
  | succ nn ih =>
    intro k v hk hv h
    obtain ⟨_, _, h⟩ := (h : tr_d_X12_isWhole_1 (N : Int) A z (fun z2 z3 => d_X12_isWhole_1 (N : Int) A z nn z2 z3) (k : Int) v)
    rcases h with ⟨c, z12, e12, h⟩ | ⟨c, z61, e61, z62, e62, h⟩
    · have e : k = N - 1 := by omega
      rw [show ((N : Int) - 1).toNat = N - 1 by (first | omega | (clear h; omega) | (clear h1; omega) | (clear h2; omega) | (clear h h1; omega) | (clear h h2; omega) | (clear h1 h2; omega) | (clear h h1 h2; omega)), hf _ (by omega), ← tp_in (f := f) (N := N) (show N - 1 < N by omega)] at e12
      rw [e] at hv
      rcases h with ⟨c2, z14, e14, n2, h⟩ | ⟨c2, hz⟩
      · rw [hA.1, Int.toNat_natCast, hA.cnt.2.2.2, hP] at e14
        rw [e14] at h
        rcases M_whole2 (K := K) hI hA hP hK hN1 hf h0 n2 0 (Nat.zero_le P) (fun p' g => absurd g (Nat.not_lt_zero p')) h with ⟨hz, g1, g2, g3⟩ | ⟨hz, g⟩
        · refine Or.inl ⟨hz, fun p hp => g1 p (by omega), fun k' hk' => ?_, ?_, ?_⟩
          · rw [eP]; exact g2 k' (by omega)
          · rw [eP, eK]; exact g3
          · rw [← e12, c2, hv]
        · refine Or.inr ⟨hz, fun x => g ⟨fun p' hp' => x.1 p' (by omega), fun k' hk' => ?_, ?_⟩⟩
          · have := x.2.1 k' (by omega)
            rw [eP] at this
            exact this
          · have := x.2.2.1
            rw [eP, eK] at this
            exact this
      · refine Or.inr ⟨hz, fun x => c2 ?_⟩
        rw [e12, hv]
        exact x.2.2.2
    · rw [Int.toNat_natCast, hf _ (by omega), ← tp_in (f := f) (N := N) (show k < N by omega)] at e61
      refine ih (k + 1) z62 (by omega) ?_ (by rw [show ((k + 1 : Nat) : Int) = (k : Int) + 1 by omega]; exact h)
      show z62 = (3 * sm f N k + tp f N k) % 233
      rw [e62, hv, e61]
theorem M_isWhole {f : Nat → Int} {N b : Nat} {A T : St} {z : Int} (hI : IM A) (hA : ACT b A T) (h3 : 0 ≤ T 1 3) (h2 : 0 ≤ T 1 2) (hf : ∀ k, k < N → A 1 k = f k) (h0 : ∀ k, 0 ≤ f k ∧ f k ≤ 255) (h : q_X12_isWhole (N : Int) A z) : (z = 1 ∧ whole T f N) ∨ (z = 0 ∧ ¬ whole T f N) := by
  rcases (h.1 : tr_r_X12_isWhole (N : Int) A z) with ⟨c, nn, h⟩ | ⟨c, hz⟩
  · exact M_whole1 (P := (T 1 3).toNat) (K := (T 1 2).toNat) hI hA (by omega) (by omega) (by omega) hf h0 nn 0 19 (Nat.zero_le _) rfl h
  · refine Or.inr ⟨hz, fun g => ?_⟩
    have := g.2.2.1
    omega
/-- what the reference then has -/
def FIM (f : Nat → Int) (N b P K : Nat) (u : St) : Prop := (∀ p, p < P → u 18 (3 * b + p) = f p) ∧ ∀ k, k < K → u 13 (4 * b + k) = f (ps f N P k) ∧ u 14 (4 * b + k) = f (ps f N P k + 1) ∧ ∀ i : Nat, (i : Int) < f (ps f N P k + 1) → u 15 (40 * b + 10 * k + i) = f (ps f N P k + 2 + i)
theorem M_on3 {f : Nat → Int} {N b k a m : Nat} {A u : St} {z : Int} {K2 : Int → Int → St → Prop} (hb : A 0 12 = (b : Int)) (hf : ∀ k, k < N → A 1 k = f k) (ham : a + 2 + m < N) (hm : f (a + 1) = (m : Int)) : ∀ (nn i : Nat) (C : St), i ≤ m → C 1 = A 1 → d_X12_on_3 K2 (k : Int) (a : Int) A z u nn (i : Int) C → ∃ D, K2 ((k : Int) + 1) ((a + 2 + m : Nat) : Int) D ∧ (∀ j, j ≠ 15 → D j = C j) ∧ (∀ i', (i' < 40 * b + 10 * k + i ∨ 40 * b + 10 * k + m ≤ i') → D 15 i' = C 15 i') ∧ ∀ i', i ≤ i' → i' < m → D 15 (40 * b + 10 * k + i') = f (a + 2 + i') := by
  have n1 : ((a : Int) + 1).toNat = a + 1 := by omega
  intro nn
  induction nn with
  | zero => intro i C _ _ h; exact h.elim
  | succ nn ih =>
    intro i C hi h1 h
    obtain ⟨_, _, z57, e57, h⟩ := (h : tr_d_X12_on_3 K2 (k : Int) (a : Int) A z u (fun z47 A49 => d_X12_on_3 K2 (k : Int) (a : Int) A z u nn z47 A49) (i : Int) C)
    rw [n1, h1, hf _ (by omega), hm] at e57
    rcases h with ⟨c, z59, e59, h⟩ | ⟨c, _, _, z63, e63, A64, e64, h⟩
    · rw [n1, h1, hf _ (by omega), hm] at e59
      rw [e59, show (a : Int) + (m : Int) + 2 = ((a + 2 + m : Nat) : Int) by omega] at h
      exact ⟨C, h, fun _ _ => rfl, fun _ _ => rfl, fun i' g1 g2 => by omega⟩
    · rw [show ((a : Int) + (i : Int) + 2).toNat = a + 2 + i by omega, h1, hf _ (by omega)] at e63
      rw [hb, show (40 * (b : Int) + 10 * (k : Int) + (i : Int)).toNat = 40 * b + 10 * k + i by omega] at e64
      obtain ⟨D, g1, g2, g3, g4⟩ := ih (i + 1) A64 (by omega) (by rw [e64, stA_ne _ _ (by decide)]; exact h1) (by rw [show ((i + 1 : Nat) : Int) = (i : Int) + 1 by omega]; exact h)
      have r15 : A64 15 = up (C 15) (40 * b + 10 * k + i) z63 := by rw [e64, stA_same]
      refine ⟨D, g1, fun j hj => by rw [g2 j hj, e64, stA_ne _ _ hj], fun i' g => ?_, fun i' x1 x2 => ?_⟩
      · rw [g3 i' (by omega), r15, up_ne _ _ (by omega)]
      · by_cases e : i' = i
        · subst e
          rw [g3 _ (by omega), r15, up_same, e63]
        · exact g4 i' (by omega) x2
theorem M_on2 {f : Nat → Int} {N b P K : Nat} {A u : St} {z : Int} (hb : A 0 12 = (b : Int)) (h11 : A 11 b = (K : Int)) (hf : ∀ k, k < N → A 1 k = f k) (ok : ∀ k, k < K → ps f N P k + 2 + (tp f N (ps f N P k + 1)).toNat < N ∧ 0 ≤ f (ps f N P k + 1) ∧ f (ps f N P k + 1) ≤ 6) : ∀ (nn k : Nat) (C : St), k ≤ K → C 1 = A 1 → C 11 = A 11 → (∀ k', k' < k → C 13 (4 * b + k') = f (ps f N P k') ∧ C 14 (4 * b + k') = f (ps f N P k' + 1) ∧ ∀ i : Nat, (i : Int) < f (ps f N P k' + 1) → C 15 (40 * b + 10 * k' + i) = f (ps f N P k' + 2 + i)) → d_X12_on_2 A z u nn (k : Int) ((ps f N P k : Nat) : Int) C → z = 1 ∧ u 18 = C 18 ∧ ∀ k', k' < K → u 13 (4 * b + k') = f (ps f N P k') ∧ u 14 (4 * b + k') = f (ps f N P k' + 1) ∧ ∀ i : Nat, (i : Int) < f (ps f N P k' + 1) → u 15 (40 * b + 10 * k' + i) = f (ps f N P k' + 2 + i) := by
  intro nn
  induction nn with
  | zero => intro k C _ _ _ _ h; exact h.elim
  | succ nn ih =>
    intro k C hk c1 c11 hd h
    obtain ⟨_, _, _, z35, e35, h⟩ := (h : tr_d_X12_on_2 A z u (fun z22 z23 A25 => d_X12_on_2 A z u nn z22 z23 A25) (k : Int) ((ps f N P k : Nat) : Int) C)
    rw [hb, Int.toNat_natCast, c11, h11] at e35
    rcases h with ⟨c, hz, hu⟩ | ⟨c, _, _, z40, e40, A41, e41, _, _, z45, e45, A46, e46, n3, h⟩
    · rw [hu]
      exact ⟨hz, rfl, fun k' g => hd k' (by omega)⟩
    · have hkK : k < K := by omega
      obtain ⟨o1, o2, o3⟩ := ok k hkK
      have t1 := tp_in (f := f) (N := N) (show ps f N P k + 1 < N by omega)
      rw [t1] at o1
      have n4 : (4 * (b : Int) + (k : Int)).toNat = 4 * b + k := by omega
      rw [Int.toNat_natCast, c1, hf _ (by omega)] at e40
      rw [hb, n4] at e41 e46
      have a1 : A41 1 = A 1 := by rw [e41, stA_ne _ _ (by decide)]; exact c1
      rw [show (((ps f N P k : Nat) : Int) + 1).toNat = ps f N P k + 1 by omega, a1, hf _ (by omega)] at e45
      have b1 : A46 1 = A 1 := by rw [e46, stA_ne _ _ (by decide)]; exact a1
      obtain ⟨m, em⟩ : ∃ m : Nat, f (ps f N P k + 1) = (m : Int) := ⟨(f (ps f N P k + 1)).toNat, by omega⟩
      obtain ⟨D, g1, g2, g3, g4⟩ := M_on3 hb hf (show ps f N P k + 2 + m < N by omega) em n3 0 A46 (Nat.zero_le m) b1 h
      have nx : ps f N P (k + 1) = ps f N P k + 2 + m := by
        show ps f N P k + 2 + (tp f N (ps f N P k + 1)).toNat = _
        rw [t1, em, Int.toNat_natCast]
      rw [← nx] at g1
      have r13 : A46 13 = up (C 13) (4 * b + k) z40 := by rw [e46, stA_ne _ _ (by decide), e41, stA_same]
      have r14 : A46 14 = up (C 14) (4 * b + k) z45 := by rw [e46, stA_same, e41, stA_ne _ _ (by decide)]
      have r15 : A46 15 = C 15 := by rw [e46, stA_ne _ _ (by decide), e41, stA_ne _ _ (by decide)]
      have r18 : A46 18 = C 18 := by rw [e46, stA_ne _ _ (by decide), e41, stA_ne _ _ (by decide)]
      have r11 : A46 11 = A 11 := by rw [e46, stA_ne _ _ (by decide), e41, stA_ne _ _ (by decide)]; exact c11
      have q := ih (k + 1) D (by omega) ((g2 1 (by decide)).trans b1) ((g2 11 (by decide)).trans r11) (fun k' g => ?_) (by rw [show ((k + 1 : Nat) : Int) = (k : Int) + 1 by omega]; exact g1)
      · refine ⟨q.1, ?_, q.2.2⟩
        rw [q.2.1, g2 18 (by decide), r18]
      · rw [g2 13 (by decide), g2 14 (by decide), r13, r14]
        by_cases e : k' = k
        · subst e
          rw [up_same, up_same]
          exact ⟨e40, e45, fun i hi => g4 i (Nat.zero_le i) (by omega)⟩
        · obtain ⟨d1, d2, d3⟩ := hd k' (by omega)
          obtain ⟨_, _, o6⟩ := ok k' (by omega)
          rw [up_ne _ _ (by omega), up_ne _ _ (by omega)]
          refine ⟨d1, d2, fun i hi => ?_⟩
          rw [g3 _ (by omega), r15]
          exact d3 i hi
theorem M_on1 {f : Nat → Int} {N b P K : Nat} {A u : St} {z : Int} (hb : A 0 12 = (b : Int)) (h16 : A 16 b = (P : Int)) (h11 : A 11 b = (K : Int)) (hP : P < N) (hf : ∀ k, k < N → A 1 k = f k) (ok : ∀ k, k < K → ps f N P k + 2 + (tp f N (ps f N P k + 1)).toNat < N ∧ 0 ≤ f (ps f N P k + 1) ∧ f (ps f N P k + 1) ≤ 6) : ∀ (nn p : Nat) (C : St), p ≤ P → C 1 = A 1 → C 11 = A 11 → C 16 = A 16 → (∀ p', p' < p → C 18 (3 * b + p') = f p') → d_X12_on_1 A z u nn (p : Int) C → z = 1 ∧ FIM f N b P K u := by
  intro nn
  induction nn with
  | zero => intro p C _ _ _ _ _ h; exact h.elim
  | succ nn ih =>
    intro p C hp c1 c11 c16 hd h
    obtain ⟨_, _, z19, e19, h⟩ := (h : tr_d_X12_on_1 A z u (fun z9 A11 => d_X12_on_1 A z u nn z9 A11) (p : Int) C)
    rw [hb, Int.toNat_natCast, c16, h16] at e19
    rcases h with ⟨c, z21, e21, n2, h⟩ | ⟨c, z65, e65, A66, e66, h⟩
    · rw [hb, Int.toNat_natCast, c16, h16] at e21
      rw [e21] at h
      obtain ⟨q1, q2, q3⟩ := M_on2 (P := P) hb h11 hf ok n2 0 C (Nat.zero_le K) c1 c11 (fun k' g => absurd g (Nat.not_lt_zero k')) h
      exact ⟨q1, fun p' g => by rw [q2]; exact hd p' (by omega), q3⟩
    · rw [Int.toNat_natCast, c1, hf _ (by omega)] at e65
      rw [hb, show (3 * (b : Int) + (p : Int)).toNat = 3 * b + p by omega] at e66
      refine ih (p + 1) A66 (by omega) (by rw [e66, stA_ne _ _ (by decide)]; exact c1) (by rw [e66, stA_ne _ _ (by decide)]; exact c11) (by rw [e66, stA_ne _ _ (by decide)]; exact c16) (fun p' g => ?_) (by rw [show ((p + 1 : Nat) : Int) = (p : Int) + 1 by omega]; exact h)
      rw [e66, stA_same]
      by_cases e : p' = p
      · rw [e, up_same, e65]
      · rw [up_ne _ _ (by omega)]
        exact hd p' (by omega)
