/-! The class takes an image, or doesn't. -/
theorem keyOk_cg {T T' : St} {f : Nat → Int} {N a : Nat} (e1 : T' 1 = T 1) (e10 : T' 10 = T 10) : keyOk T' f N a ↔ keyOk T f N a := by
  unfold keyOk WV TW rowOk
  rw [e1, e10]
def FIN (f : Nat → Int) (N t P K : Nat) (B u : St) : Prop := (∀ j, (j < 32 ∨ 41 ≤ j) → (j < t + 23 ∨ t + 31 ≤ j) → u j = B j) ∧ (∀ p, p < P → u (t + 23) p = tp f N p) ∧ (∀ k, k < K → u (t + 24) k = tp f N (ps f N P k) ∧ u (t + 25) k = tp f N (ps f N P k + 1) ∧ ∀ i : Nat, (i : Int) < tp f N (ps f N P k + 1) → u (t + (27 + k)) i = tp f N (ps f N P k + 2 + i)) ∧ ∀ k, K ≤ k → k < 4 → u (t + 25) k = B (t + 25) k
theorem K_accept2 {f : Nat → Int} {N t P K : Nat} {B u : St} {z : Int} (hT : isT t) (hP : B (t + 1) 3 = (P : Int)) (hK : B (t + 1) 2 = (K : Int)) (hK4 : K ≤ 4) (hP3 : P ≤ 3) (l0 : B (t + 1) 0 ≤ 8) (hN : B 1 1 = (N : Int)) (hN16 : N ≤ 1600) (h0 : ∀ k, 0 ≤ f k ∧ f k ≤ 255) (hf : ∀ k, k < N → f k = B 2 k % 256) (pOk : ∀ p : Nat, (p : Int) < B (t + 1) 3 → 0 ≤ tp f N p ∧ tp f N p < B (t + 1) 0) : ∀ (nn k : Nat) (C : St), k ≤ K → UP40 B C → (∀ p, p < P → C 33 p = tp f N p) → (∀ k', k' < k → keyOk (tw t B) f N (ps f N P k') ∧ DK f N (ps f N P k') k' C) → (∀ k', k ≤ k' → k' < 4 → C 35 k' = B (t + 25) k') → ps f N P k ≤ 3 + 8 * k → d_X4_accept_2 t B z u nn (k : Int) ((ps f N P k : Nat) : Int) C → (z = 1 ∧ whole (tw t B) f N ∧ FIN f N t P K B u) ∨ (z = 0 ∧ ¬ whole (tw t B) f N ∧ UP40 B u) := by
  have t51 : t = 51 ∨ t = 82 := hT
  have eP : (tw t B 1 3).toNat = P := by show (B (t + 1) 3).toNat = P; rw [hP]; exact Int.toNat_natCast P
  have eK : (tw t B 1 2).toNat = K := by show (B (t + 1) 2).toNat = K; rw [hK]; exact Int.toNat_natCast K
  intro nn
  induction nn with
  | zero => intro k C _ _ _ _ _ _ h; exact h.elim
  | succ nn ih =>
    intro k C hk up hp hd h35 hps h
    obtain ⟨hI, _, _, z34, e34, h⟩ := (h : tr_d_X4_accept_2 t B z u (fun z21 z22 A24 => d_X4_accept_2 t B z u nn z21 z22 A24) (k : Int) ((ps f N P k : Nat) : Int) C)
    have e34 : z34 = C (t + 1) 2 := e34
    rw [up (t + 1) (by omega), hK] at e34
    have cN : C 1 1 = (N : Int) := by rw [up 1 (by omega)]; exact hN
    have cf : ∀ k, k < N → f k = C 2 k % 256 := fun k hk => by rw [up 2 (by omega)]; exact hf k hk
    rcases h with ⟨c, z40, e40, h⟩ | ⟨c, z52, A53, ha, h⟩
    · have ek : k = K := by omega
      subst ek
      rw [oWrap_id ⟨by omega, by omega⟩] at e40
      rw [hN] at h
      rcases h with ⟨c2, hz, hu⟩ | ⟨c2, z42, h42, z45, h45, h⟩
      · refine Or.inr ⟨hz, fun g => ?_, by rw [hu]; exact up⟩
        have := g.2.2.1
        rw [eP, eK] at this
        omega
      have eN : N = ps f N P k + 1 := by omega
      have e42 := K_at (f := f) hI cN cf h42
      obtain ⟨n5, h45⟩ := (h45.1 : tr_r_X4_sumOf ((ps f N P k : Nat) : Int) C z45)
      have e45 := K_sumL hI (by omega) hN16 h0 cN cf n5 0 19 (Nat.zero_le _) rfl ⟨by decide, by decide⟩ h45
      rcases h with ⟨c3, A49, hc, hz, hu⟩ | ⟨c3, hz, hu⟩
      · refine Or.inl ⟨hz, ⟨pOk, fun k' hk' => ?_, by rw [eP, eK]; exact eN, ?_⟩, ?_⟩
        · rw [eP]
          have hk' : (k' : Int) < B (t + 1) 2 := hk'
          exact (hd k' (by omega)).1
        · rw [show N - 1 = ps f N P k by omega, ← e42, c3, e45]
        · have cp := K_copy (by unfold DJ; omega) hc
          rw [hu]
          refine ⟨fun j h1 h2 => (cp.1 j (by omega)).trans (up j h1), fun p hp2 => ?_, fun k' hk' => ?_, fun k' g1 g2 => ?_⟩
          · have a := cp.2.1 p (by omega)
            have a : A49 (t + 23) p = C 33 p := a
            rw [a]
            exact hp p hp2
          · obtain ⟨a1, a2, a3⟩ := cp.2.2 k' (by omega)
            have a1 : A49 (t + 24) k' = C 34 k' := a1
            have a2 : A49 (t + 25) k' = C 35 k' := a2
            obtain ⟨ok, d1, d2, d3⟩ := hd k' hk'
            refine ⟨a1.trans d1, a2.trans d2, fun i hi => ?_⟩
            have b6 := ok.2.1.2
            have x := a3 i (by omega)
            rw [show t + (27 + k') = t + 22 + 5 + k' by omega, x]
            have y := d3 i hi
            rw [show 32 + 5 + k' = 37 + k' by omega]
            exact y
          · obtain ⟨a1, a2, a3⟩ := cp.2.2 k' g2
            have a2 : A49 (t + 25) k' = C 35 k' := a2
            rw [a2]
            exact h35 k' g1 g2
      · refine Or.inr ⟨hz, fun g => c3 ?_, by rw [hu]; exact up⟩
        have := g.2.2.2
        rw [show N - 1 = ps f N P k by omega] at this
        rw [e42, e45]
        exact this
    · have hkK : k < K := by omega
      have r1 : tw t C 1 = tw t B 1 := up (t + 1) (by omega)
      have r10 : tw t C 10 = tw t B 10 := up (t + 10) (by omega)
      have ka := K_accKey hT hI (by omega) (by omega) (by rw [up (t + 1) (by omega)]; exact l0) cN cf ha
      rcases ka with ⟨y1, y2, y3, y4, y5, y6⟩ | ⟨y1, y2, y4⟩
      · have y2 := (keyOk_cg r1 r10).mp y2
        have b6 := y2.2.1
        rcases h with ⟨_, z57, e57, z58, e58, h⟩ | ⟨c2, -⟩
        · rw [Int.toNat_natCast] at e57
          have e57 : z57 = A53 35 k := e57
          have y32 := y3.2.1
          rw [oWrap_id ⟨by omega, by omega⟩] at e58
          have nx : ps f N P (k + 1) = ps f N P k + 2 + (tp f N (ps f N P k + 1)).toNat := rfl
          have e58 : z58 = ((ps f N P (k + 1) : Nat) : Int) := by omega
          rw [e58] at h
          refine ih (k + 1) A53 (by omega) (up.trans y4) (fun p hp2 => by rw [y5]; exact hp p hp2) (fun k' hk' => ?_) (fun k' g1 g2 => ?_) (by omega) (by rw [show ((k + 1 : Nat) : Int) = (k : Int) + 1 by omega]; exact h)
          · by_cases e : k' = k
            · subst e
              exact ⟨y2, y3⟩
            · obtain ⟨ok, d1, d2, d3⟩ := hd k' (by omega)
              obtain ⟨w1, w2, w3⟩ := y6 k' e (by omega)
              exact ⟨ok, w1.trans d1, w2.trans d2, fun i hi => by rw [w3]; exact d3 i hi⟩
          · rw [(y6 k' (by omega) g2).2.1]
            exact h35 k' (by omega) g2
        · omega
      · rcases h with ⟨c2, -⟩ | ⟨_, hz, hu⟩
        · omega
        · refine Or.inr ⟨hz, fun g => y2 ((keyOk_cg r1 r10).mpr ?_), by rw [hu]; exact up.trans y4⟩
          have := g.2.1 k (by show (k : Int) < B (t + 1) 2; omega)
          rw [eP] at this
          exact this
theorem K_accept1 {f : Nat → Int} {N t P K : Nat} {B u : St} {z : Int} (hT : isT t) (hP : B (t + 1) 3 = (P : Int)) (hK : B (t + 1) 2 = (K : Int)) (hK4 : K ≤ 4) (hP3 : P ≤ 3) (l0 : B (t + 1) 0 ≤ 8) (hN : B 1 1 = (N : Int)) (hN16 : N ≤ 1600) (h0 : ∀ k, 0 ≤ f k ∧ f k ≤ 255) (hf : ∀ k, k < N → f k = B 2 k % 256) : ∀ (nn p : Nat) (C : St), p ≤ P → UP40 B C → (∀ p', p' < p → C 33 p' = tp f N p' ∧ 0 ≤ tp f N p' ∧ tp f N p' < B (t + 1) 0) → (∀ k', k' < 4 → C 35 k' = B (t + 25) k') → d_X4_accept_1 t B z u nn (p : Int) (p : Int) C → (z = 1 ∧ whole (tw t B) f N ∧ FIN f N t P K B u) ∨ (z = 0 ∧ ¬ whole (tw t B) f N ∧ UP40 B u) := by
  have t51 : t = 51 ∨ t = 82 := hT
  intro nn
  induction nn with
  | zero => intro p C _ _ _ _ h; exact h.elim
  | succ nn ih =>
    intro p C hp up hd h35 h
    obtain ⟨hI, _, _, z19, e19, h⟩ := (h : tr_d_X4_accept_1 t B z u (fun z4 z5 A7 => d_X4_accept_1 t B z u nn z4 z5 A7) (p : Int) (p : Int) C)
    have e19 : z19 = C (t + 1) 3 := e19
    rw [up (t + 1) (by omega), hP] at e19
    have cN : C 1 1 = (N : Int) := by rw [up 1 (by omega)]; exact hN
    have cf : ∀ k, k < N → f k = C 2 k % 256 := fun k hk => by rw [up 2 (by omega)]; exact hf k hk
    rcases h with ⟨c, n2, h⟩ | ⟨c, z59, h59, z62, h62, h⟩
    · have e : p = P := by omega
      subst e
      exact K_accept2 hT hP hK hK4 hP3 l0 hN hN16 h0 hf (fun p' hp' => (hd p' (by omega)).2) n2 0 C (Nat.zero_le K) up (fun p' hp' => (hd p' hp').1) (fun k' g => absurd g (Nat.not_lt_zero k')) (fun k' _ g => h35 k' g) (by show p ≤ 3 + 8 * 0; omega) h
    · have e59 := K_at (f := f) hI cN cf h59
      have k62 : (z62 = 1 ↔ 0 ≤ z59 ∧ z59 < B (t + 1) 0) ∧ (z62 = 0 ∨ z62 = 1) := by
        rcases (h62.1 : tr_r_X9_isThere_1_0 t z59 C z62) with ⟨c, e⟩ | ⟨c, z4, e4, h⟩
        · omega
        · have e4 : z4 = C (t + 1) 0 := e4
          rw [up (t + 1) (by (first | omega | (clear h; omega) | (clear h1; omega) | (clear h2; omega) | (clear h h1; omega) | (clear h h2; omega) | (clear h1 h2; omega) | (clear h h1 h2; omega)))] at e4
          rcases h with ⟨c2, e⟩ | ⟨c2, e⟩ <;> omega
      rcases h with ⟨c2, A66, e66, z67, e67, h⟩ | ⟨c2, hz, hu⟩
      · rw [Int.toNat_natCast] at e66
        have e66 : A66 = stA C 33 p z59 := e66
        rw [oWrap_id ⟨by omega, by omega⟩] at e67
        have e67 : z67 = ((p + 1 : Nat) : Int) := by omega
        rw [e67] at h
        have h2 : d_X4_accept_1 t B z u nn ((p + 1 : Nat) : Int) ((p + 1 : Nat) : Int) A66 := h
        refine ih (p + 1) A66 (by omega) (up.trans (by rw [e66]; exact UP40.rf.st (by decide))) (fun p' g => ?_) (fun k' g => ?_) h2
        · by_cases e : p' = p
          · subst e
            refine ⟨?_, by rw [← e59]; omega⟩
            rw [e66, stA_same, up_same, e59]
          · have x := hd p' (by omega)
            refine ⟨?_, x.2⟩
            rw [e66, stA_same, up_ne _ _ e]
            exact x.1
        · rw [e66, stA_ne _ _ (by decide)]
          exact h35 k' g
      · refine Or.inr ⟨hz, fun g => ?_, by rw [hu]; exact up⟩
        have := g.1 p (by show (p : Int) < B (t + 1) 3; omega)
        rw [← e59] at this
        have : 0 ≤ z59 ∧ z59 < B (t + 1) 0 := this
        omega
theorem K_accept {f : Nat → Int} {N t P K : Nat} {B u : St} {z : Int} (hT : isT t) (hP : B (t + 1) 3 = (P : Int)) (hK : B (t + 1) 2 = (K : Int)) (hK4 : K ≤ 4) (hP3 : P ≤ 3) (l0 : B (t + 1) 0 ≤ 8) (hN : B 1 1 = (N : Int)) (hN16 : N ≤ 1600) (h0 : ∀ k, 0 ≤ f k ∧ f k ≤ 255) (hf : ∀ k, k < N → f k = B 2 k % 256) (h : q_X4_accept t B z u) : (z = 1 ∧ whole (tw t B) f N ∧ FIN f N t P K B u) ∨ (z = 0 ∧ ¬ whole (tw t B) f N ∧ UP40 B u) := by
  have t51 : t = 51 ∨ t = 82 := hT
  obtain ⟨A1, hc, nn, h⟩ := (h.1 : tr_r_X4_accept t B z u)
  have cp := K_copy (by unfold DJ; omega) hc
  have up1 : UP40 B A1 := fun j hj => cp.1 j (by omega)
  refine K_accept1 hT hP hK hK4 hP3 l0 hN hN16 h0 hf nn 0 A1 (Nat.zero_le P) up1 (fun p' g => absurd g (Nat.not_lt_zero p')) (fun k' g => ?_) h
  exact (cp.2.2 k' g).2.1
/-! The reference takes an image, or doesn't; then both. -/
theorem tp_in {f : Nat → Int} {N k : Nat} (h : k < N) : tp f N k = f k := by
  unfold tp
  rw [if_pos h]
theorem M_rowIn {f : Nat → Int} {N a i : Nat} {A : St} {z : Int} {K1 : Int → Prop} (hai : a + i < N) (hf : ∀ k, k < N → A 1 k = f k) : ∀ (nn j : Nat), j ≤ i → (∀ j', j' < j → tp f N (a + j') ≠ tp f N (a + i)) → d_X12_isRowAt_2 K1 (a : Int) (i : Int) A z nn (j : Int) → (K1 ((i : Int) + 1) ∧ ∀ j', j' < i → tp f N (a + j') ≠ tp f N (a + i)) ∨ (z = 0 ∧ ∃ j', j' < i ∧ tp f N (a + j') = tp f N (a + i)) := by
  intro nn
  induction nn with
  | zero => intro j _ _ h; exact h.elim
  | succ nn ih =>
    intro j hj no h
    obtain ⟨_, h⟩ := (h : tr_d_X12_isRowAt_2 K1 (a : Int) (i : Int) A z (fun z15 => d_X12_isRowAt_2 K1 (a : Int) (i : Int) A z nn z15) (j : Int))
    rcases h with ⟨c, h⟩ | ⟨c, z23, e23, z24, e24, h⟩
    · have e : j = i := by omega
      subst e
      exact Or.inl ⟨h, no⟩
    · rw [show ((a : Int) + (j : Int)).toNat = a + j by omega, hf _ (by omega), ← tp_in (f := f) (N := N) (show a + j < N by omega)] at e23
      rw [show ((a : Int) + (i : Int)).toNat = a + i by omega, hf _ hai, ← tp_in (f := f) (N := N) hai] at e24
      rcases h with ⟨c2, h⟩ | ⟨c2, hz⟩
      · refine ih (j + 1) (by omega) (fun j' g => ?_) (by rw [show ((j + 1 : Nat) : Int) = (j : Int) + 1 by omega]; exact h)
        by_cases e : j' = j
        · subst e
          rw [← e23, ← e24]
          exact c2
        · exact no j' (by omega)
      · exact Or.inr ⟨hz, j, by omega, by rw [← e23, ← e24]; exact c2⟩
theorem M_rowAtL {f : Nat → Int} {N a m b : Nat} {A T : St} {z : Int} (hI : IM A) (hA : ACT b A T) (ham : a + m ≤ N) (hf : ∀ k, k < N → A 1 k = f k) : ∀ (nn i : Nat), i ≤ m → rowOk T f N a i → d_X12_isRowAt_1 (a : Int) (m : Int) A z nn (i : Int) → (z = 1 ∧ rowOk T f N a m) ∨ (z = 0 ∧ ¬ rowOk T f N a m) := by
  intro nn
  induction nn with
  | zero => intro i _ _ h; exact h.elim
  | succ nn ih =>
    intro i hi ok h
    obtain ⟨_, h⟩ := (h : tr_d_X12_isRowAt_1 (a : Int) (m : Int) A z (fun z1 => d_X12_isRowAt_1 (a : Int) (m : Int) A z nn z1) (i : Int))
    rcases h with ⟨c, hz⟩ | ⟨c, z10, e10, z11, h11, h⟩
    · have e : i = m := by omega
      subst e
      exact Or.inl ⟨hz, ok⟩
    · have him : i < m := by omega
      rw [show ((a : Int) + (i : Int)).toNat = a + i by omega, hf _ (by omega), ← tp_in (f := f) (N := N) (show a + i < N by omega)] at e10
      have md := M_isDoor hI hA h11
      rcases h with ⟨c2, n2, h⟩ | ⟨c2, hz⟩
      · rcases M_rowIn (by omega) hf n2 0 (Nat.zero_le i) (fun j' g => absurd g (Nat.not_lt_zero j')) h with ⟨g1, g2⟩ | ⟨hz, j', g1, g2⟩
        · refine ih (i + 1) (by omega) ⟨fun i' g => ?_, fun i' j' g3 g4 => ?_⟩ (by rw [show ((i + 1 : Nat) : Int) = (i : Int) + 1 by omega]; exact g1)
          · by_cases e : i' = i
            · rw [e, ← e10]
              omega
            · exact ok.1 i' (by omega)
          · by_cases e : j' = i
            · rw [e]
              exact g2 i' (by omega)
            · exact ok.2 i' j' g3 (by omega)
        · exact Or.inr ⟨hz, fun g => g.2 j' i g1 him g2⟩
      · refine Or.inr ⟨hz, fun g => ?_⟩
        have := g.1 i him
        rw [← e10] at this
        omega
theorem M_mayBe {b : Nat} {x z : Int} {A T : St} (hI : IM A) (hA : ACT b A T) (h : q_X12_mayBeAt x A z) : (z = 1 ↔ WV T x) ∧ (z = 0 ∨ z = 1) := by
  obtain ⟨l0, l1, l2, l3⟩ := hA.lim hI
  have un : WV T x ↔ (0 ≤ x ∧ x < T 1 3) ∨ ((10 ≤ x ∧ x < 10 + T 1 0) ∨ (20 ≤ x ∧ x < 20 + T 1 1 ∧ T 10 (x - 20).toNat = 0)) ∨ x = 40 := Iff.rfl
  rw [un]
  rcases (h.1 : tr_r_X12_mayBeAt x A z) with ⟨c, h⟩ | ⟨c, z17, h17, hz⟩
  · rcases h with ⟨c2, h⟩ | ⟨c2, z14, h14, hz⟩
    · rcases h with ⟨c3, hz⟩ | ⟨c3, h⟩
      · omega
      · rcases h with ⟨c4, hz⟩ | ⟨c4, z5, h5, h⟩
        · omega
        · have m5 := M_isDoor hI hA h5
          rcases h with ⟨c5, hz⟩ | ⟨c5, _, _, z12, e12, h⟩
          · omega
          · have nb := hA.st.1 (x - 20).toNat (by omega)
            rw [hA.1, show (10 * (b : Int) + x - 20).toNat = 10 * b + (x - 20).toNat by omega] at e12
            rw [← e12] at nb
            rcases h with ⟨c6, hz⟩ | ⟨c6, hz⟩
            · have := nb.mp c6
              omega
            · have : T 10 (x - 20).toNat = 0 := by
                by_cases g : T 10 (x - 20).toNat = 0
                · exact g
                · exact absurd (nb.mpr g) c6
              omega
    · have m14 := M_isPlace hI hA h14
      omega
  · have m17 := M_isPerson hI hA h17
    omega
theorem M_whole3 {f : Nat → Int} {N b P K : Nat} {A T : St} {z : Int} (hI : IM A) (hA : ACT b A T) (hK : T 1 2 = (K : Int)) (hN1 : 1 ≤ N) (hf : ∀ k, k < N → A 1 k = f k) (h0 : ∀ k, 0 ≤ f k ∧ f k ≤ 255) : ∀ (nn k : Nat), k ≤ K → (∀ k', k' < k → keyOk T f N (ps f N P k')) → d_X12_isWhole_3 (N : Int) A z nn (k : Int) ((ps f N P k : Nat) : Int) → (z = 1 ∧ (∀ k', k' < K → keyOk T f N (ps f N P k')) ∧ N = ps f N P K + 1) ∨ (z = 0 ∧ ¬ ((∀ k', k' < K → keyOk T f N (ps f N P k')) ∧ N = ps f N P K + 1)) := by
  intro nn
  induction nn with
  | zero => intro k _ _ h; exact h.elim
  | succ nn ih =>
    intro k hk ok h
    obtain ⟨_, _, z38, e38, h⟩ := (h : tr_d_X12_isWhole_3 (N : Int) A z (fun z26 z27 => d_X12_isWhole_3 (N : Int) A z nn z26 z27) (k : Int) ((ps f N P k : Nat) : Int))
    rw [hA.1, Int.toNat_natCast, hA.cnt.2.2.1, hK] at e38
    have nx : ps f N P (k + 1) = ps f N P k + 2 + (tp f N (ps f N P k + 1)).toNat := rfl
    rcases h with ⟨c, h⟩ | ⟨c, h⟩
    · have e : k = K := by omega
      subst e
      rcases h with ⟨c2, hz⟩ | ⟨c2, hz⟩
      · exact Or.inr ⟨hz, fun g => c2 (by omega)⟩
      · exact Or.inl ⟨hz, ok, by omega⟩
    · have mono := ps_ge (f := f) (N := N) (P := P) (k + 1) (K - (k + 1))
      rw [show k + 1 + (K - (k + 1)) = K by omega] at mono
      rcases h with ⟨c2, hz⟩ | ⟨c2, z42, e42, z43, h43, h⟩
      · exact Or.inr ⟨hz, fun g => by omega⟩
      rw [Int.toNat_natCast, hf _ (by omega), ← tp_in (f := f) (N := N) (show ps f N P k < N by omega)] at e42
      have m43 := M_mayBe hI hA h43
      rw [e42] at m43
      rcases h with ⟨c3, hz⟩ | ⟨c3, z47, e47, h⟩
      · exact Or.inr ⟨hz, fun g => by have := m43.1.mpr (g.1 k (by omega)).1; omega⟩
      have n1 : (((ps f N P k : Nat) : Int) + 1).toNat = ps f N P k + 1 := by omega
      have t1 := tp_in (f := f) (N := N) (show ps f N P k + 1 < N by omega)
      have b1 := h0 (ps f N P k + 1)
      rw [n1, hf _ (by omega), ← t1] at e47
      rcases h with ⟨c4, z49, e49, h⟩ | ⟨c4, hz⟩
      case inr => exact Or.inr ⟨hz, fun g => by have := (g.1 k (by omega)).2.1; omega⟩
      rw [n1, hf _ (by omega), ← t1] at e49
      rcases h with ⟨c5, hz⟩ | ⟨c5, z51, h51, h⟩
      · exact Or.inr ⟨hz, fun g => by omega⟩
      obtain ⟨m, em⟩ : ∃ m : Nat, z49 = (m : Int) := ⟨z49.toNat, by omega⟩
      have em2 : (tp f N (ps f N P k + 1)).toNat = m := by omega
      obtain ⟨n5, h51⟩ := (h51.1 : tr_r_X12_isRowAt (((ps f N P k : Nat) : Int) + 2) z49 A z51)
      rw [show ((ps f N P k : Nat) : Int) + 2 = ((ps f N P k + 2 : Nat) : Int) by omega, em] at h51
      have mr := M_rowAtL hI hA (by omega) hf n5 0 (Nat.zero_le m) ⟨fun i g => absurd g (Nat.not_lt_zero i), fun i j _ g => absurd g (Nat.not_lt_zero j)⟩ h51
      rcases h with ⟨c6, h⟩ | ⟨c6, hz⟩
      · rcases mr with ⟨_, ro⟩ | ⟨g, _⟩
        · rw [show ((ps f N P k : Nat) : Int) + z49 + 2 = ((ps f N P (k + 1) : Nat) : Int) by omega] at h
          refine ih (k + 1) (by omega) (fun k' g => ?_) (by rw [show ((k + 1 : Nat) : Int) = (k : Int) + 1 by omega]; exact h)
          by_cases e : k' = k
          · subst e
            exact ⟨m43.1.mp (by omega), by omega, by rw [em2]; exact ro⟩
          · exact ok k' (by omega)
        · omega
      · rcases mr with ⟨g, _⟩ | ⟨_, ro⟩
        · omega
        · refine Or.inr ⟨hz, fun g => ro ?_⟩
          have := (g.1 k (by omega)).2.2
          rw [em2] at this
          exact this
theorem M_whole2 {f : Nat → Int} {N b P K : Nat} {A T : St} {z : Int} (hI : IM A) (hA : ACT b A T) (hP : T 1 3 = (P : Int)) (hK : T 1 2 = (K : Int)) (hN1 : 1 ≤ N) (hf : ∀ k, k < N → A 1 k = f k) (h0 : ∀ k, 0 ≤ f k ∧ f k ≤ 255) : ∀ (nn p : Nat), p ≤ P → (∀ p', p' < p → 0 ≤ tp f N p' ∧ tp f N p' < T 1 0) → d_X12_isWhole_2 (N : Int) (P : Int) A z nn (p : Int) → (z = 1 ∧ (∀ p', p' < P → 0 ≤ tp f N p' ∧ tp f N p' < T 1 0) ∧ (∀ k', k' < K → keyOk T f N (ps f N P k')) ∧ N = ps f N P K + 1) ∨ (z = 0 ∧ ¬ ((∀ p', p' < P → 0 ≤ tp f N p' ∧ tp f N p' < T 1 0) ∧ (∀ k', k' < K → keyOk T f N (ps f N P k')) ∧ N = ps f N P K + 1)) := by
  intro nn
  induction nn with
  | zero => intro p _ _ h; exact h.elim
  | succ nn ih =>
    intro p hp ok h
    obtain ⟨_, z24, e24, h⟩ := (h : tr_d_X12_isWhole_2 (N : Int) (P : Int) A z (fun z15 => d_X12_isWhole_2 (N : Int) (P : Int) A z nn z15) (p : Int))
    rw [hA.1, Int.toNat_natCast, hA.cnt.2.2.2, hP] at e24
    rcases h with ⟨c, n3, h⟩ | ⟨c, h⟩
    · have e : p = P := by omega
      subst e
      rcases M_whole3 (P := p) hI hA hK hN1 hf h0 n3 0 (Nat.zero_le K) (fun k' g => absurd g (Nat.not_lt_zero k')) h with ⟨hz, g1, g2⟩ | ⟨hz, g⟩
      · exact Or.inl ⟨hz, ok, g1, g2⟩
      · exact Or.inr ⟨hz, fun x => g x.2⟩
    · have mono := ps_ge (f := f) (N := N) (P := P) 0 K
      rw [Nat.zero_add] at mono
      have e0 : ps f N P 0 = P := rfl
      rcases h with ⟨c2, hz⟩ | ⟨c2, z56, e56, z57, h57, h⟩
      · exact Or.inr ⟨hz, fun g => by have := g.2.2; omega⟩
      rw [Int.toNat_natCast, hf _ (by omega), ← tp_in (f := f) (N := N) (show p < N by omega)] at e56
      have m := M_isPlace hI hA h57
      rcases h with ⟨c3, h⟩ | ⟨c3, hz⟩
      · refine ih (p + 1) (by omega) (fun p' g => ?_) (by rw [show ((p + 1 : Nat) : Int) = (p : Int) + 1 by omega]; exact h)
        by_cases e : p' = p
        · rw [e, ← e56]
          omega
        · exact ok p' (by omega)
      · refine Or.inr ⟨hz, fun g => ?_⟩
        have := g.1 p (by omega)
        rw [← e56] at this
        omega
theorem M_whole1 {f : Nat → Int} {N b P K : Nat} {A T : St} {z : Int} (hI : IM A) (hA : ACT b A T) (hP : T 1 3 = (P : Int)) (hK : T 1 2 = (K : Int)) (hN1 : 1 ≤ N) (hf : ∀ k, k < N → A 1 k = f k) (h0 : ∀ k, 0 ≤ f k ∧ f k ≤ 255) : ∀ (nn k : Nat) (v : Int), k ≤ N - 1 → v = sm f N k → d_X12_isWhole_1 (N : Int) A z nn (k : Int) v → (z = 1 ∧ whole T f N) ∨ (z = 0 ∧ ¬ whole T f N) := by
  have eP : (T 1 3).toNat = P := by rw [hP]; exact Int.toNat_natCast P
  have eK : (T 1 2).toNat = K := by rw [hK]; exact Int.toNat_natCast K
  intro nn
  induction nn with
  | zero => intro k v _ _ h; exact h.elim
  | succ nn ih =>
    intro k v hk hv h
    obtain ⟨_, _, h⟩ := (h : tr_d_X12_isWhole_1 (N : Int) A z (fun z2 z3 => d_X12_isWhole_1 (N : Int) A z nn z2 z3) (k : Int) v)
    rcases h with ⟨c, z12, e12, h⟩ | ⟨c, z61, e61, z62, e62, h⟩
    · have e : k = N - 1 := by omega
      rw [show ((N : Int) - 1).toNat = N - 1 by (first | omega | (clear h; omega) | (clear h1; omega) | (clear h2; omega) | (clear h h1; omega) | (clear h h2; omega) | (clear h1 h2; omega) | (clear h h1 h2; omega)), hf _ (by omega), ← tp_in (f := f) (N := N) (show N - 1 < N by omega)] at e12
      rw [e] at hv
      rcases h with ⟨c2, z14, e14, n2, h⟩ | ⟨c2, hz⟩
      · rw [hA.1, Int.toNat_natCast, hA.cnt.2.2.2, hP] at e14
        rw [e14] at h
        rcases M_whole2 (K := K) hI hA hP hK hN1 hf h0 n2 0 (Nat.zero_le P) (fun p' g => absurd g (Nat.not_lt_zero p')) h with ⟨hz, g1, g2, g3⟩ | ⟨hz, g⟩
        · refine Or.inl ⟨hz, fun p hp => g1 p (by omega), fun k' hk' => ?_, ?_, ?_⟩
          · rw [eP]; exact g2 k' (by omega)
          · rw [eP, eK]; exact g3
          · rw [← e12, c2, hv]
        · refine Or.inr ⟨hz, fun x => g ⟨fun p' hp' => x.1 p' (by omega), fun k' hk' => ?_, ?_⟩⟩
          · have := x.2.1 k' (by omega)
            rw [eP] at this
            exact this
          · have := x.2.2.1
            rw [eP, eK] at this
            exact this
      · refine Or.inr ⟨hz, fun x => c2 ?_⟩
        rw [e12, hv]
        exact x.2.2.2
    · rw [Int.toNat_natCast, hf _ (by omega), ← tp_in (f := f) (N := N) (show k < N by omega)] at e61
      refine ih (k + 1) z62 (by omega) ?_ (by rw [show ((k + 1 : Nat) : Int) = (k : Int) + 1 by omega]; exact h)
      show z62 = (3 * sm f N k + tp f N k) % 233
      rw [e62, hv, e61]
theorem M_isWhole {f : Nat → Int} {N b : Nat} {A T : St} {z : Int} (hI : IM A) (hA : ACT b A T) (h3 : 0 ≤ T 1 3) (h2 : 0 ≤ T 1 2) (hf : ∀ k, k < N → A 1 k = f k) (h0 : ∀ k, 0 ≤ f k ∧ f k ≤ 255) (h : q_X12_isWhole (N : Int) A z) : (z = 1 ∧ whole T f N) ∨ (z = 0 ∧ ¬ whole T f N) := by
  rcases (h.1 : tr_r_X12_isWhole (N : Int) A z) with ⟨c, nn, h⟩ | ⟨c, hz⟩
  · exact M_whole1 (P := (T 1 3).toNat) (K := (T 1 2).toNat) hI hA (by omega) (by omega) (by omega) hf h0 nn 0 19 (Nat.zero_le _) rfl h
  · refine Or.inr ⟨hz, fun g => ?_⟩
    have := g.2.2.1
    omega
/-- what the reference then has -/
def FIM (f : Nat → Int) (N b P K : Nat) (u : St) : Prop := (∀ p, p < P → u 18 (3 * b + p) = f p) ∧ ∀ k, k < K → u 13 (4 * b + k) = f (ps f N P k) ∧ u 14 (4 * b + k) = f (ps f N P k + 1) ∧ ∀ i : Nat, (i : Int) < f (ps f N P k + 1) → u 15 (40 * b + 10 * k + i) = f (ps f N P k + 2 + i)
theorem M_on3 {f : Nat → Int} {N b k a m : Nat} {A u : St} {z : Int} {K2 : Int → Int → St → Prop} (hb : A 0 12 = (b : Int)) (hf : ∀ k, k < N → A 1 k = f k) (ham : a + 2 + m < N) (hm : f (a + 1) = (m : Int)) : ∀ (nn i : Nat) (C : St), i ≤ m → C 1 = A 1 → d_X12_on_3 K2 (k : Int) (a : Int) A z u nn (i : Int) C → ∃ D, K2 ((k : Int) + 1) ((a + 2 + m : Nat) : Int) D ∧ (∀ j, j ≠ 15 → D j = C j) ∧ (∀ i', (i' < 40 * b + 10 * k + i ∨ 40 * b + 10 * k + m ≤ i') → D 15 i' = C 15 i') ∧ ∀ i', i ≤ i' → i' < m → D 15 (40 * b + 10 * k + i') = f (a + 2 + i') := by
  have n1 : ((a : Int) + 1).toNat = a + 1 := by omega
  intro nn
  induction nn with
  | zero => intro i C _ _ h; exact h.elim
  | succ nn ih =>
    intro i C hi h1 h
    obtain ⟨_, _, z57, e57, h⟩ := (h : tr_d_X12_on_3 K2 (k : Int) (a : Int) A z u (fun z47 A49 => d_X12_on_3 K2 (k : Int) (a : Int) A z u nn z47 A49) (i : Int) C)
    rw [n1, h1, hf _ (by omega), hm] at e57
    rcases h with ⟨c, z59, e59, h⟩ | ⟨c, _, _, z63, e63, A64, e64, h⟩
    · rw [n1, h1, hf _ (by omega), hm] at e59
      rw [e59, show (a : Int) + (m : Int) + 2 = ((a + 2 + m : Nat) : Int) by omega] at h
      exact ⟨C, h, fun _ _ => rfl, fun _ _ => rfl, fun i' g1 g2 => by omega⟩
    · rw [show ((a : Int) + (i : Int) + 2).toNat = a + 2 + i by omega, h1, hf _ (by omega)] at e63
      rw [hb, show (40 * (b : Int) + 10 * (k : Int) + (i : Int)).toNat = 40 * b + 10 * k + i by omega] at e64
      obtain ⟨D, g1, g2, g3, g4⟩ := ih (i + 1) A64 (by omega) (by rw [e64, stA_ne _ _ (by decide)]; exact h1) (by rw [show ((i + 1 : Nat) : Int) = (i : Int) + 1 by omega]; exact h)
      have r15 : A64 15 = up (C 15) (40 * b + 10 * k + i) z63 := by rw [e64, stA_same]
      refine ⟨D, g1, fun j hj => by rw [g2 j hj, e64, stA_ne _ _ hj], fun i' g => ?_, fun i' x1 x2 => ?_⟩
      · rw [g3 i' (by omega), r15, up_ne _ _ (by omega)]
      · by_cases e : i' = i
        · subst e
          rw [g3 _ (by omega), r15, up_same, e63]
        · exact g4 i' (by omega) x2
theorem M_on2 {f : Nat → Int} {N b P K : Nat} {A u : St} {z : Int} (hb : A 0 12 = (b : Int)) (h11 : A 11 b = (K : Int)) (hf : ∀ k, k < N → A 1 k = f k) (ok : ∀ k, k < K → ps f N P k + 2 + (tp f N (ps f N P k + 1)).toNat < N ∧ 0 ≤ f (ps f N P k + 1) ∧ f (ps f N P k + 1) ≤ 6) : ∀ (nn k : Nat) (C : St), k ≤ K → C 1 = A 1 → C 11 = A 11 → (∀ k', k' < k → C 13 (4 * b + k') = f (ps f N P k') ∧ C 14 (4 * b + k') = f (ps f N P k' + 1) ∧ ∀ i : Nat, (i : Int) < f (ps f N P k' + 1) → C 15 (40 * b + 10 * k' + i) = f (ps f N P k' + 2 + i)) → d_X12_on_2 A z u nn (k : Int) ((ps f N P k : Nat) : Int) C → z = 1 ∧ u 18 = C 18 ∧ ∀ k', k' < K → u 13 (4 * b + k') = f (ps f N P k') ∧ u 14 (4 * b + k') = f (ps f N P k' + 1) ∧ ∀ i : Nat, (i : Int) < f (ps f N P k' + 1) → u 15 (40 * b + 10 * k' + i) = f (ps f N P k' + 2 + i) := by
  intro nn
  induction nn with
  | zero => intro k C _ _ _ _ h; exact h.elim
  | succ nn ih =>
    intro k C hk c1 c11 hd h
    obtain ⟨_, _, _, z35, e35, h⟩ := (h : tr_d_X12_on_2 A z u (fun z22 z23 A25 => d_X12_on_2 A z u nn z22 z23 A25) (k : Int) ((ps f N P k : Nat) : Int) C)
    rw [hb, Int.toNat_natCast, c11, h11] at e35
    rcases h with ⟨c, hz, hu⟩ | ⟨c, _, _, z40, e40, A41, e41, _, _, z45, e45, A46, e46, n3, h⟩
    · rw [hu]
      exact ⟨hz, rfl, fun k' g => hd k' (by omega)⟩
    · have hkK : k < K := by omega
      obtain ⟨o1, o2, o3⟩ := ok k hkK
      have t1 := tp_in (f := f) (N := N) (show ps f N P k + 1 < N by omega)
      rw [t1] at o1
      have n4 : (4 * (b : Int) + (k : Int)).toNat = 4 * b + k := by omega
      rw [Int.toNat_natCast, c1, hf _ (by omega)] at e40
      rw [hb, n4] at e41 e46
      have a1 : A41 1 = A 1 := by rw [e41, stA_ne _ _ (by decide)]; exact c1
      rw [show (((ps f N P k : Nat) : Int) + 1).toNat = ps f N P k + 1 by omega, a1, hf _ (by omega)] at e45
      have b1 : A46 1 = A 1 := by rw [e46, stA_ne _ _ (by decide)]; exact a1
      obtain ⟨m, em⟩ : ∃ m : Nat, f (ps f N P k + 1) = (m : Int) := ⟨(f (ps f N P k + 1)).toNat, by omega⟩
      obtain ⟨D, g1, g2, g3, g4⟩ := M_on3 hb hf (show ps f N P k + 2 + m < N by omega) em n3 0 A46 (Nat.zero_le m) b1 h
      have nx : ps f N P (k + 1) = ps f N P k + 2 + m := by
        show ps f N P k + 2 + (tp f N (ps f N P k + 1)).toNat = _
        rw [t1, em, Int.toNat_natCast]
      rw [← nx] at g1
      have r13 : A46 13 = up (C 13) (4 * b + k) z40 := by rw [e46, stA_ne _ _ (by decide), e41, stA_same]
      have r14 : A46 14 = up (C 14) (4 * b + k) z45 := by rw [e46, stA_same, e41, stA_ne _ _ (by decide)]
      have r15 : A46 15 = C 15 := by rw [e46, stA_ne _ _ (by decide), e41, stA_ne _ _ (by decide)]
      have r18 : A46 18 = C 18 := by rw [e46, stA_ne _ _ (by decide), e41, stA_ne _ _ (by decide)]
      have r11 : A46 11 = A 11 := by rw [e46, stA_ne _ _ (by decide), e41, stA_ne _ _ (by decide)]; exact c11
      have q := ih (k + 1) D (by omega) ((g2 1 (by decide)).trans b1) ((g2 11 (by decide)).trans r11) (fun k' g => ?_) (by rw [show ((k + 1 : Nat) : Int) = (k : Int) + 1 by omega]; exact g1)
      · refine ⟨q.1, ?_, q.2.2⟩
        rw [q.2.1, g2 18 (by decide), r18]
      · rw [g2 13 (by decide), g2 14 (by decide), r13, r14]
        by_cases e : k' = k
        · subst e
          rw [up_same, up_same]
          exact ⟨e40, e45, fun i hi => g4 i (Nat.zero_le i) (by omega)⟩
        · obtain ⟨d1, d2, d3⟩ := hd k' (by omega)
          obtain ⟨_, _, o6⟩ := ok k' (by omega)
          rw [up_ne _ _ (by omega), up_ne _ _ (by omega)]
          refine ⟨d1, d2, fun i hi => ?_⟩
          rw [g3 _ (by omega), r15]
          exact d3 i hi
theorem M_on1 {f : Nat → Int} {N b P K : Nat} {A u : St} {z : Int} (hb : A 0 12 = (b : Int)) (h16 : A 16 b = (P : Int)) (h11 : A 11 b = (K : Int)) (hP : P < N) (hf : ∀ k, k < N → A 1 k = f k) (ok : ∀ k, k < K → ps f N P k + 2 + (tp f N (ps f N P k + 1)).toNat < N ∧ 0 ≤ f (ps f N P k + 1) ∧ f (ps f N P k + 1) ≤ 6) : ∀ (nn p : Nat) (C : St), p ≤ P → C 1 = A 1 → C 11 = A 11 → C 16 = A 16 → (∀ p', p' < p → C 18 (3 * b + p') = f p') → d_X12_on_1 A z u nn (p : Int) C → z = 1 ∧ FIM f N b P K u := by
  intro nn
  induction nn with
  | zero => intro p C _ _ _ _ _ h; exact h.elim
  | succ nn ih =>
    intro p C hp c1 c11 c16 hd h
    obtain ⟨_, _, z19, e19, h⟩ := (h : tr_d_X12_on_1 A z u (fun z9 A11 => d_X12_on_1 A z u nn z9 A11) (p : Int) C)
    rw [hb, Int.toNat_natCast, c16, h16] at e19
    rcases h with ⟨c, z21, e21, n2, h⟩ | ⟨c, z65, e65, A66, e66, h⟩
    · rw [hb, Int.toNat_natCast, c16, h16] at e21
      rw [e21] at h
      obtain ⟨q1, q2, q3⟩ := M_on2 (P := P) hb h11 hf ok n2 0 C (Nat.zero_le K) c1 c11 (fun k' g => absurd g (Nat.not_lt_zero k')) h
      exact ⟨q1, fun p' g => by rw [q2]; exact hd p' (by omega), q3⟩
    · rw [Int.toNat_natCast, c1, hf _ (by omega)] at e65
      rw [hb, show (3 * (b : Int) + (p : Int)).toNat = 3 * b + p by omega] at e66
      refine ih (p + 1) A66 (by omega) (by rw [e66, stA_ne _ _ (by decide)]; exact c1) (by rw [e66, stA_ne _ _ (by decide)]; exact c11) (by rw [e66, stA_ne _ _ (by decide)]; exact c16) (fun p' g => ?_) (by rw [show ((p + 1 : Nat) : Int) = (p : Int) + 1 by omega]; exact h)
      rw [e66, stA_same]
      by_cases e : p' = p
      · rw [e, up_same, e65]
      · rw [up_ne _ _ (by omega)]
        exact hd p' (by omega)
/-! An image that is read in: both alike. -/
theorem on_act {z1 z2 : Int} {B A u1 u2 : St} (hIK : IK B) (hIM : IM A) (he : B 1 1 = A 0 1) (hT : TB B A) (hp : PSs B A) (ha : ACS B A) (h1 : r_X11_on B z1 u1) (hf1 : fk [33, 34, 35, 37, 38, 39, 40, 42, 43, 44, 46, 47, 48, 49, 50, 74, 75, 76, 78, 79, 80, 81, 105, 106, 107, 109, 110, 111, 112] [(1, 1)] B u1) (h2 : q_X12_on A z2 u2) : z1 = z2 ∧ ACS u1 u2 := by
  have hTt := tB hIK
  have hA := ha.act hIM hp
  have l := hA.lim hIM
  have f9 : u1 0 9 = B 0 9 := hf1 0 9 rfl rfl
  have mb := MBc.fr hTt ha.2 hf1 rfl rfl h2.2.2.1 rfl
  have rows := tw_rows hTt hf1 [1, 8, 9, 10, 11] rfl rfl
  have fr2 := h2.2.2.1
  obtain ⟨b, hb⟩ : ∃ b : Nat, (A 0 12).toNat = b := ⟨_, rfl⟩
  obtain ⟨t, ht⟩ : ∃ t : Nat, t = 51 + 31 * (B 0 9).toNat := ⟨_, rfl⟩
  unfold ACS
  rw [f9, fr2.2 12 rfl]
  rw [hb] at hA mb ⊢
  rw [← ht] at hA l mb rows hTt ⊢
  have t51 : t = 51 ∨ t = 82 := hTt
  have hv := hA.2.2.2.2
  have l0 : B (t + 1) 0 ≤ 8 := l.1
  have l1 : B (t + 1) 1 ≤ 10 := l.2.1
  have l2 : B (t + 1) 2 ≤ 4 := l.2.2.1
  have l3 : B (t + 1) 3 ≤ 3 := l.2.2.2
  have p3 : 0 ≤ B (t + 1) 3 := hv.1.2.2.2.1
  have p2 : 0 ≤ B (t + 1) 2 := hv.1.2.2.1
  have r01 : (0 : Int) ≤ A 0 1 ∧ A 0 1 ≤ 1600 := hIM 0 1
  obtain ⟨N, hN⟩ : ∃ N : Nat, A 0 1 = (N : Int) := ⟨(A 0 1).toNat, by omega⟩
  obtain ⟨P, hP⟩ : ∃ P : Nat, B (t + 1) 3 = (P : Int) := ⟨(B (t + 1) 3).toNat, by omega⟩
  obtain ⟨K, hK⟩ : ∃ K : Nat, B (t + 1) 2 = (K : Int) := ⟨(B (t + 1) 2).toNat, by omega⟩
  have h0 : ∀ k, 0 ≤ (fun k => B 2 k % 256) k ∧ (fun k => B 2 k % 256) k ≤ 255 := fun k => by
    show 0 ≤ B 2 k % 256 ∧ B 2 k % 256 ≤ 255
    omega
  obtain ⟨f, hfd⟩ : ∃ f : Nat → Int, f = fun k => B 2 k % 256 := ⟨_, rfl⟩
  rw [← hfd] at h0
  have hfK : ∀ k, k < N → f k = B 2 k % 256 := fun k _ => by rw [hfd]
  have hfM : ∀ k, k < N → A 1 k = f k := fun k hk => by rw [hfd]; exact hT k (by omega)
  obtain ⟨t2, ht2, z3, A4, hac, A7, e7, h1⟩ := (h1 : tr_r_X11_on B z1 u1)
  rw [← ht] at ht2
  subst ht2
  have ka := K_accept hTt hP hK (by omega) (by omega) l0 (by rw [he, hN]) (by omega) h0 hfK hac
  obtain ⟨A1, e1, y2, hw, h2⟩ := (h2.1 : tr_r_X12_on A z2 u2)
  have ne : ∀ j, j ≠ 0 → A1 j = A j := fun j hj => by rw [e1, stA_ne _ _ hj]
  have hI1 : IM A1 := by
    rw [e1]
    exact hIM.st (show (0 : Int) ≤ 0 ∧ (0 : Int) ≤ 1600 from ⟨by decide, by decide⟩)
  have b1 : A1 0 12 = (b : Int) := by rw [e1]; exact hA.1
  have hA1 : ACT b A1 (tw t2 B) := by
    refine ⟨b1, MRs.cg hA.2.1 (fun j hj => ne j ?_) (fun _ _ => rfl) rfl, hA.2.2.cg l2 sT.rf ⟨ne 13 (by decide), ne 14 (by decide), ne 15 (by decide), ne 18 (by decide)⟩⟩
    intro e0
    subst e0
    exact absurd hj (by decide)
  rw [hN] at hw
  have mw := M_isWhole hI1 hA1 p3 p2 (fun k hk => by rw [ne 1 (by decide)]; exact hfM k hk) h0 hw
  have end1 : z1 = z3 ∧ ∀ j, 51 ≤ j → u1 j = A4 j := by
    rcases h1 with ⟨_, hz, hu⟩ | ⟨_, z10, A11, hr, hz, hu⟩
    · exact ⟨hz, fun j hj => by rw [hu, e7, stA_ne _ _ (by omega)]⟩
    · refine ⟨hz, fun j hj => ?_⟩
      funext k
      have n50 : ([50] : List Nat).contains j = false := by
        cases hc : ([50] : List Nat).contains j with
        | false => rfl
        | true =>
          have := List.contains_iff_mem.mp hc
          simp at this
          omega
      rw [hu, hr.2.2.1 j k n50 rfl, e7, stA_ne _ _ (by omega)]
  rcases mw with ⟨yz, wh⟩ | ⟨yz, nw⟩
  · rcases ka with ⟨zz, _, fin⟩ | ⟨_, nw, _⟩
    case inr => exact absurd wh nw
    rcases h2 with ⟨_, nn, h2⟩ | ⟨c, -⟩
    case inr => omega
    have eP : (tw t2 B 1 3).toNat = P := by show (B (t2 + 1) 3).toNat = P; omega
    have eK : (tw t2 B 1 2).toNat = K := by show (B (t2 + 1) 2).toNat = K; omega
    obtain ⟨w1, w2, w3, w4⟩ := wh
    rw [eP] at w2
    rw [eP, eK] at w3
    have geP := ps_ge (f := f) (N := N) (P := P) 0 K
    rw [Nat.zero_add] at geP
    have eP0 : ps f N P 0 = P := rfl
    have kOk : ∀ k, k < K → keyOk (tw t2 B) f N (ps f N P k) := fun k hk => w2 k (by show (k : Int) < B (t2 + 1) 2; omega)
    have ok : ∀ k, k < K → ps f N P k + 2 + (tp f N (ps f N P k + 1)).toNat < N ∧ 0 ≤ f (ps f N P k + 1) ∧ f (ps f N P k + 1) ≤ 6 := by
      intro k hk
      have nx : ps f N P (k + 1) = ps f N P k + 2 + (tp f N (ps f N P k + 1)).toNat := rfl
      have mono := ps_ge (f := f) (N := N) (P := P) (k + 1) (K - (k + 1))
      rw [show k + 1 + (K - (k + 1)) = K by omega] at mono
      have b6 := (kOk k hk).2.1
      have t1 := tp_in (f := f) (N := N) (show ps f N P k + 1 < N by omega)
      rw [t1] at b6
      exact ⟨by omega, b6⟩
    have cn := hA1.cnt
    have mo := M_on1 (f := f) (N := N) (P := P) (K := K) (A := A) (u := u2) (z := z2) hA.1 (hA.cnt.2.2.2.trans hP) (hA.cnt.2.2.1.trans hK) (by omega) hfM ok nn 0 A1 (Nat.zero_le P) (ne 1 (by decide)) (ne 11 (by decide)) (ne 16 (by decide)) (fun p' g => absurd g (Nat.not_lt_zero p')) h2
    obtain ⟨z21, m18, mK⟩ := mo
    obtain ⟨f1, f2, f3, f4⟩ := fin
    refine ⟨by rw [end1.1, zz, z21], ?_, mb⟩
    have q1 : tw t2 u1 1 = tw t2 B 1 := rows 1 rfl
    have q8 : tw t2 u1 8 = tw t2 B 8 := rows 8 rfl
    have q9 : tw t2 u1 9 = tw t2 B 9 := rows 9 rfl
    have q10 : tw t2 u1 10 = tw t2 B 10 := rows 10 rfl
    have q11 : tw t2 u1 11 = tw t2 B 11 := rows 11 rfl
    have d23 : ∀ p, p < P → tw t2 u1 23 p = tp f N p := fun p hp2 => by
      show u1 (t2 + 23) p = _
      rw [end1.2 _ (by omega)]
      exact f2 p hp2
    have d24 : ∀ k, k < K → tw t2 u1 24 k = tp f N (ps f N P k) := fun k hk => by
      show u1 (t2 + 24) k = _
      rw [end1.2 _ (by omega)]
      exact (f3 k hk).1
    have d25 : ∀ k, k < K → tw t2 u1 25 k = tp f N (ps f N P k + 1) := fun k hk => by
      show u1 (t2 + 25) k = _
      rw [end1.2 _ (by omega)]
      exact (f3 k hk).2.1
    have d27 : ∀ k, k < K → ∀ i : Nat, (i : Int) < tp f N (ps f N P k + 1) → tw t2 u1 (27 + k) i = tp f N (ps f N P k + 2 + i) := fun k hk i hi => by
      show u1 (t2 + (27 + k)) i = _
      rw [end1.2 _ (by omega)]
      exact (f3 k hk).2.2 i hi
    have d25z : ∀ k, K ≤ k → k < 4 → tw t2 u1 25 k = 0 := fun k g1 g2 => by
      show u1 (t2 + 25) k = 0
      rw [end1.2 _ (by omega), f4 k g1 g2]
      exact hv.2.2.2.2.1 k g2 (by show B (t2 + 1) 2 ≤ (k : Int); omega)
    have pin : ∀ k, k < K → ps f N P k < N := fun k hk => by have := (ok k hk).1; omega
    have G : GR (tw t2 B) (tw t2 u1) := by
      refine ⟨?_, fun k _ => ?_⟩
      · rw [q1]
        exact ⟨Int.le_refl _, Int.le_refl _, Int.le_refl _, Int.le_refl _, Int.le_refl _⟩
      · rw [q8, q9, q10]
        exact ⟨rfl, rfl, rfl⟩
    have c3 : tw t2 B 1 3 = (P : Int) := hP
    have c2 : tw t2 B 1 2 = (K : Int) := hK
    have vt : VT (tw t2 u1) := by
      refine ⟨by rw [q1]; exact hv.1, fun k hk => ?_, fun p hp2 => ?_, fun k hk => ?_, fun k hk g => ?_, fun k hk => ?_⟩
      · rw [q1] at hk
        exact (hv.2.1 k hk).gr hk G
      · rw [q1] at hp2
        rw [q1, d23 p (by omega)]
        exact w1 p hp2
      · rw [q1, c2] at hk
        have hk : k < K := by omega
        obtain ⟨y1, y2, y3, y4⟩ := kOk k hk
        unfold KV
        rw [d24 k hk, d25 k hk, q1]
        refine ⟨y2, fun i hi => ?_, fun i j hij hj => ?_, y1.gr G⟩
        · rw [d27 k hk i hi]
          exact y3 i (by omega)
        · rw [d27 k hk i (by omega), d27 k hk j hj]
          exact y4 i j hij (by omega)
      · rw [q1, c2] at g
        exact d25z k (by omega) hk
      · rw [q1] at hk
        rw [q11]
        exact (hv.2.2.2.2.2 k hk).gr G
    refine ⟨⟨fun k hk => ?_, fun k hk g => ?_⟩, fun p hp2 => ?_, vt⟩
    · rw [q1, c2] at hk
      have hk : k < K := by omega
      obtain ⟨x1, x2, x3⟩ := mK k hk
      have o := ok k hk
      have t0 := tp_in (f := f) (N := N) (pin k hk)
      have t1 := tp_in (f := f) (N := N) (show ps f N P k + 1 < N by omega)
      rw [d24 k hk, d25 k hk, t0, t1]
      refine ⟨x1, x2, fun i hi => ?_⟩
      rw [d27 k hk i (by rw [t1]; exact hi), tp_in (f := f) (N := N) (show ps f N P k + 2 + i < N by rw [t1] at o; omega)]
      exact x3 i hi
    · rw [q1, c2] at g
      exact d25z k (by omega) hk
    · rw [q1, c3] at hp2
      have hp3 : p < P := by omega
      rw [d23 p hp3, tp_in (f := f) (N := N) (show p < N by omega)]
      exact m18 p hp3
  · rcases ka with ⟨_, wh, _⟩ | ⟨zz, _, up⟩
    · exact absurd wh nw
    rcases h2 with ⟨c, -⟩ | ⟨_, y67, A68, hr2, hz2, hu2⟩
    · omega
    refine ⟨by rw [end1.1, zz, hz2], ?_, mb⟩
    have keepM : sM A u2 := by
      rw [hu2]
      refine sM.trans ⟨ne 13 (by decide), ne 14 (by decide), ne 15 (by decide), ne 18 (by decide)⟩ (sM.fr hr2.2.2.1 rfl rfl rfl rfl)
    refine hA.2.2.cg l2 (fun j hj => ?_) keepM
    funext k
    show u1 (t2 + j) k = B (t2 + j) k
    rw [end1.2 _ (by omega), up _ (by omega)]
