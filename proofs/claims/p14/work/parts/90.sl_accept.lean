/-! The class takes an image, or doesn't. -/
theorem keyOk_cg {T T' : St} {f : Nat → Int} {N a : Nat} (e1 : T' 1 = T 1) (e10 : T' 10 = T 10) : keyOk T' f N a ↔ keyOk T f N a := by
  unfold keyOk WV TW rowOk
  rw [e1, e10]
def FIN (f : Nat → Int) (N t P K : Nat) (B u : St) : Prop := (∀ j, (j < 32 ∨ 41 ≤ j) → (j < t + 23 ∨ t + 31 ≤ j) → u j = B j) ∧ (∀ p, p < P → u (t + 23) p = tp f N p) ∧ (∀ k, k < K → u (t + 24) k = tp f N (ps f N P k) ∧ u (t + 25) k = tp f N (ps f N P k + 1) ∧ ∀ i : Nat, (i : Int) < tp f N (ps f N P k + 1) → u (t + (27 + k)) i = tp f N (ps f N P k + 2 + i)) ∧ ∀ k, K ≤ k → k < 4 → u (t + 25) k = B (t + 25) k
theorem K_accept2 {f : Nat → Int} {N t P K : Nat} {B u : St} {z : Int} (hT : isT t) (hP : B (t + 1) 3 = (P : Int)) (hK : B (t + 1) 2 = (K : Int)) (hK4 : K ≤ 4) (hP3 : P ≤ 3) (l0 : B (t + 1) 0 ≤ 8) (hN : B 1 1 = (N : Int)) (hN16 : N ≤ 1600) (h0 : ∀ k, 0 ≤ f k ∧ f k ≤ 255) (hf : ∀ k, k < N → f k = B 2 k % 256) (pOk : ∀ p : Nat, (p : Int) < B (t + 1) 3 → 0 ≤ tp f N p ∧ tp f N p < B (t + 1) 0) : ∀ (nn k : Nat) (C : St), k ≤ K → UP40 B C → (∀ p, p < P → C 33 p = tp f N p) → (∀ k', k' < k → keyOk (tw t B) f N (ps f N P k') ∧ DK f N (ps f N P k') k' C) → (∀ k', k ≤ k' → k' < 4 → C 35 k' = B (t + 25) k') → ps f N P k ≤ 3 + 8 * k → d_X4_accept_2 t B z u nn (k : Int) ((ps f N P k : Nat) : Int) C → (z = 1 ∧ whole (tw t B) f N ∧ FIN f N t P K B u) ∨ (z = 0 ∧ ¬ whole (tw t B) f N ∧ UP40 B u) := by
  have t51 : t = 51 ∨ t = 82 := hT
  have eP : (tw t B 1 3).toNat = P := by show (B (t + 1) 3).toNat = P; rw [hP]; exact Int.toNat_natCast P
  have eK : (tw t B 1 2).toNat = K := by show (B (t + 1) 2).toNat = K; rw [hK]; exact Int.toNat_natCast K
  intro nn
  induction nn with
  | zero => intro k C _ _ _ _ _ _ h; exact h.elim
  | succ nn ih =>
    intro k C hk up hp hd h35 hps h
    obtain ⟨hI, _, _, z34, e34, h⟩ := (h : tr_d_X4_accept_2 t B z u (fun z21 z22 A24 => d_X4_accept_2 t B z u nn z21 z22 A24) (k : Int) ((ps f N P k : Nat) : Int) C)
    have e34 : z34 = C (t + 1) 2 := e34
    rw [up (t + 1) (by omega), hK] at e34
    have cN : C 1 1 = (N : Int) := by rw [up 1 (by omega)]; exact hN
    have cf : ∀ k, k < N → f k = C 2 k % 256 := fun k hk => by rw [up 2 (by omega)]; exact hf k hk
    rcases h with ⟨c, z40, e40, h⟩ | ⟨c, z52, A53, ha, h⟩
    · have ek : k = K := by omega
      subst ek
      rw [oWrap_id ⟨by omega, by omega⟩] at e40
      rw [hN] at h
      rcases h with ⟨c2, hz, hu⟩ | ⟨c2, z42, h42, z45, h45, h⟩
      · refine Or.inr ⟨hz, fun g => ?_, by rw [hu]; exact up⟩
        have := g.2.2.1
        rw [eP, eK] at this
        omega
      have eN : N = ps f N P k + 1 := by omega
      have e42 := K_at (f := f) hI cN cf h42
      obtain ⟨n5, h45⟩ := (h45.1 : tr_r_X4_sumOf ((ps f N P k : Nat) : Int) C z45)
      have e45 := K_sumL hI (by omega) hN16 h0 cN cf n5 0 19 (Nat.zero_le _) rfl ⟨by decide, by decide⟩ h45
      rcases h with ⟨c3, A49, hc, hz, hu⟩ | ⟨c3, hz, hu⟩
      · refine Or.inl ⟨hz, ⟨pOk, fun k' hk' => ?_, by rw [eP, eK]; exact eN, ?_⟩, ?_⟩
        · rw [eP]
          have hk' : (k' : Int) < B (t + 1) 2 := hk'
          exact (hd k' (by omega)).1
        · rw [show N - 1 = ps f N P k by omega, ← e42, c3, e45]
        · have cp := K_copy (by unfold DJ; omega) hc
          rw [hu]
          refine ⟨fun j h1 h2 => (cp.1 j (by omega)).trans (up j h1), fun p hp2 => ?_, fun k' hk' => ?_, fun k' g1 g2 => ?_⟩
          · have a := cp.2.1 p (by omega)
            have a : A49 (t + 23) p = C 33 p := a
            rw [a]
            exact hp p hp2
          · obtain ⟨a1, a2, a3⟩ := cp.2.2 k' (by omega)
            have a1 : A49 (t + 24) k' = C 34 k' := a1
            have a2 : A49 (t + 25) k' = C 35 k' := a2
            obtain ⟨ok, d1, d2, d3⟩ := hd k' hk'
            refine ⟨a1.trans d1, a2.trans d2, fun i hi => ?_⟩
            have b6 := ok.2.1.2
            have x := a3 i (by omega)
            rw [show t + (27 + k') = t + 22 + 5 + k' by omega, x]
            have y := d3 i hi
            rw [show 32 + 5 + k' = 37 + k' by omega]
            exact y
          · obtain ⟨a1, a2, a3⟩ := cp.2.2 k' g2
            have a2 : A49 (t + 25) k' = C 35 k' := a2
            rw [a2]
            exact h35 k' g1 g2
      · refine Or.inr ⟨hz, fun g => c3 ?_, by rw [hu]; exact up⟩
        have := g.2.2.2
        rw [show N - 1 = ps f N P k by omega] at this
        rw [e42, e45]
        exact this
    · have hkK : k < K := by omega
      have r1 : tw t C 1 = tw t B 1 := up (t + 1) (by omega)
      have r10 : tw t C 10 = tw t B 10 := up (t + 10) (by omega)
      have ka := K_accKey hT hI (by omega) (by omega) (by rw [up (t + 1) (by omega)]; exact l0) cN cf ha
      rcases ka with ⟨y1, y2, y3, y4, y5, y6⟩ | ⟨y1, y2, y4⟩
      · have y2 := (keyOk_cg r1 r10).mp y2
        have b6 := y2.2.1
        rcases h with ⟨_, z57, e57, z58, e58, h⟩ | ⟨c2, -⟩
        · rw [Int.toNat_natCast] at e57
          have e57 : z57 = A53 35 k := e57
          have y32 := y3.2.1
          rw [oWrap_id ⟨by omega, by omega⟩] at e58
          have nx : ps f N P (k + 1) = ps f N P k + 2 + (tp f N (ps f N P k + 1)).toNat := rfl
          have e58 : z58 = ((ps f N P (k + 1) : Nat) : Int) := by omega
          rw [e58] at h
          refine ih (k + 1) A53 (by omega) (up.trans y4) (fun p hp2 => by rw [y5]; exact hp p hp2) (fun k' hk' => ?_) (fun k' g1 g2 => ?_) (by omega) (by rw [show ((k + 1 : Nat) : Int) = (k : Int) + 1 by omega]; exact h)
          · by_cases e : k' = k
            · subst e
              exact ⟨y2, y3⟩
            · obtain ⟨ok, d1, d2, d3⟩ := hd k' (by omega)
              obtain ⟨w1, w2, w3⟩ := y6 k' e (by omega)
              exact ⟨ok, w1.trans d1, w2.trans d2, fun i hi => by rw [w3]; exact d3 i hi⟩
          · rw [(y6 k' (by omega) g2).2.1]
            exact h35 k' (by omega) g2
        · omega
      · rcases h with ⟨c2, -⟩ | ⟨_, hz, hu⟩
        · omega
        · refine Or.inr ⟨hz, fun g => y2 ((keyOk_cg r1 r10).mpr ?_), by rw [hu]; exact up.trans y4⟩
          have := g.2.1 k (by show (k : Int) < B (t + 1) 2; omega)
          rw [eP] at this
          exact this
theorem K_accept1 {f : Nat → Int} {N t P K : Nat} {B u : St} {z : Int} (hT : isT t) (hP : B (t + 1) 3 = (P : Int)) (hK : B (t + 1) 2 = (K : Int)) (hK4 : K ≤ 4) (hP3 : P ≤ 3) (l0 : B (t + 1) 0 ≤ 8) (hN : B 1 1 = (N : Int)) (hN16 : N ≤ 1600) (h0 : ∀ k, 0 ≤ f k ∧ f k ≤ 255) (hf : ∀ k, k < N → f k = B 2 k % 256) : ∀ (nn p : Nat) (C : St), p ≤ P → UP40 B C → (∀ p', p' < p → C 33 p' = tp f N p' ∧ 0 ≤ tp f N p' ∧ tp f N p' < B (t + 1) 0) → (∀ k', k' < 4 → C 35 k' = B (t + 25) k') → d_X4_accept_1 t B z u nn (p : Int) (p : Int) C → (z = 1 ∧ whole (tw t B) f N ∧ FIN f N t P K B u) ∨ (z = 0 ∧ ¬ whole (tw t B) f N ∧ UP40 B u) := by
  have t51 : t = 51 ∨ t = 82 := hT
  intro nn
  induction nn with
  | zero => intro p C _ _ _ _ h; exact h.elim
  | succ nn ih =>
    intro p C hp up hd h35 h
    obtain ⟨hI, _, _, z19, e19, h⟩ := (h : tr_d_X4_accept_1 t B z u (fun z4 z5 A7 => d_X4_accept_1 t B z u nn z4 z5 A7) (p : Int) (p : Int) C)
    have e19 : z19 = C (t + 1) 3 := e19
    rw [up (t + 1) (by omega), hP] at e19
    have cN : C 1 1 = (N : Int) := by rw [up 1 (by omega)]; exact hN
    have cf : ∀ k, k < N → f k = C 2 k % 256 := fun k hk => by rw [up 2 (by omega)]; exact hf k hk
    rcases h with ⟨c, n2, h⟩ | ⟨c, z59, h59, z62, h62, h⟩
    · have e : p = P := by omega
      subst e
      exact K_accept2 hT hP hK hK4 hP3 l0 hN hN16 h0 hf (fun p' hp' => (hd p' (by omega)).2) n2 0 C (Nat.zero_le K) up (fun p' hp' => (hd p' hp').1) (fun k' g => absurd g (Nat.not_lt_zero k')) (fun k' _ g => h35 k' g) (by show p ≤ 3 + 8 * 0; omega) h
    · have e59 := K_at (f := f) hI cN cf h59
      have k62 : (z62 = 1 ↔ 0 ≤ z59 ∧ z59 < B (t + 1) 0) ∧ (z62 = 0 ∨ z62 = 1) := by
        rcases (h62.1 : tr_r_X9_isThere_1_0 t z59 C z62) with ⟨c, e⟩ | ⟨c, z4, e4, h⟩
        · omega
        · have e4 : z4 = C (t + 1) 0 := e4
          rw [up (t + 1) (by (first | omega | (clear h; omega) | (clear h1; omega) | (clear h2; omega) | (clear h h1; omega) | (clear h h2; omega) | (clear h1 h2; omega) | (clear h h1 h2; omega)))] at e4
          rcases h with ⟨c2, e⟩ | ⟨c2, e⟩ <;> omega
      rcases h with ⟨c2, A66, e66, z67, e67, h⟩ | ⟨c2, hz, hu⟩
      · rw [Int.toNat_natCast] at e66
        have e66 : A66 = stA C 33 p z59 := e66
        rw [oWrap_id ⟨by omega, by omega⟩] at e67
        have e67 : z67 = ((p + 1 : Nat) : Int) := by omega
        rw [e67] at h
        have h2 : d_X4_accept_1 t B z u nn ((p + 1 : Nat) : Int) ((p + 1 : Nat) : Int) A66 := h
        refine ih (p + 1) A66 (by omega) (up.trans (by rw [e66]; exact UP40.rf.st (by decide))) (fun p' g => ?_) (fun k' g => ?_) h2
        · by_cases e : p' = p
          · subst e
            refine ⟨?_, by rw [← e59]; omega⟩
            rw [e66, stA_same, up_same, e59]
          · have x := hd p' (by omega)
            refine ⟨?_, x.2⟩
            rw [e66, stA_same, up_ne _ _ e]
            exact x.1
        · rw [e66, stA_ne _ _ (by decide)]
          exact h35 k' g
      · refine Or.inr ⟨hz, fun g => ?_, by rw [hu]; exact up⟩
        have := g.1 p (by show (p : Int) < B (t + 1) 3; omega)
        rw [← e59] at this
        have : 0 ≤ z59 ∧ z59 < B (t + 1) 0 := this
        omega
theorem K_accept {f : Nat → Int} {N t P K : Nat} {B u : St} {z : Int} (hT : isT t) (hP : B (t + 1) 3 = (P : Int)) (hK : B (t + 1) 2 = (K : Int)) (hK4 : K ≤ 4) (hP3 : P ≤ 3) (l0 : B (t + 1) 0 ≤ 8) (hN : B 1 1 = (N : Int)) (hN16 : N ≤ 1600) (h0 : ∀ k, 0 ≤ f k ∧ f k ≤ 255) (hf : ∀ k, k < N → f k = B 2 k % 256) (h : q_X4_accept t B z u) : (z = 1 ∧ whole (tw t B) f N ∧ FIN f N t P K B u) ∨ (z = 0 ∧ ¬ whole (tw t B) f N ∧ UP40 B u) := by
  have t51 : t = 51 ∨ t = 82 := hT
  obtain ⟨A1, hc, nn, h⟩ := (h.1 : tr_r_X4_accept t B z u)
  have cp := K_copy (by unfold DJ; omega) hc
  have up1 : UP40 B A1 := fun j hj => cp.1 j (by omega)
  refine K_accept1 hT hP hK hK4 hP3 l0 hN hN16 h0 hf nn 0 A1 (Nat.zero_le P) up1 (fun p' g => absurd g (Nat.not_lt_zero p')) (fun k' g => ?_) h
  exact (cp.2.2 k' g).2.1
