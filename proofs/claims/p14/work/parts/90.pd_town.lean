/-! The class's town. -/
theorem CT.ca {f : Nat → Int} {N ta : Nat} {r : Option (St × Nat)} {z : Int} {u : St} (h : CT f N ta r z u) : CA f N ta r z u := by
  cases r with
  | none => exact h
  | some a => exact ⟨h.1, h.2.1.1, Or.inl h.2.1.2, h.2.2⟩
def sBarAdd (T : St) (d a b : Int) : St := stA (stA (stA (stA T 16 (T 1 7).toNat d) 17 (T 1 7).toNat a) 18 (T 1 7).toNat b) 1 7 (T 1 7 + 1)
theorem C_addBar {f : Nat → Int} {N e ta : Nat} {x1 x2 x3 : Int} {A u : St} {z : Int} (hl : tw ta A 1 7 < 6) (hE : EK f N A) (hX : LXA f N e A) (h : q_X9_addBar ta x1 x2 x3 A z u) : z = 1 ∧ EK f N u ∧ LXA f N e u ∧ tw ta u = sBarAdd (tw ta A) x1 x2 x3 := by
  have hE2 : EK f N u := hE.fr h.2.1 h.2.2.1 rfl rfl rfl rfl (fun _ => rfl) (fun _ => rfl)
  have hX2 : LXA f N e u := hX.fr (fun k => h.2.2.1 5 k rfl rfl)
  obtain ⟨z1, hz1, h⟩ := (h.1 : tr_r_X9_addBar ta x1 x2 x3 A z u)
  have hz1 : z1 = tw ta A 1 7 := hz1
  rcases h with ⟨_, A4, hA4, A5, hA5, A6, hA6, A11, hA11, hz, hu⟩ | ⟨c, _⟩
  · refine ⟨hz, hE2, hX2, ?_⟩
    have hA11 : A11 = stA A6 (ta + 1) 7 (z1 + 1) := hA11
    rw [hu, hA11, tw_st, hA6, tw_st, hA5, tw_st, hA4, tw_st, hz1]
    rfl
  · omega
def sBar (f : Nat → Int) (N : Nat) (T : St) (p : Nat) : Option (St × Nat) := (sAsk f N T 1 p).bind fun a => if T 10 a.1.toNat = 0 then none else (sOwn f N 15 a.2).bind fun e => (sTestN f N 8 T e).bind fun b => some (sBarAdd b.1 a.1 (T 19 2) (b.1 19 2), b.2)
theorem C_readBar {f : Nat → Int} {N p ta : Nat} (hta : isT ta) {B u : St} {z : Int} (hE : EK f N B) (hX : LXA f N p B) (hl : tw ta B 1 7 < 6) (h : q_X5_readBar ta B z u) : CA f N ta (sBar f N (tw ta B) p) z u := by
  obtain ⟨z1, A2, hq, h⟩ := (h.1 : tr_r_X5_readBar ta B z u)
  have h1 := C_asked_1 hta hE hX hq
  unfold sBar
  rcases h with ⟨c, z6, hbx, h⟩ | ⟨c, hz, _⟩
  · obtain ⟨a, r1, e1, hC, ht⟩ := h1.pos c
    rw [r1]
    have b1 : 0 ≤ z1 ∧ z1 < tw ta A2 1 1 := by
      have hs : sAsk f N (tw ta B) 1 p = some a := r1
      unfold sAsk at hs
      cases hn : sName f N p with
      | none => rw [hn] at hs; exact absurd hs (by simp)
      | some w =>
        rw [hn] at hs
        have hs : (if sFind (tw ta B) 1 w.1 = -1 then none else some (sFind (tw ta B) 1 w.1, w.2)) = some a := hs
        have bb := sFind_b (tw ta B) 1 w.1
        by_cases g : sFind (tw ta B) 1 w.1 = -1
        · rw [if_pos g] at hs; exact absurd hs (by simp)
        · rw [if_neg g] at hs
          have := Option.some.inj hs
          rw [← this] at e1
          rw [ht, e1]
          rcases bb with bb | bb
          · exact absurd bb g
          · exact bb
    have hB := C_isBox b1 hbx.1
    rw [ht, e1] at hB
    show CA f N ta (if tw ta B 10 a.1.toNat = 0 then none else _) z u
    rcases h with ⟨c1, A12, hA12, z13, A14, hq2, h⟩ | ⟨c1, z32, A33, hb, hz, _⟩
    · rcases hB with ⟨g, _⟩ | ⟨_, g⟩
      · omega
      · rw [if_neg g]
        have hI12 : IK A12 := isRD_4 hA12 hC.1.1 (by decide)
        have hf12 : fk [] [(3, 4)] A2 A12 := fk.df fk.rf hA12 rfl
        have hC12 : CS f N a.2 A12 := hC.fr hI12 hf12 rfl rfl rfl rfl rfl (fun _ => rfl) (fun _ => rfl) (fun _ => rfl)
        have t12 : tw ta A12 = tw ta B := (tw_fk hta hf12 rfl).trans ht
        have h2 := C_ownWord hta (k := 15) (by decide) rfl hC12.1 (Or.inl hC12.2) hq2
        show CA f N ta ((sOwn f N 15 a.2).bind _) z u
        rcases h with ⟨c2, hz, _⟩ | ⟨c2, z20, A21, hq3, h⟩
        · rw [h2.neg c2]
          exact hz
        · obtain ⟨e, r2, hC2, ht2⟩ := h2.pos c2
          rw [r2]
          have g0 : A14 3 4 = 0 := (hq2.2.2.1 3 4 rfl rfl).trans (by rw [hA12]; rfl)
          have h3 := C_testN (f := f) (N := N) hta 8 (by decide) A14 z20 A21 e hC2.1 (Or.inl hC2.2) (by rw [g0]; rfl) hq3
          rw [ht2, t12] at h3
          show CA f N ta ((sTestN f N 8 (tw ta B) e).bind _) z u
          rcases h with ⟨c3, hz, _⟩ | ⟨c3, z27, A28, hq4, h⟩
          · rw [h3.neg c3]
            exact hz
          · obtain ⟨b, r3, hE3, hX3, ht3⟩ := h3.pos c3
            rw [r3]
            have l7 : tw ta A21 1 7 = tw ta B 1 7 := by
              rw [← t12, ← ht2]
              show A21 (ta + 1) 7 = A14 (ta + 1) 7
              rcases hta with rfl | rfl
              · exact hq3.2.2.1 52 7 rfl rfl
              · exact hq3.2.2.1 83 7 rfl rfl
            obtain ⟨k1, k2, k3, k4⟩ := C_addBar (by rw [l7]; exact hl) hE3 hX3 hq4
            have e21 : A21 (ta + 19) 2 = b.1 19 2 := by rw [← ht3]; rfl
            rw [e21, ht3, e1] at k4
            rcases h with ⟨c4, _⟩ | ⟨_, hz, hu⟩
            · omega
            · rw [hu]
              exact ⟨hz, k2, k3, k4⟩
    · rcases hB with ⟨_, g⟩ | ⟨g, _⟩
      · rw [if_pos g]
        exact hz.trans hb.2.2.2.2
      · exact absurd g c1
  · rw [h1.neg c]
    exact hz
def sPlace (f : Nat → Int) (N : Nat) (T : St) (p : Nat) : Option (St × Nat) := (sNew f N T p).bind fun a => some (sAdd T 0 a.1, a.2)
/-- the word's limit is not reached -/
def limOK (T : St) (k : Nat) : Prop := kindK k = -1 ∨ T 1 (kindK k).toNat < limK (kindK k).toNat
theorem C_word {f : Nat → Int} {N p ta : Nat} (hta : isT ta) {B u : St} {z : Int} (hE : EK f N B) (hX : LX1 f N p B) (h : q_X5_statementWord ta B z u) : (z = -1 ∧ (tKind f N p ≠ 1 ∨ (∀ k, k < 12 → wv f N p ≠ own5 k) ∨ ∃ k, k < 12 ∧ wv f N p = own5 k ∧ ¬ limOK (tw ta B) k)) ∨ (∃ k : Nat, k < 12 ∧ z = (k : Int) ∧ tKind f N p = 1 ∧ wv f N p = own5 k ∧ limOK (tw ta B) k ∧ CS f N (tEnd f N p) u ∧ tw ta u = tw ta B) := by
  have ht : tw ta u = tw ta B := tw_fk hta h.2.2.1 rfl
  obtain ⟨nn, h⟩ := (h.1 : tr_r_X5_statementWord ta B z u)
  have k2 := hX.2.2.1
  have lp : ∀ (m i : Nat), i ≤ 12 → (tKind f N p = 1 → ∀ k, k < i → wv f N p ≠ own5 k) → d_X5_statementWord_1 ta B z u m (i : Int) → (z = -1 ∧ (tKind f N p ≠ 1 ∨ (∀ k, k < 12 → wv f N p ≠ own5 k) ∨ ∃ k, k < 12 ∧ wv f N p = own5 k ∧ ¬ limOK (tw ta B) k)) ∨ (∃ k : Nat, k < 12 ∧ z = (k : Int) ∧ tKind f N p = 1 ∧ wv f N p = own5 k ∧ limOK (tw ta B) k ∧ CS f N (tEnd f N p) u ∧ tw ta u = tw ta B) := by
    intro m
    induction m with
    | zero => intro i _ _ h; exact h.elim
    | succ m ih =>
      intro i hi hk h
      obtain ⟨_, h⟩ := (h : tr_d_X5_statementWord_1 ta B z u (fun z1 => d_X5_statementWord_1 ta B z u m z1) i)
      rcases h with ⟨c, z8, A9, hb, hz, _⟩ | ⟨c, h⟩
      · refine Or.inl ⟨hz.trans (C_none hb), ?_⟩
        by_cases tk : tKind f N p = 1
        · exact Or.inr (Or.inl (fun k hk2 => hk tk k (by omega)))
        · exact Or.inl tk
      · rcases h with ⟨c1, h⟩ | ⟨c1, z16, hz16, h⟩
        · exact ih (i + 1) (by omega) (fun tk => by omega) (h : tr_d_X5_statementWord_2 _ i z u)
        · have tk : tKind f N p = 1 := by omega
          have hv : B 5 4 = wv f N p := hX.2.2.2.2.1 tk
          have e16 : z16 = own5 i := by
            rw [hz16, Int.toNat_natCast]
            exact hE.2.2.2.2 i (by omega)
          rw [e16, hv] at h
          rcases h with ⟨c2, h⟩ | ⟨c2, z18, hz18, h⟩
          · refine ih (i + 1) (by omega) (fun tk k hk2 => ?_) (h : tr_d_X5_statementWord_2 _ i z u)
            by_cases e : k = i
            · rw [e]; exact c2
            · exact hk tk k (by omega)
          · rw [Int.toNat_natCast] at hz18
            have yes : limOK (tw ta B) i → ∀ A20 : St, q_X3_pass B A20 → z = (i : Int) → u = A20 → (∃ k : Nat, k < 12 ∧ z = (k : Int) ∧ tKind f N p = 1 ∧ wv f N p = own5 k ∧ limOK (tw ta B) k ∧ CS f N (tEnd f N p) u ∧ tw ta u = tw ta B) := by
              intro hl A20 hp hz hu
              have hP := passX hE hX (by omega) hp
              exact ⟨i, by omega, hz, tk, c2, hl, by rw [hu]; exact ⟨hP.1, hP.2.1⟩, ht⟩
            rcases h with ⟨c3, A20, hp, hz, hu⟩ | ⟨c3, z24, hz24, z25, hz25, h⟩
            · exact Or.inr (yes (Or.inl (by rw [← hz18]; exact c3)) A20 hp hz hu)
            · rw [hz18] at hz24 hz25 c3
              rcases h with ⟨c4, A27, hp, hz, hu⟩ | ⟨c4, z31, A32, hb, hz, _⟩
              · refine Or.inr (yes (Or.inr ?_) A27 hp hz hu)
                rw [← hz25]
                show B (ta + 1) (kindK i).toNat < z25
                rw [← hz24]
                exact c4
              · refine Or.inl ⟨hz.trans (C_none hb), Or.inr (Or.inr ⟨i, by omega, c2, ?_⟩)⟩
                rintro (g | g)
                · exact c3 g
                · rw [← hz25] at g
                  have g : B (ta + 1) (kindK i).toNat < z25 := g
                  rw [← hz24] at g
                  exact c4 g
  exact lp nn 0 (by omega) (fun _ k hk => absurd hk (by omega)) h
def sStmt (f : Nat → Int) (N : Nat) (T : St) (p : Nat) : Option (St × Nat) := if tKind f N p ≠ 1 then none
  else if wv f N p = own5 0 then (if T 1 0 < 8 then sPlace f N T (tEnd f N p) else none)
  else if wv f N p = own5 1 then (if T 1 1 < 10 then sDoor f N T (tEnd f N p) else none)
  else if wv f N p = own5 2 then (if T 1 1 < 10 then sBox f N T (tEnd f N p) else none)
  else if wv f N p = own5 3 then (if T 1 2 < 4 then sKey f N T (tEnd f N p) else none)
  else if wv f N p = own5 4 then (if T 1 3 < 3 then sPerson f N T (tEnd f N p) else none)
  else if wv f N p = own5 5 then (if T 1 4 < 4 then sThing f N T (tEnd f N p) else none)
  else if wv f N p = own5 6 then (if T 1 5 < 6 then sWants f N T (tEnd f N p) else none)
  else if wv f N p = own5 7 then (if T 1 6 < 6 then sMust f N T (tEnd f N p) else none)
  else if wv f N p = own5 8 then (if T 1 7 < 6 then sBar f N T (tEnd f N p) else none)
  else if wv f N p = own5 9 then sHas f N T (tEnd f N p)
  else if wv f N p = own5 10 then sShut f N T (tEnd f N p)
  else if wv f N p = own5 11 then sLost f N T (tEnd f N p)
  else none
theorem own5_inj : ∀ i : Fin 12, ∀ j : Fin 12, own5 i.val = own5 j.val → i = j := by decide +kernel
theorem sStmt_0 {f : Nat → Int} {N p : Nat} {T : St} (tk : tKind f N p = 1) (hw : wv f N p = own5 0) : sStmt f N T p = (if T 1 0 < 8 then sPlace f N T (tEnd f N p) else none) := by
  unfold sStmt
  rw [if_neg (fun g => g tk), if_pos hw]
theorem sStmt_1 {f : Nat → Int} {N p : Nat} {T : St} (tk : tKind f N p = 1) (hw : wv f N p = own5 1) : sStmt f N T p = (if T 1 1 < 10 then sDoor f N T (tEnd f N p) else none) := by
  unfold sStmt
  rw [if_neg (fun g => g tk), if_neg (fun g => absurd (own5_inj ⟨1, by decide⟩ ⟨0, by decide⟩ (hw.symm.trans g)) (by decide)), if_pos hw]
theorem sStmt_2 {f : Nat → Int} {N p : Nat} {T : St} (tk : tKind f N p = 1) (hw : wv f N p = own5 2) : sStmt f N T p = (if T 1 1 < 10 then sBox f N T (tEnd f N p) else none) := by
  unfold sStmt
  rw [if_neg (fun g => g tk), if_neg (fun g => absurd (own5_inj ⟨2, by decide⟩ ⟨0, by decide⟩ (hw.symm.trans g)) (by decide)), if_neg (fun g => absurd (own5_inj ⟨2, by decide⟩ ⟨1, by decide⟩ (hw.symm.trans g)) (by decide)), if_pos hw]
theorem sStmt_3 {f : Nat → Int} {N p : Nat} {T : St} (tk : tKind f N p = 1) (hw : wv f N p = own5 3) : sStmt f N T p = (if T 1 2 < 4 then sKey f N T (tEnd f N p) else none) := by
  unfold sStmt
  rw [if_neg (fun g => g tk), if_neg (fun g => absurd (own5_inj ⟨3, by decide⟩ ⟨0, by decide⟩ (hw.symm.trans g)) (by decide)), if_neg (fun g => absurd (own5_inj ⟨3, by decide⟩ ⟨1, by decide⟩ (hw.symm.trans g)) (by decide)), if_neg (fun g => absurd (own5_inj ⟨3, by decide⟩ ⟨2, by decide⟩ (hw.symm.trans g)) (by decide)), if_pos hw]
theorem sStmt_4 {f : Nat → Int} {N p : Nat} {T : St} (tk : tKind f N p = 1) (hw : wv f N p = own5 4) : sStmt f N T p = (if T 1 3 < 3 then sPerson f N T (tEnd f N p) else none) := by
  unfold sStmt
  rw [if_neg (fun g => g tk), if_neg (fun g => absurd (own5_inj ⟨4, by decide⟩ ⟨0, by decide⟩ (hw.symm.trans g)) (by decide)), if_neg (fun g => absurd (own5_inj ⟨4, by decide⟩ ⟨1, by decide⟩ (hw.symm.trans g)) (by decide)), if_neg (fun g => absurd (own5_inj ⟨4, by decide⟩ ⟨2, by decide⟩ (hw.symm.trans g)) (by decide)), if_neg (fun g => absurd (own5_inj ⟨4, by decide⟩ ⟨3, by decide⟩ (hw.symm.trans g)) (by decide)), if_pos hw]
theorem sStmt_5 {f : Nat → Int} {N p : Nat} {T : St} (tk : tKind f N p = 1) (hw : wv f N p = own5 5) : sStmt f N T p = (if T 1 4 < 4 then sThing f N T (tEnd f N p) else none) := by
  unfold sStmt
  rw [if_neg (fun g => g tk), if_neg (fun g => absurd (own5_inj ⟨5, by decide⟩ ⟨0, by decide⟩ (hw.symm.trans g)) (by decide)), if_neg (fun g => absurd (own5_inj ⟨5, by decide⟩ ⟨1, by decide⟩ (hw.symm.trans g)) (by decide)), if_neg (fun g => absurd (own5_inj ⟨5, by decide⟩ ⟨2, by decide⟩ (hw.symm.trans g)) (by decide)), if_neg (fun g => absurd (own5_inj ⟨5, by decide⟩ ⟨3, by decide⟩ (hw.symm.trans g)) (by decide)), if_neg (fun g => absurd (own5_inj ⟨5, by decide⟩ ⟨4, by decide⟩ (hw.symm.trans g)) (by decide)), if_pos hw]
theorem sStmt_6 {f : Nat → Int} {N p : Nat} {T : St} (tk : tKind f N p = 1) (hw : wv f N p = own5 6) : sStmt f N T p = (if T 1 5 < 6 then sWants f N T (tEnd f N p) else none) := by
  unfold sStmt
  rw [if_neg (fun g => g tk), if_neg (fun g => absurd (own5_inj ⟨6, by decide⟩ ⟨0, by decide⟩ (hw.symm.trans g)) (by decide)), if_neg (fun g => absurd (own5_inj ⟨6, by decide⟩ ⟨1, by decide⟩ (hw.symm.trans g)) (by decide)), if_neg (fun g => absurd (own5_inj ⟨6, by decide⟩ ⟨2, by decide⟩ (hw.symm.trans g)) (by decide)), if_neg (fun g => absurd (own5_inj ⟨6, by decide⟩ ⟨3, by decide⟩ (hw.symm.trans g)) (by decide)), if_neg (fun g => absurd (own5_inj ⟨6, by decide⟩ ⟨4, by decide⟩ (hw.symm.trans g)) (by decide)), if_neg (fun g => absurd (own5_inj ⟨6, by decide⟩ ⟨5, by decide⟩ (hw.symm.trans g)) (by decide)), if_pos hw]
theorem sStmt_7 {f : Nat → Int} {N p : Nat} {T : St} (tk : tKind f N p = 1) (hw : wv f N p = own5 7) : sStmt f N T p = (if T 1 6 < 6 then sMust f N T (tEnd f N p) else none) := by
  unfold sStmt
  rw [if_neg (fun g => g tk), if_neg (fun g => absurd (own5_inj ⟨7, by decide⟩ ⟨0, by decide⟩ (hw.symm.trans g)) (by decide)), if_neg (fun g => absurd (own5_inj ⟨7, by decide⟩ ⟨1, by decide⟩ (hw.symm.trans g)) (by decide)), if_neg (fun g => absurd (own5_inj ⟨7, by decide⟩ ⟨2, by decide⟩ (hw.symm.trans g)) (by decide)), if_neg (fun g => absurd (own5_inj ⟨7, by decide⟩ ⟨3, by decide⟩ (hw.symm.trans g)) (by decide)), if_neg (fun g => absurd (own5_inj ⟨7, by decide⟩ ⟨4, by decide⟩ (hw.symm.trans g)) (by decide)), if_neg (fun g => absurd (own5_inj ⟨7, by decide⟩ ⟨5, by decide⟩ (hw.symm.trans g)) (by decide)), if_neg (fun g => absurd (own5_inj ⟨7, by decide⟩ ⟨6, by decide⟩ (hw.symm.trans g)) (by decide)), if_pos hw]
theorem sStmt_8 {f : Nat → Int} {N p : Nat} {T : St} (tk : tKind f N p = 1) (hw : wv f N p = own5 8) : sStmt f N T p = (if T 1 7 < 6 then sBar f N T (tEnd f N p) else none) := by
  unfold sStmt
  rw [if_neg (fun g => g tk), if_neg (fun g => absurd (own5_inj ⟨8, by decide⟩ ⟨0, by decide⟩ (hw.symm.trans g)) (by decide)), if_neg (fun g => absurd (own5_inj ⟨8, by decide⟩ ⟨1, by decide⟩ (hw.symm.trans g)) (by decide)), if_neg (fun g => absurd (own5_inj ⟨8, by decide⟩ ⟨2, by decide⟩ (hw.symm.trans g)) (by decide)), if_neg (fun g => absurd (own5_inj ⟨8, by decide⟩ ⟨3, by decide⟩ (hw.symm.trans g)) (by decide)), if_neg (fun g => absurd (own5_inj ⟨8, by decide⟩ ⟨4, by decide⟩ (hw.symm.trans g)) (by decide)), if_neg (fun g => absurd (own5_inj ⟨8, by decide⟩ ⟨5, by decide⟩ (hw.symm.trans g)) (by decide)), if_neg (fun g => absurd (own5_inj ⟨8, by decide⟩ ⟨6, by decide⟩ (hw.symm.trans g)) (by decide)), if_neg (fun g => absurd (own5_inj ⟨8, by decide⟩ ⟨7, by decide⟩ (hw.symm.trans g)) (by decide)), if_pos hw]
theorem sStmt_9 {f : Nat → Int} {N p : Nat} {T : St} (tk : tKind f N p = 1) (hw : wv f N p = own5 9) : sStmt f N T p = sHas f N T (tEnd f N p) := by
  unfold sStmt
  rw [if_neg (fun g => g tk), if_neg (fun g => absurd (own5_inj ⟨9, by decide⟩ ⟨0, by decide⟩ (hw.symm.trans g)) (by decide)), if_neg (fun g => absurd (own5_inj ⟨9, by decide⟩ ⟨1, by decide⟩ (hw.symm.trans g)) (by decide)), if_neg (fun g => absurd (own5_inj ⟨9, by decide⟩ ⟨2, by decide⟩ (hw.symm.trans g)) (by decide)), if_neg (fun g => absurd (own5_inj ⟨9, by decide⟩ ⟨3, by decide⟩ (hw.symm.trans g)) (by decide)), if_neg (fun g => absurd (own5_inj ⟨9, by decide⟩ ⟨4, by decide⟩ (hw.symm.trans g)) (by decide)), if_neg (fun g => absurd (own5_inj ⟨9, by decide⟩ ⟨5, by decide⟩ (hw.symm.trans g)) (by decide)), if_neg (fun g => absurd (own5_inj ⟨9, by decide⟩ ⟨6, by decide⟩ (hw.symm.trans g)) (by decide)), if_neg (fun g => absurd (own5_inj ⟨9, by decide⟩ ⟨7, by decide⟩ (hw.symm.trans g)) (by decide)), if_neg (fun g => absurd (own5_inj ⟨9, by decide⟩ ⟨8, by decide⟩ (hw.symm.trans g)) (by decide)), if_pos hw]
theorem sStmt_10 {f : Nat → Int} {N p : Nat} {T : St} (tk : tKind f N p = 1) (hw : wv f N p = own5 10) : sStmt f N T p = sShut f N T (tEnd f N p) := by
  unfold sStmt
  rw [if_neg (fun g => g tk), if_neg (fun g => absurd (own5_inj ⟨10, by decide⟩ ⟨0, by decide⟩ (hw.symm.trans g)) (by decide)), if_neg (fun g => absurd (own5_inj ⟨10, by decide⟩ ⟨1, by decide⟩ (hw.symm.trans g)) (by decide)), if_neg (fun g => absurd (own5_inj ⟨10, by decide⟩ ⟨2, by decide⟩ (hw.symm.trans g)) (by decide)), if_neg (fun g => absurd (own5_inj ⟨10, by decide⟩ ⟨3, by decide⟩ (hw.symm.trans g)) (by decide)), if_neg (fun g => absurd (own5_inj ⟨10, by decide⟩ ⟨4, by decide⟩ (hw.symm.trans g)) (by decide)), if_neg (fun g => absurd (own5_inj ⟨10, by decide⟩ ⟨5, by decide⟩ (hw.symm.trans g)) (by decide)), if_neg (fun g => absurd (own5_inj ⟨10, by decide⟩ ⟨6, by decide⟩ (hw.symm.trans g)) (by decide)), if_neg (fun g => absurd (own5_inj ⟨10, by decide⟩ ⟨7, by decide⟩ (hw.symm.trans g)) (by decide)), if_neg (fun g => absurd (own5_inj ⟨10, by decide⟩ ⟨8, by decide⟩ (hw.symm.trans g)) (by decide)), if_neg (fun g => absurd (own5_inj ⟨10, by decide⟩ ⟨9, by decide⟩ (hw.symm.trans g)) (by decide)), if_pos hw]
theorem sStmt_11 {f : Nat → Int} {N p : Nat} {T : St} (tk : tKind f N p = 1) (hw : wv f N p = own5 11) : sStmt f N T p = sLost f N T (tEnd f N p) := by
  unfold sStmt
  rw [if_neg (fun g => g tk), if_neg (fun g => absurd (own5_inj ⟨11, by decide⟩ ⟨0, by decide⟩ (hw.symm.trans g)) (by decide)), if_neg (fun g => absurd (own5_inj ⟨11, by decide⟩ ⟨1, by decide⟩ (hw.symm.trans g)) (by decide)), if_neg (fun g => absurd (own5_inj ⟨11, by decide⟩ ⟨2, by decide⟩ (hw.symm.trans g)) (by decide)), if_neg (fun g => absurd (own5_inj ⟨11, by decide⟩ ⟨3, by decide⟩ (hw.symm.trans g)) (by decide)), if_neg (fun g => absurd (own5_inj ⟨11, by decide⟩ ⟨4, by decide⟩ (hw.symm.trans g)) (by decide)), if_neg (fun g => absurd (own5_inj ⟨11, by decide⟩ ⟨5, by decide⟩ (hw.symm.trans g)) (by decide)), if_neg (fun g => absurd (own5_inj ⟨11, by decide⟩ ⟨6, by decide⟩ (hw.symm.trans g)) (by decide)), if_neg (fun g => absurd (own5_inj ⟨11, by decide⟩ ⟨7, by decide⟩ (hw.symm.trans g)) (by decide)), if_neg (fun g => absurd (own5_inj ⟨11, by decide⟩ ⟨8, by decide⟩ (hw.symm.trans g)) (by decide)), if_neg (fun g => absurd (own5_inj ⟨11, by decide⟩ ⟨9, by decide⟩ (hw.symm.trans g)) (by decide)), if_neg (fun g => absurd (own5_inj ⟨11, by decide⟩ ⟨10, by decide⟩ (hw.symm.trans g)) (by decide)), if_pos hw]
theorem sStmt_none {f : Nat → Int} {N p : Nat} {T : St} (h : tKind f N p ≠ 1 ∨ (∀ k, k < 12 → wv f N p ≠ own5 k) ∨ ∃ k, k < 12 ∧ wv f N p = own5 k ∧ ¬ limOK T k) : sStmt f N T p = none := by
  by_cases tk : tKind f N p = 1
  · rcases h with h | h | ⟨k, hk, hw, hl⟩
    · exact absurd tk h
    · unfold sStmt
      rw [if_neg (fun g => g tk), if_neg (h 0 (by decide)), if_neg (h 1 (by decide)), if_neg (h 2 (by decide)), if_neg (h 3 (by decide)), if_neg (h 4 (by decide)), if_neg (h 5 (by decide)), if_neg (h 6 (by decide)), if_neg (h 7 (by decide)), if_neg (h 8 (by decide)), if_neg (h 9 (by decide)), if_neg (h 10 (by decide)), if_neg (h 11 (by decide))]
    · rcases (show k = 0 ∨ k = 1 ∨ k = 2 ∨ k = 3 ∨ k = 4 ∨ k = 5 ∨ k = 6 ∨ k = 7 ∨ k = 8 ∨ k = 9 ∨ k = 10 ∨ k = 11 by omega) with rfl | rfl | rfl | rfl | rfl | rfl | rfl | rfl | rfl | rfl | rfl | rfl
      · rw [sStmt_0 tk hw, if_neg (show ¬ T 1 0 < 8 from fun g => hl (Or.inr g))]
      · rw [sStmt_1 tk hw, if_neg (show ¬ T 1 1 < 10 from fun g => hl (Or.inr g))]
      · rw [sStmt_2 tk hw, if_neg (show ¬ T 1 1 < 10 from fun g => hl (Or.inr g))]
      · rw [sStmt_3 tk hw, if_neg (show ¬ T 1 2 < 4 from fun g => hl (Or.inr g))]
      · rw [sStmt_4 tk hw, if_neg (show ¬ T 1 3 < 3 from fun g => hl (Or.inr g))]
      · rw [sStmt_5 tk hw, if_neg (show ¬ T 1 4 < 4 from fun g => hl (Or.inr g))]
      · rw [sStmt_6 tk hw, if_neg (show ¬ T 1 5 < 6 from fun g => hl (Or.inr g))]
      · rw [sStmt_7 tk hw, if_neg (show ¬ T 1 6 < 6 from fun g => hl (Or.inr g))]
      · rw [sStmt_8 tk hw, if_neg (show ¬ T 1 7 < 6 from fun g => hl (Or.inr g))]
      · exact absurd (Or.inl rfl) hl
      · exact absurd (Or.inl rfl) hl
      · exact absurd (Or.inl rfl) hl
  · unfold sStmt
    rw [if_pos tk]
