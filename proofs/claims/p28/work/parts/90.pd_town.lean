/-! The class's town. -/
theorem CT.ca {f : Nat → Int} {N ta : Nat} {r : Option (St × Nat)} {z : Int} {u : St} (h : CT f N ta r z u) : CA f N ta r z u := by
  cases r with
  | none => exact h
  | some a => exact ⟨h.1, h.2.1.1, Or.inl h.2.1.2, h.2.2⟩
def sBarAdd (T : St) (d a b : Int) : St := stA (stA (stA (stA T 16 (T 1 7).toNat d) 17 (T 1 7).toNat a) 18 (T 1 7).toNat b) 1 7 (T 1 7 + 1)
theorem C_addBar {f : Nat → Int} {N e ta : Nat} {x1 x2 x3 : Int} {A u : St} {z : Int} (hl : tw ta A 1 7 < 6) (hE : EK f N A) (hX : LXA f N e A) (h : q_X9_addBar ta x1 x2 x3 A z u) : z = 1 ∧ EK f N u ∧ LXA f N e u ∧ tw ta u = sBarAdd (tw ta A) x1 x2 x3 := by
  have hE2 : EK f N u := hE.fr h.2.1 h.2.2.1 rfl rfl rfl rfl (fun _ => rfl) (fun _ => rfl)
  have hX2 : LXA f N e u := hX.fr (fun k => h.2.2.1 5 k rfl rfl)
  obtain ⟨z1, hz1, h⟩ := (h.1 : tr_r_X9_addBar ta x1 x2 x3 A z u)
  have hz1 : z1 = tw ta A 1 7 := hz1
  rcases h with ⟨_, A4, hA4, A5, hA5, A6, hA6, A11, hA11, hz, hu⟩ | ⟨c, _⟩
  · refine ⟨hz, hE2, hX2, ?_⟩
    have hA11 : A11 = stA A6 (ta + 1) 7 (z1 + 1) := hA11
    rw [hu, hA11, tw_st, hA6, tw_st, hA5, tw_st, hA4, tw_st, hz1]
    rfl
  · omega
def sBar (f : Nat → Int) (N : Nat) (T : St) (p : Nat) : Option (St × Nat) := (sAsk f N T 1 p).bind fun a => if T 10 a.1.toNat = 0 then none else (sOwn f N 15 a.2).bind fun e => (sTestN f N 8 T e).bind fun b => some (sBarAdd b.1 a.1 (T 19 2) (b.1 19 2), b.2)
theorem C_readBar {f : Nat → Int} {N p ta : Nat} (hta : isT ta) {B u : St} {z : Int} (hE : EK f N B) (hX : LXA f N p B) (hl : tw ta B 1 7 < 6) (h : q_X5_readBar ta B z u) : CA f N ta (sBar f N (tw ta B) p) z u := by
  obtain ⟨z1, A2, hq, h⟩ := (h.1 : tr_r_X5_readBar ta B z u)
  have h1 := C_asked_1 hta hE hX hq
  unfold sBar
  rcases h with ⟨c, z6, hbx, h⟩ | ⟨c, hz, _⟩
  · obtain ⟨a, r1, e1, hC, ht⟩ := h1.pos c
    rw [r1]
    have b1 : 0 ≤ z1 ∧ z1 < tw ta A2 1 1 := by
      have hs : sAsk f N (tw ta B) 1 p = some a := r1
      unfold sAsk at hs
      cases hn : sName f N p with
      | none => rw [hn] at hs; exact absurd hs (by simp)
      | some w =>
        rw [hn] at hs
        have hs : (if sFind (tw ta B) 1 w.1 = -1 then none else some (sFind (tw ta B) 1 w.1, w.2)) = some a := hs
        have bb := sFind_b (tw ta B) 1 w.1
        by_cases g : sFind (tw ta B) 1 w.1 = -1
        · rw [if_pos g] at hs; exact absurd hs (by simp)
        · rw [if_neg g] at hs
          have := Option.some.inj hs
          rw [← this] at e1
          rw [ht, e1]
          rcases bb with bb | bb
          · exact absurd bb g
          · exact bb
    have hB := C_isBox b1 hbx.1
    rw [ht, e1] at hB
    show CA f N ta (if tw ta B 10 a.1.toNat = 0 then none else _) z u
    rcases h with ⟨c1, A12, hA12, z13, A14, hq2, h⟩ | ⟨c1, z32, A33, hb, hz, _⟩
    · rcases hB with ⟨g, _⟩ | ⟨_, g⟩
      · omega
      · rw [if_neg g]
        have hI12 : IK A12 := isRD_4 hA12 hC.1.1 (by decide)
        have hf12 : fk [] [(3, 4)] A2 A12 := fk.df fk.rf hA12 rfl
        have hC12 : CS f N a.2 A12 := hC.fr hI12 hf12 rfl rfl rfl rfl rfl (fun _ => rfl) (fun _ => rfl) (fun _ => rfl)
        have t12 : tw ta A12 = tw ta B := (tw_fk hta hf12 rfl).trans ht
        have h2 := C_ownWord hta (k := 15) (by decide) rfl hC12.1 (Or.inl hC12.2) hq2
        show CA f N ta ((sOwn f N 15 a.2).bind _) z u
        rcases h with ⟨c2, hz, _⟩ | ⟨c2, z20, A21, hq3, h⟩
        · rw [h2.neg c2]
          exact hz
        · obtain ⟨e, r2, hC2, ht2⟩ := h2.pos c2
          rw [r2]
          have g0 : A14 3 4 = 0 := (hq2.2.2.1 3 4 rfl rfl).trans (by rw [hA12]; rfl)
          have h3 := C_testN (f := f) (N := N) hta 8 (by decide) A14 z20 A21 e hC2.1 (Or.inl hC2.2) (by rw [g0]; rfl) hq3
          rw [ht2, t12] at h3
          show CA f N ta ((sTestN f N 8 (tw ta B) e).bind _) z u
          rcases h with ⟨c3, hz, _⟩ | ⟨c3, z27, A28, hq4, h⟩
          · rw [h3.neg c3]
            exact hz
          · obtain ⟨b, r3, hE3, hX3, ht3⟩ := h3.pos c3
            rw [r3]
            have l7 : tw ta A21 1 7 = tw ta B 1 7 := by
              rw [← t12, ← ht2]
              show A21 (ta + 1) 7 = A14 (ta + 1) 7
              rcases hta with rfl | rfl
              · exact hq3.2.2.1 52 7 rfl rfl
              · exact hq3.2.2.1 83 7 rfl rfl
            obtain ⟨k1, k2, k3, k4⟩ := C_addBar (by rw [l7]; exact hl) hE3 hX3 hq4
            have e21 : A21 (ta + 19) 2 = b.1 19 2 := by rw [← ht3]; rfl
            rw [e21, ht3, e1] at k4
            rcases h with ⟨c4, _⟩ | ⟨_, hz, hu⟩
            · omega
            · rw [hu]
              exact ⟨hz, k2, k3, k4⟩
    · rcases hB with ⟨_, g⟩ | ⟨g, _⟩
      · rw [if_pos g]
        exact hz.trans hb.2.2.2.2
      · exact absurd g c1
  · rw [h1.neg c]
    exact hz
def sPlace (f : Nat → Int) (N : Nat) (T : St) (p : Nat) : Option (St × Nat) := (sNew f N T p).bind fun a => some (sAdd T 0 a.1, a.2)
/-- the word's limit is not reached -/
def limOK (T : St) (k : Nat) : Prop := kindK k = -1 ∨ T 1 (kindK k).toNat < limK (kindK k).toNat
theorem C_word {f : Nat → Int} {N p ta : Nat} (hta : isT ta) {B u : St} {z : Int} (hE : EK f N B) (hX : LX1 f N p B) (h : q_X5_statementWord ta B z u) : (z = -1 ∧ (tKind f N p ≠ 1 ∨ (∀ k, k < 12 → wv f N p ≠ own5 k) ∨ ∃ k, k < 12 ∧ wv f N p = own5 k ∧ ¬ limOK (tw ta B) k)) ∨ (∃ k : Nat, k < 12 ∧ z = (k : Int) ∧ tKind f N p = 1 ∧ wv f N p = own5 k ∧ limOK (tw ta B) k ∧ CS f N (tEnd f N p) u ∧ tw ta u = tw ta B) := by
  have ht : tw ta u = tw ta B := tw_fk hta h.2.2.1 rfl
  obtain ⟨nn, h⟩ := (h.1 : tr_r_X5_statementWord ta B z u)
  have k2 := hX.2.2.1
  have lp : ∀ (m i : Nat), i ≤ 12 → (tKind f N p = 1 → ∀ k, k < i → wv f N p ≠ own5 k) → d_X5_statementWord_1 ta B z u m (i : Int) → (z = -1 ∧ (tKind f N p ≠ 1 ∨ (∀ k, k < 12 → wv f N p ≠ own5 k) ∨ ∃ k, k < 12 ∧ wv f N p = own5 k ∧ ¬ limOK (tw ta B) k)) ∨ (∃ k : Nat, k < 12 ∧ z = (k : Int) ∧ tKind f N p = 1 ∧ wv f N p = own5 k ∧ limOK (tw ta B) k ∧ CS f N (tEnd f N p) u ∧ tw ta u = tw ta B) := by
    intro m
    induction m with
    | zero => intro i _ _ h; exact h.elim
    | succ m ih =>
      intro i hi hk h
      obtain ⟨_, h⟩ := (h : tr_d_X5_statementWord_1 ta B z u (fun z1 => d_X5_statementWord_1 ta B z u m z1) i)
      rcases h with ⟨c, z8, A9, hb, hz, _⟩ | ⟨c, h⟩
      · refine Or.inl ⟨hz.trans (C_none hb), ?_⟩
        by_cases tk : tKind f N p = 1
        · exact Or.inr (Or.inl (fun k hk2 => hk tk k (by omega)))
        · exact Or.inl tk
      · rcases h with ⟨c1, h⟩ | ⟨c1, z16, hz16, h⟩
        · exact ih (i + 1) (by omega) (fun tk => by omega) (h : tr_d_X5_statementWord_2 _ i z u)
        · have tk : tKind f N p = 1 := by omega
          have hv : B 5 4 = wv f N p := hX.2.2.2.2.1 tk
          have e16 : z16 = own5 i := by
            rw [hz16, Int.toNat_natCast]
            exact hE.2.2.2.2 i (by omega)
          rw [e16, hv] at h
          rcases h with ⟨c2, h⟩ | ⟨c2, z18, hz18, h⟩
          · refine ih (i + 1) (by omega) (fun tk k hk2 => ?_) (h : tr_d_X5_statementWord_2 _ i z u)
            by_cases e : k = i
            · rw [e]; exact c2
            · exact hk tk k (by omega)
          · rw [Int.toNat_natCast] at hz18
            have yes : limOK (tw ta B) i → ∀ A20 : St, q_X3_pass B A20 → z = (i : Int) → u = A20 → (∃ k : Nat, k < 12 ∧ z = (k : Int) ∧ tKind f N p = 1 ∧ wv f N p = own5 k ∧ limOK (tw ta B) k ∧ CS f N (tEnd f N p) u ∧ tw ta u = tw ta B) := by
              intro hl A20 hp hz hu
              have hP := passX hE hX (by omega) hp
              exact ⟨i, by omega, hz, tk, c2, hl, by rw [hu]; exact ⟨hP.1, hP.2.1⟩, ht⟩
            rcases h with ⟨c3, A20, hp, hz, hu⟩ | ⟨c3, z24, hz24, z25, hz25, h⟩
            · exact Or.inr (yes (Or.inl (by rw [← hz18]; exact c3)) A20 hp hz hu)
            · rw [hz18] at hz24 hz25 c3
              rcases h with ⟨c4, A27, hp, hz, hu⟩ | ⟨c4, z31, A32, hb, hz, _⟩
              · refine Or.inr (yes (Or.inr ?_) A27 hp hz hu)
                rw [← hz25]
                show B (ta + 1) (kindK i).toNat < z25
                rw [← hz24]
                exact c4
              · refine Or.inl ⟨hz.trans (C_none hb), Or.inr (Or.inr ⟨i, by omega, c2, ?_⟩)⟩
                rintro (g | g)
                · exact c3 g
                · rw [← hz25] at g
                  have g : B (ta + 1) (kindK i).toNat < z25 := g
                  rw [← hz24] at g
                  exact c4 g
  exact lp nn 0 (by omega) (fun _ k hk => absurd hk (by omega)) h
def sStmt (f : Nat → Int) (N : Nat) (T : St) (p : Nat) : Option (St × Nat) := if tKind f N p ≠ 1 then none
  else if wv f N p = own5 0 then (if T 1 0 < 8 then sPlace f N T (tEnd f N p) else none)
  else if wv f N p = own5 1 then (if T 1 1 < 10 then sDoor f N T (tEnd f N p) else none)
  else if wv f N p = own5 2 then (if T 1 1 < 10 then sBox f N T (tEnd f N p) else none)
  else if wv f N p = own5 3 then (if T 1 2 < 4 then sKey f N T (tEnd f N p) else none)
  else if wv f N p = own5 4 then (if T 1 3 < 3 then sPerson f N T (tEnd f N p) else none)
  else if wv f N p = own5 5 then (if T 1 4 < 4 then sThing f N T (tEnd f N p) else none)
  else if wv f N p = own5 6 then (if T 1 5 < 6 then sWants f N T (tEnd f N p) else none)
  else if wv f N p = own5 7 then (if T 1 6 < 6 then sMust f N T (tEnd f N p) else none)
  else if wv f N p = own5 8 then (if T 1 7 < 6 then sBar f N T (tEnd f N p) else none)
  else if wv f N p = own5 9 then sHas f N T (tEnd f N p)
  else if wv f N p = own5 10 then sShut f N T (tEnd f N p)
  else if wv f N p = own5 11 then sLost f N T (tEnd f N p)
  else none
theorem own5_inj : ∀ i : Fin 12, ∀ j : Fin 12, own5 i.val = own5 j.val → i = j := by decide +kernel
theorem sStmt_0 {f : Nat → Int} {N p : Nat} {T : St} (tk : tKind f N p = 1) (hw : wv f N p = own5 0) : sStmt f N T p = (if T 1 0 < 8 then sPlace f N T (tEnd f N p) else none) := by
  unfold sStmt
  rw [if_neg (fun g => g tk), if_pos hw]
theorem sStmt_1 {f : Nat → Int} {N p : Nat} {T : St} (tk : tKind f N p = 1) (hw : wv f N p = own5 1) : sStmt f N T p = (if T 1 1 < 10 then sDoor f N T (tEnd f N p) else none) := by
  unfold sStmt
  rw [if_neg (fun g => g tk), if_neg (fun g => absurd (own5_inj ⟨1, by decide⟩ ⟨0, by decide⟩ (hw.symm.trans g)) (by decide)), if_pos hw]
theorem sStmt_2 {f : Nat → Int} {N p : Nat} {T : St} (tk : tKind f N p = 1) (hw : wv f N p = own5 2) : sStmt f N T p = (if T 1 1 < 10 then sBox f N T (tEnd f N p) else none) := by
  unfold sStmt
  rw [if_neg (fun g => g tk), if_neg (fun g => absurd (own5_inj ⟨2, by decide⟩ ⟨0, by decide⟩ (hw.symm.trans g)) (by decide)), if_neg (fun g => absurd (own5_inj ⟨2, by decide⟩ ⟨1, by decide⟩ (hw.symm.trans g)) (by decide)), if_pos hw]
theorem sStmt_3 {f : Nat → Int} {N p : Nat} {T : St} (tk : tKind f N p = 1) (hw : wv f N p = own5 3) : sStmt f N T p = (if T 1 2 < 4 then sKey f N T (tEnd f N p) else none) := by
  unfold sStmt
  rw [if_neg (fun g => g tk), if_neg (fun g => absurd (own5_inj ⟨3, by decide⟩ ⟨0, by decide⟩ (hw.symm.trans g)) (by decide)), if_neg (fun g => absurd (own5_inj ⟨3, by decide⟩ ⟨1, by decide⟩ (hw.symm.trans g)) (by decide)), if_neg (fun g => absurd (own5_inj ⟨3, by decide⟩ ⟨2, by decide⟩ (hw.symm.trans g)) (by decide)), if_pos hw]
theorem sStmt_4 {f : Nat → Int} {N p : Nat} {T : St} (tk : tKind f N p = 1) (hw : wv f N p = own5 4) : sStmt f N T p = (if T 1 3 < 3 then sPerson f N T (tEnd f N p) else none) := by
  unfold sStmt
  rw [if_neg (fun g => g tk), if_neg (fun g => absurd (own5_inj ⟨4, by decide⟩ ⟨0, by decide⟩ (hw.symm.trans g)) (by decide)), if_neg (fun g => absurd (own5_inj ⟨4, by decide⟩ ⟨1, by decide⟩ (hw.symm.trans g)) (by decide)), if_neg (fun g => absurd (own5_inj ⟨4, by decide⟩ ⟨2, by decide⟩ (hw.symm.trans g)) (by decide)), if_neg (fun g => absurd (own5_inj ⟨4, by decide⟩ ⟨3, by decide⟩ (hw.symm.trans g)) (by decide)), if_pos hw]
theorem sStmt_5 {f : Nat → Int} {N p : Nat} {T : St} (tk : tKind f N p = 1) (hw : wv f N p = own5 5) : sStmt f N T p = (if T 1 4 < 4 then sThing f N T (tEnd f N p) else none) := by
  unfold sStmt
  rw [if_neg (fun g => g tk), if_neg (fun g => absurd (own5_inj ⟨5, by decide⟩ ⟨0, by decide⟩ (hw.symm.trans g)) (by decide)), if_neg (fun g => absurd (own5_inj ⟨5, by decide⟩ ⟨1, by decide⟩ (hw.symm.trans g)) (by decide)), if_neg (fun g => absurd (own5_inj ⟨5, by decide⟩ ⟨2, by decide⟩ (hw.symm.trans g)) (by decide)), if_neg (fun g => absurd (own5_inj ⟨5, by decide⟩ ⟨3, by decide⟩ (hw.symm.trans g)) (by decide)), if_neg (fun g => absurd (own5_inj ⟨5, by decide⟩ ⟨4, by decide⟩ (hw.symm.trans g)) (by decide)), if_pos hw]
theorem sStmt_6 {f : Nat → Int} {N p : Nat} {T : St} (tk : tKind f N p = 1) (hw : wv f N p = own5 6) : sStmt f N T p = (if T 1 5 < 6 then sWants f N T (tEnd f N p) else none) := by
  unfold sStmt
  rw [if_neg (fun g => g tk), if_neg (fun g => absurd (own5_inj ⟨6, by decide⟩ ⟨0, by decide⟩ (hw.symm.trans g)) (by decide)), if_neg (fun g => absurd (own5_inj ⟨6, by decide⟩ ⟨1, by decide⟩ (hw.symm.trans g)) (by decide)), if_neg (fun g => absurd (own5_inj ⟨6, by decide⟩ ⟨2, by decide⟩ (hw.symm.trans g)) (by decide)), if_neg (fun g => absurd (own5_inj ⟨6, by decide⟩ ⟨3, by decide⟩ (hw.symm.trans g)) (by decide)), if_neg (fun g => absurd (own5_inj ⟨6, by decide⟩ ⟨4, by decide⟩ (hw.symm.trans g)) (by decide)), if_neg (fun g => absurd (own5_inj ⟨6, by decide⟩ ⟨5, by decide⟩ (hw.symm.trans g)) (by decide)), if_pos hw]
theorem sStmt_7 {f : Nat → Int} {N p : Nat} {T : St} (tk : tKind f N p = 1) (hw : wv f N p = own5 7) : sStmt f N T p = (if T 1 6 < 6 then sMust f N T (tEnd f N p) else none) := by
  unfold sStmt
  rw [if_neg (fun g => g tk), if_neg (fun g => absurd (own5_inj ⟨7, by decide⟩ ⟨0, by decide⟩ (hw.symm.trans g)) (by decide)), if_neg (fun g => absurd (own5_inj ⟨7, by decide⟩ ⟨1, by decide⟩ (hw.symm.trans g)) (by decide)), if_neg (fun g => absurd (own5_inj ⟨7, by decide⟩ ⟨2, by decide⟩ (hw.symm.trans g)) (by decide)), if_neg (fun g => absurd (own5_inj ⟨7, by decide⟩ ⟨3, by decide⟩ (hw.symm.trans g)) (by decide)), if_neg (fun g => absurd (own5_inj ⟨7, by decide⟩ ⟨4, by decide⟩ (hw.symm.trans g)) (by decide)), if_neg (fun g => absurd (own5_inj ⟨7, by decide⟩ ⟨5, by decide⟩ (hw.symm.trans g)) (by decide)), if_neg (fun g => absurd (own5_inj ⟨7, by decide⟩ ⟨6, by decide⟩ (hw.symm.trans g)) (by decide)), if_pos hw]
theorem sStmt_8 {f : Nat → Int} {N p : Nat} {T : St} (tk : tKind f N p = 1) (hw : wv f N p = own5 8) : sStmt f N T p = (if T 1 7 < 6 then sBar f N T (tEnd f N p) else none) := by
  unfold sStmt
  rw [if_neg (fun g => g tk), if_neg (fun g => absurd (own5_inj ⟨8, by decide⟩ ⟨0, by decide⟩ (hw.symm.trans g)) (by decide)), if_neg (fun g => absurd (own5_inj ⟨8, by decide⟩ ⟨1, by decide⟩ (hw.symm.trans g)) (by decide)), if_neg (fun g => absurd (own5_inj ⟨8, by decide⟩ ⟨2, by decide⟩ (hw.symm.trans g)) (by decide)), if_neg (fun g => absurd (own5_inj ⟨8, by decide⟩ ⟨3, by decide⟩ (hw.symm.trans g)) (by decide)), if_neg (fun g => absurd (own5_inj ⟨8, by decide⟩ ⟨4, by decide⟩ (hw.symm.trans g)) (by decide)), if_neg (fun g => absurd (own5_inj ⟨8, by decide⟩ ⟨5, by decide⟩ (hw.symm.trans g)) (by decide)), if_neg (fun g => absurd (own5_inj ⟨8, by decide⟩ ⟨6, by decide⟩ (hw.symm.trans g)) (by decide)), if_neg (fun g => absurd (own5_inj ⟨8, by decide⟩ ⟨7, by decide⟩ (hw.symm.trans g)) (by decide)), if_pos hw]
theorem sStmt_9 {f : Nat → Int} {N p : Nat} {T : St} (tk : tKind f N p = 1) (hw : wv f N p = own5 9) : sStmt f N T p = sHas f N T (tEnd f N p) := by
  unfold sStmt
  rw [if_neg (fun g => g tk), if_neg (fun g => absurd (own5_inj ⟨9, by decide⟩ ⟨0, by decide⟩ (hw.symm.trans g)) (by decide)), if_neg (fun g => absurd (own5_inj ⟨9, by decide⟩ ⟨1, by decide⟩ (hw.symm.trans g)) (by decide)), if_neg (fun g => absurd (own5_inj ⟨9, by decide⟩ ⟨2, by decide⟩ (hw.symm.trans g)) (by decide)), if_neg (fun g => absurd (own5_inj ⟨9, by decide⟩ ⟨3, by decide⟩ (hw.symm.trans g)) (by decide)), if_neg (fun g => absurd (own5_inj ⟨9, by decide⟩ ⟨4, by decide⟩ (hw.symm.trans g)) (by decide)), if_neg (fun g => absurd (own5_inj ⟨9, by decide⟩ ⟨5, by decide⟩ (hw.symm.trans g)) (by decide)), if_neg (fun g => absurd (own5_inj ⟨9, by decide⟩ ⟨6, by decide⟩ (hw.symm.trans g)) (by decide)), if_neg (fun g => absurd (own5_inj ⟨9, by decide⟩ ⟨7, by decide⟩ (hw.symm.trans g)) (by decide)), if_neg (fun g => absurd (own5_inj ⟨9, by decide⟩ ⟨8, by decide⟩ (hw.symm.trans g)) (by decide)), if_pos hw]
theorem sStmt_10 {f : Nat → Int} {N p : Nat} {T : St} (tk : tKind f N p = 1) (hw : wv f N p = own5 10) : sStmt f N T p = sShut f N T (tEnd f N p) := by
  unfold sStmt
  rw [if_neg (fun g => g tk), if_neg (fun g => absurd (own5_inj ⟨10, by decide⟩ ⟨0, by decide⟩ (hw.symm.trans g)) (by decide)), if_neg (fun g => absurd (own5_inj ⟨10, by decide⟩ ⟨1, by decide⟩ (hw.symm.trans g)) (by decide)), if_neg (fun g => absurd (own5_inj ⟨10, by decide⟩ ⟨2, by decide⟩ (hw.symm.trans g)) (by decide)), if_neg (fun g => absurd (own5_inj ⟨10, by decide⟩ ⟨3, by decide⟩ (hw.symm.trans g)) (by decide)), if_neg (fun g => absurd (own5_inj ⟨10, by decide⟩ ⟨4, by decide⟩ (hw.symm.trans g)) (by decide)), if_neg (fun g => absurd (own5_inj ⟨10, by decide⟩ ⟨5, by decide⟩ (hw.symm.trans g)) (by decide)), if_neg (fun g => absurd (own5_inj ⟨10, by decide⟩ ⟨6, by decide⟩ (hw.symm.trans g)) (by decide)), if_neg (fun g => absurd (own5_inj ⟨10, by decide⟩ ⟨7, by decide⟩ (hw.symm.trans g)) (by decide)), if_neg (fun g => absurd (own5_inj ⟨10, by decide⟩ ⟨8, by decide⟩ (hw.symm.trans g)) (by decide)), if_neg (fun g => absurd (own5_inj ⟨10, by decide⟩ ⟨9, by decide⟩ (hw.symm.trans g)) (by decide)), if_pos hw]
theorem sStmt_11 {f : Nat → Int} {N p : Nat} {T : St} (tk : tKind f N p = 1) (hw : wv f N p = own5 11) : sStmt f N T p = sLost f N T (tEnd f N p) := by
  unfold sStmt
  rw [if_neg (fun g => g tk), if_neg (fun g => absurd (own5_inj ⟨11, by decide⟩ ⟨0, by decide⟩ (hw.symm.trans g)) (by decide)), if_neg (fun g => absurd (own5_inj ⟨11, by decide⟩ ⟨1, by decide⟩ (hw.symm.trans g)) (by decide)), if_neg (fun g => absurd (own5_inj ⟨11, by decide⟩ ⟨2, by decide⟩ (hw.symm.trans g)) (by decide)), if_neg (fun g => absurd (own5_inj ⟨11, by decide⟩ ⟨3, by decide⟩ (hw.symm.trans g)) (by decide)), if_neg (fun g => absurd (own5_inj ⟨11, by decide⟩ ⟨4, by decide⟩ (hw.symm.trans g)) (by decide)), if_neg (fun g => absurd (own5_inj ⟨11, by decide⟩ ⟨5, by decide⟩ (hw.symm.trans g)) (by decide)), if_neg (fun g => absurd (own5_inj ⟨11, by decide⟩ ⟨6, by decide⟩ (hw.symm.trans g)) (by decide)), if_neg (fun g => absurd (own5_inj ⟨11, by decide⟩ ⟨7, by decide⟩ (hw.symm.trans g)) (by decide)), if_neg (fun g => absurd (own5_inj ⟨11, by decide⟩ ⟨8, by decide⟩ (hw.symm.trans g)) (by decide)), if_neg (fun g => absurd (own5_inj ⟨11, by decide⟩ ⟨9, by decide⟩ (hw.symm.trans g)) (by decide)), if_neg (fun g => absurd (own5_inj ⟨11, by decide⟩ ⟨10, by decide⟩ (hw.symm.trans g)) (by decide)), if_pos hw]
theorem sStmt_none {f : Nat → Int} {N p : Nat} {T : St} (h : tKind f N p ≠ 1 ∨ (∀ k, k < 12 → wv f N p ≠ own5 k) ∨ ∃ k, k < 12 ∧ wv f N p = own5 k ∧ ¬ limOK T k) : sStmt f N T p = none := by
  by_cases tk : tKind f N p = 1
  · rcases h with h | h | ⟨k, hk, hw, hl⟩
    · exact absurd tk h
    · unfold sStmt
      rw [if_neg (fun g => g tk), if_neg (h 0 (by decide)), if_neg (h 1 (by decide)), if_neg (h 2 (by decide)), if_neg (h 3 (by decide)), if_neg (h 4 (by decide)), if_neg (h 5 (by decide)), if_neg (h 6 (by decide)), if_neg (h 7 (by decide)), if_neg (h 8 (by decide)), if_neg (h 9 (by decide)), if_neg (h 10 (by decide)), if_neg (h 11 (by decide))]
    · rcases (show k = 0 ∨ k = 1 ∨ k = 2 ∨ k = 3 ∨ k = 4 ∨ k = 5 ∨ k = 6 ∨ k = 7 ∨ k = 8 ∨ k = 9 ∨ k = 10 ∨ k = 11 by omega) with rfl | rfl | rfl | rfl | rfl | rfl | rfl | rfl | rfl | rfl | rfl | rfl
      · rw [sStmt_0 tk hw, if_neg (show ¬ T 1 0 < 8 from fun g => hl (Or.inr g))]
      · rw [sStmt_1 tk hw, if_neg (show ¬ T 1 1 < 10 from fun g => hl (Or.inr g))]
      · rw [sStmt_2 tk hw, if_neg (show ¬ T 1 1 < 10 from fun g => hl (Or.inr g))]
      · rw [sStmt_3 tk hw, if_neg (show ¬ T 1 2 < 4 from fun g => hl (Or.inr g))]
      · rw [sStmt_4 tk hw, if_neg (show ¬ T 1 3 < 3 from fun g => hl (Or.inr g))]
      · rw [sStmt_5 tk hw, if_neg (show ¬ T 1 4 < 4 from fun g => hl (Or.inr g))]
      · rw [sStmt_6 tk hw, if_neg (show ¬ T 1 5 < 6 from fun g => hl (Or.inr g))]
      · rw [sStmt_7 tk hw, if_neg (show ¬ T 1 6 < 6 from fun g => hl (Or.inr g))]
      · rw [sStmt_8 tk hw, if_neg (show ¬ T 1 7 < 6 from fun g => hl (Or.inr g))]
      · exact absurd (Or.inl rfl) hl
      · exact absurd (Or.inl rfl) hl
      · exact absurd (Or.inl rfl) hl
  · unfold sStmt
    rw [if_pos tk]
def sTownL (f : Nat → Int) (N : Nat) : Nat → Nat → St → Nat → Option (Nat × St)
  | 0, _, _, _ => none
  | k + 1, n, T, p => if tKind f N p = 0 then some (n, T) else (sStmt f N T p).bind fun a => (sSign f N 59 a.2).bind fun e => sTownL f N k (n + 1) a.1 e
def CW (f : Nat → Int) (N ta : Nat) (r : Option (Nat × St)) (z : Int) (u : St) : Prop := match r with
  | none => z = -1
  | some a => z = (a.1 : Int) ∧ EK f N u ∧ tw ta u = a.2
theorem C_t2 {f : Nat → Int} {N ta k i : Nat} (hta : isT ta) {K : Int → St → Prop} {r : Option (St × Nat)} {zs z : Int} {B u : St} (hK : ∀ (A : St) (e : Nat), EK f N A → LXA f N e A → K ((i : Int) + 1) A → CW f N ta (sTownL f N k (i + 1) (tw ta A) e) z u) (h1 : CA f N ta r zs B) (h : d_X5_readTown_2 K (i : Int) z u zs B) : CW f N ta (r.bind fun a => (sSign f N 59 a.2).bind fun e => sTownL f N k (i + 1) a.1 e) z u := by
  obtain ⟨_, _, h⟩ := (h : tr_d_X5_readTown_2 K (i : Int) z u zs B)
  rcases h with ⟨c, hz, _⟩ | ⟨c, z90, A91, hq, h⟩
  · rw [h1.neg c]
    exact hz
  · obtain ⟨a, r1, hE, hX, ht⟩ := h1.pos c
    rw [r1]
    have h2 := C_sign hta (by decide) hE hX hq
    show CW f N ta ((sSign f N 59 a.2).bind _) z u
    rcases h with ⟨c2, h⟩ | ⟨c2, hz, _⟩
    · obtain ⟨e, r2, hC, ht2⟩ := h2.pos c2
      rw [r2]
      have := hK A91 e hC.1 (Or.inl hC.2) h
      rw [ht2, ht] at this
      exact this
    · rw [h2.neg c2]
      exact hz
theorem C_townL {f : Nat → Int} {N ta : Nat} (hta : isT ta) {u : St} {z : Int} : ∀ (nn i : Nat) (A : St) (p : Nat), i ≤ 1601 → EK f N A → LXA f N p A → d_X5_readTown_1 ta z u nn (i : Int) A → CW f N ta (sTownL f N (1601 - i) i (tw ta A) p) z u := by
  intro nn
  induction nn with
  | zero => intro i A p _ _ _ h; exact h.elim
  | succ m ih =>
    intro i A p hi hE hX h
    obtain ⟨_, _, h⟩ := (h : tr_d_X5_readTown_1 ta z u (fun z9 A11 => d_X5_readTown_1 ta z u m z9 A11) i A)
    rcases h with ⟨c, hz, _⟩ | ⟨c, A18, hq, h⟩
    · rw [show 1601 - i = 0 by omega]
      exact hz
    · obtain ⟨k, hk⟩ : ∃ k, 1601 - i = k + 1 := ⟨1601 - i - 1, by omega⟩
      rw [hk]
      unfold sTownL
      obtain ⟨hE1, hX1⟩ := lookA hE hX hq
      have ht1 : tw ta A18 = tw ta A := tw_fk hta hq.2.2.1 rfl
      have k2 := hX1.2.2.1
      rcases h with ⟨c1, z23, A24, hq2, h⟩ | ⟨c1, hz, hu⟩
      · rw [if_neg (by omega)]
        have hK : ∀ (B : St) (e : Nat), EK f N B → LXA f N e B → d_X5_readTown_1 ta z u m ((i : Int) + 1) B → CW f N ta (sTownL f N k (i + 1) (tw ta B) e) z u := by
          intro B e hE hX h
          have := ih (i + 1) B e (by omega) hE hX h
          rw [show 1601 - (i + 1) = k by omega] at this
          exact this
        rcases C_word hta hE1 hX1 hq2 with ⟨e1, e2⟩ | ⟨w, hw, e1, tk, hv, hl, hC, ht⟩
        · rw [ht1] at e2
          rw [sStmt_none e2]
          rcases h with ⟨_, h⟩ | h
          · obtain ⟨_, _, h⟩ := (h : tr_d_X5_readTown_2 _ (i : Int) z u 0 A24)
            rcases h with ⟨_, hz, _⟩ | ⟨c, _⟩
            · exact hz
            · exact absurd rfl c
          · exfalso
            rcases h with ⟨c, _⟩ | ⟨c, _⟩ | ⟨c, _⟩ | ⟨c, _⟩ | ⟨c, _⟩ | ⟨c, _⟩ | ⟨c, _⟩ | ⟨c, _⟩ | ⟨c, _⟩ | ⟨c, _⟩ | ⟨c, _⟩ | ⟨c, _⟩ <;> omega
        · rw [ht1] at ht hl
          rcases h with ⟨c, _⟩ | ⟨c, h⟩ | ⟨c, h⟩ | ⟨c, h⟩ | ⟨c, h⟩ | ⟨c, h⟩ | ⟨c, h⟩ | ⟨c, h⟩ | ⟨c, h⟩ | ⟨c, h⟩ | ⟨c, h⟩ | ⟨c, h⟩ | ⟨c, h⟩
          · omega
          · obtain rfl : w = 0 := by omega
            have hl : tw ta A 1 0 < 8 := by rcases hl with g | g; exact absurd g (by decide); exact g
            rw [sStmt_0 tk hv, if_pos hl]
            obtain ⟨z29, A30, hq3, z33, A34, hq4, h⟩ := h
            refine C_t2 hta hK ?_ h
            have h3 := C_newName hta hC.1 (Or.inl hC.2) hq3
            rw [ht] at h3
            unfold sPlace
            by_cases g : z29 = -1
            · rw [h3.neg g]
              rcases (hq4.1 : tr_r_X9_add_1_0 ta z29 A30 z33 A34) with ⟨_, hz, _⟩ | ⟨c9, _⟩
              · exact hz
              · exact absurd g c9
            · obtain ⟨a, r3, e3, hC3, ht3⟩ := h3.pos g
              rw [r3]
              have t30 : tw ta A30 = tw ta A := ht3.trans ht
              obtain ⟨g1, g2, g3⟩ := C_add_0 (by rw [t30]; exact hl) g hC3 hq4
              rw [t30, e3] at g3
              exact ⟨g1, g2.1, Or.inl g2.2, g3⟩
          · obtain rfl : w = 1 := by omega
            have hl : tw ta A 1 1 < 10 := by rcases hl with g | g; exact absurd g (by decide); exact g
            rw [sStmt_1 tk hv, if_pos hl]
            obtain ⟨z29, A30, hq3, h⟩ := h
            have h3 := C_readDoor hta hC.1 (Or.inl hC.2) (by rw [ht]; exact hl) hq3
            rw [ht] at h3
            exact C_t2 hta hK h3.ca h
          · obtain rfl : w = 2 := by omega
            have hl : tw ta A 1 1 < 10 := by rcases hl with g | g; exact absurd g (by decide); exact g
            rw [sStmt_2 tk hv, if_pos hl]
            obtain ⟨z29, A30, hq3, h⟩ := h
            have h3 := C_readBox hta hC.1 (Or.inl hC.2) (by rw [ht]; exact hl) hq3
            rw [ht] at h3
            exact C_t2 hta hK h3.ca h
          · obtain rfl : w = 3 := by omega
            have hl : tw ta A 1 2 < 4 := by rcases hl with g | g; exact absurd g (by decide); exact g
            rw [sStmt_3 tk hv, if_pos hl]
            obtain ⟨z29, A30, hq3, h⟩ := h
            have h3 := C_readKey hta hC.1 (Or.inl hC.2) (by rw [ht]; exact hl) hq3
            rw [ht] at h3
            exact C_t2 hta hK h3.ca h
          · obtain rfl : w = 4 := by omega
            have hl : tw ta A 1 3 < 3 := by rcases hl with g | g; exact absurd g (by decide); exact g
            rw [sStmt_4 tk hv, if_pos hl]
            obtain ⟨z29, A30, hq3, h⟩ := h
            have h3 := C_readPerson hta hC.1 (Or.inl hC.2) (by rw [ht]; exact hl) hq3
            rw [ht] at h3
            exact C_t2 hta hK h3.ca h
          · obtain rfl : w = 5 := by omega
            have hl : tw ta A 1 4 < 4 := by rcases hl with g | g; exact absurd g (by decide); exact g
            rw [sStmt_5 tk hv, if_pos hl]
            obtain ⟨z29, A30, hq3, h⟩ := h
            have h3 := C_readThing hta hC.1 (Or.inl hC.2) (by rw [ht]; exact hl) hq3
            rw [ht] at h3
            exact C_t2 hta hK h3.ca h
          · obtain rfl : w = 6 := by omega
            have hl : tw ta A 1 5 < 6 := by rcases hl with g | g; exact absurd g (by decide); exact g
            rw [sStmt_6 tk hv, if_pos hl]
            obtain ⟨z29, A30, hq3, h⟩ := h
            have h3 := C_readWants hta hC.1 (Or.inl hC.2) hq3
            rw [ht] at h3
            exact C_t2 hta hK h3.ca h
          · obtain rfl : w = 7 := by omega
            have hl : tw ta A 1 6 < 6 := by rcases hl with g | g; exact absurd g (by decide); exact g
            rw [sStmt_7 tk hv, if_pos hl]
            obtain ⟨z29, A30, hq3, h⟩ := h
            have h3 := C_readMust hta hC.1 (Or.inl hC.2) (by rw [ht]; exact hl) hq3
            rw [ht] at h3
            exact C_t2 hta hK h3.ca h
          · obtain rfl : w = 8 := by omega
            have hl : tw ta A 1 7 < 6 := by rcases hl with g | g; exact absurd g (by decide); exact g
            rw [sStmt_8 tk hv, if_pos hl]
            obtain ⟨z29, A30, hq3, h⟩ := h
            have h3 := C_readBar hta hC.1 (Or.inl hC.2) (by rw [ht]; exact hl) hq3
            rw [ht] at h3
            exact C_t2 hta hK h3 h
          · obtain rfl : w = 9 := by omega
            rw [sStmt_9 tk hv]
            obtain ⟨z29, A30, hq3, h⟩ := h
            have h3 := C_readHas hta hC.1 (Or.inl hC.2) hq3
            rw [ht] at h3
            exact C_t2 hta hK h3.ca h
          · obtain rfl : w = 10 := by omega
            rw [sStmt_10 tk hv]
            obtain ⟨z29, A30, hq3, h⟩ := h
            have h3 := C_readShut hta hC.1 (Or.inl hC.2) hq3
            rw [ht] at h3
            exact C_t2 hta hK h3.ca h
          · obtain rfl : w = 11 := by omega
            rw [sStmt_11 tk hv]
            obtain ⟨z29, A30, hq3, h⟩ := h
            have h3 := C_readLost hta hC.1 (Or.inl hC.2) hq3
            rw [ht] at h3
            exact C_t2 hta hK h3.ca h
      · rw [if_pos (by omega), hu]
        exact ⟨hz, hE1, ht1⟩
def clr (j : Nat) : Nat → St → St
  | 0, T => T
  | n + 1, T => stA (clr j n T) j n 0
def sClear (T : St) : St := stA (stA (clr 25 4 (clr 12 3 (clr 1 8 T))) 19 2 0) 0 15 0
theorem C_clear {ta : Nat} {A u : St} (h : q_X9_clear ta A u) : tw ta u = sClear (tw ta A) := by
  have l3 : ∀ (nn i : Nat) (T : St) (B : St), i ≤ 4 → tw ta B = clr 25 i T → d_X9_clear_3 ta u nn (i : Int) B → tw ta u = stA (stA (clr 25 4 T) 19 2 0) 0 15 0 := by
    intro nn
    induction nn with
    | zero => intro i T B _ _ h; exact h.elim
    | succ m ih =>
      intro i T B hi ht h
      obtain ⟨_, _, h⟩ := (h : tr_d_X9_clear_3 ta u (fun z19 A21 => d_X9_clear_3 ta u m z19 A21) i B)
      rcases h with ⟨c, A28, hA28, A29, hA29, hu⟩ | ⟨c, A30, hA30, h⟩
      · have hA29 : A29 = stA A28 (ta + 0) 15 0 := hA29
        rw [hu, hA29, tw_st, hA28, tw_st, ht, show i = 4 by omega]
      · have hA30 : A30 = stA B (ta + 25) i 0 := by rw [hA30, Int.toNat_natCast]
        exact ih (i + 1) T A30 (by omega) (by rw [hA30, tw_st, ht]; rfl) h
  have l2 : ∀ (nn i : Nat) (T : St) (B : St), i ≤ 3 → tw ta B = clr 12 i T → d_X9_clear_2 ta u nn (i : Int) B → tw ta u = stA (stA (clr 25 4 (clr 12 3 T)) 19 2 0) 0 15 0 := by
    intro nn
    induction nn with
    | zero => intro i T B _ _ h; exact h.elim
    | succ m ih =>
      intro i T B hi ht h
      obtain ⟨_, _, h⟩ := (h : tr_d_X9_clear_2 ta u (fun z10 A12 => d_X9_clear_2 ta u m z10 A12) i B)
      rcases h with ⟨c, n3, h⟩ | ⟨c, A30, hA30, h⟩
      · exact l3 n3 0 _ B (by omega) (by rw [ht, show i = 3 by omega]; rfl) h
      · have hA30 : A30 = stA B (ta + 12) i 0 := by rw [hA30, Int.toNat_natCast]
        exact ih (i + 1) T A30 (by omega) (by rw [hA30, tw_st, ht]; rfl) h
  have l1 : ∀ (nn i : Nat) (T : St) (B : St), i ≤ 8 → tw ta B = clr 1 i T → d_X9_clear_1 ta u nn (i : Int) B → tw ta u = stA (stA (clr 25 4 (clr 12 3 (clr 1 8 T))) 19 2 0) 0 15 0 := by
    intro nn
    induction nn with
    | zero => intro i T B _ _ h; exact h.elim
    | succ m ih =>
      intro i T B hi ht h
      obtain ⟨_, _, h⟩ := (h : tr_d_X9_clear_1 ta u (fun z1 A3 => d_X9_clear_1 ta u m z1 A3) i B)
      rcases h with ⟨c, n3, h⟩ | ⟨c, A30, hA30, h⟩
      · exact l2 n3 0 _ B (by omega) (by rw [ht, show i = 8 by omega]; rfl) h
      · have hA30 : A30 = stA B (ta + 1) i 0 := by rw [hA30, Int.toNat_natCast]
        exact ih (i + 1) T A30 (by omega) (by rw [hA30, tw_st, ht]; rfl) h
  obtain ⟨nn, h⟩ := (h.1 : tr_r_X9_clear ta A u)
  exact l1 nn 0 _ A (by omega) rfl h
def sTown (f : Nat → Int) (N : Nat) (T : St) : Option (Nat × St) := sTownL f N 1601 0 (sClear T) 0
theorem C_readTown {f : Nat → Int} {N ta : Nat} (hta : isT ta) {A u : St} {z : Int} (hE : EK f N A) (h : q_X5_readTown ta A z u) : CW f N ta (sTown f N (tw ta A)) z u := by
  obtain ⟨A1, hq1, A4, hq4, A7, hA7, A8, hA8, nn, h⟩ := (h.1 : tr_r_X5_readTown ta A z u)
  have hE1 : EK f N A1 := hE.fr hq1.2.1 hq1.2.2.1 rfl rfl rfl rfl (fun _ => rfl) (fun _ => rfl)
  have hE4 : EK f N A4 := hE1.fr hq4.2.1 hq4.2.2.1 rfl rfl rfl rfl (fun _ => rfl) (fun _ => rfl)
  have hI7 : IK A7 := isRD_2 hA7 hE4.1 (by decide)
  have hI8 : IK A8 := isRD_3 hA8 hI7 (by decide)
  have hf8 : fk [] [(3, 2), (3, 3)] A4 A8 := fk.df (fk.df fk.rf hA7 rfl) hA8 rfl
  have hE8 : EK f N A8 := hE4.fr hI8 hf8 rfl rfl rfl rfl (fun _ => rfl) (fun _ => rfl)
  have t8 : tw ta A8 = sClear (tw ta A) := by rw [tw_fk hta hf8 rfl, tw_fk hta hq4.2.2.1 rfl, C_clear hq1]
  obtain ⟨B1, hB1, B2, hB2, B3, hB3, hu⟩ := (hq4.1 : tr_r_X3_begin A1 A4)
  have g : ∀ k, A8 5 k = A4 5 k := fun k => hf8 5 k rfl rfl
  have hX : LX0 f N 0 A8 := by
    unfold LX0
    rw [g 6, g 1, g 5, hu, hB3]
    refine ⟨rfl, by rw [hB2, hB1]; rfl, Nat.zero_le _, ⟨fun g => ?_, fun g => absurd g.1 (by decide)⟩, by rw [hB2]; exact (by decide : (-1 : Int) ≤ ((0 : Nat) : Int))⟩
    rw [hB2] at g
    exact absurd (show (-1 : Int) = ((0 : Nat) : Int) from g) (by decide)
  have := C_townL hta nn 0 A8 0 (by omega) hE8 (Or.inl hX) h
  rw [t8] at this
  exact this
/-! The reference's reader of tokens. -/
def EM (f : Nat → Int) (N : Nat) (A : St) : Prop := A 0 2 = (N : Int) ∧ N ≤ 1600 ∧ ∀ k, k < N → f k = A 1 k
theorem pShl8 {a : Int} (h : 0 ≤ a ∧ a < 281474976710656) : pShl a 8 = 256 * a := by
  have e1 : ((iI 8).toInt64 &&& 63) = 8 := by decide +kernel
  show (jI a <<< ((iI 8).toInt64 &&& 63)).toInt = _
  rw [e1]
  have e2 : (jI a <<< 8 : Int64).toBitVec = (jI a).toBitVec <<< 8 := by
    rw [Int64.toBitVec_shiftLeft]
    rfl
  show (jI a <<< 8 : Int64).toBitVec.toInt = _
  rw [e2, BitVec.toInt_eq_toNat_cond, BitVec.toNat_shiftLeft, bv_natL, Nat.shiftLeft_eq]
  have e3 : (a % 18446744073709551616).toNat = a.toNat := by omega
  rw [e3]
  have e4 : a.toNat * 2 ^ 8 % 2 ^ 64 = 256 * a.toNat := by omega
  rw [e4]
  split <;> omega
theorem pOr8 {a c : Int} (ha : 0 ≤ a ∧ a < 281474976710656) (hc : 0 ≤ c ∧ c < 256) : pOr (256 * a) c = 256 * a + c := by
  have e : (jI (256 * a) ||| jI c).toBitVec = (jI (256 * a)).toBitVec ||| (jI c).toBitVec := Int64.toBitVec_or _ _
  have na : (jI (256 * a)).toBitVec.toNat = 2 ^ 8 * a.toNat := by rw [bv_natL]; omega
  have nc : (jI c).toBitVec.toNat = c.toNat := by rw [bv_natL]; omega
  have ho : 2 ^ 8 * a.toNat + c.toNat = 2 ^ 8 * a.toNat ||| c.toNat := Nat.two_pow_add_eq_or_of_lt (by omega) _
  show (jI (256 * a) ||| jI c).toBitVec.toInt = _
  rw [BitVec.toInt_eq_toNat_cond, e, BitVec.toNat_or, na, nc, ← ho]
  split <;> omega
theorem w8_b {f : Nat → Int} {s : Nat} : ∀ n, n ≤ 6 → (∀ k, k < n → isL (f (s + k))) → 0 ≤ w8 f s n ∧ w8 f s n < 256 ^ n := by
  intro n
  induction n with
  | zero => intro _ _; exact ⟨Int.le_refl _, (by decide : (0 : Int) < 256 ^ 0)⟩
  | succ n ih =>
    intro h6 h
    have h1 := ih (by omega) (fun k hk => h k (by omega))
    have h2 := h n (by omega)
    have e : (256 : Int) ^ (n + 1) = 256 * 256 ^ n := by rw [Int.pow_succ]; omega
    show 0 ≤ 256 * w8 f s n + f (s + n) ∧ 256 * w8 f s n + f (s + n) < 256 ^ (n + 1)
    rw [e]
    omega
theorem w8_48 {f : Nat → Int} {s n : Nat} (h6 : n ≤ 5) (h : ∀ k, k < n → isL (f (s + k))) : 0 ≤ w8 f s n ∧ w8 f s n < 281474976710656 := by
  have h1 := w8_b (f := f) (s := s) n (by omega) h
  have h2 : (256 : Nat) ^ n ≤ 256 ^ 6 := Nat.pow_le_pow_right (by decide) (by omega)
  have h3 : ((256 ^ n : Nat) : Int) = 256 ^ n := by simp
  have h4 : (256 : Nat) ^ 6 = 281474976710656 := by decide
  omega

theorem ah_loopW {f : Nat → Int} {N s : Nat} {A u : St} {F z20 z24 : Int} (hE : EM f N A) (h20 : ¬ z20 = 0) (h24 : z24 = 0) : ∀ (nn n : Nat) (B : St), s + n ≤ N → (∀ k, k < n → isL (f (s + k))) → (∀ k, B 1 k = A 1 k) → B 0 3 = 1 → B 0 4 = (s : Int) → (n ≤ 6 → B 0 8 = F ∧ B 0 7 = w8 f s n) → (6 < n → 1 ≤ B 0 8) → d_X12_ahead_10 z20 z24 6 A u nn (n : Int) ((s + n : Nat) : Int) B → u 0 3 = 1 ∧ u 0 4 = (s : Int) ∧ u 0 5 = ((rnn 97 122 f (N - (s + n)) (s + n) : Nat) : Int) ∧ (rnn 97 122 f (N - (s + n)) (s + n) ≤ s + 6 → u 0 8 = F ∧ u 0 7 = w8 f s (rnn 97 122 f (N - (s + n)) (s + n) - s)) ∧ (s + 6 < rnn 97 122 f (N - (s + n)) (s + n) → 1 ≤ u 0 8) := by
  intro nn
  induction nn with
  | zero => intro n B _ _ _ _ _ _ _ h; exact h.elim
  | succ m ih =>
    intro n B hN hL b1 b3 b4 b8 b9 h
    obtain ⟨hI, _, _, h⟩ := (h : tr_d_X12_ahead_10 z20 z24 6 A u (fun z73 z74 A76 => d_X12_ahead_10 z20 z24 6 A u m z73 z74 A76) n ((s + n : Nat) : Int) B)
    rw [hE.1] at h
    have fin : rnn 97 122 f (N - (s + n)) (s + n) = s + n → ∀ A92 : St, A92 = stA B 0 5 ((s + n : Nat) : Int) → u = A92 → u 0 3 = 1 ∧ u 0 4 = (s : Int) ∧ u 0 5 = ((rnn 97 122 f (N - (s + n)) (s + n) : Nat) : Int) ∧ (rnn 97 122 f (N - (s + n)) (s + n) ≤ s + 6 → u 0 8 = F ∧ u 0 7 = w8 f s (rnn 97 122 f (N - (s + n)) (s + n) - s)) ∧ (s + 6 < rnn 97 122 f (N - (s + n)) (s + n) → 1 ≤ u 0 8) := by
      intro e A92 hA hu
      rw [e, hu, hA]
      refine ⟨b3, b4, rfl, fun g => ?_, fun g => b9 (by omega)⟩
      rw [show s + n - s = n by omega]
      exact b8 (by omega)
    rcases h with ⟨c, A92, hA, hu⟩ | ⟨c, h⟩
    · exact fin (rnn_stop (Or.inl (by omega))) A92 hA hu
    · have hq : s + n < N := by omega
      have key : ∀ zc zt : Int, zc = B 1 (((s + n : Nat) : Int)).toNat → (zt = 1 ↔ 97 ≤ zc ∧ zc ≤ 122) → (0 ≤ zt ∧ zt ≤ 1) → ((zt = 0 ∧ ∃ A106 : St, A106 = stA B 0 5 ((s + n : Nat) : Int) ∧ u = A106) ∨ (¬ zt = 0 ∧ d_X12_ahead_11 (fun z73 z74 A76 => d_X12_ahead_10 z20 z24 6 A u m z73 z74 A76) z20 z24 6 n ((s + n : Nat) : Int) B u)) → u 0 3 = 1 ∧ u 0 4 = (s : Int) ∧ u 0 5 = ((rnn 97 122 f (N - (s + n)) (s + n) : Nat) : Int) ∧ (rnn 97 122 f (N - (s + n)) (s + n) ≤ s + 6 → u 0 8 = F ∧ u 0 7 = w8 f s (rnn 97 122 f (N - (s + n)) (s + n) - s)) ∧ (s + 6 < rnn 97 122 f (N - (s + n)) (s + n) → 1 ≤ u 0 8) := by
        intro zc zt hzc hzt hr h
        have hf : f (s + n) = zc := by rw [hzc, Int.toNat_natCast, b1]; exact hE.2.2 _ hq
        rcases h with ⟨c2, A106, hA, hu⟩ | ⟨c2, h⟩
        · exact fin (rnn_stop (Or.inr (by omega))) A106 hA hu
        · have hl : 97 ≤ f (s + n) ∧ f (s + n) ≤ 122 := by have := hzt.mp (by omega); omega
          rw [rnn_go hq hl]
          have hL2 : ∀ k, k < n + 1 → isL (f (s + k)) := fun k hk => by
            by_cases g : k < n
            · exact hL k g
            · rw [show k = n by omega]; exact hl
          have nx : ∀ B2 : St, (∀ k, B2 1 k = A 1 k) → B2 0 3 = 1 → B2 0 4 = (s : Int) → (n + 1 ≤ 6 → B2 0 8 = F ∧ B2 0 7 = w8 f s (n + 1)) → (6 < n + 1 → 1 ≤ B2 0 8) → d_X12_ahead_14 (fun z73 z74 A76 => d_X12_ahead_10 z20 z24 6 A u m z73 z74 A76) n ((s + n : Nat) : Int) u B2 → u 0 3 = 1 ∧ u 0 4 = (s : Int) ∧ u 0 5 = ((rnn 97 122 f (N - (s + n + 1)) (s + n + 1) : Nat) : Int) ∧ (rnn 97 122 f (N - (s + n + 1)) (s + n + 1) ≤ s + 6 → u 0 8 = F ∧ u 0 7 = w8 f s (rnn 97 122 f (N - (s + n + 1)) (s + n + 1) - s)) ∧ (s + 6 < rnn 97 122 f (N - (s + n + 1)) (s + n + 1) → 1 ≤ u 0 8) := by
            intro B2 g1 g3 g4 g8 g9 h
            obtain ⟨_, h⟩ := (h : tr_d_X12_ahead_14 _ n ((s + n : Nat) : Int) u B2)
            exact ih (n + 1) B2 (by omega) hL2 g1 g3 g4 g8 g9 h
          rcases (h : tr_d_X12_ahead_11 _ z20 z24 6 n ((s + n : Nat) : Int) B u) with ⟨c3, h⟩ | ⟨c3, A111, hb, h⟩
          · obtain ⟨_, h⟩ := (h : tr_d_X12_ahead_12 _ z20 z24 6 n ((s + n : Nat) : Int) B u B)
            rcases h with ⟨c4, h⟩ | ⟨c4, h⟩
            · obtain ⟨_, h⟩ := (h : tr_d_X12_ahead_13 _ z24 6 n ((s + n : Nat) : Int) B u B)
              rcases h with ⟨_, h⟩ | ⟨c5, _⟩
              · exact nx B b1 b3 b4 (fun g => by omega) (fun _ => b9 (by omega)) h
              · omega
            · rcases h with ⟨c5, _⟩ | ⟨_, z121, hz1, z122, hz2, z123, hz3, A138, hA, h⟩
              · exact absurd c5 h20
              · obtain ⟨_, h⟩ := (h : tr_d_X12_ahead_13 _ z24 6 n ((s + n : Nat) : Int) B u A138)
                rcases h with ⟨c5, _⟩ | ⟨_, h⟩
                · omega
                · rcases h with ⟨_, h⟩ | ⟨c5, _⟩
                  · refine nx A138 (fun k => by rw [hA]; exact b1 k) (by rw [hA]; exact b3) (by rw [hA]; exact b4) (fun g => ?_) (fun g => by omega) h
                    have b := b8 (by omega)
                    refine ⟨by rw [hA]; exact b.1, ?_⟩
                    have e : z123 = 256 * w8 f s n + f (s + n) := by
                      have w := w8_48 (f := f) (s := s) (n := n) (by omega) hL
                      rw [hz3, hz1, b.2, hz2, ← hzc, ← hf, pShl8 w]
                      exact pOr8 w ⟨by omega, by omega⟩
                    rw [hA]
                    exact e
                  · exact absurd h24 c5
          · have n6 : n = 6 := by omega
            have fb := hb.2.2.1
            have f1 : A111 1 = B 1 := fb.1 1 (by decide) rfl
            obtain ⟨_, h⟩ := (h : tr_d_X12_ahead_12 _ z20 z24 6 n ((s + n : Nat) : Int) B u A111)
            rcases h with ⟨_, h⟩ | ⟨c4, _⟩
            · obtain ⟨_, h⟩ := (h : tr_d_X12_ahead_13 _ z24 6 n ((s + n : Nat) : Int) B u A111)
              rcases h with ⟨_, h⟩ | ⟨c5, _⟩
              · exact nx A111 (fun k => by rw [f1]; exact b1 k) ((fb.2 3 rfl).trans b3) ((fb.2 4 rfl).trans b4) (fun g => by omega) (fun _ => hb.2.2.2) h
              · omega
            · omega
      rcases h with ⟨c2, _⟩ | ⟨_, z101, hz, z102, hq, h⟩
      · exact absurd c2 h20
      · exact key z101 z102 hz hq.2.2 hq.2.1 h

theorem ah_loopN {f : Nat → Int} {N s : Nat} {A u : St} {F z20 z24 : Int} (hE : EM f N A) (h20 : z20 = 0) (h24 : ¬ z24 = 0) : ∀ (nn n : Nat) (B : St), s + n ≤ N → (∀ k, k < n → isD (f (s + k))) → (∀ k, B 1 k = A 1 k) → B 0 3 = 2 → B 0 4 = (s : Int) → (n ≤ 4 → B 0 8 = F ∧ B 0 6 = nm10 f s n) → (4 < n → 1 ≤ B 0 8) → d_X12_ahead_10 z20 z24 4 A u nn (n : Int) ((s + n : Nat) : Int) B → u 0 3 = 2 ∧ u 0 4 = (s : Int) ∧ u 0 5 = ((rnn 48 57 f (N - (s + n)) (s + n) : Nat) : Int) ∧ (rnn 48 57 f (N - (s + n)) (s + n) ≤ s + 4 → u 0 8 = F ∧ u 0 6 = nm10 f s (rnn 48 57 f (N - (s + n)) (s + n) - s)) ∧ (s + 4 < rnn 48 57 f (N - (s + n)) (s + n) → 1 ≤ u 0 8) := by
  intro nn
  induction nn with
  | zero => intro n B _ _ _ _ _ _ _ h; exact h.elim
  | succ m ih =>
    intro n B hN hL b1 b3 b4 b8 b9 h
    obtain ⟨hI, _, _, h⟩ := (h : tr_d_X12_ahead_10 z20 z24 4 A u (fun z73 z74 A76 => d_X12_ahead_10 z20 z24 4 A u m z73 z74 A76) n ((s + n : Nat) : Int) B)
    rw [hE.1] at h
    have fin : rnn 48 57 f (N - (s + n)) (s + n) = s + n → ∀ A92 : St, A92 = stA B 0 5 ((s + n : Nat) : Int) → u = A92 → u 0 3 = 2 ∧ u 0 4 = (s : Int) ∧ u 0 5 = ((rnn 48 57 f (N - (s + n)) (s + n) : Nat) : Int) ∧ (rnn 48 57 f (N - (s + n)) (s + n) ≤ s + 4 → u 0 8 = F ∧ u 0 6 = nm10 f s (rnn 48 57 f (N - (s + n)) (s + n) - s)) ∧ (s + 4 < rnn 48 57 f (N - (s + n)) (s + n) → 1 ≤ u 0 8) := by
      intro e A92 hA hu
      rw [e, hu, hA]
      refine ⟨b3, b4, rfl, fun g => ?_, fun g => b9 (by omega)⟩
      rw [show s + n - s = n by omega]
      exact b8 (by omega)
    rcases h with ⟨c, A92, hA, hu⟩ | ⟨c, h⟩
    · exact fin (rnn_stop (Or.inl (by omega))) A92 hA hu
    · have hq : s + n < N := by omega
      have key : ∀ zc zt : Int, zc = B 1 (((s + n : Nat) : Int)).toNat → (zt = 1 ↔ 48 ≤ zc ∧ zc ≤ 57) → (0 ≤ zt ∧ zt ≤ 1) → ((zt = 0 ∧ ∃ A106 : St, A106 = stA B 0 5 ((s + n : Nat) : Int) ∧ u = A106) ∨ (¬ zt = 0 ∧ d_X12_ahead_11 (fun z73 z74 A76 => d_X12_ahead_10 z20 z24 4 A u m z73 z74 A76) z20 z24 4 n ((s + n : Nat) : Int) B u)) → u 0 3 = 2 ∧ u 0 4 = (s : Int) ∧ u 0 5 = ((rnn 48 57 f (N - (s + n)) (s + n) : Nat) : Int) ∧ (rnn 48 57 f (N - (s + n)) (s + n) ≤ s + 4 → u 0 8 = F ∧ u 0 6 = nm10 f s (rnn 48 57 f (N - (s + n)) (s + n) - s)) ∧ (s + 4 < rnn 48 57 f (N - (s + n)) (s + n) → 1 ≤ u 0 8) := by
        intro zc zt hzc hzt hr h
        have hf : f (s + n) = zc := by rw [hzc, Int.toNat_natCast, b1]; exact hE.2.2 _ hq
        rcases h with ⟨c2, A106, hA, hu⟩ | ⟨c2, h⟩
        · exact fin (rnn_stop (Or.inr (by omega))) A106 hA hu
        · have hl : 48 ≤ f (s + n) ∧ f (s + n) ≤ 57 := by have := hzt.mp (by omega); omega
          rw [rnn_go hq hl]
          have hL2 : ∀ k, k < n + 1 → isD (f (s + k)) := fun k hk => by
            by_cases g : k < n
            · exact hL k g
            · rw [show k = n by omega]; exact hl
          have nx : ∀ B2 : St, (∀ k, B2 1 k = A 1 k) → B2 0 3 = 2 → B2 0 4 = (s : Int) → (n + 1 ≤ 4 → B2 0 8 = F ∧ B2 0 6 = nm10 f s (n + 1)) → (4 < n + 1 → 1 ≤ B2 0 8) → d_X12_ahead_14 (fun z73 z74 A76 => d_X12_ahead_10 z20 z24 4 A u m z73 z74 A76) n ((s + n : Nat) : Int) u B2 → u 0 3 = 2 ∧ u 0 4 = (s : Int) ∧ u 0 5 = ((rnn 48 57 f (N - (s + n + 1)) (s + n + 1) : Nat) : Int) ∧ (rnn 48 57 f (N - (s + n + 1)) (s + n + 1) ≤ s + 4 → u 0 8 = F ∧ u 0 6 = nm10 f s (rnn 48 57 f (N - (s + n + 1)) (s + n + 1) - s)) ∧ (s + 4 < rnn 48 57 f (N - (s + n + 1)) (s + n + 1) → 1 ≤ u 0 8) := by
            intro B2 g1 g3 g4 g8 g9 h
            obtain ⟨_, h⟩ := (h : tr_d_X12_ahead_14 _ n ((s + n : Nat) : Int) u B2)
            exact ih (n + 1) B2 (by omega) hL2 g1 g3 g4 g8 g9 h
          rcases (h : tr_d_X12_ahead_11 _ z20 z24 4 n ((s + n : Nat) : Int) B u) with ⟨c3, h⟩ | ⟨c3, A111, hb, h⟩
          · obtain ⟨_, h⟩ := (h : tr_d_X12_ahead_12 _ z20 z24 4 n ((s + n : Nat) : Int) B u B)
            have h12 : d_X12_ahead_13 (fun z73 z74 A76 => d_X12_ahead_10 z20 z24 4 A u m z73 z74 A76) z24 4 n ((s + n : Nat) : Int) B u B := by
              rcases h with ⟨_, h⟩ | ⟨_, h⟩
              · exact h
              · rcases h with ⟨_, h⟩ | ⟨c5, _⟩
                · exact h
                · exact absurd h20 c5
            obtain ⟨_, h⟩ := (h12 : tr_d_X12_ahead_13 _ z24 4 n ((s + n : Nat) : Int) B u B)
            rcases h with ⟨c4, h⟩ | ⟨c4, h⟩
            · exact nx B b1 b3 b4 (fun g => by omega) (fun _ => b9 (by omega)) h
            · rcases h with ⟨c5, _⟩ | ⟨_, z131, hz1, z132, hz2, z133, hz3, z134, hz4, h⟩
              · exact absurd c5 h24
              · refine nx (stA B 0 6 z134) (fun k => b1 k) b3 b4 (fun g => ?_) (fun g => by omega) h
                have b := b8 (by omega)
                refine ⟨b.1, ?_⟩
                have w := nm10_4 (f := f) (s := s) (n := n) hL (by omega)
                have g1 : z131 = 10 * nm10 f s n := by rw [hz1, b.2]; exact oWrap_id ⟨by omega, by omega⟩
                have g2 : z133 = z131 + z132 := by rw [hz3]; exact oWrap_id ⟨by rw [hz2, ← hzc, ← hf]; omega, by rw [hz2, ← hzc, ← hf]; omega⟩
                have g3 : z132 = f (s + n) := by rw [hz2, ← hzc, ← hf]
                have g4 : z134 = z133 - 48 := by rw [hz4]; exact oWrap_id ⟨by omega, by omega⟩
                show z134 = 10 * nm10 f s n + (f (s + n) - 48)
                omega
          · have n6 : n = 4 := by omega
            have fb := hb.2.2.1
            have f1 : A111 1 = B 1 := fb.1 1 (by decide) rfl
            obtain ⟨_, h⟩ := (h : tr_d_X12_ahead_12 _ z20 z24 4 n ((s + n : Nat) : Int) B u A111)
            rcases h with ⟨_, h⟩ | ⟨c4, _⟩
            · obtain ⟨_, h⟩ := (h : tr_d_X12_ahead_13 _ z24 4 n ((s + n : Nat) : Int) B u A111)
              rcases h with ⟨_, h⟩ | ⟨c5, _⟩
              · exact nx A111 (fun k => by rw [f1]; exact b1 k) ((fb.2 3 rfl).trans b3) ((fb.2 4 rfl).trans b4) (fun g => by omega) (fun _ => hb.2.2.2) h
              · omega
            · omega
      rcases h with ⟨_, z95, hz, z96, hq, h⟩ | ⟨c2, _⟩
      · exact key z95 z96 hz hq.2.2 hq.2.1 h
      · exact absurd h20 c2
/-- the token behind p, as the reference has it -/
def RT (f : Nat → Int) (N p : Nat) (A : St) : Prop := A 0 3 = tKind f N p ∧ A 0 4 = (sAt f N p : Int) ∧ A 0 5 = (tEnd f N p : Int) ∧ (tKind f N p = 1 → A 0 7 = w8 f (sAt f N p) (tEnd f N p - sAt f N p)) ∧ (tKind f N p = 2 → A 0 6 = nv f N p) ∧ (tKind f N p = 3 → A 0 6 = f (sAt f N p))
theorem EM.fr {f : Nat → Int} {N : Nat} {A u : St} {M' N' : List Nat} (h : EM f N A) (hf : fr M' N' A u) (h1 : M'.contains 1 = false) (h2 : N'.contains 2 = false) : EM f N u := by
  refine ⟨(hf.2 2 h2).trans h.1, h.2.1, fun k hk => ?_⟩
  rw [hf.1 1 (by decide) h1]
  exact h.2.2 k hk
theorem ah_skip {f : Nat → Int} {N : Nat} {A u : St} (hE : EM f N A) : ∀ (nn q : Nat), q ≤ N → d_X12_ahead_1 A u nn (q : Int) → d_X12_ahead_3 ((skp f (N - q) q : Nat) : Int) A u := by
  intro nn
  induction nn with
  | zero => intro q _ h; exact h.elim
  | succ m ih =>
    intro q hq h
    obtain ⟨_, h⟩ := (h : tr_d_X12_ahead_1 A u (fun z1 => d_X12_ahead_1 A u m z1) q)
    rw [hE.1] at h
    rcases h with ⟨c, h⟩ | ⟨c, z10, hz, h⟩
    · rw [skp_stop (Or.inl (by omega))]
      exact h
    · have hqN : q < N := by omega
      have hf : f q = z10 := by rw [hz, Int.toNat_natCast]; exact hE.2.2 q hqN
      have go : isB (f q) → d_X12_ahead_2 (fun z1 => d_X12_ahead_1 A u m z1) q u → d_X12_ahead_3 ((skp f (N - q) q : Nat) : Int) A u := by
        intro hb h
        rw [skp_go hqN hb]
        exact ih (q + 1) (by omega) (h : tr_d_X12_ahead_2 _ q u)
      rcases h with ⟨c2, h⟩ | ⟨c2, z13, hz13, h⟩
      · exact go (Or.inr (by omega)) h
      · have hf2 : f q = z13 := by rw [hz13, Int.toNat_natCast]; exact hE.2.2 q hqN
        rcases h with ⟨c3, h⟩ | ⟨c3, h⟩
        · rw [skp_stop (Or.inr (by omega))]
          exact h
        · exact go (Or.inl (by omega)) h
theorem M_ahead {f : Nat → Int} {N p : Nat} {A u : St} (hE : EM f N A) (h5 : A 0 5 = (p : Int)) (hp : p ≤ N) (h8 : A 0 8 = 0) (h : q_X12_ahead A u) : EM f N u ∧ ((tKind f N p = 4 ∧ 1 ≤ u 0 8) ∨ (tKind f N p ≠ 4 ∧ u 0 8 = 0 ∧ RT f N p u)) := by
  refine ⟨hE.fr h.2.2.1 rfl rfl, ?_⟩
  obtain ⟨nn, h⟩ := (h.1 : tr_r_X12_ahead A u)
  rw [h5] at h
  have h := ah_skip hE nn p hp h
  have hs := sAt_le (f := f) hp
  obtain ⟨s, hsd⟩ : ∃ s, sAt f N p = s := ⟨_, rfl⟩
  have h : d_X12_ahead_3 (sAt f N p : Int) A u := h
  rw [hsd] at h hs
  have h : tr_d_X12_ahead_3 (s : Int) A u := h
  unfold tr_d_X12_ahead_3 at h
  rw [hE.1] at h
  rcases h with ⟨c, z18, hz18, A19, hA19, z20, hq20, z23, hz23, z24, hq24, h⟩ | ⟨c, A139, hA, hu⟩
  · have hN : ¬ N ≤ s := by omega
    have r1 : ∀ k, A19 1 k = A 1 k := fun k => by rw [hA19]; rfl
    have hf : f s = z18 := by rw [hz18, Int.toNat_natCast]; exact hE.2.2 s (by omega)
    have hf2 : f s = z23 := by rw [hz23, Int.toNat_natCast, r1]; exact hE.2.2 s (by omega)
    have il : z20 = 1 ↔ isL (f s) := by rw [hf]; exact hq20.2.2
    have id : z24 = 1 ↔ isD (f s) := by rw [hf2]; exact hq24.2.2
    have bl := hq20.2.1
    have bd := hq24.2.1
    have e19 : A19 0 8 = 0 := by rw [hA19]; exact h8
    have e194 : A19 0 4 = (s : Int) := by rw [hA19]; rfl
    -- behind the check of what is ahead
    have h6 : ∀ (B : St) (F : Int), (∀ k, B 1 k = A 1 k) → B 0 4 = (s : Int) → B 0 8 = F → 0 ≤ F → d_X12_ahead_6 (s : Int) z20 z24 A u B → (isL (f s) ∧ u 0 3 = 1 ∧ u 0 4 = (s : Int) ∧ u 0 5 = (wEnd f N s : Int) ∧ (wEnd f N s ≤ s + 6 → u 0 8 = F ∧ u 0 7 = w8 f s (wEnd f N s - s)) ∧ (s + 6 < wEnd f N s → 1 ≤ u 0 8)) ∨ (¬ isL (f s) ∧ isD (f s) ∧ u 0 3 = 2 ∧ u 0 4 = (s : Int) ∧ u 0 5 = (nEnd f N s : Int) ∧ (nEnd f N s ≤ s + 4 → u 0 8 = F ∧ u 0 6 = nm10 f s (nEnd f N s - s)) ∧ (s + 4 < nEnd f N s → 1 ≤ u 0 8)) ∨ (¬ isL (f s) ∧ ¬ isD (f s) ∧ u 0 3 = 3 ∧ u 0 4 = (s : Int) ∧ u 0 5 = (s : Int) + 1 ∧ u 0 8 = F ∧ u 0 6 = f s) := by
      intro B F b1 b4 b8 hF h
      obtain ⟨_, A52, hA52, h⟩ := (h : tr_d_X12_ahead_6 (s : Int) z20 z24 A u B)
      have c1 : ∀ k, A52 1 k = A 1 k := fun k => by rw [hA52]; exact b1 k
      have c4 : A52 0 4 = (s : Int) := by rw [hA52]; exact b4
      have c8 : A52 0 8 = F := by rw [hA52]; exact b8
      have c7 : A52 0 7 = 0 := by rw [hA52]; rfl
      have c6 : A52 0 6 = 0 := by rw [hA52]; rfl
      have d7 : (¬ z20 = 0 ∨ ¬ z24 = 0) → d_X12_ahead_7 (s : Int) z20 z24 A A52 u → (isL (f s) ∧ u 0 3 = 1 ∧ u 0 4 = (s : Int) ∧ u 0 5 = (wEnd f N s : Int) ∧ (wEnd f N s ≤ s + 6 → u 0 8 = F ∧ u 0 7 = w8 f s (wEnd f N s - s)) ∧ (s + 6 < wEnd f N s → 1 ≤ u 0 8)) ∨ (¬ isL (f s) ∧ isD (f s) ∧ u 0 3 = 2 ∧ u 0 4 = (s : Int) ∧ u 0 5 = (nEnd f N s : Int) ∧ (nEnd f N s ≤ s + 4 → u 0 8 = F ∧ u 0 6 = nm10 f s (nEnd f N s - s)) ∧ (s + 4 < nEnd f N s → 1 ≤ u 0 8)) := by
        intro hor h
        rcases (h : tr_d_X12_ahead_7 (s : Int) z20 z24 A A52 u) with ⟨c2, h⟩ | ⟨c2, h⟩
        · obtain ⟨_, A66, hA66, h⟩ := (h : tr_d_X12_ahead_8 (s : Int) z20 z24 A A52 u 2)
          rcases h with ⟨_, h⟩ | ⟨c3, _⟩
          · obtain ⟨_, n9, h⟩ := (h : tr_d_X12_ahead_9 (s : Int) z20 z24 A A66 u 4)
            have hz24 : ¬ z24 = 0 := by omega
            have nl : ¬ isL (f s) := fun g => by have := il.mpr g; omega
            refine Or.inr ⟨nl, id.mp (by omega), ?_⟩
            exact ah_loopN (F := F) hE c2 hz24 n9 0 A66 (by omega) (fun k hk => absurd hk (by omega)) (fun k => by rw [hA66]; exact c1 k) (by rw [hA66]; rfl) (by rw [hA66]; exact c4) (fun _ => ⟨by rw [hA66]; exact c8, by rw [hA66]; exact c6⟩) (fun g => absurd g (by omega)) h
          · exact absurd c2 c3
        · obtain ⟨_, A66, hA66, h⟩ := (h : tr_d_X12_ahead_8 (s : Int) z20 z24 A A52 u 1)
          rcases h with ⟨c3, _⟩ | ⟨_, h⟩
          · exact absurd c3 c2
          · obtain ⟨_, n9, h⟩ := (h : tr_d_X12_ahead_9 (s : Int) z20 z24 A A66 u 6)
            have hL : isL (f s) := il.mp (by omega)
            have hz24 : z24 = 0 := by
              by_cases g : z24 = 1
              · have := id.mp g; omega
              · omega
            refine Or.inl ⟨hL, ?_⟩
            exact ah_loopW (F := F) hE c2 hz24 n9 0 A66 (by omega) (fun k hk => absurd hk (by omega)) (fun k => by rw [hA66]; exact c1 k) (by rw [hA66]; rfl) (by rw [hA66]; exact c4) (fun _ => ⟨by rw [hA66]; exact c8, by rw [hA66]; exact c7⟩) (fun g => absurd g (by omega)) h
      rcases h with ⟨c2, h⟩ | ⟨c2, h⟩
      · rcases d7 (Or.inl c2) h with g | g
        · exact Or.inl g
        · exact Or.inr (Or.inl g)
      · rcases h with ⟨c3, h⟩ | ⟨c3, z56, hz56, A57, hA57, hu⟩
        · rcases d7 (Or.inr c3) h with g | g
          · exact Or.inl g
          · exact Or.inr (Or.inl g)
        · have nl : ¬ isL (f s) := fun g => by have := il.mpr g; omega
          have nd : ¬ isD (f s) := fun g => by have := id.mpr g; omega
          refine Or.inr (Or.inr ⟨nl, nd, by rw [hu, hA57, hA52]; rfl, by rw [hu, hA57]; exact c4, by rw [hu, hA57, hA52]; rfl, by rw [hu, hA57]; exact c8, ?_⟩)
          rw [hu, hA57]
          show z56 = f s
          rw [hz56, Int.toNat_natCast, c1]
          exact (hE.2.2 s (by omega)).symm
    -- the end of all roads
    have fin : ∀ F : Int, (F = 0 ∨ 1 ≤ F) → (isL (f s) ∨ isD (f s) → (F = 0 ↔ ¬ adj f s)) → (¬ isL (f s) → ¬ isD (f s) → F = 0) → ((isL (f s) ∧ u 0 3 = 1 ∧ u 0 4 = (s : Int) ∧ u 0 5 = (wEnd f N s : Int) ∧ (wEnd f N s ≤ s + 6 → u 0 8 = F ∧ u 0 7 = w8 f s (wEnd f N s - s)) ∧ (s + 6 < wEnd f N s → 1 ≤ u 0 8)) ∨ (¬ isL (f s) ∧ isD (f s) ∧ u 0 3 = 2 ∧ u 0 4 = (s : Int) ∧ u 0 5 = (nEnd f N s : Int) ∧ (nEnd f N s ≤ s + 4 → u 0 8 = F ∧ u 0 6 = nm10 f s (nEnd f N s - s)) ∧ (s + 4 < nEnd f N s → 1 ≤ u 0 8)) ∨ (¬ isL (f s) ∧ ¬ isD (f s) ∧ u 0 3 = 3 ∧ u 0 4 = (s : Int) ∧ u 0 5 = (s : Int) + 1 ∧ u 0 8 = F ∧ u 0 6 = f s)) → (tKind f N p = 4 ∧ 1 ≤ u 0 8) ∨ (tKind f N p ≠ 4 ∧ u 0 8 = 0 ∧ RT f N p u) := by
      intro F hF hadj hsg h
      rcases h with ⟨n1, u3, u4, u5, u6, u7⟩ | ⟨n1, n2, u3, u4, u5, u6, u7⟩ | ⟨n1, n2, u3, u4, u5, u8, u6⟩
      · have te : tEnd f N p = wEnd f N s := by unfold tEnd; rw [hsd, if_neg hN, if_pos n1]
        by_cases g : adj f s ∨ s + 6 < wEnd f N s
        · left
          refine ⟨by unfold tKind; rw [hsd, if_neg hN, if_pos n1, if_pos g], ?_⟩
          by_cases g2 : s + 6 < wEnd f N s
          · exact u7 g2
          · rw [(u6 (by omega)).1]
            have g3 : adj f s := by rcases g with g | g; exact g; exact absurd g g2
            rcases hF with e | e
            · exact absurd g3 ((hadj (Or.inl n1)).mp e)
            · exact e
        · right
          have tk : tKind f N p = 1 := by unfold tKind; rw [hsd, if_neg hN, if_pos n1, if_neg g]
          have g6 := u6 (by omega)
          have F0 : F = 0 := (hadj (Or.inl n1)).mpr (fun g2 => g (Or.inl g2))
          unfold RT nv
          rw [tk, te, hsd]
          exact ⟨by decide, g6.1.trans F0, u3, u4, u5, fun _ => g6.2, fun g => absurd g (by decide), fun g => absurd g (by decide)⟩
      · have te : tEnd f N p = nEnd f N s := by unfold tEnd; rw [hsd, if_neg hN, if_neg n1, if_pos n2]
        by_cases g : adj f s ∨ s + 4 < nEnd f N s
        · left
          refine ⟨by unfold tKind; rw [hsd, if_neg hN, if_neg n1, if_pos n2, if_pos g], ?_⟩
          by_cases g2 : s + 4 < nEnd f N s
          · exact u7 g2
          · rw [(u6 (by omega)).1]
            have g3 : adj f s := by rcases g with g | g; exact g; exact absurd g g2
            rcases hF with e | e
            · exact absurd g3 ((hadj (Or.inr n2)).mp e)
            · exact e
        · right
          have tk : tKind f N p = 2 := by unfold tKind; rw [hsd, if_neg hN, if_neg n1, if_pos n2, if_neg g]
          have g6 := u6 (by omega)
          have F0 : F = 0 := (hadj (Or.inr n2)).mpr (fun g2 => g (Or.inl g2))
          unfold RT nv
          rw [tk, te, hsd]
          exact ⟨by decide, g6.1.trans F0, u3, u4, u5, fun g => absurd g (by decide), fun _ => g6.2, fun g => absurd g (by decide)⟩
      · right
        have tk : tKind f N p = 3 := by unfold tKind; rw [hsd, if_neg hN, if_neg n1, if_neg n2]
        have te : tEnd f N p = s + 1 := by unfold tEnd; rw [hsd, if_neg hN, if_neg n1, if_neg n2]
        unfold RT nv
        rw [tk, te, hsd]
        exact ⟨by decide, u8.trans (hsg n1 n2), u3, u4, by rw [u5]; omega, fun g => absurd g (by decide), fun g => absurd g (by decide), fun _ => u6⟩
    have d5 : adj f s → d_X12_ahead_5 (s : Int) z20 z24 A A19 u → (isL (f s) ∨ isD (f s)) → (tKind f N p = 4 ∧ 1 ≤ u 0 8) ∨ (tKind f N p ≠ 4 ∧ u 0 8 = 0 ∧ RT f N p u) := by
      intro ha h hld
      obtain ⟨A45, hb, h⟩ := (h : tr_d_X12_ahead_5 (s : Int) z20 z24 A A19 u)
      have fb := hb.2.2.1
      have g1 := hb.2.2.2
      refine fin (A45 0 8) (Or.inr g1) (fun _ => ⟨fun e => by omega, fun g => absurd ha g⟩) (fun n1 n2 => absurd hld (by rintro (g | g); exact n1 g; exact n2 g)) (h6 A45 _ (fun k => by rw [fb.1 1 (by decide) rfl]; exact r1 k) ((fb.2 4 rfl).trans e194) rfl (by omega) h)
    have d60 : (isL (f s) ∨ isD (f s) → ¬ adj f s) → d_X12_ahead_6 (s : Int) z20 z24 A u A19 → (tKind f N p = 4 ∧ 1 ≤ u 0 8) ∨ (tKind f N p ≠ 4 ∧ u 0 8 = 0 ∧ RT f N p u) := by
      intro ha h
      exact fin 0 (Or.inl rfl) (fun g => ⟨fun _ => ha g, fun _ => rfl⟩) (fun _ _ => rfl) (h6 A19 0 r1 e194 e19 (by decide) h)
    have d4 : (isL (f s) ∨ isD (f s)) → d_X12_ahead_4 (s : Int) z20 z24 A A19 u → (tKind f N p = 4 ∧ 1 ≤ u 0 8) ∨ (tKind f N p ≠ 4 ∧ u 0 8 = 0 ∧ RT f N p u) := by
      intro hld h
      rcases (h : tr_d_X12_ahead_4 (s : Int) z20 z24 A A19 u) with ⟨c2, h⟩ | ⟨c2, z33, hz33, z34, hq34, h⟩
      · exact d60 (fun _ g => by have := g.1; omega) h
      · have es : ((s : Int) - 1).toNat = s - 1 := by omega
        have e33 : z33 = f (s - 1) := by rw [hz33, es, r1]; exact (hE.2.2 (s - 1) (by omega)).symm
        have q34 := hq34.2
        rw [e33] at q34
        rcases h with ⟨c3, h⟩ | ⟨c3, z39, hz39, z40, hq40, h⟩
        · exact d5 ⟨by omega, Or.inl (q34.2.mp (by omega))⟩ h hld
        · have e39 : z39 = f (s - 1) := by rw [hz39, es, r1]; exact (hE.2.2 (s - 1) (by omega)).symm
          have q40 := hq40.2
          rw [e39] at q40
          rcases h with ⟨c4, h⟩ | ⟨c4, h⟩
          · refine d60 (fun _ g => ?_) h
            rcases g.2 with g | g
            · have := q34.2.mpr g; omega
            · have := q40.2.mpr g; omega
          · exact d5 ⟨by omega, Or.inr (q40.2.mp (by omega))⟩ h hld
    rcases h with ⟨c2, h⟩ | ⟨c2, h⟩
    · exact d4 (Or.inl (il.mp (by omega))) h
    · rcases h with ⟨c3, h⟩ | ⟨c3, h⟩
      · refine d60 (fun g => ?_) h
        rcases g with g | g
        · have := il.mpr g; omega
        · have := id.mpr g; omega
      · exact d4 (Or.inr (id.mp (by omega))) h
  · have hN : N ≤ s := by omega
    have tk : tKind f N p = 0 := by unfold tKind; rw [hsd, if_pos hN]
    have te : tEnd f N p = s := by unfold tEnd; rw [hsd, if_pos hN]
    right
    unfold RT
    rw [tk, te, hsd]
    exact ⟨by decide, by rw [hu, hA]; exact h8, by rw [hu, hA]; rfl, by rw [hu, hA]; rfl, by rw [hu, hA]; rfl, fun g => absurd g (by decide), fun g => absurd g (by decide), fun g => absurd g (by decide)⟩
/-! Words of the reference, eight bits a letter, against words of five. -/
theorem w5_front (f : Nat → Int) : ∀ n s, w5 f s (n + 1) = (f s - 96) + 32 * w5 f (s + 1) n := by
  intro n
  induction n with
  | zero => intro s; show (0 : Int) + (f (s + 0) - 96) * 32 ^ 0 = (f s - 96) + 32 * 0; rw [Int.pow_zero, Nat.add_zero]; omega
  | succ n ih =>
    intro s
    have e : w5 f s (n + 1 + 1) = w5 f s (n + 1) + (f (s + (n + 1)) - 96) * 32 ^ (n + 1) := rfl
    have e2 : w5 f (s + 1) (n + 1) = w5 f (s + 1) n + (f (s + 1 + n) - 96) * 32 ^ n := rfl
    rw [e, ih s, e2, Int.pow_succ, show s + (n + 1) = s + 1 + n by omega, ← Int.mul_assoc]
    omega
theorem w5_pos {f : Nat → Int} : ∀ n s, (∀ k, k < n → isL (f (s + k))) → 0 ≤ w5 f s n ∧ (0 < n → 1 ≤ w5 f s n) := by
  intro n
  induction n with
  | zero => intro s _; exact ⟨Int.le_refl _, fun h => absurd h (by omega)⟩
  | succ n ih =>
    intro s h
    have h0 : isL (f s) := h 0 (by omega)
    have h1 := ih (s + 1) (fun k hk => by rw [show s + 1 + k = s + (k + 1) by omega]; exact h (k + 1) (by omega))
    rw [w5_front]
    omega
theorem w5_inj {f g : Nat → Int} : ∀ n m s t, (∀ k, k < n → isL (f (s + k))) → (∀ k, k < m → isL (g (t + k))) → w5 f s n = w5 g t m → n = m ∧ ∀ k, k < n → f (s + k) = g (t + k) := by
  intro n
  induction n with
  | zero =>
    intro m s t _ hg e
    cases m with
    | zero => exact ⟨rfl, fun k hk => absurd hk (by omega)⟩
    | succ m =>
      have := (w5_pos (m + 1) t hg).2 (by omega)
      have e : (0 : Int) = w5 g t (m + 1) := e
      omega
  | succ n ih =>
    intro m s t hf hg e
    cases m with
    | zero =>
      have := (w5_pos (n + 1) s hf).2 (by omega)
      have e : w5 f s (n + 1) = (0 : Int) := e
      omega
    | succ m =>
      rw [w5_front, w5_front] at e
      have hf' : ∀ k, k < n → isL (f (s + 1 + k)) := fun k hk => by rw [show s + 1 + k = s + (k + 1) by omega]; exact hf (k + 1) (by omega)
      have hg' : ∀ k, k < m → isL (g (t + 1 + k)) := fun k hk => by rw [show t + 1 + k = t + (k + 1) by omega]; exact hg (k + 1) (by omega)
      have f0 : isL (f s) := hf 0 (by omega)
      have g0 : isL (g t) := hg 0 (by omega)
      have i := ih m (s + 1) (t + 1) hf' hg' (by omega)
      refine ⟨by omega, fun k hk => ?_⟩
      cases k with
      | zero => show f s = g t; omega
      | succ k =>
        have := i.2 k (by omega)
        rw [show s + 1 + k = s + (k + 1) by omega, show t + 1 + k = t + (k + 1) by omega] at this
        exact this
theorem w8_pos {f : Nat → Int} {s : Nat} : ∀ n, (∀ k, k < n → isL (f (s + k))) → 0 ≤ w8 f s n ∧ (0 < n → 1 ≤ w8 f s n) := by
  intro n
  induction n with
  | zero => intro _; exact ⟨Int.le_refl _, fun h => absurd h (by omega)⟩
  | succ n ih =>
    intro h
    have h0 := h n (by omega)
    have h1 := ih (fun k hk => h k (by omega))
    show 0 ≤ 256 * w8 f s n + f (s + n) ∧ (0 < n + 1 → 1 ≤ 256 * w8 f s n + f (s + n))
    omega
theorem w8_inj {f g : Nat → Int} {s t : Nat} : ∀ n m, (∀ k, k < n → isL (f (s + k))) → (∀ k, k < m → isL (g (t + k))) → w8 f s n = w8 g t m → n = m ∧ ∀ k, k < n → f (s + k) = g (t + k) := by
  intro n
  induction n with
  | zero =>
    intro m _ hg e
    cases m with
    | zero => exact ⟨rfl, fun k hk => absurd hk (by omega)⟩
    | succ m =>
      have := (w8_pos (m + 1) hg).2 (by omega)
      have e : (0 : Int) = w8 g t (m + 1) := e
      omega
  | succ n ih =>
    intro m hf hg e
    cases m with
    | zero =>
      have := (w8_pos (n + 1) hf).2 (by omega)
      have e : w8 f s (n + 1) = (0 : Int) := e
      omega
    | succ m =>
      have e : 256 * w8 f s n + f (s + n) = 256 * w8 g t m + g (t + m) := e
      have f0 := hf n (by omega)
      have g0 := hg m (by omega)
      have i := ih m (fun k hk => hf k (by omega)) (fun k hk => hg k (by omega)) (by omega)
      refine ⟨by omega, fun k hk => ?_⟩
      by_cases h : k = n
      · subst h
        have := i.1
        subst this
        omega
      · exact i.2 k (by omega)
theorem w5_congr {f g : Nat → Int} {s t : Nat} : ∀ n, (∀ k, k < n → f (s + k) = g (t + k)) → w5 f s n = w5 g t n := by
  intro n
  induction n with
  | zero => intro _; rfl
  | succ n ih =>
    intro h
    show w5 f s n + (f (s + n) - 96) * 32 ^ n = w5 g t n + (g (t + n) - 96) * 32 ^ n
    rw [ih (fun k hk => h k (by omega)), h n (by omega)]
theorem w8_congr {f g : Nat → Int} {s t : Nat} : ∀ n, (∀ k, k < n → f (s + k) = g (t + k)) → w8 f s n = w8 g t n := by
  intro n
  induction n with
  | zero => intro _; rfl
  | succ n ih =>
    intro h
    show 256 * w8 f s n + f (s + n) = 256 * w8 g t n + g (t + n)
    rw [ih (fun k hk => h k (by omega)), h n (by omega)]
/-- the same word, as the reference and as the class has it -/
def WR (x y : Int) : Prop := ∃ (g : Nat → Int) (s n : Nat), (∀ k, k < n → isL (g (s + k))) ∧ x = w8 g s n ∧ y = w5 g s n ∧ 0 < n ∧ n ≤ 6
theorem WR.inj {x y x' y' : Int} (h : WR x y) (h' : WR x' y') : x = x' ↔ y = y' := by
  obtain ⟨g, s, n, hl, rfl, rfl, _⟩ := h
  obtain ⟨g', s', n', hl', rfl, rfl, _⟩ := h'
  constructor
  · intro e
    obtain ⟨rfl, h⟩ := w8_inj n n' hl hl' e
    exact w5_congr n h
  · intro e
    obtain ⟨rfl, h⟩ := w5_inj n n' s s' hl hl' e
    exact w8_congr n h
def own8L : List Int := [482854658917, 1685024626, 6451064, 7038329, 123581014175598, 499967946343, 512735736947, 1836413812, 6447474, 6840691, 1936225652, 1819243380, 24948, 26990, 25209, 2003330414, 28530, 6385252, 7237492, 6384748, 7825519, 1936748404, 1801812339, 109317377451364, 7170414, 7168376]
def own8 (k : Nat) : Int := own8L.getD k 0
theorem WR_own0 : WR 482854658917 5342608 := ⟨fun k => ([112, 108, 97, 99, 101] : List Int).getD k 0, 0, 5, by decide, by decide, by decide, by decide, by decide⟩
theorem WR_own1 : WR 1685024626 605668 := ⟨fun k => ([100, 111, 111, 114] : List Int).getD k 0, 0, 4, by decide, by decide, by decide, by decide, by decide⟩
theorem WR_own2 : WR 6451064 25058 := ⟨fun k => ([98, 111, 120] : List Int).getD k 0, 0, 3, by decide, by decide, by decide, by decide, by decide⟩
theorem WR_own3 : WR 7038329 25771 := ⟨fun k => ([107, 101, 121] : List Int).getD k 0, 0, 3, by decide, by decide, by decide, by decide, by decide⟩
theorem WR_own4 : WR 123581014175598 486131888 := ⟨fun k => ([112, 101, 114, 115, 111, 110] : List Int).getD k 0, 0, 6, by decide, by decide, by decide, by decide, by decide⟩
theorem WR_own5 : WR 499967946343 7808276 := ⟨fun k => ([116, 104, 105, 110, 103] : List Int).getD k 0, 0, 5, by decide, by decide, by decide, by decide, by decide⟩
theorem WR_own6 : WR 512735736947 20592695 := ⟨fun k => ([119, 97, 110, 116, 115] : List Int).getD k 0, 0, 5, by decide, by decide, by decide, by decide, by decide⟩
theorem WR_own7 : WR 1836413812 675501 := ⟨fun k => ([109, 117, 115, 116] : List Int).getD k 0, 0, 4, by decide, by decide, by decide, by decide, by decide⟩
theorem WR_own8 : WR 6447474 18466 := ⟨fun k => ([98, 97, 114] : List Int).getD k 0, 0, 3, by decide, by decide, by decide, by decide, by decide⟩
theorem WR_own9 : WR 6840691 19496 := ⟨fun k => ([104, 97, 115] : List Int).getD k 0, 0, 3, by decide, by decide, by decide, by decide, by decide⟩
theorem WR_own10 : WR 1936225652 677139 := ⟨fun k => ([115, 104, 117, 116] : List Int).getD k 0, 0, 4, by decide, by decide, by decide, by decide, by decide⟩
theorem WR_own11 : WR 1819243380 675308 := ⟨fun k => ([108, 111, 115, 116] : List Int).getD k 0, 0, 4, by decide, by decide, by decide, by decide, by decide⟩
theorem WR_own12 : WR 24948 641 := ⟨fun k => ([97, 116] : List Int).getD k 0, 0, 2, by decide, by decide, by decide, by decide, by decide⟩
theorem WR_own13 : WR 26990 457 := ⟨fun k => ([105, 110] : List Int).getD k 0, 0, 2, by decide, by decide, by decide, by decide, by decide⟩
theorem WR_own14 : WR 25209 802 := ⟨fun k => ([98, 121] : List Int).getD k 0, 0, 2, by decide, by decide, by decide, by decide, by decide⟩
theorem WR_own15 : WR 2003330414 464151 := ⟨fun k => ([119, 104, 101, 110] : List Int).getD k 0, 0, 4, by decide, by decide, by decide, by decide, by decide⟩
theorem WR_own16 : WR 28530 591 := ⟨fun k => ([111, 114] : List Int).getD k 0, 0, 2, by decide, by decide, by decide, by decide, by decide⟩
theorem WR_own17 : WR 6385252 4545 := ⟨fun k => ([97, 110, 100] : List Int).getD k 0, 0, 3, by decide, by decide, by decide, by decide, by decide⟩
theorem WR_own18 : WR 7237492 20974 := ⟨fun k => ([110, 111, 116] : List Int).getD k 0, 0, 3, by decide, by decide, by decide, by decide, by decide⟩
theorem WR_own19 : WR 6384748 12673 := ⟨fun k => ([97, 108, 108] : List Int).getD k 0, 0, 3, by decide, by decide, by decide, by decide, by decide⟩
theorem WR_own20 : WR 7825519 15639 := ⟨fun k => ([119, 104, 111] : List Int).getD k 0, 0, 3, by decide, by decide, by decide, by decide, by decide⟩
theorem WR_own21 : WR 1936748404 671251 := ⟨fun k => ([115, 112, 111, 116] : List Int).getD k 0, 0, 4, by decide, by decide, by decide, by decide, by decide⟩
theorem WR_own22 : WR 1801812339 648363 := ⟨fun k => ([107, 101, 121, 115] : List Int).getD k 0, 0, 4, by decide, by decide, by decide, by decide, by decide⟩
theorem WR_own23 : WR 109317377451364 140098947 := ⟨fun k => ([99, 108, 111, 115, 101, 100] : List Int).getD k 0, 0, 6, by decide, by decide, by decide, by decide, by decide⟩
theorem WR_own24 : WR 7170414 14637 := ⟨fun k => ([109, 105, 110] : List Int).getD k 0, 0, 3, by decide, by decide, by decide, by decide, by decide⟩
theorem WR_own25 : WR 7168376 24621 := ⟨fun k => ([109, 97, 120] : List Int).getD k 0, 0, 3, by decide, by decide, by decide, by decide, by decide⟩
theorem WR_own : ∀ k, k < 26 → WR (own8 k) (own5 k)
  | 0, _ => WR_own0
  | 1, _ => WR_own1
  | 2, _ => WR_own2
  | 3, _ => WR_own3
  | 4, _ => WR_own4
  | 5, _ => WR_own5
  | 6, _ => WR_own6
  | 7, _ => WR_own7
  | 8, _ => WR_own8
  | 9, _ => WR_own9
  | 10, _ => WR_own10
  | 11, _ => WR_own11
  | 12, _ => WR_own12
  | 13, _ => WR_own13
  | 14, _ => WR_own14
  | 15, _ => WR_own15
  | 16, _ => WR_own16
  | 17, _ => WR_own17
  | 18, _ => WR_own18
  | 19, _ => WR_own19
  | 20, _ => WR_own20
  | 21, _ => WR_own21
  | 22, _ => WR_own22
  | 23, _ => WR_own23
  | 24, _ => WR_own24
  | 25, _ => WR_own25
  | k + 26, h => absurd h (by omega)
theorem ownz_own : ∀ k : Fin 26, ownz (own8 k.val) = 1 := by decide +kernel
theorem ownz_01 (x : Int) : ownz x = 0 ∨ ownz x = 1 := by
  unfold ownz
  split
  · exact Or.inr rfl
  · exact Or.inl rfl
theorem ownz_mem {x : Int} (h : ownz x = 1) : ∃ k, k < 26 ∧ x = own8 k := by
  unfold ownz at h
  split at h
  · rename_i g
    rcases g with g | g | g | g | g | g | g | g | g | g | g | g | g | g | g | g | g | g | g | g | g | g | g | g | g | g
    · exact ⟨0, by decide, g⟩
    · exact ⟨1, by decide, g⟩
    · exact ⟨2, by decide, g⟩
    · exact ⟨12, by decide, g⟩
    · exact ⟨3, by decide, g⟩
    · exact ⟨13, by decide, g⟩
    · exact ⟨4, by decide, g⟩
    · exact ⟨9, by decide, g⟩
    · exact ⟨10, by decide, g⟩
    · exact ⟨14, by decide, g⟩
    · exact ⟨11, by decide, g⟩
    · exact ⟨5, by decide, g⟩
    · exact ⟨6, by decide, g⟩
    · exact ⟨7, by decide, g⟩
    · exact ⟨8, by decide, g⟩
    · exact ⟨15, by decide, g⟩
    · exact ⟨16, by decide, g⟩
    · exact ⟨17, by decide, g⟩
    · exact ⟨18, by decide, g⟩
    · exact ⟨19, by decide, g⟩
    · exact ⟨20, by decide, g⟩
    · exact ⟨21, by decide, g⟩
    · exact ⟨22, by decide, g⟩
    · exact ⟨23, by decide, g⟩
    · exact ⟨24, by decide, g⟩
    · exact ⟨25, by decide, g⟩
  · exact absurd h (by decide)
theorem ownz_iff {x y : Int} (h : WR x y) : ownz x = 1 ↔ isOwn5 y = true := by
  rw [isOwn5_iff]
  constructor
  · intro g
    obtain ⟨k, hk, e⟩ := ownz_mem g
    exact ⟨k, hk, (((WR_own k hk).inj h).mp e.symm)⟩
  · rintro ⟨k, hk, e⟩
    have e2 : own8 k = x := ((WR_own k hk).inj h).mpr e
    rw [← e2]
    exact ownz_own ⟨k, hk⟩
theorem fnd_snoc (g : Nat → Int) (w : Int) : ∀ n i, fnd g w (n + 1) i = if fnd g w n i = -1 then (if g (i + n) = w then ((i + n : Nat) : Int) else -1) else fnd g w n i := by
  intro n
  induction n with
  | zero =>
    intro i
    show (if g i = w then (i : Int) else -1) = if (-1 : Int) = -1 then (if g (i + 0) = w then ((i + 0 : Nat) : Int) else -1) else -1
    rw [if_pos rfl, Nat.add_zero]
  | succ n ih =>
    intro i
    have e1 : fnd g w (n + 1 + 1) i = if g i = w then (i : Int) else fnd g w (n + 1) (i + 1) := rfl
    have e2 : fnd g w (n + 1) i = if g i = w then (i : Int) else fnd g w n (i + 1) := rfl
    by_cases h : g i = w
    · rw [e1, e2, if_pos h, if_pos h, if_neg (by omega)]
    · rw [e1, e2, if_neg h, if_neg h, ih (i + 1), show i + 1 + n = i + (n + 1) by omega]
theorem lk_fnd (g : Nat → Int) (o : Nat) (w : Int) : ∀ n, lk g o w n = fnd (fun k => g (o + k)) w n 0 := by
  intro n
  induction n with
  | zero => rfl
  | succ n ih =>
    rw [fnd_snoc, ← ih, Nat.zero_add]
    rfl
theorem fnd_congr {g h : Nat → Int} {w w' : Int} : ∀ n i, (∀ k, i ≤ k → k < i + n → (g k = w ↔ h k = w')) → fnd g w n i = fnd h w' n i := by
  intro n
  induction n with
  | zero => intro i _; rfl
  | succ n ih =>
    intro i hk
    have h0 := hk i (by omega) (by omega)
    have h1 := ih (i + 1) (fun k a b => hk k (by omega) (by omega))
    unfold fnd
    by_cases e : g i = w
    · rw [if_pos e, if_pos (h0.mp e)]
    · rw [if_neg e, if_neg (fun e2 => e (h0.mpr e2)), h1]
/-! The reference's readers of names, numbers, words and signs. -/
def rq (A B : St) : Prop := ∀ j, j ≠ 0 → A j = B j
theorem rq.rf {A : St} : rq A A := fun _ _ => rfl
theorem rq.trans {A B C : St} (h : rq A B) (g : rq B C) : rq A C := fun j hj => (h j hj).trans (g j hj)
theorem rq.st {A B : St} {i : Nat} {v : Int} {j : Nat} (h : rq A B) (hj : j ≠ 0) : rq (stA A j i v) (stA B j i v) := by
  intro k hk
  by_cases e : k = j
  · subst e
    rw [stA_same, stA_same, h k hk]
  · rw [stA_ne _ _ e, stA_ne _ _ e, h k hk]
theorem rq.s0 {A B : St} {i : Nat} {v : Int} (h : rq A B) : rq (stA A 0 i v) B := by
  intro k hk
  rw [stA_ne _ _ hk, h k hk]
theorem fr.rq {N' : List Nat} {A u : St} (h : fr [] N' A u) : rq u A := fun j hj => h.1 j hj rfl
theorem tEnd_b {f : Nat → Int} {N p : Nat} (hp : p ≤ N) : p ≤ sAt f N p ∧ sAt f N p ≤ tEnd f N p ∧ tEnd f N p ≤ N ∧ (tKind f N p ≠ 0 → sAt f N p < tEnd f N p) := by
  have hs := sAt_le (f := f) hp
  unfold tEnd tKind
  by_cases h1 : N ≤ sAt f N p
  · rw [if_pos h1, if_pos h1]
    exact ⟨hs.1, Nat.le_refl _, hs.2, fun g => absurd rfl g⟩
  · rw [if_neg h1, if_neg h1]
    by_cases h2 : isL (f (sAt f N p))
    · rw [if_pos h2]
      have := wEnd_le (f := f) (N := N) (by omega) h2
      exact ⟨hs.1, by omega, this.2.1, fun _ => this.1⟩
    · rw [if_neg h2]
      by_cases h3 : isD (f (sAt f N p))
      · rw [if_pos h3]
        have := nEnd_le (f := f) (N := N) (by omega) h3
        exact ⟨hs.1, by omega, this.2.1, fun _ => this.1⟩
      · rw [if_neg h3]
        exact ⟨hs.1, by omega, by omega, fun _ => by omega⟩
/-- the reference stands with the token behind p, and nothing is blamed -/
def MS (f : Nat → Int) (N b p : Nat) (A : St) : Prop := EM f N A ∧ A 0 47 = (b : Int) ∧ b ≤ 1 ∧ A 0 8 = 0 ∧ p ≤ N ∧ tKind f N p ≠ 4 ∧ RT f N p A
/-- ready to look ahead, from e on -/
def MG (f : Nat → Int) (N b e : Nat) (A : St) : Prop := EM f N A ∧ A 0 47 = (b : Int) ∧ b ≤ 1 ∧ A 0 8 = 0 ∧ e ≤ N ∧ A 0 5 = (e : Int)
/-- behind a look ahead -/
def MO (f : Nat → Int) (N b e : Nat) (u : St) : Prop := (tKind f N e = 4 ∧ 1 ≤ u 0 8) ∨ (u 0 8 = 0 ∧ MS f N b e u)
theorem MS.ns {f : Nat → Int} {N b p : Nat} {A : St} (h : MS f N b p A) : A 0 8 = 0 := h.2.2.2.1
theorem MS.le {f : Nat → Int} {N b p : Nat} {A : St} (h : MS f N b p A) : p ≤ N := h.2.2.2.2.1
theorem MS.bk {f : Nat → Int} {N b p : Nat} {A : St} (h : MS f N b p A) : A 0 47 = (b : Int) := h.2.1
theorem MS.b1 {f : Nat → Int} {N b p : Nat} {A : St} (h : MS f N b p A) : b ≤ 1 := h.2.2.1
theorem MS.rt {f : Nat → Int} {N b p : Nat} {A : St} (h : MS f N b p A) : RT f N p A := h.2.2.2.2.2.2
theorem MS.sg {f : Nat → Int} {N b p : Nat} {A : St} (h : MS f N b p A) : A 0 3 = tKind f N p := h.rt.1
theorem MS.go {f : Nat → Int} {N b p : Nat} {A : St} (h : MS f N b p A) : MG f N b (tEnd f N p) A := ⟨h.1, h.bk, h.b1, h.ns, (tEnd_b h.le).2.2.1, h.rt.2.2.1⟩
/-- the token's own numbers are those of rows 1 and 0 -/
theorem MS.fr {f : Nat → Int} {N b p : Nat} {A u : St} (h : MS f N b p A) (h1 : u 1 = A 1) (h0 : ∀ k, k < 9 ∨ k = 47 → u 0 k = A 0 k) : MS f N b p u := by
  obtain ⟨he, hb, hb1, h8, hp, hk, r1, r2, r3, r4, r5, r6⟩ := h
  refine ⟨⟨(h0 2 (Or.inl (by decide))).trans he.1, he.2.1, fun k hk => by rw [h1]; exact he.2.2 k hk⟩, (h0 47 (Or.inr rfl)).trans hb, hb1, (h0 8 (Or.inl (by decide))).trans h8, hp, hk, ?_⟩
  unfold RT
  rw [h0 3 (Or.inl (by decide)), h0 4 (Or.inl (by decide)), h0 5 (Or.inl (by decide)), h0 6 (Or.inl (by decide)), h0 7 (Or.inl (by decide))]
  exact ⟨r1, r2, r3, r4, r5, r6⟩
theorem MG.fr {f : Nat → Int} {N b e : Nat} {A u : St} (h : MG f N b e A) (h1 : u 1 = A 1) (h0 : ∀ k, k = 2 ∨ k = 5 ∨ k = 8 ∨ k = 47 → u 0 k = A 0 k) : MG f N b e u := by
  obtain ⟨he, hb, hb1, h8, hp, h5⟩ := h
  exact ⟨⟨(h0 2 (by omega)).trans he.1, he.2.1, fun k hk => by rw [h1]; exact he.2.2 k hk⟩, (h0 47 (by omega)).trans hb, hb1, (h0 8 (by omega)).trans h8, hp, (h0 5 (by omega)).trans h5⟩
theorem MG.ahead {f : Nat → Int} {N b e : Nat} {A u : St} (h : MG f N b e A) (hq : q_X12_ahead A u) : MO f N b e u ∧ rq u A := by
  obtain ⟨he, hb, hb1, h8, hp, h5⟩ := h
  obtain ⟨hE, h⟩ := M_ahead he h5 hp h8 hq
  refine ⟨?_, hq.2.2.1.rq⟩
  rcases h with h | ⟨hk, h8, hr⟩
  · exact Or.inl h
  · exact Or.inr ⟨h8, hE, (hq.2.2.1.2 47 rfl).trans hb, hb1, h8, hp, hk, hr⟩
theorem MS.word {f : Nat → Int} {N b p : Nat} {A : St} (h : MS f N b p A) (tk : tKind f N p = 1) : WR (A 0 7) (wv f N p) := by
  obtain ⟨h1, h2, h3, h4, _⟩ := tk1 tk
  have h5 := wEnd_le h1 h2
  refine ⟨f, sAt f N p, tEnd f N p - sAt f N p, fun k hk => h5.2.2 _ (by omega) (by omega), h.rt.2.2.2.1 tk, rfl, by omega, by omega⟩
theorem MS.isW {f : Nat → Int} {N b p : Nat} {A : St} {x y z : Int} (h : MS f N b p A) (hw : WR x y) (hq : q_X12_isWord x A z) : (z = 1 ∧ tKind f N p = 1 ∧ wv f N p = y) ∨ (z = 0 ∧ ¬ (tKind f N p = 1 ∧ wv f N p = y)) := by
  obtain ⟨_, hz, hi⟩ := hq
  by_cases g : A 0 3 = 1 ∧ A 0 7 = x
  · have tk : tKind f N p = 1 := by rw [← h.sg]; exact g.1
    exact Or.inl ⟨hi.mpr g, tk, ((h.word tk).inj hw).mp g.2⟩
  · have z0 : z = 0 := by
      have : ¬ z = 1 := fun e => g (hi.mp e)
      omega
    refine Or.inr ⟨z0, fun k => g ⟨by rw [h.sg]; exact k.1, ((h.word k.1).inj hw).mpr k.2⟩⟩
theorem MS.isS {f : Nat → Int} {N b p : Nat} {A : St} {c z : Int} (h : MS f N b p A) (hq : q_X12_isSign c A z) : (z = 1 ∧ tKind f N p = 3 ∧ f (sAt f N p) = c) ∨ (z = 0 ∧ ¬ (tKind f N p = 3 ∧ f (sAt f N p) = c)) := by
  obtain ⟨_, hz, hi⟩ := hq
  by_cases g : A 0 3 = 3 ∧ A 0 6 = c
  · have tk : tKind f N p = 3 := by rw [← h.sg]; exact g.1
    exact Or.inl ⟨hi.mpr g, tk, by rw [← h.rt.2.2.2.2.2 tk]; exact g.2⟩
  · have z0 : z = 0 := by
      have : ¬ z = 1 := fun e => g (hi.mp e)
      omega
    exact Or.inr ⟨z0, fun k => g ⟨by rw [h.sg]; exact k.1, by rw [h.rt.2.2.2.2.2 k.1]; exact k.2⟩⟩
theorem MS.own {f : Nat → Int} {N b p : Nat} {A : St} {z : Int} (h : MS f N b p A) (tk : tKind f N p = 1) (hq : q_X12_isOwn (A 0 7) A z) : (z = 0 ∧ isOwn5 (wv f N p) = false) ∨ (z = 1 ∧ isOwn5 (wv f N p) = true) := by
  have e := hq.2.2
  have i := ownz_iff (h.word tk)
  rcases ownz_01 (A 0 7) with g | g
  · refine Or.inl ⟨e.trans g, ?_⟩
    cases ho : isOwn5 (wv f N p) with
    | false => rfl
    | true => have := i.mpr ho; omega
  · exact Or.inr ⟨e.trans g, i.mp g⟩
/-- no text goes on so: none, or a bad token next -/
def Bad {α : Type} (f : Nat → Int) (N : Nat) (r : Option (α × Nat)) : Prop := r = none ∨ ∃ a, r = some a ∧ tKind f N a.2 = 4
def BadN (f : Nat → Int) (N : Nat) (r : Option Nat) : Prop := r = none ∨ ∃ e, r = some e ∧ tKind f N e = 4
theorem Bad.bd {α β : Type} {f : Nat → Int} {N : Nat} {r : Option (α × Nat)} {k : α × Nat → Option (β × Nat)} (h : Bad f N r) (hk : ∀ a, tKind f N a.2 = 4 → Bad f N (k a)) : Bad f N (r.bind k) := by
  rcases h with h | ⟨a, h, g⟩
  · rw [h]; exact Or.inl rfl
  · rw [h]; exact hk a g
theorem BadN.bd {β : Type} {f : Nat → Int} {N : Nat} {r : Option Nat} {k : Nat → Option (β × Nat)} (h : BadN f N r) (hk : ∀ a, tKind f N a = 4 → Bad f N (k a)) : Bad f N (r.bind k) := by
  rcases h with h | ⟨a, h, g⟩
  · rw [h]; exact Or.inl rfl
  · rw [h]; exact hk a g
theorem bad_own {f : Nat → Int} {N k p : Nat} (h : tKind f N p = 4) : sOwn f N k p = none := by
  unfold sOwn
  rw [if_neg (fun g => by omega)]
theorem bad_sign {f : Nat → Int} {N p : Nat} {c : Int} (h : tKind f N p = 4) : sSign f N c p = none := by
  unfold sSign
  rw [if_neg (fun g => by omega)]
theorem bad_num {f : Nat → Int} {N p : Nat} {a c : Int} (h : tKind f N p = 4) : sNum f N a c p = none := by
  unfold sNum
  rw [if_neg (fun g => by omega)]
theorem bad_name {f : Nat → Int} {N p : Nat} (h : tKind f N p = 4) : sName f N p = none := by
  unfold sName
  rw [if_neg (fun g => by omega)]
theorem bad_new {f : Nat → Int} {N p : Nat} {T : St} (h : tKind f N p = 4) : sNew f N T p = none := by
  unfold sNew
  rw [bad_name h]
theorem bad_ask {f : Nat → Int} {N p k : Nat} {T : St} (h : tKind f N p = 4) : sAsk f N T k p = none := by
  unfold sAsk
  rw [bad_name h]
theorem bad_spot {f : Nat → Int} {N p : Nat} {T : St} (h : tKind f N p = 4) : sSpot f N T p = none := by
  unfold sSpot
  rw [bad_name h]
/-- an answer that is a number, or a fault -/
def MV (f : Nat → Int) (N b : Nat) (r : Option (Int × Nat)) (z : Int) (u : St) : Prop := (u 0 8 = 0 ∧ ∃ a, r = some a ∧ z = a.1 ∧ MS f N b a.2 u) ∨ (1 ≤ u 0 8 ∧ Bad f N r)
def MUq (f : Nat → Int) (N b : Nat) (r : Option Nat) (u : St) : Prop := (u 0 8 = 0 ∧ ∃ e, r = some e ∧ MS f N b e u) ∨ (1 ≤ u 0 8 ∧ BadN f N r)
theorem MO.mq {f : Nat → Int} {N b e : Nat} {r : Option Nat} {u : St} (h : MO f N b e u) (hr : r = some e) : MUq f N b r u := by
  rcases h with ⟨h, g⟩ | ⟨h, g⟩
  · exact Or.inr ⟨g, Or.inr ⟨e, hr, h⟩⟩
  · exact Or.inl ⟨h, e, hr, g⟩
theorem MO.mv {f : Nat → Int} {N b e : Nat} {r : Option (Int × Nat)} {u : St} {z v : Int} (h : MO f N b e u) (hr : r = some (v, e)) (hz : u 0 8 = 0 → z = v) : MV f N b r z u := by
  rcases h with ⟨h, g⟩ | ⟨h, g⟩
  · exact Or.inr ⟨g, Or.inr ⟨(v, e), hr, h⟩⟩
  · exact Or.inl ⟨h, (v, e), hr, hz h, g⟩
theorem M_sign {f : Nat → Int} {N b p : Nat} {A u : St} {c : Int} (h : MS f N b p A) (hq : q_X12_must c A u) : MUq f N b (sSign f N c p) u ∧ rq u A := by
  refine ⟨?_, hq.2.2.1.rq⟩
  obtain ⟨z1, hs, h2⟩ := (hq.1 : tr_r_X12_must c A u)
  have g := h.isS hs
  rcases h2 with ⟨c1, h2⟩ | ⟨c1, A6, hb, h2⟩
  · rcases g with ⟨_, g1, g2⟩ | ⟨g, _⟩
    · obtain ⟨_, h2⟩ := (h2 : tr_d_X12_must_1 u A)
      rcases h2 with ⟨c2, _⟩ | ⟨_, A13, ha, rfl⟩
      · exact absurd h.ns c2
      · exact (h.go.ahead ha).1.mq (by unfold sSign; rw [if_pos ⟨g1, g2⟩])
    · exact absurd g c1
  · rcases g with ⟨g, _⟩ | ⟨_, g⟩
    · omega
    · obtain ⟨_, h2⟩ := (h2 : tr_d_X12_must_1 u A6)
      have f1 := hb.2.2.2
      rcases h2 with ⟨_, rfl⟩ | ⟨c2, _⟩
      · exact Or.inr ⟨f1, Or.inl (by unfold sSign; rw [if_neg g])⟩
      · omega
theorem M_wd {f : Nat → Int} {N b p k : Nat} {A u : St} {x : Int} (hk : k < 26) (hx : x = own8 k) (h : MS f N b p A) (hq : q_X12_must_ x A u) : MUq f N b (sOwn f N k p) u ∧ rq u A := by
  refine ⟨?_, hq.2.2.1.rq⟩
  have hw : WR x (own5 k) := by rw [hx]; exact WR_own k hk
  rcases (hq.1 : tr_r_X12_must_ x A u) with ⟨_, z2, hs, h2⟩ | ⟨c0, _⟩
  · have g := h.isW hw hs
    rcases h2 with ⟨c1, h2⟩ | ⟨c1, A7, hb, h2⟩
    · rcases g with ⟨_, g1, g2⟩ | ⟨g, _⟩
      · obtain ⟨_, h2⟩ := (h2 : tr_d_X12_must__1 u A)
        rcases h2 with ⟨c2, _⟩ | ⟨_, A14, ha, rfl⟩
        · exact absurd h.ns c2
        · exact (h.go.ahead ha).1.mq (by unfold sOwn; rw [if_pos ⟨g1, g2⟩])
      · exact absurd g c1
    · rcases g with ⟨g, _⟩ | ⟨_, g⟩
      · omega
      · obtain ⟨_, h2⟩ := (h2 : tr_d_X12_must__1 u A7)
        have f1 := hb.2.2.2
        rcases h2 with ⟨_, rfl⟩ | ⟨c2, _⟩
        · exact Or.inr ⟨f1, Or.inl (by unfold sOwn; rw [if_neg g])⟩
        · omega
  · have := h.ns
    omega
theorem X_wd {A u : St} {x : Int} (h : 1 ≤ A 0 8) (hq : q_X12_must_ x A u) : u = A := by
  rcases (hq.1 : tr_r_X12_must_ x A u) with ⟨c0, _⟩ | ⟨_, e⟩
  · omega
  · exact e
theorem M_num {f : Nat → Int} {N b p : Nat} {A u : St} {lo hi z : Int} (h : MS f N b p A) (hq : q_X12_number lo hi A z u) : MV f N b (sNum f N lo hi p) z u ∧ rq u A := by
  refine ⟨?_, hq.2.2.1.rq⟩
  have n2 : ∀ A8 : St, 1 ≤ A8 0 8 → d_X12_number_2 A z u A8 → u = A8 := by
    intro A8 h8 h2
    obtain ⟨_, h2⟩ := (h2 : tr_d_X12_number_2 A z u A8)
    rcases h2 with ⟨_, _, e⟩ | ⟨c, _⟩
    · exact e
    · omega
  rcases (hq.1 : tr_r_X12_number lo hi A z u) with ⟨_, h2⟩ | ⟨c0, _⟩
  · rcases h2 with ⟨c1, h2⟩ | ⟨c1, A4, hb, h2⟩
    · have tk : tKind f N p = 2 := by rw [← h.sg]; exact c1
      have hv : A 0 6 = nv f N p := h.rt.2.2.2.2.1 tk
      obtain ⟨_, h2⟩ := (h2 : tr_d_X12_number_1 lo hi A z u A)
      rcases h2 with ⟨c2, _⟩ | ⟨_, z12, hi2, h2⟩
      · exact absurd h.ns c2
      · have hi3 := hi2.2.2
        have hz := hi2.2.1
        rw [hv] at hi3
        rcases h2 with ⟨c3, h2⟩ | ⟨c3, A16, hb, h2⟩
        · obtain ⟨_, h2⟩ := (h2 : tr_d_X12_number_2 A z u A)
          rcases h2 with ⟨c2, _⟩ | ⟨_, A23, ha, hz2, rfl⟩
          · exact absurd h.ns c2
          · have := hi3.mp (by omega)
            exact (h.go.ahead ha).1.mv (v := nv f N p) (by unfold sNum; rw [if_pos ⟨tk, this.1, this.2⟩]) (fun _ => by rw [hz2, hv])
        · have f1 := hb.2.2.2
          rw [n2 A16 f1 h2]
          refine Or.inr ⟨f1, Or.inl ?_⟩
          unfold sNum
          rw [if_neg (fun g => by have := hi3.mpr g.2; omega)]
    · have f1 := hb.2.2.2
      obtain ⟨_, h2⟩ := (h2 : tr_d_X12_number_1 lo hi A z u A4)
      rcases h2 with ⟨_, h2⟩ | ⟨c2, _⟩
      · rw [n2 A4 f1 h2]
        refine Or.inr ⟨f1, Or.inl ?_⟩
        unfold sNum
        rw [if_neg (fun g => c1 (by rw [h.sg]; exact g.1))]
      · omega
  · have := h.ns
    omega
theorem X_num {A u : St} {lo hi z : Int} (h : 1 ≤ A 0 8) (hq : q_X12_number lo hi A z u) : u = A := by
  rcases (hq.1 : tr_r_X12_number lo hi A z u) with ⟨c0, _⟩ | ⟨_, _, e⟩
  · omega
  · exact e
def NKx (c : Int) (o : Nat) (g h : Nat → Int) : Prop := ∀ j : Nat, (j : Int) < c → WR (g (o + j)) (h j)
theorem NK_find {c x y : Int} {o : Nat} {g h : Nat → Int} (hn : NKx c o g h) (hw : WR x y) : fnd (fun k => g (o + k)) x c.toNat 0 = fnd h y c.toNat 0 := fnd_congr _ _ (fun k _ hk => (hn k (by omega)).inj hw)
def NK0 (b : Nat) (A T : St) : Prop := A 2 b = T 1 0 ∧ NKx (T 1 0) (8 * b) (A 3) (T 3)
theorem NK0.rq {b : Nat} {A u T : St} (h : NK0 b A T) (g : rq u A) : NK0 b u T := by
  unfold NK0
  rw [g 2 (by decide), g 3 (by decide)]
  exact h
theorem nmd_0 {b : Nat} {A T : St} {x x1 y z : Int} (hb : A 0 47 = (b : Int)) (hn : NK0 b A T) (hw : WR x y) (hq : q_X12_named_0 x1 x A z) : z = sFind T 0 y := by
  have e := hq.2.2.2
  have o1 : (8 * A 0 47).toNat = 8 * b := by rw [hb]; omega
  have o2 : (A 0 47).toNat = b := by rw [hb]; omega
  rw [o1, o2, lk_fnd, hn.1] at e
  rw [e]
  exact NK_find hn.2 hw
theorem M_ask_0 {f : Nat → Int} {N b p : Nat} {A u T : St} {x1 z : Int} (h : MS f N b p A) (hn : NK0 b A T) (hq : q_X12_asked_0 x1 A z u) : MV f N b (sAsk f N T 0 p) z u ∧ rq u A := by
  refine ⟨?_, hq.2.2.1.rq⟩
  have d5 : ∀ (z22 : Int) (A44 : St), 1 ≤ A44 0 8 → d_X12_asked_0_5 z22 z u A44 → u = A44 := by
    intro z22 A44 h8 h2
    obtain ⟨_, h2⟩ := (h2 : tr_d_X12_asked_0_5 z22 z u A44)
    rcases h2 with ⟨c, _⟩ | ⟨_, _, e⟩
    · omega
    · exact e
  have d4 : ∀ (z22 : Int) (A33 : St), 1 ≤ A33 0 8 → d_X12_asked_0_4 z22 z u A33 → u = A33 := by
    intro z22 A33 h8 h2
    obtain ⟨_, h2⟩ := (h2 : tr_d_X12_asked_0_4 z22 z u A33)
    rcases h2 with ⟨_, h2⟩ | ⟨c, _⟩
    · exact d5 z22 A33 h8 h2
    · omega
  have d1 : sAsk f N T 0 p = none → d_X12_asked_0_1 x1 A z u → MV f N b (sAsk f N T 0 p) z u := by
    intro hs h2
    obtain ⟨A10, hb, h2⟩ := (h2 : tr_d_X12_asked_0_1 x1 A z u)
    have f1 := hb.2.2.2
    obtain ⟨_, h2⟩ := (h2 : tr_d_X12_asked_0_2 x1 A z u A10)
    rcases h2 with ⟨c, _⟩ | ⟨_, h2⟩
    · omega
    · obtain ⟨_, h2⟩ := (h2 : tr_d_X12_asked_0_3 A A10 z u 0)
      rcases h2 with ⟨_, h2⟩ | ⟨c, _⟩
      · rw [d4 0 A10 f1 h2]
        exact Or.inr ⟨f1, Or.inl hs⟩
      · omega
  rcases (hq.1 : tr_r_X12_asked_0 x1 A z u) with ⟨_, h2⟩ | ⟨c0, _⟩
  · rcases h2 with ⟨c1, h2⟩ | ⟨c1, z5, ho, h2⟩
    · refine d1 ?_ h2
      unfold sAsk sName
      rw [if_neg (fun g => c1 (by rw [h.sg]; exact g.1))]
    · have tk : tKind f N p = 1 := by rw [← h.sg]; exact c1
      have g := h.own tk ho
      rcases h2 with ⟨c2, h2⟩ | ⟨c2, h2⟩
      · have ow : isOwn5 (wv f N p) = false := by
          rcases g with g | g
          · exact g.2
          · omega
        have sn : sName f N p = some (wv f N p, tEnd f N p) := by
          unfold sName
          rw [if_pos ⟨tk, ow⟩]
        have sa : sAsk f N T 0 p = if sFind T 0 (wv f N p) = -1 then none else some (sFind T 0 (wv f N p), tEnd f N p) := by
          unfold sAsk
          rw [sn]
        obtain ⟨_, h2⟩ := (h2 : tr_d_X12_asked_0_2 x1 A z u A)
        rcases h2 with ⟨_, z19, hm, h2⟩ | ⟨c, _⟩
        · have e := nmd_0 h.bk hn (h.word tk) hm
          rw [← e] at sa
          obtain ⟨_, h2⟩ := (h2 : tr_d_X12_asked_0_3 A A z u z19)
          rcases h2 with ⟨c, _⟩ | ⟨_, h2⟩
          · exact absurd h.ns c
          · rcases h2 with ⟨c3, h2⟩ | ⟨c3, A29, hb, h2⟩
            · rw [if_neg c3] at sa
              obtain ⟨_, h2⟩ := (h2 : tr_d_X12_asked_0_4 z19 z u A)
              rcases h2 with ⟨c, _⟩ | ⟨_, A38, ha, h2⟩
              · exact absurd h.ns c
              · obtain ⟨_, h2⟩ := (h2 : tr_d_X12_asked_0_5 z19 z u A38)
                have k1 := (h.go.ahead ha).1
                rcases h2 with ⟨c4, hz, rfl⟩ | ⟨c4, hz, rfl⟩
                · exact k1.mv sa (fun _ => hz)
                · exact k1.mv sa (fun g => by omega)
            · have f1 := hb.2.2.2
              rw [d4 z19 A29 f1 h2]
              exact Or.inr ⟨f1, Or.inl (by rw [sa, if_pos c3])⟩
        · have := h.ns
          omega
      · refine d1 ?_ h2
        have ow : isOwn5 (wv f N p) = true := by
          rcases g with g | g
          · exact absurd g.1 c2
          · exact g.2
        unfold sAsk sName
        rw [if_neg (fun g => by rw [ow] at g; exact absurd g.2 (by decide))]
  · have := h.ns
    omega
theorem X_ask_0 {A u : St} {x1 z : Int} (h : 1 ≤ A 0 8) (hq : q_X12_asked_0 x1 A z u) : u = A := by
  rcases (hq.1 : tr_r_X12_asked_0 x1 A z u) with ⟨c0, _⟩ | ⟨_, _, e⟩
  · omega
  · exact e
def NK1 (b : Nat) (A T : St) : Prop := A 4 b = T 1 1 ∧ NKx (T 1 1) (10 * b) (A 5) (T 4)
theorem NK1.rq {b : Nat} {A u T : St} (h : NK1 b A T) (g : rq u A) : NK1 b u T := by
  unfold NK1
  rw [g 4 (by decide), g 5 (by decide)]
  exact h
theorem nmd_1 {b : Nat} {A T : St} {x x1 y z : Int} (hb : A 0 47 = (b : Int)) (hn : NK1 b A T) (hw : WR x y) (hq : q_X12_named_1 x1 x A z) : z = sFind T 1 y := by
  have e := hq.2.2.2
  have o1 : (10 * A 0 47).toNat = 10 * b := by rw [hb]; omega
  have o2 : (A 0 47).toNat = b := by rw [hb]; omega
  rw [o1, o2, lk_fnd, hn.1] at e
  rw [e]
  exact NK_find hn.2 hw
theorem M_ask_1 {f : Nat → Int} {N b p : Nat} {A u T : St} {x1 z : Int} (h : MS f N b p A) (hn : NK1 b A T) (hq : q_X12_asked_1 x1 A z u) : MV f N b (sAsk f N T 1 p) z u ∧ rq u A := by
  refine ⟨?_, hq.2.2.1.rq⟩
  have d5 : ∀ (z22 : Int) (A44 : St), 1 ≤ A44 0 8 → d_X12_asked_1_5 z22 z u A44 → u = A44 := by
    intro z22 A44 h8 h2
    obtain ⟨_, h2⟩ := (h2 : tr_d_X12_asked_1_5 z22 z u A44)
    rcases h2 with ⟨c, _⟩ | ⟨_, _, e⟩
    · omega
    · exact e
  have d4 : ∀ (z22 : Int) (A33 : St), 1 ≤ A33 0 8 → d_X12_asked_1_4 z22 z u A33 → u = A33 := by
    intro z22 A33 h8 h2
    obtain ⟨_, h2⟩ := (h2 : tr_d_X12_asked_1_4 z22 z u A33)
    rcases h2 with ⟨_, h2⟩ | ⟨c, _⟩
    · exact d5 z22 A33 h8 h2
    · omega
  have d1 : sAsk f N T 1 p = none → d_X12_asked_1_1 x1 A z u → MV f N b (sAsk f N T 1 p) z u := by
    intro hs h2
    obtain ⟨A10, hb, h2⟩ := (h2 : tr_d_X12_asked_1_1 x1 A z u)
    have f1 := hb.2.2.2
    obtain ⟨_, h2⟩ := (h2 : tr_d_X12_asked_1_2 x1 A z u A10)
    rcases h2 with ⟨c, _⟩ | ⟨_, h2⟩
    · omega
    · obtain ⟨_, h2⟩ := (h2 : tr_d_X12_asked_1_3 A A10 z u 0)
      rcases h2 with ⟨_, h2⟩ | ⟨c, _⟩
      · rw [d4 0 A10 f1 h2]
        exact Or.inr ⟨f1, Or.inl hs⟩
      · omega
  rcases (hq.1 : tr_r_X12_asked_1 x1 A z u) with ⟨_, h2⟩ | ⟨c0, _⟩
  · rcases h2 with ⟨c1, h2⟩ | ⟨c1, z5, ho, h2⟩
    · refine d1 ?_ h2
      unfold sAsk sName
      rw [if_neg (fun g => c1 (by rw [h.sg]; exact g.1))]
    · have tk : tKind f N p = 1 := by rw [← h.sg]; exact c1
      have g := h.own tk ho
      rcases h2 with ⟨c2, h2⟩ | ⟨c2, h2⟩
      · have ow : isOwn5 (wv f N p) = false := by
          rcases g with g | g
          · exact g.2
          · omega
        have sn : sName f N p = some (wv f N p, tEnd f N p) := by
          unfold sName
          rw [if_pos ⟨tk, ow⟩]
        have sa : sAsk f N T 1 p = if sFind T 1 (wv f N p) = -1 then none else some (sFind T 1 (wv f N p), tEnd f N p) := by
          unfold sAsk
          rw [sn]
        obtain ⟨_, h2⟩ := (h2 : tr_d_X12_asked_1_2 x1 A z u A)
        rcases h2 with ⟨_, z19, hm, h2⟩ | ⟨c, _⟩
        · have e := nmd_1 h.bk hn (h.word tk) hm
          rw [← e] at sa
          obtain ⟨_, h2⟩ := (h2 : tr_d_X12_asked_1_3 A A z u z19)
          rcases h2 with ⟨c, _⟩ | ⟨_, h2⟩
          · exact absurd h.ns c
          · rcases h2 with ⟨c3, h2⟩ | ⟨c3, A29, hb, h2⟩
            · rw [if_neg c3] at sa
              obtain ⟨_, h2⟩ := (h2 : tr_d_X12_asked_1_4 z19 z u A)
              rcases h2 with ⟨c, _⟩ | ⟨_, A38, ha, h2⟩
              · exact absurd h.ns c
              · obtain ⟨_, h2⟩ := (h2 : tr_d_X12_asked_1_5 z19 z u A38)
                have k1 := (h.go.ahead ha).1
                rcases h2 with ⟨c4, hz, rfl⟩ | ⟨c4, hz, rfl⟩
                · exact k1.mv sa (fun _ => hz)
                · exact k1.mv sa (fun g => by omega)
            · have f1 := hb.2.2.2
              rw [d4 z19 A29 f1 h2]
              exact Or.inr ⟨f1, Or.inl (by rw [sa, if_pos c3])⟩
        · have := h.ns
          omega
      · refine d1 ?_ h2
        have ow : isOwn5 (wv f N p) = true := by
          rcases g with g | g
          · exact absurd g.1 c2
          · exact g.2
        unfold sAsk sName
        rw [if_neg (fun g => by rw [ow] at g; exact absurd g.2 (by decide))]
  · have := h.ns
    omega
theorem X_ask_1 {A u : St} {x1 z : Int} (h : 1 ≤ A 0 8) (hq : q_X12_asked_1 x1 A z u) : u = A := by
  rcases (hq.1 : tr_r_X12_asked_1 x1 A z u) with ⟨c0, _⟩ | ⟨_, _, e⟩
  · omega
  · exact e
def NK2 (b : Nat) (A T : St) : Prop := A 11 b = T 1 2 ∧ NKx (T 1 2) (4 * b) (A 12) (T 5)
theorem NK2.rq {b : Nat} {A u T : St} (h : NK2 b A T) (g : rq u A) : NK2 b u T := by
  unfold NK2
  rw [g 11 (by decide), g 12 (by decide)]
  exact h
theorem nmd_2 {b : Nat} {A T : St} {x x1 y z : Int} (hb : A 0 47 = (b : Int)) (hn : NK2 b A T) (hw : WR x y) (hq : q_X12_named_2 x1 x A z) : z = sFind T 2 y := by
  have e := hq.2.2.2
  have o1 : (4 * A 0 47).toNat = 4 * b := by rw [hb]; omega
  have o2 : (A 0 47).toNat = b := by rw [hb]; omega
  rw [o1, o2, lk_fnd, hn.1] at e
  rw [e]
  exact NK_find hn.2 hw
theorem M_ask_2 {f : Nat → Int} {N b p : Nat} {A u T : St} {x1 z : Int} (h : MS f N b p A) (hn : NK2 b A T) (hq : q_X12_asked_2 x1 A z u) : MV f N b (sAsk f N T 2 p) z u ∧ rq u A := by
  refine ⟨?_, hq.2.2.1.rq⟩
  have d5 : ∀ (z22 : Int) (A44 : St), 1 ≤ A44 0 8 → d_X12_asked_2_5 z22 z u A44 → u = A44 := by
    intro z22 A44 h8 h2
    obtain ⟨_, h2⟩ := (h2 : tr_d_X12_asked_2_5 z22 z u A44)
    rcases h2 with ⟨c, _⟩ | ⟨_, _, e⟩
    · omega
    · exact e
  have d4 : ∀ (z22 : Int) (A33 : St), 1 ≤ A33 0 8 → d_X12_asked_2_4 z22 z u A33 → u = A33 := by
    intro z22 A33 h8 h2
    obtain ⟨_, h2⟩ := (h2 : tr_d_X12_asked_2_4 z22 z u A33)
    rcases h2 with ⟨_, h2⟩ | ⟨c, _⟩
    · exact d5 z22 A33 h8 h2
    · omega
  have d1 : sAsk f N T 2 p = none → d_X12_asked_2_1 x1 A z u → MV f N b (sAsk f N T 2 p) z u := by
    intro hs h2
    obtain ⟨A10, hb, h2⟩ := (h2 : tr_d_X12_asked_2_1 x1 A z u)
    have f1 := hb.2.2.2
    obtain ⟨_, h2⟩ := (h2 : tr_d_X12_asked_2_2 x1 A z u A10)
    rcases h2 with ⟨c, _⟩ | ⟨_, h2⟩
    · omega
    · obtain ⟨_, h2⟩ := (h2 : tr_d_X12_asked_2_3 A A10 z u 0)
      rcases h2 with ⟨_, h2⟩ | ⟨c, _⟩
      · rw [d4 0 A10 f1 h2]
        exact Or.inr ⟨f1, Or.inl hs⟩
      · omega
  rcases (hq.1 : tr_r_X12_asked_2 x1 A z u) with ⟨_, h2⟩ | ⟨c0, _⟩
  · rcases h2 with ⟨c1, h2⟩ | ⟨c1, z5, ho, h2⟩
    · refine d1 ?_ h2
      unfold sAsk sName
      rw [if_neg (fun g => c1 (by rw [h.sg]; exact g.1))]
    · have tk : tKind f N p = 1 := by rw [← h.sg]; exact c1
      have g := h.own tk ho
      rcases h2 with ⟨c2, h2⟩ | ⟨c2, h2⟩
      · have ow : isOwn5 (wv f N p) = false := by
          rcases g with g | g
          · exact g.2
          · omega
        have sn : sName f N p = some (wv f N p, tEnd f N p) := by
          unfold sName
          rw [if_pos ⟨tk, ow⟩]
        have sa : sAsk f N T 2 p = if sFind T 2 (wv f N p) = -1 then none else some (sFind T 2 (wv f N p), tEnd f N p) := by
          unfold sAsk
          rw [sn]
        obtain ⟨_, h2⟩ := (h2 : tr_d_X12_asked_2_2 x1 A z u A)
        rcases h2 with ⟨_, z19, hm, h2⟩ | ⟨c, _⟩
        · have e := nmd_2 h.bk hn (h.word tk) hm
          rw [← e] at sa
          obtain ⟨_, h2⟩ := (h2 : tr_d_X12_asked_2_3 A A z u z19)
          rcases h2 with ⟨c, _⟩ | ⟨_, h2⟩
          · exact absurd h.ns c
          · rcases h2 with ⟨c3, h2⟩ | ⟨c3, A29, hb, h2⟩
            · rw [if_neg c3] at sa
              obtain ⟨_, h2⟩ := (h2 : tr_d_X12_asked_2_4 z19 z u A)
              rcases h2 with ⟨c, _⟩ | ⟨_, A38, ha, h2⟩
              · exact absurd h.ns c
              · obtain ⟨_, h2⟩ := (h2 : tr_d_X12_asked_2_5 z19 z u A38)
                have k1 := (h.go.ahead ha).1
                rcases h2 with ⟨c4, hz, rfl⟩ | ⟨c4, hz, rfl⟩
                · exact k1.mv sa (fun _ => hz)
                · exact k1.mv sa (fun g => by omega)
            · have f1 := hb.2.2.2
              rw [d4 z19 A29 f1 h2]
              exact Or.inr ⟨f1, Or.inl (by rw [sa, if_pos c3])⟩
        · have := h.ns
          omega
      · refine d1 ?_ h2
        have ow : isOwn5 (wv f N p) = true := by
          rcases g with g | g
          · exact absurd g.1 c2
          · exact g.2
        unfold sAsk sName
        rw [if_neg (fun g => by rw [ow] at g; exact absurd g.2 (by decide))]
  · have := h.ns
    omega
theorem X_ask_2 {A u : St} {x1 z : Int} (h : 1 ≤ A 0 8) (hq : q_X12_asked_2 x1 A z u) : u = A := by
  rcases (hq.1 : tr_r_X12_asked_2 x1 A z u) with ⟨c0, _⟩ | ⟨_, _, e⟩
  · omega
  · exact e
def NK3 (b : Nat) (A T : St) : Prop := A 16 b = T 1 3 ∧ NKx (T 1 3) (3 * b) (A 17) (T 6)
theorem NK3.rq {b : Nat} {A u T : St} (h : NK3 b A T) (g : rq u A) : NK3 b u T := by
  unfold NK3
  rw [g 16 (by decide), g 17 (by decide)]
  exact h
theorem nmd_3 {b : Nat} {A T : St} {x x1 y z : Int} (hb : A 0 47 = (b : Int)) (hn : NK3 b A T) (hw : WR x y) (hq : q_X12_named_3 x1 x A z) : z = sFind T 3 y := by
  have e := hq.2.2.2
  have o1 : (3 * A 0 47).toNat = 3 * b := by rw [hb]; omega
  have o2 : (A 0 47).toNat = b := by rw [hb]; omega
  rw [o1, o2, lk_fnd, hn.1] at e
  rw [e]
  exact NK_find hn.2 hw
theorem M_ask_3 {f : Nat → Int} {N b p : Nat} {A u T : St} {x1 z : Int} (h : MS f N b p A) (hn : NK3 b A T) (hq : q_X12_asked_3 x1 A z u) : MV f N b (sAsk f N T 3 p) z u ∧ rq u A := by
  refine ⟨?_, hq.2.2.1.rq⟩
  have d5 : ∀ (z22 : Int) (A44 : St), 1 ≤ A44 0 8 → d_X12_asked_3_5 z22 z u A44 → u = A44 := by
    intro z22 A44 h8 h2
    obtain ⟨_, h2⟩ := (h2 : tr_d_X12_asked_3_5 z22 z u A44)
    rcases h2 with ⟨c, _⟩ | ⟨_, _, e⟩
    · omega
    · exact e
  have d4 : ∀ (z22 : Int) (A33 : St), 1 ≤ A33 0 8 → d_X12_asked_3_4 z22 z u A33 → u = A33 := by
    intro z22 A33 h8 h2
    obtain ⟨_, h2⟩ := (h2 : tr_d_X12_asked_3_4 z22 z u A33)
    rcases h2 with ⟨_, h2⟩ | ⟨c, _⟩
    · exact d5 z22 A33 h8 h2
    · omega
  have d1 : sAsk f N T 3 p = none → d_X12_asked_3_1 x1 A z u → MV f N b (sAsk f N T 3 p) z u := by
    intro hs h2
    obtain ⟨A10, hb, h2⟩ := (h2 : tr_d_X12_asked_3_1 x1 A z u)
    have f1 := hb.2.2.2
    obtain ⟨_, h2⟩ := (h2 : tr_d_X12_asked_3_2 x1 A z u A10)
    rcases h2 with ⟨c, _⟩ | ⟨_, h2⟩
    · omega
    · obtain ⟨_, h2⟩ := (h2 : tr_d_X12_asked_3_3 A A10 z u 0)
      rcases h2 with ⟨_, h2⟩ | ⟨c, _⟩
      · rw [d4 0 A10 f1 h2]
        exact Or.inr ⟨f1, Or.inl hs⟩
      · omega
  rcases (hq.1 : tr_r_X12_asked_3 x1 A z u) with ⟨_, h2⟩ | ⟨c0, _⟩
  · rcases h2 with ⟨c1, h2⟩ | ⟨c1, z5, ho, h2⟩
    · refine d1 ?_ h2
      unfold sAsk sName
      rw [if_neg (fun g => c1 (by rw [h.sg]; exact g.1))]
    · have tk : tKind f N p = 1 := by rw [← h.sg]; exact c1
      have g := h.own tk ho
      rcases h2 with ⟨c2, h2⟩ | ⟨c2, h2⟩
      · have ow : isOwn5 (wv f N p) = false := by
          rcases g with g | g
          · exact g.2
          · omega
        have sn : sName f N p = some (wv f N p, tEnd f N p) := by
          unfold sName
          rw [if_pos ⟨tk, ow⟩]
        have sa : sAsk f N T 3 p = if sFind T 3 (wv f N p) = -1 then none else some (sFind T 3 (wv f N p), tEnd f N p) := by
          unfold sAsk
          rw [sn]
        obtain ⟨_, h2⟩ := (h2 : tr_d_X12_asked_3_2 x1 A z u A)
        rcases h2 with ⟨_, z19, hm, h2⟩ | ⟨c, _⟩
        · have e := nmd_3 h.bk hn (h.word tk) hm
          rw [← e] at sa
          obtain ⟨_, h2⟩ := (h2 : tr_d_X12_asked_3_3 A A z u z19)
          rcases h2 with ⟨c, _⟩ | ⟨_, h2⟩
          · exact absurd h.ns c
          · rcases h2 with ⟨c3, h2⟩ | ⟨c3, A29, hb, h2⟩
            · rw [if_neg c3] at sa
              obtain ⟨_, h2⟩ := (h2 : tr_d_X12_asked_3_4 z19 z u A)
              rcases h2 with ⟨c, _⟩ | ⟨_, A38, ha, h2⟩
              · exact absurd h.ns c
              · obtain ⟨_, h2⟩ := (h2 : tr_d_X12_asked_3_5 z19 z u A38)
                have k1 := (h.go.ahead ha).1
                rcases h2 with ⟨c4, hz, rfl⟩ | ⟨c4, hz, rfl⟩
                · exact k1.mv sa (fun _ => hz)
                · exact k1.mv sa (fun g => by omega)
            · have f1 := hb.2.2.2
              rw [d4 z19 A29 f1 h2]
              exact Or.inr ⟨f1, Or.inl (by rw [sa, if_pos c3])⟩
        · have := h.ns
          omega
      · refine d1 ?_ h2
        have ow : isOwn5 (wv f N p) = true := by
          rcases g with g | g
          · exact absurd g.1 c2
          · exact g.2
        unfold sAsk sName
        rw [if_neg (fun g => by rw [ow] at g; exact absurd g.2 (by decide))]
  · have := h.ns
    omega
theorem X_ask_3 {A u : St} {x1 z : Int} (h : 1 ≤ A 0 8) (hq : q_X12_asked_3 x1 A z u) : u = A := by
  rcases (hq.1 : tr_r_X12_asked_3 x1 A z u) with ⟨c0, _⟩ | ⟨_, _, e⟩
  · omega
  · exact e
def NK4 (b : Nat) (A T : St) : Prop := A 19 b = T 1 4 ∧ NKx (T 1 4) (4 * b) (A 20) (T 7)
theorem NK4.rq {b : Nat} {A u T : St} (h : NK4 b A T) (g : rq u A) : NK4 b u T := by
  unfold NK4
  rw [g 19 (by decide), g 20 (by decide)]
  exact h
theorem nmd_4 {b : Nat} {A T : St} {x x1 y z : Int} (hb : A 0 47 = (b : Int)) (hn : NK4 b A T) (hw : WR x y) (hq : q_X12_named_4 x1 x A z) : z = sFind T 4 y := by
  have e := hq.2.2.2
  have o1 : (4 * A 0 47).toNat = 4 * b := by rw [hb]; omega
  have o2 : (A 0 47).toNat = b := by rw [hb]; omega
  rw [o1, o2, lk_fnd, hn.1] at e
  rw [e]
  exact NK_find hn.2 hw
theorem M_ask_4 {f : Nat → Int} {N b p : Nat} {A u T : St} {x1 z : Int} (h : MS f N b p A) (hn : NK4 b A T) (hq : q_X12_asked_4 x1 A z u) : MV f N b (sAsk f N T 4 p) z u ∧ rq u A := by
  refine ⟨?_, hq.2.2.1.rq⟩
  have d5 : ∀ (z22 : Int) (A44 : St), 1 ≤ A44 0 8 → d_X12_asked_4_5 z22 z u A44 → u = A44 := by
    intro z22 A44 h8 h2
    obtain ⟨_, h2⟩ := (h2 : tr_d_X12_asked_4_5 z22 z u A44)
    rcases h2 with ⟨c, _⟩ | ⟨_, _, e⟩
    · omega
    · exact e
  have d4 : ∀ (z22 : Int) (A33 : St), 1 ≤ A33 0 8 → d_X12_asked_4_4 z22 z u A33 → u = A33 := by
    intro z22 A33 h8 h2
    obtain ⟨_, h2⟩ := (h2 : tr_d_X12_asked_4_4 z22 z u A33)
    rcases h2 with ⟨_, h2⟩ | ⟨c, _⟩
    · exact d5 z22 A33 h8 h2
    · omega
  have d1 : sAsk f N T 4 p = none → d_X12_asked_4_1 x1 A z u → MV f N b (sAsk f N T 4 p) z u := by
    intro hs h2
    obtain ⟨A10, hb, h2⟩ := (h2 : tr_d_X12_asked_4_1 x1 A z u)
    have f1 := hb.2.2.2
    obtain ⟨_, h2⟩ := (h2 : tr_d_X12_asked_4_2 x1 A z u A10)
    rcases h2 with ⟨c, _⟩ | ⟨_, h2⟩
    · omega
    · obtain ⟨_, h2⟩ := (h2 : tr_d_X12_asked_4_3 A A10 z u 0)
      rcases h2 with ⟨_, h2⟩ | ⟨c, _⟩
      · rw [d4 0 A10 f1 h2]
        exact Or.inr ⟨f1, Or.inl hs⟩
      · omega
  rcases (hq.1 : tr_r_X12_asked_4 x1 A z u) with ⟨_, h2⟩ | ⟨c0, _⟩
  · rcases h2 with ⟨c1, h2⟩ | ⟨c1, z5, ho, h2⟩
    · refine d1 ?_ h2
      unfold sAsk sName
      rw [if_neg (fun g => c1 (by rw [h.sg]; exact g.1))]
    · have tk : tKind f N p = 1 := by rw [← h.sg]; exact c1
      have g := h.own tk ho
      rcases h2 with ⟨c2, h2⟩ | ⟨c2, h2⟩
      · have ow : isOwn5 (wv f N p) = false := by
          rcases g with g | g
          · exact g.2
          · omega
        have sn : sName f N p = some (wv f N p, tEnd f N p) := by
          unfold sName
          rw [if_pos ⟨tk, ow⟩]
        have sa : sAsk f N T 4 p = if sFind T 4 (wv f N p) = -1 then none else some (sFind T 4 (wv f N p), tEnd f N p) := by
          unfold sAsk
          rw [sn]
        obtain ⟨_, h2⟩ := (h2 : tr_d_X12_asked_4_2 x1 A z u A)
        rcases h2 with ⟨_, z19, hm, h2⟩ | ⟨c, _⟩
        · have e := nmd_4 h.bk hn (h.word tk) hm
          rw [← e] at sa
          obtain ⟨_, h2⟩ := (h2 : tr_d_X12_asked_4_3 A A z u z19)
          rcases h2 with ⟨c, _⟩ | ⟨_, h2⟩
          · exact absurd h.ns c
          · rcases h2 with ⟨c3, h2⟩ | ⟨c3, A29, hb, h2⟩
            · rw [if_neg c3] at sa
              obtain ⟨_, h2⟩ := (h2 : tr_d_X12_asked_4_4 z19 z u A)
              rcases h2 with ⟨c, _⟩ | ⟨_, A38, ha, h2⟩
              · exact absurd h.ns c
              · obtain ⟨_, h2⟩ := (h2 : tr_d_X12_asked_4_5 z19 z u A38)
                have k1 := (h.go.ahead ha).1
                rcases h2 with ⟨c4, hz, rfl⟩ | ⟨c4, hz, rfl⟩
                · exact k1.mv sa (fun _ => hz)
                · exact k1.mv sa (fun g => by omega)
            · have f1 := hb.2.2.2
              rw [d4 z19 A29 f1 h2]
              exact Or.inr ⟨f1, Or.inl (by rw [sa, if_pos c3])⟩
        · have := h.ns
          omega
      · refine d1 ?_ h2
        have ow : isOwn5 (wv f N p) = true := by
          rcases g with g | g
          · exact absurd g.1 c2
          · exact g.2
        unfold sAsk sName
        rw [if_neg (fun g => by rw [ow] at g; exact absurd g.2 (by decide))]
  · have := h.ns
    omega
theorem X_ask_4 {A u : St} {x1 z : Int} (h : 1 ≤ A 0 8) (hq : q_X12_asked_4 x1 A z u) : u = A := by
  rcases (hq.1 : tr_r_X12_asked_4 x1 A z u) with ⟨c0, _⟩ | ⟨_, _, e⟩
  · omega
  · exact e
/-! The reference's new names, spots, and what is barred. -/
theorem nmx_0 {b : Nat} {A T : St} {x y z : Int} (hb : A 0 47 = (b : Int)) (hn : NK0 b A T) (hw : WR x y) (hq : q_X12_named 0 x A z) : z = sFind T 0 y := by
  rcases (hq.1 : tr_r_X12_named 0 x A z) with ⟨_, z2, hz2, nn, h⟩ | ⟨c, _⟩ | ⟨c, _⟩ | ⟨c, _⟩ | ⟨c, _⟩
  · have e : z = fnd (fun j => A 3 (8 * b + j)) x z2.toNat 0 := by
      refine fnd_loop (c := z2) (g := fun j => A 3 (8 * b + j)) (d_X12_named_1 x z2 A z) (fun _ h => h) (fun n i h => ?_) nn 0 h
      obtain ⟨hi, h⟩ := (h : tr_d_X12_named_1 x z2 A z (fun z3 => d_X12_named_1 x z2 A z n z3) i)
      rcases h with h | ⟨c, z11, hnm, z14, h14, h⟩
      · exact Or.inl h
      rcases (hnm.1 : tr_r_X12_nameOf (A 0 47) 0 i A z11) with ⟨cc, _⟩ | ⟨_, z3, h3, h4⟩ | ⟨cc, _⟩ | ⟨cc, _⟩ | ⟨cc, _⟩
      · omega
      · have e2 : z11 = A 3 (8 * b + i.toNat) := by rw [h4, h3, hb, show (8 * (b : Int) + i).toNat = 8 * b + i.toNat by omega]
        rcases h with ⟨c3, h⟩ | ⟨c3, h⟩
        · exact Or.inr ⟨c, Or.inl ⟨fun g => c3 (h14.2.1.mpr (e2.trans g)), h⟩⟩
        · exact Or.inr ⟨c, Or.inr ⟨e2.symm.trans (h14.2.1.mp c3), h⟩⟩
      · omega
      · omega
      · omega
    rw [hb, Int.toNat_natCast, hn.1] at hz2
    rw [e, hz2]
    exact NK_find hn.2 hw
  · omega
  · omega
  · omega
  · omega
theorem nmx_1 {b : Nat} {A T : St} {x y z : Int} (hb : A 0 47 = (b : Int)) (hn : NK1 b A T) (hw : WR x y) (hq : q_X12_named 1 x A z) : z = sFind T 1 y := by
  rcases (hq.1 : tr_r_X12_named 1 x A z) with ⟨c, _⟩ | ⟨_, z2, hz2, nn, h⟩ | ⟨c, _⟩ | ⟨c, _⟩ | ⟨c, _⟩
  · omega
  · have e : z = fnd (fun j => A 5 (10 * b + j)) x z2.toNat 0 := by
      refine fnd_loop (c := z2) (g := fun j => A 5 (10 * b + j)) (d_X12_named_2 x z2 A z) (fun _ h => h) (fun n i h => ?_) nn 0 h
      obtain ⟨hi, h⟩ := (h : tr_d_X12_named_2 x z2 A z (fun z3 => d_X12_named_2 x z2 A z n z3) i)
      rcases h with h | ⟨c, z11, hnm, z14, h14, h⟩
      · exact Or.inl h
      rcases (hnm.1 : tr_r_X12_nameOf (A 0 47) 1 i A z11) with ⟨cc, _⟩ | ⟨cc, _⟩ | ⟨_, z3, h3, h4⟩ | ⟨cc, _⟩ | ⟨cc, _⟩
      · omega
      · omega
      · have e2 : z11 = A 5 (10 * b + i.toNat) := by rw [h4, h3, hb, show (10 * (b : Int) + i).toNat = 10 * b + i.toNat by omega]
        rcases h with ⟨c3, h⟩ | ⟨c3, h⟩
        · exact Or.inr ⟨c, Or.inl ⟨fun g => c3 (h14.2.1.mpr (e2.trans g)), h⟩⟩
        · exact Or.inr ⟨c, Or.inr ⟨e2.symm.trans (h14.2.1.mp c3), h⟩⟩
      · omega
      · omega
    rw [hb, Int.toNat_natCast, hn.1] at hz2
    rw [e, hz2]
    exact NK_find hn.2 hw
  · omega
  · omega
  · omega
theorem nmx_2 {b : Nat} {A T : St} {x y z : Int} (hb : A 0 47 = (b : Int)) (hn : NK2 b A T) (hw : WR x y) (hq : q_X12_named 2 x A z) : z = sFind T 2 y := by
  rcases (hq.1 : tr_r_X12_named 2 x A z) with ⟨c, _⟩ | ⟨c, _⟩ | ⟨_, z2, hz2, nn, h⟩ | ⟨c, _⟩ | ⟨c, _⟩
  · omega
  · omega
  · have e : z = fnd (fun j => A 12 (4 * b + j)) x z2.toNat 0 := by
      refine fnd_loop (c := z2) (g := fun j => A 12 (4 * b + j)) (d_X12_named_3 x z2 A z) (fun _ h => h) (fun n i h => ?_) nn 0 h
      obtain ⟨hi, h⟩ := (h : tr_d_X12_named_3 x z2 A z (fun z3 => d_X12_named_3 x z2 A z n z3) i)
      rcases h with h | ⟨c, z11, hnm, z14, h14, h⟩
      · exact Or.inl h
      rcases (hnm.1 : tr_r_X12_nameOf (A 0 47) 2 i A z11) with ⟨cc, _⟩ | ⟨cc, _⟩ | ⟨cc, _⟩ | ⟨_, z3, h3, h4⟩ | ⟨cc, _⟩
      · omega
      · omega
      · omega
      · have e2 : z11 = A 12 (4 * b + i.toNat) := by rw [h4, h3, hb, show (4 * (b : Int) + i).toNat = 4 * b + i.toNat by omega]
        rcases h with ⟨c3, h⟩ | ⟨c3, h⟩
        · exact Or.inr ⟨c, Or.inl ⟨fun g => c3 (h14.2.1.mpr (e2.trans g)), h⟩⟩
        · exact Or.inr ⟨c, Or.inr ⟨e2.symm.trans (h14.2.1.mp c3), h⟩⟩
      · omega
    rw [hb, Int.toNat_natCast, hn.1] at hz2
    rw [e, hz2]
    exact NK_find hn.2 hw
  · omega
  · omega
theorem nmx_3 {b : Nat} {A T : St} {x y z : Int} (hb : A 0 47 = (b : Int)) (hn : NK3 b A T) (hw : WR x y) (hq : q_X12_named 3 x A z) : z = sFind T 3 y := by
  rcases (hq.1 : tr_r_X12_named 3 x A z) with ⟨c, _⟩ | ⟨c, _⟩ | ⟨c, _⟩ | ⟨_, z2, hz2, nn, h⟩ | ⟨c, _⟩
  · omega
  · omega
  · omega
  · have e : z = fnd (fun j => A 17 (3 * b + j)) x z2.toNat 0 := by
      refine fnd_loop (c := z2) (g := fun j => A 17 (3 * b + j)) (d_X12_named_4 x z2 A z) (fun _ h => h) (fun n i h => ?_) nn 0 h
      obtain ⟨hi, h⟩ := (h : tr_d_X12_named_4 x z2 A z (fun z3 => d_X12_named_4 x z2 A z n z3) i)
      rcases h with h | ⟨c, z11, hnm, z14, h14, h⟩
      · exact Or.inl h
      rcases (hnm.1 : tr_r_X12_nameOf (A 0 47) 3 i A z11) with ⟨cc, _⟩ | ⟨cc, _⟩ | ⟨cc, _⟩ | ⟨cc, _⟩ | ⟨_, z3, h3, h4⟩
      · omega
      · omega
      · omega
      · omega
      · have e2 : z11 = A 17 (3 * b + i.toNat) := by rw [h4, h3, hb, show (3 * (b : Int) + i).toNat = 3 * b + i.toNat by omega]
        rcases h with ⟨c3, h⟩ | ⟨c3, h⟩
        · exact Or.inr ⟨c, Or.inl ⟨fun g => c3 (h14.2.1.mpr (e2.trans g)), h⟩⟩
        · exact Or.inr ⟨c, Or.inr ⟨e2.symm.trans (h14.2.1.mp c3), h⟩⟩
    rw [hb, Int.toNat_natCast, hn.1] at hz2
    rw [e, hz2]
    exact NK_find hn.2 hw
  · omega
theorem nmx_4 {b : Nat} {A T : St} {x y z : Int} (hb : A 0 47 = (b : Int)) (hn : NK4 b A T) (hw : WR x y) (hq : q_X12_named 4 x A z) : z = sFind T 4 y := by
  rcases (hq.1 : tr_r_X12_named 4 x A z) with ⟨c, _⟩ | ⟨c, _⟩ | ⟨c, _⟩ | ⟨c, _⟩ | ⟨_, z2, hz2, nn, h⟩
  · omega
  · omega
  · omega
  · omega
  · have e : z = fnd (fun j => A 20 (4 * b + j)) x z2.toNat 0 := by
      refine fnd_loop (c := z2) (g := fun j => A 20 (4 * b + j)) (d_X12_named_5 x z2 A z) (fun _ h => h) (fun n i h => ?_) nn 0 h
      obtain ⟨hi, h⟩ := (h : tr_d_X12_named_5 x z2 A z (fun z3 => d_X12_named_5 x z2 A z n z3) i)
      rcases h with h | ⟨c, z11, hnm, z14, h14, h⟩
      · exact Or.inl h
      rcases (hnm.1 : tr_r_X12_nameOf (A 0 47) 4 i A z11) with ⟨_, z3, h3, h4⟩ | ⟨cc, _⟩ | ⟨cc, _⟩ | ⟨cc, _⟩ | ⟨cc, _⟩
      · have e2 : z11 = A 20 (4 * b + i.toNat) := by rw [h4, h3, hb, show (4 * (b : Int) + i).toNat = 4 * b + i.toNat by omega]
        rcases h with ⟨c3, h⟩ | ⟨c3, h⟩
        · exact Or.inr ⟨c, Or.inl ⟨fun g => c3 (h14.2.1.mpr (e2.trans g)), h⟩⟩
        · exact Or.inr ⟨c, Or.inr ⟨e2.symm.trans (h14.2.1.mp c3), h⟩⟩
      · omega
      · omega
      · omega
      · omega
    rw [hb, Int.toNat_natCast, hn.1] at hz2
    rw [e, hz2]
    exact NK_find hn.2 hw
def NKA (b : Nat) (A T : St) : Prop := NK0 b A T ∧ NK1 b A T ∧ NK2 b A T ∧ NK3 b A T ∧ NK4 b A T
theorem NKA.rq {b : Nat} {A u T : St} (h : NKA b A T) (g : rq u A) : NKA b u T := ⟨h.1.rq g, h.2.1.rq g, h.2.2.1.rq g, h.2.2.2.1.rq g, h.2.2.2.2.rq g⟩
theorem nmx {b k : Nat} {A T : St} {x y z : Int} (hk : k < 5) (hb : A 0 47 = (b : Int)) (hn : NKA b A T) (hw : WR x y) (hq : q_X12_named (k : Int) x A z) : z = sFind T k y := by
  rcases (show k = 0 ∨ k = 1 ∨ k = 2 ∨ k = 3 ∨ k = 4 by omega) with rfl | rfl | rfl | rfl | rfl
  · exact nmx_0 hb hn.1 hw hq
  · exact nmx_1 hb hn.2.1 hw hq
  · exact nmx_2 hb hn.2.2.1 hw hq
  · exact nmx_3 hb hn.2.2.2.1 hw hq
  · exact nmx_4 hb hn.2.2.2.2 hw hq
def MW (f : Nat → Int) (N b : Nat) (r : Option (Int × Nat)) (z : Int) (u : St) : Prop := (u 0 8 = 0 ∧ ∃ a, r = some a ∧ WR z a.1 ∧ MS f N b a.2 u) ∨ (1 ≤ u 0 8 ∧ Bad f N r)
theorem M_fresh {f : Nat → Int} {N b p : Nat} {A u T : St} {z : Int} (h : MS f N b p A) (hn : NKA b A T) (hq : q_X12_fresh A z u) : MW f N b (sNew f N T p) z u ∧ rq u A := by
  refine ⟨?_, hq.2.2.1.rq⟩
  have d5 : ∀ (A18 : St), 1 ≤ A18 0 8 → d_X12_fresh_5 A A18 z u → u = A18 := by
    intro A18 h8 h2
    rcases (h2 : tr_d_X12_fresh_5 A A18 z u) with ⟨_, _, e⟩ | ⟨c, _⟩
    · exact e
    · omega
  have d3 : ∀ (nn : Nat) (i : Int) (A18 : St), 1 ≤ A18 0 8 → d_X12_fresh_3 A z u nn i A18 → u = A18 := by
    intro nn i A18 h8 h2
    cases nn with
    | zero => exact h2.elim
    | succ nn =>
      obtain ⟨_, _, h2⟩ := (h2 : tr_d_X12_fresh_3 A z u (fun z16 A18 => d_X12_fresh_3 A z u nn z16 A18) i A18)
      rcases h2 with ⟨_, h2⟩ | ⟨_, h2⟩
      · exact d5 A18 h8 h2
      · rcases h2 with ⟨_, h2⟩ | ⟨c, _⟩
        · exact d5 A18 h8 h2
        · omega
  have d1 : sNew f N T p = none → d_X12_fresh_1 A z u → MW f N b (sNew f N T p) z u := by
    intro hs h2
    obtain ⟨A10, hb, h2⟩ := (h2 : tr_d_X12_fresh_1 A z u)
    have f1 := hb.2.2.2
    obtain ⟨_, nn, h2⟩ := (h2 : tr_d_X12_fresh_2 A z u A10)
    rw [d3 nn 0 A10 f1 h2]
    exact Or.inr ⟨f1, Or.inl hs⟩
  rcases (hq.1 : tr_r_X12_fresh A z u) with ⟨_, h2⟩ | ⟨c0, _⟩
  · rcases h2 with ⟨c1, h2⟩ | ⟨c1, z5, ho, h2⟩
    · refine d1 ?_ h2
      unfold sNew sName
      rw [if_neg (fun g => c1 (by rw [h.sg]; exact g.1))]
    · have tk : tKind f N p = 1 := by rw [← h.sg]; exact c1
      have g := h.own tk ho
      rcases h2 with ⟨c2, h2⟩ | ⟨c2, h2⟩
      · have ow : isOwn5 (wv f N p) = false := by
          rcases g with g | g
          · exact g.2
          · omega
        have sn : sName f N p = some (wv f N p, tEnd f N p) := by
          unfold sName
          rw [if_pos ⟨tk, ow⟩]
        have sa : sNew f N T p = if sFind T 0 (wv f N p) = -1 ∧ sFind T 1 (wv f N p) = -1 ∧ sFind T 2 (wv f N p) = -1 ∧ sFind T 3 (wv f N p) = -1 ∧ sFind T 4 (wv f N p) = -1 then some (wv f N p, tEnd f N p) else none := by
          unfold sNew
          rw [sn]
        obtain ⟨_, nn, h2⟩ := (h2 : tr_d_X12_fresh_2 A z u A)
        have lp : ∀ n (i : Nat), i ≤ 5 → (∀ k, k < i → sFind T k (wv f N p) = -1) → d_X12_fresh_3 A z u n (i : Int) A → (∃ k, k < 5 ∧ sFind T k (wv f N p) ≠ -1 ∧ 1 ≤ u 0 8) ∨ ((∀ k, k < 5 → sFind T k (wv f N p) = -1) ∧ z = A 0 7 ∧ q_X12_ahead A u) := by
          intro n
          induction n with
          | zero => intro i _ _ h; exact h.elim
          | succ n ih =>
            intro i hi hk h2
            obtain ⟨_, _, h2⟩ := (h2 : tr_d_X12_fresh_3 A z u (fun z16 A18 => d_X12_fresh_3 A z u n z16 A18) i A)
            have fin : (∀ k, k < 5 → sFind T k (wv f N p) = -1) → d_X12_fresh_5 A A z u → (∃ k, k < 5 ∧ sFind T k (wv f N p) ≠ -1 ∧ 1 ≤ u 0 8) ∨ ((∀ k, k < 5 → sFind T k (wv f N p) = -1) ∧ z = A 0 7 ∧ q_X12_ahead A u) := by
              intro hk h2
              rcases (h2 : tr_d_X12_fresh_5 A A z u) with ⟨c, _⟩ | ⟨_, A41, ha, hz, hu⟩
              · exact absurd h.ns c
              · exact Or.inr ⟨hk, hz, by rw [hu]; exact ha⟩
            rcases h2 with ⟨c3, h2⟩ | ⟨c3, h2⟩
            · exact fin (fun k hk2 => hk k (by omega)) h2
            · rcases h2 with ⟨c, _⟩ | ⟨_, z28, hm, h2⟩
              · exact absurd h.ns c
              · have e := nmx (k := i) (by omega) h.bk hn (h.word tk) hm
                rcases h2 with ⟨c4, h2⟩ | ⟨c4, A33, hb, h2⟩
                · obtain ⟨_, h2⟩ := (h2 : tr_d_X12_fresh_4 (fun z16 A18 => d_X12_fresh_3 A z u n z16 A18) i z u A)
                  refine ih (i + 1) (by omega) (fun k hk2 => ?_) h2
                  by_cases e2 : k = i
                  · rw [e2, ← e]; exact c4
                  · exact hk k (by omega)
                · have f1 := hb.2.2.2
                  obtain ⟨_, h2⟩ := (h2 : tr_d_X12_fresh_4 (fun z16 A18 => d_X12_fresh_3 A z u n z16 A18) i z u A33)
                  have eu := d3 n (i + 1) A33 f1 h2
                  exact Or.inl ⟨i, by omega, by rw [← e]; exact c4, by rw [eu]; exact f1⟩
        rcases lp nn 0 (by omega) (fun k hk => absurd hk (by omega)) h2 with ⟨k, hk, g, g8⟩ | ⟨g, hz, ha⟩
        · refine Or.inr ⟨g8, Or.inl ?_⟩
          rw [sa, if_neg (fun g2 => by
            rcases (show k = 0 ∨ k = 1 ∨ k = 2 ∨ k = 3 ∨ k = 4 by omega) with rfl | rfl | rfl | rfl | rfl
            · exact g g2.1
            · exact g g2.2.1
            · exact g g2.2.2.1
            · exact g g2.2.2.2.1
            · exact g g2.2.2.2.2)]
        · rw [if_pos ⟨g 0 (by decide), g 1 (by decide), g 2 (by decide), g 3 (by decide), g 4 (by decide)⟩] at sa
          rcases (h.go.ahead ha).1 with ⟨k4, k8⟩ | ⟨k8, ks⟩
          · exact Or.inr ⟨k8, Or.inr ⟨_, sa, k4⟩⟩
          · exact Or.inl ⟨k8, _, sa, by rw [hz]; exact h.word tk, ks⟩
      · refine d1 ?_ h2
        have ow : isOwn5 (wv f N p) = true := by
          rcases g with g | g
          · exact absurd g.1 c2
          · exact g.2
        unfold sNew sName
        rw [if_neg (fun g => by rw [ow] at g; exact absurd g.2 (by decide))]
  · have := h.ns
    omega
/-- no word names a place and a door -/
def TD (T : St) : Prop := ∀ w, sFind T 0 w = -1 ∨ sFind T 1 w = -1
/-- the doors' boxes -/
def NB (b : Nat) (A T : St) : Prop := ∀ k : Nat, (k : Int) < T 1 1 → (A 8 (10 * b + k) = 0 ↔ T 10 k ≠ 0)
theorem NB.rq {b : Nat} {A u T : St} (h : NB b A T) (g : rq u A) : NB b u T := by
  unfold NB
  rw [g 8 (by decide)]
  exact h
def sIn (f : Nat → Int) (N : Nat) (T : St) (p : Nat) : Option (Int × Nat) := (sOwn f N 13 p).bind fun e => sSpot f N T e
theorem X_within {A u : St} {z : Int} (h : 1 ≤ A 0 8) (hq : q_X12_within A z u) : u = A := by
  obtain ⟨A1, hw, h2⟩ := (hq.1 : tr_r_X12_within A z u)
  have e := X_wd h hw
  subst e
  rcases h2 with ⟨c, _⟩ | ⟨_, _, e⟩
  · omega
  · exact e
theorem M_within {f : Nat → Int} {N b p : Nat} {A u T : St} {z : Int} (h : MS f N b p A) (hn0 : NK0 b A T) (hn1 : NK1 b A T) (hB : NB b A T) (hT : TD T) (hq : q_X12_within A z u) : MV f N b (sIn f N T p) z u ∧ rq u A := by
  refine ⟨?_, hq.2.2.1.rq⟩
  obtain ⟨A1, hw, h2⟩ := (hq.1 : tr_r_X12_within A z u)
  obtain ⟨g, q1⟩ := M_wd (k := 13) (by decide) rfl h hw
  have e47 : A 0 47 = (b : Int) := h.bk
  rcases g with ⟨g8, e, se, hs⟩ | ⟨g8, gb⟩
  · have si : sIn f N T p = sSpot f N T e := by unfold sIn; rw [se]; rfl
    have k0 := hn0.rq q1
    have k1 := hn1.rq q1
    have kB := hB.rq q1
    rw [si]
    have d3 : (sName f N e = none ∨ ∃ w e2, sName f N e = some (w, e2) ∧ ¬ (sFind T 1 w ≠ -1 ∧ T 10 (sFind T 1 w).toNat = 0)) → d_X12_within_3 A1 z u → MV f N b (sSpot f N T e) z u := by
      intro hs2 h2
      obtain ⟨z30, A31, hak, hz, rfl⟩ := (h2 : tr_d_X12_within_3 A1 z u)
      have ma := (M_ask_0 hs k0 hak).1
      rcases hs2 with hs2 | ⟨w, e2, hs2, hnb⟩
      · have sa : sAsk f N T 0 e = none := by unfold sAsk; rw [hs2]
        have ss : sSpot f N T e = none := by unfold sSpot; rw [hs2]
        rw [ss]
        rcases ma with ⟨_, a, ha, _⟩ | ⟨m8, _⟩
        · rw [sa] at ha; exact absurd ha (by simp)
        · exact Or.inr ⟨m8, Or.inl rfl⟩
      · have sa : sAsk f N T 0 e = if sFind T 0 w = -1 then none else some (sFind T 0 w, e2) := by unfold sAsk; rw [hs2]
        have ss : sSpot f N T e = if sFind T 0 w ≠ -1 then some (sFind T 0 w + 10, e2) else none := by
          unfold sSpot
          rw [hs2]
          show (if sFind T 0 w ≠ -1 then some (sFind T 0 w + 10, e2) else if sFind T 1 w ≠ -1 ∧ T 10 (sFind T 1 w).toNat = 0 then some (sFind T 1 w + 20, e2) else none) = _
          rw [if_neg hnb]
        by_cases g0 : sFind T 0 w = -1
        · rw [if_pos g0] at sa
          rw [if_neg (fun g => g g0)] at ss
          rw [ss]
          rcases ma with ⟨_, a, ha, _⟩ | ⟨m8, _⟩
          · rw [sa] at ha; exact absurd ha (by simp)
          · exact Or.inr ⟨m8, Or.inl rfl⟩
        · rw [if_neg g0] at sa
          rw [if_pos g0] at ss
          rw [ss]
          rw [sa] at ma
          rcases ma with ⟨m8, a, ha, hz2, ms⟩ | ⟨m8, mb⟩
          · have ha := Option.some.inj ha
            subst ha
            exact Or.inl ⟨m8, _, rfl, by rw [hz, hz2], ms⟩
          · rcases mb with mb | ⟨a, ha, mb⟩
            · exact absurd mb (by simp)
            · have ha := Option.some.inj ha
              subst ha
              exact Or.inr ⟨m8, Or.inr ⟨_, rfl, mb⟩⟩
    have d1 : sName f N e = none → d_X12_within_1 A A1 z u → MV f N b (sSpot f N T e) z u := by
      intro hs2 h2
      obtain ⟨_, h2⟩ := (h2 : tr_d_X12_within_2 A A1 z u (-1))
      rcases h2 with ⟨_, h2⟩ | ⟨c, _⟩
      · exact d3 (Or.inl hs2) h2
      · exact absurd rfl c
    rcases h2 with ⟨_, h2⟩ | ⟨c, _⟩
    · rcases h2 with ⟨c1, h2⟩ | ⟨c1, z9, ho, h2⟩
      · refine d1 ?_ h2
        unfold sName
        rw [if_neg (fun g => c1 (by rw [hs.sg]; exact g.1))]
      · have tk : tKind f N e = 1 := by rw [← hs.sg]; exact c1
        have g := hs.own tk ho
        rcases h2 with ⟨c2, h2⟩ | ⟨c2, z13, hm, h2⟩
        · refine d1 ?_ h2
          have ow : isOwn5 (wv f N e) = true := by
            rcases g with g | g
            · exact absurd g.1 c2
            · exact g.2
          unfold sName
          rw [if_neg (fun g => by rw [ow] at g; exact absurd g.2 (by decide))]
        · have ow : isOwn5 (wv f N e) = false := by
            rcases g with g | g
            · exact g.2
            · omega
          have sn : sName f N e = some (wv f N e, tEnd f N e) := by
            unfold sName
            rw [if_pos ⟨tk, ow⟩]
          have e1 := nmd_1 hs.bk k1 (hs.word tk) hm
          have b1 := sFind_b T 1 (wv f N e)
          obtain ⟨_, h2⟩ := (h2 : tr_d_X12_within_2 A A1 z u z13)
          rcases h2 with ⟨c3, h2⟩ | ⟨c3, z22, hz22, h2⟩
          · exact d3 (Or.inr ⟨_, _, sn, fun g => g.1 (by rw [← e1]; exact c3)⟩) h2
          · rw [← e1] at b1
            have b2 : 0 ≤ z13 ∧ z13 < T 1 1 := by
              rcases b1 with b1 | b1
              · exact absurd b1 c3
              · exact b1
            have ix : (10 * A 0 47 + z13).toNat = 10 * b + z13.toNat := by rw [e47]; omega
            rw [ix] at hz22
            have kb := kB z13.toNat (by omega)
            rw [← hz22] at kb
            rcases h2 with ⟨c4, A24, ha, hz, rfl⟩ | ⟨c4, h2⟩
            · have t0 : T 10 z13.toNat = 0 := by
                by_cases g : T 10 z13.toNat = 0
                · exact g
                · exact absurd (kb.mpr g) c4
              have f0 : sFind T 0 (wv f N e) = -1 := by
                rcases hT (wv f N e) with g | g
                · exact g
                · rw [← e1] at g; exact absurd g c3
              have ss : sSpot f N T e = some (z13 + 20, tEnd f N e) := by
                unfold sSpot
                rw [sn]
                show (if sFind T 0 (wv f N e) ≠ -1 then some (sFind T 0 (wv f N e) + 10, tEnd f N e) else if sFind T 1 (wv f N e) ≠ -1 ∧ T 10 (sFind T 1 (wv f N e)).toNat = 0 then some (sFind T 1 (wv f N e) + 20, tEnd f N e) else none) = _
                rw [if_neg (fun g => g f0), ← e1, if_pos ⟨c3, t0⟩]
              exact (hs.go.ahead ha).1.mv ss (fun _ => hz)
            · refine d3 (Or.inr ⟨_, _, sn, fun g => ?_⟩) h2
              rw [← e1] at g
              exact kb.mp c4 g.2
    · omega
  · rcases h2 with ⟨c, _⟩ | ⟨_, _, rfl⟩
    · omega
    · refine Or.inr ⟨g8, ?_⟩
      unfold sIn
      exact gb.bd (fun a ha => Or.inl (bad_spot ha))
theorem X_bars {A u : St} {x1 x2 : Int} (h : 1 ≤ A 0 8) (hq : q_X12_bars x1 x2 A u) : u = A := by
  rcases (hq.1 : tr_r_X12_bars x1 x2 A u) with ⟨_, h2⟩ | ⟨_, h2⟩ | ⟨_, h2⟩ | ⟨_, h2⟩ | ⟨_, h2⟩ <;>
  · rcases h2 with ⟨_, e⟩ | ⟨c, _⟩
    · exact e
    · omega
theorem M_bars_0 {f : Nat → Int} {N b p : Nat} {A u T : St} {x : Int} (hx : x ≠ -1) (h : MS f N b p A) (hn : NK0 b A T) (hq : q_X12_bars 0 x A u) : (u = A ∧ ¬ (tKind f N p = 1 ∧ isOwn5 (wv f N p) = false ∧ sFind T 0 (wv f N p) = x)) ∨ (1 ≤ u 0 8 ∧ tKind f N p = 1 ∧ isOwn5 (wv f N p) = false ∧ sFind T 0 (wv f N p) = x) := by
  rcases (hq.1 : tr_r_X12_bars 0 x A u) with ⟨_, h2⟩ | ⟨c, _⟩ | ⟨c, _⟩ | ⟨c, _⟩ | ⟨c, _⟩
  · rcases h2 with ⟨c, _⟩ | ⟨_, h2⟩
    · exact absurd h.ns c
    · rcases h2 with ⟨c1, rfl⟩ | ⟨c1, z3, ho, h2⟩
      · exact Or.inl ⟨rfl, fun g => c1 (by rw [h.sg]; exact g.1)⟩
      · have tk : tKind f N p = 1 := by rw [← h.sg]; exact c1
        have g := h.own tk ho
        rcases h2 with ⟨c2, rfl⟩ | ⟨c2, h2⟩
        · refine Or.inl ⟨rfl, fun g2 => ?_⟩
          rcases g with g | g
          · exact c2 g.1
          · rw [g.2] at g2; exact absurd g2.2.1 (by decide)
        · have ow : isOwn5 (wv f N p) = false := by
            rcases g with g | g
            · exact g.2
            · omega
          rcases h2 with ⟨c3, _⟩ | ⟨_, z8, hm, h2⟩
          · exact absurd c3 hx
          · have e := nmd_0 h.bk hn (h.word tk) hm
            rcases h2 with ⟨c4, rfl⟩ | ⟨c4, A12, hb, rfl⟩
            · exact Or.inl ⟨rfl, fun g2 => c4 (by rw [e]; exact g2.2.2)⟩
            · exact Or.inr ⟨hb.2.2.2, tk, ow, by rw [← e]; exact c4⟩
  · omega
  · omega
  · omega
  · omega
theorem M_bars_4 {f : Nat → Int} {N b p : Nat} {A u T : St} {x : Int} (hx : x ≠ -1) (h : MS f N b p A) (hn : NK4 b A T) (hq : q_X12_bars 4 x A u) : (u = A ∧ ¬ (tKind f N p = 1 ∧ isOwn5 (wv f N p) = false ∧ sFind T 4 (wv f N p) = x)) ∨ (1 ≤ u 0 8 ∧ tKind f N p = 1 ∧ isOwn5 (wv f N p) = false ∧ sFind T 4 (wv f N p) = x) := by
  rcases (hq.1 : tr_r_X12_bars 4 x A u) with ⟨c, _⟩ | ⟨c, _⟩ | ⟨c, _⟩ | ⟨c, _⟩ | ⟨_, h2⟩
  · omega
  · omega
  · omega
  · omega
  · rcases h2 with ⟨c, _⟩ | ⟨_, h2⟩
    · exact absurd h.ns c
    · rcases h2 with ⟨c1, rfl⟩ | ⟨c1, z3, ho, h2⟩
      · exact Or.inl ⟨rfl, fun g => c1 (by rw [h.sg]; exact g.1)⟩
      · have tk : tKind f N p = 1 := by rw [← h.sg]; exact c1
        have g := h.own tk ho
        rcases h2 with ⟨c2, rfl⟩ | ⟨c2, h2⟩
        · refine Or.inl ⟨rfl, fun g2 => ?_⟩
          rcases g with g | g
          · exact c2 g.1
          · rw [g.2] at g2; exact absurd g2.2.1 (by decide)
        · have ow : isOwn5 (wv f N p) = false := by
            rcases g with g | g
            · exact g.2
            · omega
          rcases h2 with ⟨c3, _⟩ | ⟨_, z8, hm, h2⟩
          · exact absurd c3 hx
          · have e := nmd_4 h.bk hn (h.word tk) hm
            rcases h2 with ⟨c4, rfl⟩ | ⟨c4, A12, hb, rfl⟩
            · exact Or.inl ⟨rfl, fun g2 => c4 (by rw [e]; exact g2.2.2)⟩
            · exact Or.inr ⟨hb.2.2.2, tk, ow, by rw [← e]; exact c4⟩
/-! The reference's town against the class's: what is the same. -/
theorem bit_tb : ∀ x : Fin 1024, ∀ e : Fin 10, oAnd (oShr (x.val : Int) (e.val : Int)) 1 = if x.val.testBit e.val = true then 1 else 0 := by decide +kernel
theorem bit_iff {x : Int} {d : Nat} (hx : 0 ≤ x ∧ x < 1024) (hd : d < 10) : oAnd (oShr x (d : Int)) 1 = 0 ↔ x.toNat.testBit d = false := by
  have e := bit_tb ⟨x.toNat, by omega⟩ ⟨d, hd⟩
  simp only [show ((x.toNat : Nat) : Int) = x by omega] at e
  rw [e]
  cases x.toNat.testBit d with
  | false => exact ⟨fun _ => rfl, fun _ => by rw [if_neg (by decide)]⟩
  | true => exact ⟨fun g => by rw [if_pos rfl] at g; exact absurd g (by decide), fun g => by cases g⟩
theorem shl_tb : ∀ d : Fin 10, oShl 1 (d.val : Int) = ((2 ^ d.val : Nat) : Int) := by decide +kernel
theorem or_bit {x : Int} {d : Nat} (hx : 0 ≤ x ∧ x < 1024) (hd : d < 10) : 0 ≤ oOr x (oShl 1 (d : Int)) ∧ oOr x (oShl 1 (d : Int)) < 1024 ∧ (oOr x (oShl 1 (d : Int))).toNat = x.toNat ||| 2 ^ d := by
  have e := shl_tb ⟨d, hd⟩
  have e : oShl 1 (d : Int) = ((2 ^ d : Nat) : Int) := e
  have l1 : (2 : Nat) ^ d < 2 ^ 10 := Nat.pow_lt_pow_right (by decide) hd
  have l2 : x.toNat < 2 ^ 10 := by
    have : (2 : Nat) ^ 10 = 1024 := by decide
    omega
  have l3 := Nat.or_lt_two_pow l2 l1
  have p10 : (2 : Nat) ^ 10 = 1024 := by decide
  have ex : x = ((x.toNat : Nat) : Int) := by omega
  rw [e, ex, oOr_nat (by omega) (by omega), Int.toNat_natCast, Int.toNat_natCast]
  exact ⟨by omega, by omega, rfl⟩
theorem tb_or {x d e : Nat} : (x ||| 2 ^ d).testBit e = (x.testBit e || decide (d = e)) := by
  rw [Nat.testBit_or, Nat.testBit_two_pow]
theorem bc_or : ∀ m : Fin 16, ∀ t : Fin 4, m.val.testBit t.val = false → bc (oOr (m.val : Int) (oShl 1 (t.val : Int))) = bc (m.val : Int) + 1 ∧ oOr (m.val : Int) (oShl 1 (t.val : Int)) < 16 := by decide +kernel
theorem ct_up {g : Nat → Int} {s n : Nat} {q v : Int} : ∀ m, m ≤ n → ct (up g (s + n) v) s q m = ct g s q m := by
  intro m
  induction m with
  | zero => intro _; rfl
  | succ m ih =>
    intro h
    show ct (up g (s + n) v) s q m + (if up g (s + n) v (s + m) = q then 1 else 0) = ct g s q m + (if g (s + m) = q then 1 else 0)
    rw [ih (by omega), up_ne _ _ (by omega)]
theorem ct_up1 {g : Nat → Int} {s n : Nat} {q v : Int} : ct (up g (s + n) v) s q (n + 1) = ct g s q n + (if v = q then 1 else 0) := by
  show ct (up g (s + n) v) s q n + (if up g (s + n) v (s + n) = q then 1 else 0) = _
  rw [ct_up n (Nat.le_refl n), up_same]
def MDr (b : Nat) (A T : St) : Prop := ∀ k : Nat, (k : Int) < T 1 1 → A 6 (10 * b + k) = T 8 k ∧ A 7 (10 * b + k) = T 9 k ∧ A 9 (10 * b + k) = T 10 k
def MLs (b : Nat) (A T : St) : Prop := (0 ≤ T 0 15 ∧ T 0 15 < 1024) ∧ (∀ k : Nat, (k : Int) < T 1 1 → (A 10 (10 * b + k) = 0 ↔ (T 0 15).toNat.testBit k = false)) ∧ ∀ k : Nat, T 1 1 ≤ (k : Int) → (T 0 15).toNat.testBit k = false
def MKy (b : Nat) (A T : St) : Prop := (∀ k : Nat, (k : Int) < T 1 2 → A 13 (4 * b + k) = T 24 k ∧ A 14 (4 * b + k) = T 25 k ∧ ∀ i : Nat, (i : Int) < T 25 k → A 15 (40 * b + 10 * k + i) = T (27 + k) i) ∧ ∀ k : Nat, k < 4 → T 1 2 ≤ (k : Int) → T 25 k = 0
def MPr (b : Nat) (A T : St) : Prop := ∀ k : Nat, (k : Int) < T 1 3 → A 18 (3 * b + k) = T 23 k
def MTn (b : Nat) (A T : St) : Prop := ∀ k : Nat, (k : Int) < T 1 4 → A 21 (4 * b + k) = T 11 k
def MWn (b : Nat) (A T : St) : Prop := ∀ p : Nat, p < 3 → (0 ≤ T 12 p ∧ T 12 p < 16 ∧ bc (T 12 p) ≤ 2) ∧ ct (A 23) (6 * b) (p : Int) (T 1 5).toNat = bc (T 12 p) ∧ ∀ t : Nat, t < 4 → ((T 12 p).toNat.testBit t = true ↔ ∃ i : Nat, (i : Int) < T 1 5 ∧ A 23 (6 * b + i) = (p : Int) ∧ A 24 (6 * b + i) = (t : Int))
def MMu (b : Nat) (A T : St) : Prop := ∀ k : Nat, (k : Int) < T 1 6 → A 26 (6 * b + k) = T 13 k ∧ A 27 (6 * b + k) = T 14 k ∧ A 28 (6 * b + k) = T 15 k
def MBa (b : Nat) (A T : St) : Prop := ∀ k : Nat, (k : Int) < T 1 7 → A 30 (6 * b + k) = T 16 k
def MCn (b : Nat) (A T : St) : Prop := A 22 b = T 1 5 ∧ A 25 b = T 1 6 ∧ A 29 b = T 1 7
def MR (b : Nat) (A T : St) : Prop := NKA b A T ∧ MCn b A T ∧ TD T ∧ NB b A T ∧ MDr b A T ∧ MLs b A T ∧ MKy b A T ∧ MPr b A T ∧ MTn b A T ∧ MWn b A T ∧ MMu b A T ∧ MBa b A T
theorem MR.rq {b : Nat} {A u T : St} (h : MR b A T) (g : rq u A) : MR b u T := by
  have e : u = fun j => bif Nat.beq j 0 then u 0 else A j := by
    funext j
    cases j with
    | zero => rfl
    | succ j => exact g (j + 1) (by omega)
  rw [e]
  exact h
theorem NKx.add {c x w : Int} {o n : Nat} {g h : Nat → Int} (hk : NKx c o g h) (hc : c = (n : Int)) (hw : WR x w) : NKx (c + 1) o (up g (o + n) x) (up h n w) := by
  intro j hj
  by_cases e : j = n
  · subst e
    rw [up_same, up_same]
    exact hw
  · rw [up_ne _ _ (by omega), up_ne _ _ e]
    exact hk j (by omega)
theorem NKx.out {c x : Int} {o n : Nat} {g h : Nat → Int} (hk : NKx c o g h) (hc : c ≤ (n : Int)) : NKx c o (up g (o + n) x) h := by
  intro j hj
  rw [up_ne _ _ (by omega)]
  exact hk j hj
theorem fnd_add {g : Nat → Int} {w w' : Int} {n : Nat} (h : w' ≠ w) : fnd (up g n w) w' (n + 1) 0 = fnd g w' n 0 := by
  have e : fnd (up g n w) w' n 0 = fnd g w' n 0 := fnd_congr _ _ (fun k _ hk => by rw [up_ne _ _ (by omega)])
  rw [fnd_snoc, e, Nat.zero_add, up_same, if_neg (show ¬ w = w' from fun g => h g.symm)]
  split
  · rename_i g; exact g.symm
  · rfl
theorem TD.add0 {T : St} {w : Int} (h : TD T) (hn : 0 ≤ T 1 0) (hf : sFind T 1 w = -1) : TD (sAdd T 0 w) := by
  intro w'
  have e1 : sFind (sAdd T 0 w) 1 w' = sFind T 1 w' := rfl
  by_cases hw : w' = w
  · subst hw
    exact Or.inr (e1.trans hf)
  · have e0 : sFind (sAdd T 0 w) 0 w' = sFind T 0 w' := by
      show fnd (up (T 3) (T 1 0).toNat w) w' (T 1 0 + 1).toNat 0 = fnd (T 3) w' (T 1 0).toNat 0
      rw [show (T 1 0 + 1).toNat = (T 1 0).toNat + 1 by omega]
      exact fnd_add hw
    rw [e0, e1]
    exact h w'
theorem TD.add1 {T : St} {w a c m : Int} (h : TD T) (hn : 0 ≤ T 1 1) (hf : sFind T 0 w = -1) : TD (sDoorAdd T w a c m) := by
  intro w'
  have e0 : sFind (sDoorAdd T w a c m) 0 w' = sFind T 0 w' := rfl
  by_cases hw : w' = w
  · subst hw
    exact Or.inl (e0.trans hf)
  · have e1 : sFind (sDoorAdd T w a c m) 1 w' = sFind T 1 w' := by
      show fnd (up (T 4) (T 1 1).toNat w) w' (T 1 1 + 1).toNat 0 = fnd (T 4) w' (T 1 1).toNat 0
      rw [show (T 1 1 + 1).toNat = (T 1 1).toNat + 1 by omega]
      exact fnd_add hw
    rw [e0, e1]
    exact h w'
/-- the keys' rows are all that isn't a row of its own number -/
theorem MKy.cg {b : Nat} {A A' T T' : St} (h : MKy b A T) (a3 : A' 13 = A 13) (a4 : A' 14 = A 14) (a5 : A' 15 = A 15) (t1 : T' 1 2 = T 1 2) (t4 : T' 24 = T 24) (t5 : T' 25 = T 25) (t7 : ∀ k, T' (27 + k) = T (27 + k)) : MKy b A' T' := by
  unfold MKy
  simp only [a3, a4, a5, t1, t4, t5, t7]
  exact h
theorem MR_place {b n : Nat} {A T : St} {x w : Int} (h : MR b A T) (hn : T 1 0 = (n : Int)) (hw : WR x w) (hf : sFind T 1 w = -1) : MR b (stA (stA A 3 (8 * b + n) x) 2 b ((n : Int) + 1)) (sAdd T 0 w) := by
  obtain ⟨⟨k0, k1, k2, k3, k4⟩, hc, ht, hB, hd, hl, hk, hp, hh, hwn, hm, hb⟩ := h
  have en : (T 1 0).toNat = n := by omega
  refine ⟨⟨⟨?_, ?_⟩, k1, k2, k3, k4⟩, hc, ht.add0 (by omega) hf, hB, hd, hl, hk.cg rfl rfl rfl rfl rfl rfl (fun k => ?_), hp, hh, hwn, hm, hb⟩
  · show up (A 2) b ((n : Int) + 1) b = T 1 0 + 1
    rw [up_same, hn]
  · show NKx (T 1 0 + 1) (8 * b) (up (A 3) (8 * b + n) x) (up (T 3) (T 1 0).toNat w)
    rw [en]
    exact k0.2.add hn hw
  · unfold sAdd
    rw [stA_ne _ _ (by omega), stA_ne _ _ (by omega)]
theorem MR_door {b n : Nat} {A T : St} {x w a c m v : Int} (h : MR b A T) (hn : T 1 1 = (n : Int)) (hw : WR x w) (hf : sFind T 0 w = -1) (hv : v = 0 ↔ m ≠ 0) : MR b (stA (stA (stA (stA (stA (stA (stA A 5 (10 * b + n) x) 6 (10 * b + n) a) 7 (10 * b + n) c) 8 (10 * b + n) v) 9 (10 * b + n) m) 10 (10 * b + n) 0) 4 b ((n : Int) + 1)) (sDoorAdd T w a c m) := by
  obtain ⟨⟨k0, k1, k2, k3, k4⟩, hc, ht, hB, hd, hl, hk, hp, hh, hwn, hm, hb⟩ := h
  have en : (T 1 1).toNat = n := by omega
  refine ⟨⟨k0, ⟨?_, ?_⟩, k2, k3, k4⟩, hc, ht.add1 (by omega) hf, ?_, ?_, ⟨hl.1, ?_, ?_⟩, hk.cg rfl rfl rfl rfl rfl rfl (fun k => ?_), hp, hh, hwn, hm, hb⟩
  · show up (A 4) b ((n : Int) + 1) b = T 1 1 + 1
    rw [up_same, hn]
  · show NKx (T 1 1 + 1) (10 * b) (up (A 5) (10 * b + n) x) (up (T 4) (T 1 1).toNat w)
    rw [en]
    exact k1.2.add hn hw
  · intro k hk2
    have hk2 : (k : Int) < T 1 1 + 1 := hk2
    show up (A 8) (10 * b + n) v (10 * b + k) = 0 ↔ up (T 10) (T 1 1).toNat m k ≠ 0
    rw [en]
    by_cases e : k = n
    · subst e
      rw [up_same, up_same]
      exact hv
    · rw [up_ne _ _ (by omega), up_ne _ _ e]
      exact hB k (by omega)
  · intro k hk2
    have hk2 : (k : Int) < T 1 1 + 1 := hk2
    show up (A 6) (10 * b + n) a (10 * b + k) = up (T 8) (T 1 1).toNat a k ∧ up (A 7) (10 * b + n) c (10 * b + k) = up (T 9) (T 1 1).toNat c k ∧ up (A 9) (10 * b + n) m (10 * b + k) = up (T 10) (T 1 1).toNat m k
    rw [en]
    by_cases e : k = n
    · subst e
      simp only [up_same]
      exact ⟨trivial, trivial, trivial⟩
    · simp only [up_ne _ _ e, up_ne _ _ (show 10 * b + k ≠ 10 * b + n by omega)]
      exact hd k (by omega)
  · intro k hk2
    have hk2 : (k : Int) < T 1 1 + 1 := hk2
    show up (A 10) (10 * b + n) 0 (10 * b + k) = 0 ↔ (T 0 15).toNat.testBit k = false
    by_cases e : k = n
    · subst e
      rw [up_same]
      exact ⟨fun _ => hl.2.2 k (by omega), fun _ => rfl⟩
    · rw [up_ne _ _ (by omega)]
      exact hl.2.1 k (by omega)
  · intro k hk2
    have hk2 : T 1 1 + 1 ≤ (k : Int) := hk2
    exact hl.2.2 k (by omega)
  · unfold sDoorAdd sAdd
    rw [stA_ne _ _ (by omega), stA_ne _ _ (by omega), stA_ne _ _ (by omega), stA_ne _ _ (by omega), stA_ne _ _ (by omega)]
theorem MR_key {b n : Nat} {A T : St} {x w a : Int} (h : MR b A T) (hn : T 1 2 = (n : Int)) (hn4 : n < 4) (hw : WR x w) : MR b (stA (stA (stA (stA A 12 (4 * b + n) x) 13 (4 * b + n) a) 14 (4 * b + n) 0) 11 b ((n : Int) + 1)) (sKeyAdd T w a) := by
  obtain ⟨⟨k0, k1, k2, k3, k4⟩, hc, ht, hB, hd, hl, hk, hp, hh, hwn, hm, hb⟩ := h
  have en : (T 1 2).toNat = n := by omega
  refine ⟨⟨k0, k1, ⟨?_, ?_⟩, k3, k4⟩, hc, ht, hB, hd, hl, ⟨?_, ?_⟩, hp, hh, hwn, hm, hb⟩
  · show up (A 11) b ((n : Int) + 1) b = T 1 2 + 1
    rw [up_same, hn]
  · show NKx (T 1 2 + 1) (4 * b) (up (A 12) (4 * b + n) x) (up (T 5) (T 1 2).toNat w)
    rw [en]
    exact k2.2.add hn hw
  · intro k hk2
    have hk2 : (k : Int) < T 1 2 + 1 := hk2
    have e7 : sKeyAdd T w a (27 + k) = T (27 + k) := by
      unfold sKeyAdd sAdd
      rw [stA_ne _ _ (by omega), stA_ne _ _ (by omega), stA_ne _ _ (by omega)]
    rw [e7]
    show up (A 13) (4 * b + n) a (4 * b + k) = up (T 24) (T 1 2).toNat a k ∧ up (A 14) (4 * b + n) 0 (4 * b + k) = T 25 k ∧ ∀ i : Nat, (i : Int) < T 25 k → A 15 (40 * b + 10 * k + i) = T (27 + k) i
    rw [en]
    by_cases e : k = n
    · subst e
      have z := hk.2 k hn4 (by omega)
      rw [up_same, up_same, up_same, z]
      exact ⟨rfl, rfl, fun i hi => absurd hi (by omega)⟩
    · rw [up_ne _ _ (by omega), up_ne _ _ e, up_ne _ _ (by omega)]
      exact hk.1 k (by omega)
  · intro k hk2 hk3
    have hk3 : T 1 2 + 1 ≤ (k : Int) := hk3
    exact hk.2 k hk2 (by omega)
theorem MR_person {b n : Nat} {A T : St} {x w a : Int} (h : MR b A T) (hn : T 1 3 = (n : Int)) (hw : WR x w) : MR b (stA (stA (stA A 17 (3 * b + n) x) 18 (3 * b + n) a) 16 b ((n : Int) + 1)) (sPersonAdd T w a) := by
  obtain ⟨⟨k0, k1, k2, k3, k4⟩, hc, ht, hB, hd, hl, hk, hp, hh, hwn, hm, hb⟩ := h
  have en : (T 1 3).toNat = n := by omega
  refine ⟨⟨k0, k1, k2, ⟨?_, ?_⟩, k4⟩, hc, ht, hB, hd, hl, hk.cg rfl rfl rfl rfl rfl rfl (fun k => ?_), ?_, hh, hwn, hm, hb⟩
  · show up (A 16) b ((n : Int) + 1) b = T 1 3 + 1
    rw [up_same, hn]
  · show NKx (T 1 3 + 1) (3 * b) (up (A 17) (3 * b + n) x) (up (T 6) (T 1 3).toNat w)
    rw [en]
    exact k3.2.add hn hw
  · unfold sPersonAdd sAdd
    rw [stA_ne _ _ (by omega), stA_ne _ _ (by omega), stA_ne _ _ (by omega)]
  · intro k hk2
    have hk2 : (k : Int) < T 1 3 + 1 := hk2
    show up (A 18) (3 * b + n) a (3 * b + k) = up (T 23) (T 1 3).toNat a k
    rw [en]
    by_cases e : k = n
    · subst e
      rw [up_same, up_same]
    · rw [up_ne _ _ (by omega), up_ne _ _ e]
      exact hp k (by omega)
theorem MR_thing {b n : Nat} {A T : St} {x w a : Int} (h : MR b A T) (hn : T 1 4 = (n : Int)) (hw : WR x w) : MR b (stA (stA (stA A 20 (4 * b + n) x) 21 (4 * b + n) a) 19 b ((n : Int) + 1)) (sThingAdd T w a) := by
  obtain ⟨⟨k0, k1, k2, k3, k4⟩, hc, ht, hB, hd, hl, hk, hp, hh, hwn, hm, hb⟩ := h
  have en : (T 1 4).toNat = n := by omega
  refine ⟨⟨k0, k1, k2, k3, ⟨?_, ?_⟩⟩, hc, ht, hB, hd, hl, hk.cg rfl rfl rfl rfl rfl rfl (fun k => ?_), hp, ?_, hwn, hm, hb⟩
  · show up (A 19) b ((n : Int) + 1) b = T 1 4 + 1
    rw [up_same, hn]
  · show NKx (T 1 4 + 1) (4 * b) (up (A 20) (4 * b + n) x) (up (T 7) (T 1 4).toNat w)
    rw [en]
    exact k4.2.add hn hw
  · unfold sThingAdd sAdd
    rw [stA_ne _ _ (by omega), stA_ne _ _ (by omega), stA_ne _ _ (by omega)]
  · intro k hk2
    have hk2 : (k : Int) < T 1 4 + 1 := hk2
    show up (A 21) (4 * b + n) a (4 * b + k) = up (T 11) (T 1 4).toNat a k
    rw [en]
    by_cases e : k = n
    · subst e
      rw [up_same, up_same]
    · rw [up_ne _ _ (by omega), up_ne _ _ e]
      exact hh k (by omega)
theorem MR_must {b n : Nat} {A T : St} {d x y : Int} (h : MR b A T) (hn : T 1 6 = (n : Int)) : MR b (stA (stA (stA (stA A 26 (6 * b + n) d) 27 (6 * b + n) x) 28 (6 * b + n) y) 25 b ((n : Int) + 1)) (sMustAdd T d x y) := by
  obtain ⟨⟨k0, k1, k2, k3, k4⟩, hc, ht, hB, hd, hl, hk, hp, hh, hwn, hm, hb⟩ := h
  have en : (T 1 6).toNat = n := by omega
  refine ⟨⟨k0, k1, k2, k3, k4⟩, ⟨hc.1, ?_, hc.2.2⟩, ht, hB, hd, hl, hk.cg rfl rfl rfl rfl rfl rfl (fun k => ?_), hp, hh, hwn, ?_, hb⟩
  · show up (A 25) b ((n : Int) + 1) b = T 1 6 + 1
    rw [up_same, hn]
  · unfold sMustAdd
    rw [stA_ne _ _ (by omega), stA_ne _ _ (by omega), stA_ne _ _ (by omega), stA_ne _ _ (by omega)]
  · intro k hk2
    have hk2 : (k : Int) < T 1 6 + 1 := hk2
    show up (A 26) (6 * b + n) d (6 * b + k) = up (T 13) (T 1 6).toNat d k ∧ up (A 27) (6 * b + n) x (6 * b + k) = up (T 14) (T 1 6).toNat x k ∧ up (A 28) (6 * b + n) y (6 * b + k) = up (T 15) (T 1 6).toNat y k
    rw [en]
    by_cases e : k = n
    · subst e
      simp only [up_same]
      exact ⟨trivial, trivial, trivial⟩
    · simp only [up_ne _ _ e, up_ne _ _ (show 6 * b + k ≠ 6 * b + n by omega)]
      exact hm k (by omega)
theorem MR_bar {b n : Nat} {A T : St} {d x y : Int} (h : MR b A T) (hn : T 1 7 = (n : Int)) : MR b (stA (stA A 30 (6 * b + n) d) 29 b ((n : Int) + 1)) (sBarAdd T d x y) := by
  obtain ⟨⟨k0, k1, k2, k3, k4⟩, hc, ht, hB, hd, hl, hk, hp, hh, hwn, hm, hb⟩ := h
  have en : (T 1 7).toNat = n := by omega
  refine ⟨⟨k0, k1, k2, k3, k4⟩, ⟨hc.1, hc.2.1, ?_⟩, ht, hB, hd, hl, hk.cg rfl rfl rfl rfl rfl rfl (fun k => ?_), hp, hh, hwn, hm, ?_⟩
  · show up (A 29) b ((n : Int) + 1) b = T 1 7 + 1
    rw [up_same, hn]
  · unfold sBarAdd
    rw [stA_ne _ _ (by omega), stA_ne _ _ (by omega), stA_ne _ _ (by omega), stA_ne _ _ (by omega)]
  · intro k hk2
    have hk2 : (k : Int) < T 1 7 + 1 := hk2
    show up (A 30) (6 * b + n) d (6 * b + k) = up (T 16) (T 1 7).toNat d k
    rw [en]
    by_cases e : k = n
    · subst e
      rw [up_same, up_same]
    · rw [up_ne _ _ (by omega), up_ne _ _ e]
      exact hb k (by omega)
theorem MR_has {b n : Nat} {A T : St} {a : Int} (h : MR b A T) : MR b (stA A 13 (4 * b + n) a) (stA T 24 n a) := by
  obtain ⟨⟨k0, k1, k2, k3, k4⟩, hc, ht, hB, hd, hl, hk, hp, hh, hwn, hm, hb⟩ := h
  refine ⟨⟨k0, k1, k2, k3, k4⟩, hc, ht, hB, hd, hl, ⟨?_, hk.2⟩, hp, hh, hwn, hm, hb⟩
  intro k hk2
  have e7 : stA T 24 n a (27 + k) = T (27 + k) := stA_ne _ _ (by omega)
  rw [e7]
  show up (A 13) (4 * b + n) a (4 * b + k) = up (T 24) n a k ∧ A 14 (4 * b + k) = T 25 k ∧ ∀ i : Nat, (i : Int) < T 25 k → A 15 (40 * b + 10 * k + i) = T (27 + k) i
  refine ⟨?_, (hk.1 k hk2).2⟩
  by_cases e : k = n
  · subst e
    rw [up_same, up_same]
  · rw [up_ne _ _ (by omega), up_ne _ _ e]
    exact (hk.1 k hk2).1
theorem MR_lost {b n : Nat} {A T : St} (h : MR b A T) (hn : (n : Int) < T 1 1) (h10 : n < 10) : MR b (stA A 10 (10 * b + n) 1) (stA T 0 15 (oOr (T 0 15) (oShl 1 (n : Int)))) := by
  obtain ⟨⟨k0, k1, k2, k3, k4⟩, hc, ht, hB, hd, hl, hk, hp, hh, hwn, hm, hb⟩ := h
  have o := or_bit hl.1 h10
  refine ⟨⟨k0, k1, k2, k3, k4⟩, hc, ht, hB, hd, ⟨⟨o.1, o.2.1⟩, ?_, ?_⟩, hk.cg rfl rfl rfl rfl rfl rfl (fun k => stA_ne _ _ (by omega)), hp, hh, hwn, hm, hb⟩
  · intro k hk2
    have hk2 : (k : Int) < T 1 1 := hk2
    show up (A 10) (10 * b + n) 1 (10 * b + k) = 0 ↔ (oOr (T 0 15) (oShl 1 (n : Int))).toNat.testBit k = false
    rw [o.2.2, tb_or]
    by_cases e : k = n
    · subst e
      rw [up_same]
      simp
    · rw [up_ne _ _ (by omega), show decide (n = k) = false from decide_eq_false (fun g => e g.symm), Bool.or_false]
      exact hl.2.1 k hk2
  · intro k hk2
    have hk2 : T 1 1 ≤ (k : Int) := hk2
    show (oOr (T 0 15) (oShl 1 (n : Int))).toNat.testBit k = false
    rw [o.2.2, tb_or, show decide (n = k) = false from decide_eq_false (fun g => by omega), Bool.or_false]
    exact hl.2.2 k hk2
theorem MR_shut {b n m : Nat} {A T : St} {d : Int} (h6 : ∀ k, A 14 k ≤ 6) (h : MR b A T) (hn : (n : Int) < T 1 2) (hm2 : T 25 n = (m : Int)) (hm6 : m < 6) : MR b (stA (stA A 15 (40 * b + 10 * n + m) d) 14 (4 * b + n) ((m : Int) + 1)) (stA (stA T (27 + n) m d) 25 n ((m : Int) + 1)) := by
  obtain ⟨⟨k0, k1, k2, k3, k4⟩, hc, ht, hB, hd, hl, hk, hp, hh, hwn, hm, hb⟩ := h
  have rw27 : ∀ j, j < 27 → j ≠ 25 → stA (stA T (27 + n) m d) 25 n ((m : Int) + 1) j = T j := fun j h1 h2 => by rw [stA_ne _ _ h2, stA_ne _ _ (by omega)]
  have r1 := rw27 1 (by decide) (by decide)
  have r0 := rw27 0 (by decide) (by decide)
  have r25 : stA (stA T (27 + n) m d) 25 n ((m : Int) + 1) 25 = up (T 25) n ((m : Int) + 1) := by rw [stA_same, stA_ne _ _ (by omega)]
  have ns : ∀ j w, j < 5 → sFind (stA (stA T (27 + n) m d) 25 n ((m : Int) + 1)) j w = sFind T j w := by
    intro j w hj
    unfold sFind
    rw [r1, rw27 (3 + j) (by omega) (by omega)]
  refine ⟨⟨?_, ?_, ?_, ?_, ?_⟩, ?_, ?_, ?_, ?_, ?_, ⟨?_, ?_⟩, ?_, ?_, ?_, ?_, ?_⟩
  · unfold NK0; rw [r1, rw27 3 (by decide) (by decide)]; exact k0
  · unfold NK1; rw [r1, rw27 4 (by decide) (by decide)]; exact k1
  · unfold NK2; rw [r1, rw27 5 (by decide) (by decide)]; exact k2
  · unfold NK3; rw [r1, rw27 6 (by decide) (by decide)]; exact k3
  · unfold NK4; rw [r1, rw27 7 (by decide) (by decide)]; exact k4
  · unfold MCn; rw [r1]; exact hc
  · intro w; rw [ns 0 w (by decide), ns 1 w (by decide)]; exact ht w
  · unfold NB; rw [r1, rw27 10 (by decide) (by decide)]; exact hB
  · unfold MDr; rw [r1, rw27 8 (by decide) (by decide), rw27 9 (by decide) (by decide), rw27 10 (by decide) (by decide)]; exact hd
  · unfold MLs; rw [r1, r0]; exact hl
  · intro k hk2
    rw [r1] at hk2
    rw [rw27 24 (by decide) (by decide), r25]
    show A 13 (4 * b + k) = T 24 k ∧ up (A 14) (4 * b + n) ((m : Int) + 1) (4 * b + k) = up (T 25) n ((m : Int) + 1) k ∧ ∀ i : Nat, (i : Int) < up (T 25) n ((m : Int) + 1) k → up (A 15) (40 * b + 10 * n + m) d (40 * b + 10 * k + i) = stA (stA T (27 + n) m d) 25 n ((m : Int) + 1) (27 + k) i
    have g := hk.1 k hk2
    refine ⟨g.1, ?_, ?_⟩
    · by_cases e : k = n
      · subst e; rw [up_same, up_same]
      · rw [up_ne _ _ (by omega), up_ne _ _ e]; exact g.2.1
    · intro i hi
      rw [stA_ne _ _ (show 27 + k ≠ 25 by omega)]
      by_cases e : k = n
      · subst e
        rw [up_same] at hi
        rw [stA_same]
        by_cases e2 : i = m
        · subst e2; rw [up_same, up_same]
        · rw [up_ne _ _ (by omega), up_ne _ _ e2]
          exact g.2.2 i (by omega)
      · rw [up_ne _ _ e] at hi
        rw [stA_ne _ _ (by omega)]
        have l6 : T 25 k ≤ 6 := by rw [← g.2.1]; exact h6 _
        rw [up_ne _ _ (show 40 * b + 10 * k + i ≠ 40 * b + 10 * n + m by omega)]
        exact g.2.2 i hi
  · intro k hk2 hk3
    rw [r1] at hk3
    rw [r25, up_ne _ _ (by omega)]
    exact hk.2 k hk2 hk3
  · unfold MPr; rw [r1, rw27 23 (by decide) (by decide)]; exact hp
  · unfold MTn; rw [r1, rw27 11 (by decide) (by decide)]; exact hh
  · unfold MWn; rw [r1, rw27 12 (by decide) (by decide)]; exact hwn
  · unfold MMu; rw [r1, rw27 13 (by decide) (by decide), rw27 14 (by decide) (by decide), rw27 15 (by decide) (by decide)]; exact hm
  · unfold MBa; rw [r1, rw27 16 (by decide) (by decide)]; exact hb
theorem MR_wants {b n p t : Nat} {A T : St} (h : MR b A T) (hn : T 1 5 = (n : Int)) (hp3 : p < 3) (ht4 : t < 4) (hbc : bc (T 12 p) < 2) (hbit : (T 12 p).toNat.testBit t = false) : MR b (stA (stA (stA A 23 (6 * b + n) (p : Int)) 24 (6 * b + n) (t : Int)) 22 b ((n : Int) + 1)) (stA (stA T 12 p (oOr (T 12 p) (oShl 1 (t : Int)))) 1 5 (T 1 5 + 1)) := by
  obtain ⟨⟨k0, k1, k2, k3, k4⟩, hc, ht, hB, hd, hl, hk, hp, hh, hwn, hm, hb⟩ := h
  refine ⟨⟨k0, k1, k2, k3, k4⟩, ⟨?_, hc.2⟩, ht, hB, hd, hl, hk.cg rfl rfl rfl rfl rfl rfl (fun k => by rw [stA_ne _ _ (by omega), stA_ne _ _ (by omega)]), hp, hh, ?_, hm, hb⟩
  · show up (A 22) b ((n : Int) + 1) b = T 1 5 + 1
    rw [up_same, hn]
  · intro q hq
    show (0 ≤ up (T 12) p (oOr (T 12 p) (oShl 1 (t : Int))) q ∧ up (T 12) p (oOr (T 12 p) (oShl 1 (t : Int))) q < 16 ∧ bc (up (T 12) p (oOr (T 12 p) (oShl 1 (t : Int))) q) ≤ 2) ∧ ct (up (A 23) (6 * b + n) (p : Int)) (6 * b) (q : Int) (T 1 5 + 1).toNat = bc (up (T 12) p (oOr (T 12 p) (oShl 1 (t : Int))) q) ∧ ∀ t2 : Nat, t2 < 4 → ((up (T 12) p (oOr (T 12 p) (oShl 1 (t : Int))) q).toNat.testBit t2 = true ↔ ∃ i : Nat, (i : Int) < T 1 5 + 1 ∧ up (A 23) (6 * b + n) (p : Int) (6 * b + i) = (q : Int) ∧ up (A 24) (6 * b + n) (t : Int) (6 * b + i) = (t2 : Int))
    have e1 : (T 1 5 + 1).toNat = n + 1 := by omega
    have e0 : (T 1 5).toNat = n := by omega
    rw [e1, ct_up1]
    have old : ∀ (t2 : Nat), (∃ i : Nat, (i : Int) < T 1 5 + 1 ∧ up (A 23) (6 * b + n) (p : Int) (6 * b + i) = (q : Int) ∧ up (A 24) (6 * b + n) (t : Int) (6 * b + i) = (t2 : Int)) ↔ ((p = q ∧ t = t2) ∨ ∃ i : Nat, (i : Int) < T 1 5 ∧ A 23 (6 * b + i) = (q : Int) ∧ A 24 (6 * b + i) = (t2 : Int)) := by
      intro t2
      constructor
      · rintro ⟨i, hi, g1, g2⟩
        by_cases e : i = n
        · subst e
          rw [up_same] at g1 g2
          exact Or.inl ⟨by omega, by omega⟩
        · rw [up_ne _ _ (by omega)] at g1 g2
          exact Or.inr ⟨i, by omega, g1, g2⟩
      · rintro (⟨g1, g2⟩ | ⟨i, hi, g1, g2⟩)
        · exact ⟨n, by omega, by rw [up_same, g1], by rw [up_same, g2]⟩
        · exact ⟨i, by omega, by rw [up_ne _ _ (by omega)]; exact g1, by rw [up_ne _ _ (by omega)]; exact g2⟩
    have w := hwn q hq
    rw [e0] at w
    by_cases e : q = p
    · subst e
      have bo := bc_or ⟨(T 12 q).toNat, by omega⟩ ⟨t, ht4⟩ hbit
      simp only [show (((T 12 q).toNat : Nat) : Int) = T 12 q by omega] at bo
      have o := or_bit (x := T 12 q) (d := t) ⟨by omega, by omega⟩ (by omega)
      rw [up_same, if_pos rfl]
      refine ⟨⟨o.1, bo.2, by rw [bo.1]; omega⟩, by rw [bo.1, w.2.1], fun t2 h2 => ?_⟩
      rw [old, o.2.2, tb_or, ← (w.2.2 t2 h2)]
      by_cases e2 : t = t2
      · simp [e2]
      · simp [e2]
    · rw [up_ne _ _ e, if_neg (by omega), Int.add_zero]
      refine ⟨w.1, w.2.1, fun t2 h2 => ?_⟩
      rw [old, w.2.2 t2 h2]
      constructor
      · exact Or.inr
      · rintro (⟨g, _⟩ | g)
        · exact absurd g.symm e
        · exact g
