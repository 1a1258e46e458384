/-! The reference's bars, statements, town. -/
def rr (A B : St) : Prop := ∀ j, j ≠ 0 → j ≤ 30 → A j = B j
theorem rq.rr {A B : St} (h : rq A B) : rr A B := fun j hj _ => h j hj
theorem rr.trans {A B C : St} (h : rr A B) (g : rr B C) : rr A C := fun j h0 h1 => (h j h0 h1).trans (g j h0 h1)
theorem rr.st {A B : St} {i : Nat} {v : Int} {j : Nat} (h : rr A B) : rr (stA A j i v) (stA B j i v) := by
  intro k hk h30
  by_cases e : k = j
  · subst e
    rw [stA_same, stA_same, h k hk h30]
  · rw [stA_ne _ _ e, stA_ne _ _ e, h k hk h30]
theorem rr.so {A B : St} {i : Nat} {v : Int} {j : Nat} (h : rr A B) (hj : 30 < j) : rr (stA A j i v) B := by
  intro k hk h30
  rw [stA_ne _ _ (by omega), h k hk h30]
theorem rr.s0 {A B : St} {i : Nat} {v : Int} (h : rr A B) : rr (stA A 0 i v) B := by
  intro k hk h30
  rw [stA_ne _ _ hk, h k hk h30]
theorem MR.rr {b : Nat} {A u T : St} (h : MR b A T) (g : rr u A) : MR b u T := by
  have e : u = fun j => bif Nat.beq j 0 then u 0 else bif Nat.ble j 30 then A j else u j := by
    funext j
    cases j with
    | zero => rfl
    | succ j =>
      show u (j + 1) = bif Nat.ble (j + 1) 30 then A (j + 1) else u (j + 1)
      cases hb : Nat.ble (j + 1) 30 with
      | false => rfl
      | true => exact g (j + 1) (by omega) (Nat.le_of_ble_eq_true hb)
  rw [e]
  exact h
/-- a statement's answer, with the codes' bound -/
def MTb (f : Nat → Int) (N b p : Nat) (r : Option (St × Nat)) (u : St) : Prop := (u 0 8 = 0 ∧ ∃ a, r = some a ∧ MR b u a.1 ∧ MS f N b a.2 u ∧ a.1 19 2 ≤ (a.2 : Int) ∧ p ≤ a.2) ∨ (1 ≤ u 0 8 ∧ Bad f N r)
theorem tEnd_ge {f : Nat → Int} {N p : Nat} : p ≤ tEnd f N p := by
  by_cases h : p ≤ N
  · have := tEnd_b (f := f) h
    omega
  · have hs : sAt f N p = p := by
      unfold sAt
      rw [show N - p = 0 by omega]
      rfl
    unfold tEnd
    rw [hs, if_pos (by omega)]
    exact Nat.le_refl p
theorem pos_name {f : Nat → Int} {N p : Nat} {a : Int × Nat} (h : sName f N p = some a) : a.2 = tEnd f N p := by
  unfold sName at h
  split at h
  · rw [← Option.some.inj h]
  · exact absurd h (by simp)
theorem pos_new {f : Nat → Int} {N p : Nat} {T : St} {a : Int × Nat} (h : sNew f N T p = some a) : a.2 = tEnd f N p := by
  unfold sNew at h
  cases hs : sName f N p with
  | none => rw [hs] at h; exact absurd h (by simp)
  | some c =>
    rw [hs] at h
    have h : (if sFind T 0 c.1 = -1 ∧ sFind T 1 c.1 = -1 ∧ sFind T 2 c.1 = -1 ∧ sFind T 3 c.1 = -1 ∧ sFind T 4 c.1 = -1 then some (c.1, c.2) else none) = some a := h
    split at h
    · rw [← Option.some.inj h]; exact pos_name hs
    · exact absurd h (by simp)
theorem pos_ask {f : Nat → Int} {N p k : Nat} {T : St} {a : Int × Nat} (h : sAsk f N T k p = some a) : a.2 = tEnd f N p := by
  unfold sAsk at h
  cases hs : sName f N p with
  | none => rw [hs] at h; exact absurd h (by simp)
  | some c =>
    rw [hs] at h
    have h : (if sFind T k c.1 = -1 then none else some (sFind T k c.1, c.2)) = some a := h
    split at h
    · exact absurd h (by simp)
    · rw [← Option.some.inj h]; exact (pos_name hs : c.2 = tEnd f N p)
theorem pos_spot {f : Nat → Int} {N p : Nat} {T : St} {a : Int × Nat} (h : sSpot f N T p = some a) : a.2 = tEnd f N p := by
  unfold sSpot at h
  cases hs : sName f N p with
  | none => rw [hs] at h; exact absurd h (by simp)
  | some c =>
    rw [hs] at h
    have h : (if sFind T 0 c.1 ≠ -1 then some (sFind T 0 c.1 + 10, c.2) else if sFind T 1 c.1 ≠ -1 ∧ T 10 (sFind T 1 c.1).toNat = 0 then some (sFind T 1 c.1 + 20, c.2) else none) = some a := h
    split at h
    · rw [← Option.some.inj h]; exact (pos_name hs : c.2 = tEnd f N p)
    · split at h
      · rw [← Option.some.inj h]; exact (pos_name hs : c.2 = tEnd f N p)
      · exact absurd h (by simp)
theorem pos_num {f : Nat → Int} {N p : Nat} {lo hi : Int} {a : Int × Nat} (h : sNum f N lo hi p = some a) : a.2 = tEnd f N p := by
  unfold sNum at h
  split at h
  · rw [← Option.some.inj h]
  · exact absurd h (by simp)
theorem pos_own0 {f : Nat → Int} {N p k e : Nat} (h : sOwn f N k p = some e) : e = tEnd f N p := by
  unfold sOwn at h
  split at h
  · rw [← Option.some.inj h]
  · exact absurd h (by simp)
theorem pos_own {f : Nat → Int} {N p k e : Nat} (hp : p ≤ N) (h : sOwn f N k p = some e) : p + 1 ≤ e := by
  have e1 := pos_own0 h
  unfold sOwn at h
  split at h
  · rename_i g
    have tb := tEnd_b (f := f) hp
    have := tb.2.2.2 (by have := g.1; omega)
    omega
  · exact absurd h (by simp)
theorem pos_sign {f : Nat → Int} {N p e : Nat} {c : Int} (hp : p ≤ N) (h : sSign f N c p = some e) : p + 1 ≤ e := by
  unfold sSign at h
  split at h
  · rename_i g
    have tb := tEnd_b (f := f) hp
    have := tb.2.2.2 (by have := g.1; omega)
    rw [← Option.some.inj h]
    omega
  · exact absurd h (by simp)
theorem M_bar {f : Nat → Int} {N b p : Nat} {A u T : St} (hI : IM A) (h : MS f N b p A) (hR : MR b A T) (hT : T 19 2 ≤ (p : Int)) (hq : q_X12_barring A u) : MTb f N b p (if T 1 7 < 6 then sBar f N T (tEnd f N p) else none) u := by
  have hb := h.bk
  have eb : (A 0 47).toNat = b := by rw [hb]; exact Int.toNat_natCast b
  have hct : A 29 b = T 1 7 := hR.2.1.2.2
  have r2 : (0 : Int) ≤ A 29 b ∧ A 29 b ≤ 6 := hI 29 b
  obtain ⟨n, hn⟩ : ∃ n : Nat, T 1 7 = (n : Int) := ⟨(T 1 7).toNat, by omega⟩
  obtain ⟨z1, hz1, h2⟩ := (hq.1 : tr_r_X12_barring A u)
  rw [eb, hct] at hz1
  have d1 : ∀ x, (x = 0 ↔ T 1 7 < 6) → d_X12_barring_1 A u x → MTb f N b p (if T 1 7 < 6 then sBar f N T (tEnd f N p) else none) u := by
    intro x hx h2
    obtain ⟨_, z8, A9, hc, h2⟩ := (h2 : tr_d_X12_barring_1 A u x)
    obtain ⟨q9, g⟩ := M_counts h hc
    rcases h2 with ⟨c1, h2⟩ | ⟨c1, rfl⟩
    · rcases g with ⟨_, x0, s9⟩ | ⟨g, _⟩
      · have lt := hx.mp x0
        rw [if_pos lt]
        obtain ⟨z14, hz14, h2⟩ := h2
        have e14 : z14 = (n : Int) := by rw [hz14, eb, q9 29 (by decide), hct, hn]
        have hNA := hR.1.rq q9
        have ix : (6 * A 0 47 + z14).toNat = 6 * b + n := by rw [hb, e14]; omega
        have n1 := hNA.2.1
        have f5 : ∀ A76 : St, 1 ≤ A76 0 8 → d_X12_barring_5 z14 A u A76 → 1 ≤ u 0 8 := by
          intro A76 g h3
          obtain ⟨_, A80, e, h3⟩ := (h3 : tr_d_X12_barring_5 z14 A u A76)
          rcases h3 with ⟨_, hu⟩ | ⟨c, _⟩
          · rw [hu, e]; exact g
          · omega
        have f4 : ∀ A39 : St, 1 ≤ A39 0 8 → d_X12_barring_4 z14 A u A39 → 1 ≤ u 0 8 := by
          intro A39 g h3
          obtain ⟨_, z41, A42, hk, A46, e46, A47, hwd, A51, e51, h3⟩ := (h3 : tr_d_X12_barring_4 z14 A u A39)
          have e1 := X_ask_1 g hk
          have g46 : 1 ≤ A46 0 8 := by rw [e46, e1]; exact g
          have e2 := X_wd g46 hwd
          rcases h3 with ⟨_, h3⟩ | ⟨c, _⟩
          · refine f5 A51 ?_ h3
            rw [e51, e2]; exact g46
          · rw [e2] at c; omega
        have sp : ∀ p, sBar f N T p = (sAsk f N T 1 p).bind fun a => if T 10 a.1.toNat = 0 then none else (sOwn f N 15 a.2).bind fun e => (sTestN f N 8 T e).bind fun b => some (sBarAdd b.1 a.1 (T 19 2) (b.1 19 2), b.2) := fun _ => rfl
        rw [sp]
        have d4 : (∀ c, sAsk f N T 1 (tEnd f N p) = some c → ¬ T 10 c.1.toNat = 0) → d_X12_barring_4 z14 A u A9 → MTb f N b p ((sAsk f N T 1 (tEnd f N p)).bind fun a => if T 10 a.1.toNat = 0 then none else (sOwn f N 15 a.2).bind fun e => (sTestN f N 8 T e).bind fun b => some (sBarAdd b.1 a.1 (T 19 2) (b.1 19 2), b.2)) u := by
          intro hs h3
          obtain ⟨_, z41, A42, hk, A46, e46, A47, hwd, A51, e51, h3⟩ := (h3 : tr_d_X12_barring_4 z14 A u A9)
          rw [ix] at e46 e51
          obtain ⟨m, q42⟩ := M_ask_1 s9 n1 hk
          have e468 : A46 0 8 = A42 0 8 := by rw [e46]; rfl
          have e518 : A51 0 8 = A47 0 8 := by rw [e51]; rfl
          have f47 : 1 ≤ A47 0 8 → 1 ≤ u 0 8 := by
            intro g
            rcases h3 with ⟨_, h3⟩ | ⟨c, _⟩
            · exact f5 A51 (by omega) h3
            · omega
          rcases m with ⟨m8, a, sa, hz41, s42⟩ | ⟨m8, mb⟩
          · rw [sa]
            show MTb f N b p (if T 10 a.1.toNat = 0 then none else (sOwn f N 15 a.2).bind fun e => (sTestN f N 8 T e).bind fun b => some (sBarAdd b.1 a.1 (T 19 2) (b.1 19 2), b.2)) u
            rw [if_neg (hs a sa)]
            have s46 : MS f N b a.2 A46 := by rw [e46]; exact s42.fr rfl (fun k _ => rfl)
            obtain ⟨m1, q47⟩ := M_wd (k := 15) (by decide) rfl s46 hwd
            rcases m1 with ⟨m18, e, se, s47⟩ | ⟨m18, mb1⟩
            · rw [se]
              show MTb f N b p ((sTestN f N 8 T e).bind fun b => some (sBarAdd b.1 a.1 (T 19 2) (b.1 19 2), b.2)) u
              have s51 : MS f N b e A51 := by rw [e51]; exact s47.fr rfl (fun k _ => rfl)
              have pa : tEnd f N p ≤ a.2 := by rw [pos_ask sa]; exact tEnd_ge
              have pe : a.2 + 1 ≤ e := pos_own (s46.le) se
              have pp : p ≤ tEnd f N p := tEnd_ge
              rcases h3 with ⟨c, _⟩ | ⟨_, A71, hre, h3⟩
              · exact absurd m18 c
              · have q71 : rr A71 A51 := by
                  intro j h0 h30
                  refine hre.2.2.1.1 j h0 ?_
                  rcases (show j = 1 ∨ j = 2 ∨ j = 3 ∨ j = 4 ∨ j = 5 ∨ j = 6 ∨ j = 7 ∨ j = 8 ∨ j = 9 ∨ j = 10 ∨ j = 11 ∨ j = 12 ∨ j = 13 ∨ j = 14 ∨ j = 15 ∨ j = 16 ∨ j = 17 ∨ j = 18 ∨ j = 19 ∨ j = 20 ∨ j = 21 ∨ j = 22 ∨ j = 23 ∨ j = 24 ∨ j = 25 ∨ j = 26 ∨ j = 27 ∨ j = 28 ∨ j = 29 ∨ j = 30 by omega) with rfl | rfl | rfl | rfl | rfl | rfl | rfl | rfl | rfl | rfl | rfl | rfl | rfl | rfl | rfl | rfl | rfl | rfl | rfl | rfl | rfl | rfl | rfl | rfl | rfl | rfl | rfl | rfl | rfl | rfl <;> rfl
                obtain ⟨_, A80, e80, h3⟩ := (h3 : tr_d_X12_barring_5 z14 A u A71)
                rw [ix] at e80
                rw [eb] at h3
                rcases M_reads (T := T) s51 (by omega) (by omega) hre with ⟨f1, bd⟩ | ⟨f1, c, sc, s71, lc, cd⟩
                · refine Or.inr ⟨?_, bd.bd (fun c hc => bad_some hc)⟩
                  rcases h3 with ⟨_, hu⟩ | ⟨c, _⟩
                  · rw [hu, e80]; exact f1
                  · omega
                · rcases h3 with ⟨c, _⟩ | ⟨_, z97, hz97, A98, e98, hu⟩
                  · exact absurd f1 c
                  · have q46 : rr A46 (stA A 30 (6 * b + n) a.1) := by rw [e46, hz41]; exact (q42.trans q9).rr.st
                    have q80 : rr A80 (stA A 30 (6 * b + n) a.1) := by
                      rw [e80]
                      refine rr.so (q71.trans ?_) (by decide)
                      rw [e51]
                      exact rr.so (q47.rr.trans q46) (by decide)
                    have e97 : z97 = (n : Int) := by
                      rw [hz97, q80 29 (by decide) (by decide)]
                      exact hct.trans hn
                    rw [sc]
                    have kp := KS_testN (f := f) (N := N) 8 T e c sc
                    have hn' : c.1 1 7 = (n : Int) := by rw [kp 1 (by decide) (by decide)]; exact hn
                    refine Or.inl ⟨by rw [hu, e98, e80]; exact f1, (sBarAdd c.1 a.1 (T 19 2) (c.1 19 2), c.2), rfl, ?_, ?_, cd, by show p ≤ c.2; omega⟩
                    · refine (MR_bar (hR.keep kp) hn').rr ?_
                      rw [hu, e98, e97]
                      exact q80.st
                    · rw [hu, e98, e80]
                      exact s71.fr rfl (fun k _ => rfl)
            · exact Or.inr ⟨f47 m18, mb1.bd (fun c hc => by rw [(Sim_testN (f := f) (N := N) (b := b) (u := u) 8).1 T c hc]; exact Or.inl rfl)⟩
          · have g46 : 1 ≤ A46 0 8 := by omega
            have e2 := X_wd g46 hwd
            refine Or.inr ⟨f47 (by rw [e2]; exact g46), mb.bd (fun c hc => ?_)⟩
            by_cases g : T 10 c.1.toNat = 0
            · rw [if_pos g]; exact Or.inl rfl
            · rw [if_neg g, bad_own hc]; exact Or.inl rfl
        have d3 : sAsk f N T 1 (tEnd f N p) = none → d_X12_barring_3 z14 A A9 u (-1) → MTb f N b p ((sAsk f N T 1 (tEnd f N p)).bind fun a => if T 10 a.1.toNat = 0 then none else (sOwn f N 15 a.2).bind fun e => (sTestN f N 8 T e).bind fun b => some (sBarAdd b.1 a.1 (T 19 2) (b.1 19 2), b.2)) u := by
          intro hs h3
          obtain ⟨_, h3⟩ := (h3 : tr_d_X12_barring_3 z14 A A9 u (-1))
          rcases h3 with ⟨_, h3⟩ | ⟨c, _⟩
          · exact d4 (fun c sc => by rw [hs] at sc; exact absurd sc (by simp)) h3
          · exact absurd rfl c
        rcases pre_1 (P0 := d_X12_barring_2 z14 A A9 u) (P := fun v => d_X12_barring_3 z14 A A9 u v) s9 n1 h2 with ⟨hs, h3⟩ | ⟨v, v1, vb, hs, _, _, _, h3⟩
        · rcases h3 with h3 | h3
          · exact d3 hs h3
          · exact d3 hs h3
        · obtain ⟨_, h3⟩ := (h3 : tr_d_X12_barring_3 z14 A A9 u v)
          rcases h3 with ⟨c, _⟩ | ⟨_, z33, hz33, h3⟩
          · exact absurd c v1
          · have ix2 : (10 * A 0 47 + v).toNat = 10 * b + v.toNat := by rw [hb]; omega
            have kb := hR.2.2.2.1 v.toNat (by omega)
            rw [ix2, q9 8 (by decide)] at hz33
            rw [← hz33] at kb
            rcases h3 with ⟨c2, h3⟩ | ⟨c2, A35, hbl, h3⟩
            · refine d4 (fun c sc => ?_) h3
              rw [hs] at sc
              have sc := Option.some.inj sc
              rw [← sc]
              exact kb.mp c2
            · refine Or.inr ⟨f4 A35 hbl.2.2.2 h3, Or.inl ?_⟩
              rw [hs]
              show (if T 10 v.toNat = 0 then none else _) = none
              by_cases g : T 10 v.toNat = 0
              · rw [if_pos g]
              · exact absurd (kb.mpr g) c2
      · exact absurd g c1
    · rcases g with ⟨g, _⟩ | ⟨_, g8, g⟩
      · omega
      · refine Or.inr ⟨g8, ?_⟩
        by_cases lt : T 1 7 < 6
        · rw [if_pos lt]
          rcases g with g | g
          · exact absurd (hx.mpr lt) g
          · exact Or.inl (bad_Bar g)
        · rw [if_neg lt]
          exact Or.inl rfl
  rcases h2 with ⟨c, h2⟩ | ⟨c, h2⟩
  · exact d1 0 ⟨fun _ => by omega, fun _ => rfl⟩ h2
  · exact d1 1 ⟨fun g => absurd g (by decide), fun g => by omega⟩ h2
