/-! The class's statements, second half. -/
def bc (x : Int) : Int := (oAnd (oWrap ((oWrap ((oAnd (oWrap ((oAnd (oWrap (x - (oAnd (oUshr x 1) 1431655765))) 858993459) + (oAnd (oUshr (oWrap (x - (oAnd (oUshr x 1) 1431655765))) 2) 858993459) + (oUshr ((oAnd (oWrap (x - (oAnd (oUshr x 1) 1431655765))) 858993459) + (oAnd (oUshr (oWrap (x - (oAnd (oUshr x 1) 1431655765))) 2) 858993459)) 4))) 252645135) + (oUshr (oAnd (oWrap ((oAnd (oWrap (x - (oAnd (oUshr x 1) 1431655765))) 858993459) + (oAnd (oUshr (oWrap (x - (oAnd (oUshr x 1) 1431655765))) 2) 858993459) + (oUshr ((oAnd (oWrap (x - (oAnd (oUshr x 1) 1431655765))) 858993459) + (oAnd (oUshr (oWrap (x - (oAnd (oUshr x 1) 1431655765))) 2) 858993459)) 4))) 252645135) 8))) + (oUshr (oWrap ((oAnd (oWrap ((oAnd (oWrap (x - (oAnd (oUshr x 1) 1431655765))) 858993459) + (oAnd (oUshr (oWrap (x - (oAnd (oUshr x 1) 1431655765))) 2) 858993459) + (oUshr ((oAnd (oWrap (x - (oAnd (oUshr x 1) 1431655765))) 858993459) + (oAnd (oUshr (oWrap (x - (oAnd (oUshr x 1) 1431655765))) 2) 858993459)) 4))) 252645135) + (oUshr (oAnd (oWrap ((oAnd (oWrap (x - (oAnd (oUshr x 1) 1431655765))) 858993459) + (oAnd (oUshr (oWrap (x - (oAnd (oUshr x 1) 1431655765))) 2) 858993459) + (oUshr ((oAnd (oWrap (x - (oAnd (oUshr x 1) 1431655765))) 858993459) + (oAnd (oUshr (oWrap (x - (oAnd (oUshr x 1) 1431655765))) 2) 858993459)) 4))) 252645135) 8))) 16))) 63)
theorem C_bit {x z : Int} {A : St} (h : q_J6_bitCount_0f7a4 x A z) : z = bc x := by
  obtain ⟨_, rfl, _, rfl, _, rfl, _, rfl, _, rfl, _, rfl, _, rfl, _, rfl, _, rfl, _, rfl, _, rfl, _, rfl, _, rfl, _, rfl, hz⟩ := (h.1 : tr_r_J6_bitCount_0f7a4 x A z)
  exact hz
def sLost (f : Nat → Int) (N : Nat) (T : St) (p : Nat) : Option (St × Nat) := (sAsk f N T 1 p).bind fun a => if oAnd (oShr (T 0 15) a.1) 1 = 0 then some (stA T 0 15 (oOr (T 0 15) (oShl 1 a.1)), a.2) else none
theorem C_readLost {f : Nat → Int} {N p ta : Nat} (hta : isT ta) {B u : St} {z : Int} (hE : EK f N B) (hX : LXA f N p B) (h : q_X5_readLost ta B z u) : CT f N ta (sLost f N (tw ta B) p) z u := by
  have hIu := h.2.1
  obtain ⟨z1, A2, hq, h⟩ := (h.1 : tr_r_X5_readLost ta B z u)
  have h1 := C_asked_1 hta hE hX hq
  unfold sLost
  cases r1 : sAsk f N (tw ta B) 1 p with
  | none =>
    rw [r1] at h1
    have h1 : z1 = -1 := h1
    rcases h with ⟨c, _⟩ | ⟨_, hz, _⟩
    · exact absurd h1 c
    · exact hz
  | some a =>
    rw [r1] at h1
    obtain ⟨e1, n1, hC, ht⟩ := (show z1 = a.1 ∧ z1 ≠ -1 ∧ CS f N a.2 A2 ∧ tw ta A2 = tw ta B from h1)
    show CT f N ta (if oAnd (oShr (tw ta B 0 15) a.1) 1 = 0 then some (stA (tw ta B) 0 15 (oOr (tw ta B 0 15) (oShl 1 a.1)), a.2) else none) z u
    rcases h with ⟨_, z8, hz8, z9, hz9, h⟩ | ⟨c, _⟩
    · have e9 : z9 = oAnd (oShr (tw ta B 0 15) a.1) 1 := by rw [hz9, hz8, e1]; rfl
      rw [← e9]
      rcases h with ⟨c, z11, hz11, z12, hz12, A13, hA13, hz, hu⟩ | ⟨c, z14, A15, hb, hz, _⟩
      · rw [if_pos c]
        have hA13 : A13 = stA A2 (ta + 0) 15 z12 := hA13
        have e12 : z12 = oOr (tw ta B 0 15) (oShl 1 a.1) := by rw [hz12, hz11, e1]; rfl
        refine ⟨hz, ?_, by rw [hu, hA13, tw_st, ht, e12]⟩
        rw [hu] at hIu ⊢
        rcases hta with rfl | rfl
        · exact hC.fr (P := []) (F := [(51, 15)]) hIu (fk.df fk.rf hA13 rfl) rfl rfl rfl rfl rfl (fun _ => rfl) (fun _ => rfl) (fun _ => rfl)
        · exact hC.fr (P := []) (F := [(82, 15)]) hIu (fk.df fk.rf hA13 rfl) rfl rfl rfl rfl rfl (fun _ => rfl) (fun _ => rfl) (fun _ => rfl)
      · rw [if_neg c]
        exact hz.trans hb.2.2.2.2
    · exact absurd c n1
/-- a write into the town leaves the tokens alone -/
theorem CS.st {f : Nat → Int} {N e ta j i : Nat} {v : Int} (hta : isT ta) {A u : St} (hC : CS f N e A) (hI : IK u) (h : u = stA A (ta + j) i v) : CS f N e u := by
  have hr : 51 ≤ ta + j := by rcases hta with rfl | rfl <;> omega
  have hf : fk [ta + j] [] A u := fk.da fk.rf h (by simp)
  have hn : ∀ k, k < 51 → [ta + j].contains k = false := by
    intro k hk
    cases hc : [ta + j].contains k with
    | false => rfl
    | true =>
      have := List.contains_iff_mem.mp hc
      rw [List.mem_singleton] at this
      omega
  exact hC.fr hI hf (hn 1 (by decide)) (hn 2 (by decide)) (hn 4 (by decide)) (hn 5 (by decide)) rfl (fun _ => rfl) (fun _ => rfl) (fun _ => rfl)
def sHas (f : Nat → Int) (N : Nat) (T : St) (p : Nat) : Option (St × Nat) := (sAsk f N T 3 p).bind fun a => (sAsk f N T 2 a.2).bind fun b => if 10 ≤ T 24 b.1.toNat then some (stA T 24 b.1.toNat a.1, b.2) else none
theorem C_readHas {f : Nat → Int} {N p ta : Nat} (hta : isT ta) {B u : St} {z : Int} (hE : EK f N B) (hX : LXA f N p B) (h : q_X5_readHas ta B z u) : CT f N ta (sHas f N (tw ta B) p) z u := by
  have hIu := h.2.1
  obtain ⟨z1, A2, hq, h⟩ := (h.1 : tr_r_X5_readHas ta B z u)
  have h1 := C_asked_3 hta hE hX hq
  have no1 : ∀ (A13 : St), d_X5_readHas_1 ta z1 z u (-1) A13 → z = 0 := by
    intro A13 h
    obtain ⟨_, _, h⟩ := (h : tr_d_X5_readHas_1 ta z1 z u (-1) A13)
    rcases h with ⟨c, _⟩ | ⟨_, hz, _⟩
    · exact absurd rfl c
    · exact hz
  unfold sHas
  cases r1 : sAsk f N (tw ta B) 3 p with
  | none =>
    rw [r1] at h1
    have h1 : z1 = -1 := h1
    rcases h with ⟨c, _⟩ | ⟨_, h⟩
    · exact absurd h1 c
    · exact no1 _ h
  | some a =>
    rw [r1] at h1
    obtain ⟨e1, n1, hC, ht⟩ := (show z1 = a.1 ∧ z1 ≠ -1 ∧ CS f N a.2 A2 ∧ tw ta A2 = tw ta B from h1)
    rcases h with ⟨_, z7, A8, hq2, h⟩ | ⟨c, _⟩
    · have h2 := C_asked_2 hta hC.1 (Or.inl hC.2) hq2
      rw [ht] at h2
      show CT f N ta ((sAsk f N (tw ta B) 2 a.2).bind _) z u
      cases r2 : sAsk f N (tw ta B) 2 a.2 with
      | none =>
        rw [r2] at h2
        have h2 : z7 = -1 := h2
        rw [h2] at h
        exact no1 _ h
      | some b =>
        rw [r2] at h2
        obtain ⟨e2, n2, hC2, ht2⟩ := (show z7 = b.1 ∧ z7 ≠ -1 ∧ CS f N b.2 A8 ∧ tw ta A8 = tw ta A2 from h2)
        have e8 : tw ta A8 = tw ta B := ht2.trans ht
        obtain ⟨_, _, h⟩ := (h : tr_d_X5_readHas_1 ta z1 z u z7 A8)
        show CT f N ta (if 10 ≤ tw ta B 24 b.1.toNat then some (stA (tw ta B) 24 b.1.toNat a.1, b.2) else none) z u
        rcases h with ⟨_, z19, hz19, h⟩ | ⟨c, _⟩
        · have e19 : z19 = tw ta B 24 b.1.toNat := by rw [← e8, hz19, e2]; rfl
          rw [← e19]
          rcases h with ⟨c, A21, hA21, hz, hu⟩ | ⟨c, z22, A23, hb, hz, _⟩
          · rw [if_pos c]
            have hA21 : A21 = stA A8 (ta + 24) z7.toNat z1 := hA21
            refine ⟨hz, ?_, by rw [hu, hA21, tw_st, e8, e1, e2]⟩
            rw [hu] at hIu ⊢
            exact hC2.st hta hIu hA21
          · rw [if_neg c]
            exact hz.trans hb.2.2.2.2
        · exact absurd c n2
    · exact absurd c n1
def sMustAdd (T : St) (d a b : Int) : St := stA (stA (stA (stA T 13 (T 1 6).toNat d) 14 (T 1 6).toNat a) 15 (T 1 6).toNat b) 1 6 (T 1 6 + 1)
theorem C_addMust {f : Nat → Int} {N e ta : Nat} {x1 x2 x3 : Int} {A u : St} {z : Int} (hl : tw ta A 1 6 < 6) (hC : CS f N e A) (h : q_X9_addMust ta x1 x2 x3 A z u) : z = 1 ∧ CS f N e u ∧ tw ta u = sMustAdd (tw ta A) x1 x2 x3 := by
  have hC2 : CS f N e u := hC.fr h.2.1 h.2.2.1 rfl rfl rfl rfl rfl (fun _ => rfl) (fun _ => rfl) (fun _ => rfl)
  obtain ⟨z1, hz1, h⟩ := (h.1 : tr_r_X9_addMust ta x1 x2 x3 A z u)
  have hz1 : z1 = tw ta A 1 6 := hz1
  rcases h with ⟨_, A4, hA4, A5, hA5, A6, hA6, A11, hA11, hz, hu⟩ | ⟨c, _⟩
  · refine ⟨hz, hC2, ?_⟩
    have hA11 : A11 = stA A6 (ta + 1) 6 (z1 + 1) := hA11
    rw [hu, hA11, tw_st, hA6, tw_st, hA5, tw_st, hA4, tw_st, hz1]
    rfl
  · omega
def sMust (f : Nat → Int) (N : Nat) (T : St) (p : Nat) : Option (St × Nat) := (sAsk f N T 1 p).bind fun a => (sNum f N 0 1439 a.2).bind fun b => (sNum f N b.1 1439 b.2).bind fun c => some (sMustAdd T a.1 b.1 c.1, c.2)
theorem C_readMust {f : Nat → Int} {N p ta : Nat} (hta : isT ta) {B u : St} {z : Int} (hE : EK f N B) (hX : LXA f N p B) (hl : tw ta B 1 6 < 6) (h : q_X5_readMust ta B z u) : CT f N ta (sMust f N (tw ta B) p) z u := by
  obtain ⟨z1, A2, hq, h⟩ := (h.1 : tr_r_X5_readMust ta B z u)
  have h1 := C_asked_1 hta hE hX hq
  have no2 : ∀ (z11 : Int) (A24 : St), d_X5_readMust_2 ta z1 z11 z u (-1) A24 → z = 0 := by
    intro z11 A24 h
    obtain ⟨_, _, h⟩ := (h : tr_d_X5_readMust_2 ta z1 z11 z u (-1) A24)
    rcases h with ⟨_, hz, _⟩ | ⟨c, _⟩
    · exact hz
    · exact absurd rfl c
  have no1 : ∀ (A13 : St), d_X5_readMust_1 ta z1 z u (-1) A13 → z = 0 := by
    intro A13 h
    obtain ⟨_, _, h⟩ := (h : tr_d_X5_readMust_1 ta z1 z u (-1) A13)
    rcases h with ⟨c, _⟩ | ⟨_, h⟩
    · exact absurd rfl c
    · exact no2 _ _ h
  unfold sMust
  cases r1 : sAsk f N (tw ta B) 1 p with
  | none =>
    rw [r1] at h1
    have h1 : z1 = -1 := h1
    rcases h with ⟨c, _⟩ | ⟨_, h⟩
    · exact absurd h1 c
    · exact no1 _ h
  | some a =>
    rw [r1] at h1
    obtain ⟨e1, n1, hC, ht⟩ := (show z1 = a.1 ∧ z1 ≠ -1 ∧ CS f N a.2 A2 ∧ tw ta A2 = tw ta B from h1)
    rcases h with ⟨_, z7, A8, hq2, h⟩ | ⟨c, _⟩
    · have h2 := C_number hta hC.1 (Or.inl hC.2) hq2
      show CT f N ta ((sNum f N 0 1439 a.2).bind _) z u
      cases r2 : sNum f N 0 1439 a.2 with
      | none =>
        rw [r2] at h2
        have h2 : z7 = -1 := h2
        rw [h2] at h
        exact no1 _ h
      | some b =>
        rw [r2] at h2
        obtain ⟨e2, n2, hC2, ht2⟩ := (show z7 = b.1 ∧ z7 ≠ -1 ∧ CS f N b.2 A8 ∧ tw ta A8 = tw ta A2 from h2)
        obtain ⟨_, _, h⟩ := (h : tr_d_X5_readMust_1 ta z1 z u z7 A8)
        rcases h with ⟨_, z18, A19, hq3, h⟩ | ⟨c, _⟩
        · have h3 := C_number hta hC2.1 (Or.inl hC2.2) hq3
          rw [e2] at h3
          show CT f N ta ((sNum f N b.1 1439 b.2).bind _) z u
          cases r3 : sNum f N b.1 1439 b.2 with
          | none =>
            rw [r3] at h3
            have h3 : z18 = -1 := h3
            rw [h3] at h
            exact no2 _ _ h
          | some c =>
            rw [r3] at h3
            obtain ⟨e3, n3, hC3, ht3⟩ := (show z18 = c.1 ∧ z18 ≠ -1 ∧ CS f N c.2 A19 ∧ tw ta A19 = tw ta A8 from h3)
            obtain ⟨_, _, h⟩ := (h : tr_d_X5_readMust_2 ta z1 z7 z u z18 A19)
            rcases h with ⟨c1, _⟩ | ⟨_, z28, A29, hq4, h⟩
            · exact absurd c1 n3
            · have e19 : tw ta A19 = tw ta B := by rw [ht3, ht2, ht]
              obtain ⟨g1, g2, g3⟩ := C_addMust (by rw [e19]; exact hl) hC3 hq4
              rw [e19, e1, e2, e3] at g3
              rcases h with ⟨c1, _⟩ | ⟨_, hz, hu⟩
              · omega
              · rw [hu]
                exact ⟨hz, g2, g3⟩
        · exact absurd c n2
    · exact absurd c n1
theorem C_placeInRow {ts : Nat} {x1 x2 : Int} {A : St} {z : Int} (hx : 0 ≤ x1 ∧ x1 < 4) (h2 : x2 ≠ -1) (hs : 0 ≤ A (ts + 3) x1.toNat ∧ A (ts + 3) x1.toNat ≤ 6) (h : q_X6_placeInRow ts x1 x2 A z) : z = fnd (A (ts + 5 + x1.toNat)) x2 (A (ts + 3) x1.toNat).toNat 0 := by
  obtain ⟨nn, h⟩ := (h.1 : tr_r_X6_placeInRow ts x1 x2 A z)
  have lp : ∀ n (i : Nat), d_X6_placeInRow_1 ts x1 x2 A z n (i : Int) → z = fnd (A (ts + 5 + x1.toNat)) x2 ((A (ts + 3) x1.toNat).toNat - i) i := by
    intro n
    induction n with
    | zero => intro i h; exact h.elim
    | succ n ih =>
      intro i h
      obtain ⟨_, h⟩ := (h : tr_d_X6_placeInRow_1 ts x1 x2 A z (fun z1 => d_X6_placeInRow_1 ts x1 x2 A z n z1) i)
      rcases h with ⟨c, hz⟩ | ⟨c, h⟩
      · rw [show (A (ts + 3) x1.toNat).toNat - i = 0 by omega]
        exact hz
      · rcases h with ⟨c1, _⟩ | ⟨_, z10, hq, h⟩
        · exact absurd c1 h2
        · have hin : (i < (A (ts + 3) x1.toNat).toNat ∧ z10 = A (ts + 5 + x1.toNat) i) ∨ (¬ i < (A (ts + 3) x1.toNat).toNat ∧ z10 = -1) := by
            rcases (hq.1 : tr_r_X6_inRow ts x1 i A z10) with ⟨c2, _⟩ | ⟨_, hq⟩
            · omega
            · rcases hq with ⟨c2, _⟩ | ⟨_, hq⟩
              · omega
              · rcases hq with ⟨c2, _⟩ | ⟨_, z4, hz4, hq⟩
                · omega
                · rcases hq with ⟨c2, hz⟩ | ⟨c2, z7, hz7, hz⟩
                  · exact Or.inr ⟨by omega, hz⟩
                  · exact Or.inl ⟨by omega, by rw [hz, hz7, Int.toNat_natCast]⟩
          rcases hin with ⟨g1, g2⟩ | ⟨g1, g2⟩
          · obtain ⟨k, hk⟩ : ∃ k, (A (ts + 3) x1.toNat).toNat - i = k + 1 := ⟨(A (ts + 3) x1.toNat).toNat - i - 1, by omega⟩
            rw [hk]
            unfold fnd
            rw [← g2]
            rcases h with ⟨c3, h⟩ | ⟨c3, hz⟩
            · rw [if_neg c3]
              have := ih (i + 1) h
              rw [show (A (ts + 3) x1.toNat).toNat - (i + 1) = k by omega] at this
              exact this
            · rw [if_pos c3]
              exact hz
          · rcases h with ⟨c3, h⟩ | ⟨c3, hz⟩
            · have := ih (i + 1) h
              rw [show (A (ts + 3) x1.toNat).toNat - (i + 1) = 0 by omega] at this
              rw [show (A (ts + 3) x1.toNat).toNat - i = 0 by omega]
              exact this
            · exact absurd (g2.symm.trans c3) (fun e => h2 e.symm)
  exact lp nn 0 h
def sPush (T : St) (key door : Int) : Option St := if fnd (T (27 + key.toNat)) door (T 25 key.toNat).toNat 0 = -1 ∧ T 25 key.toNat < 6 then some (stA (stA T (27 + key.toNat) (T 25 key.toNat).toNat door) 25 key.toNat (T 25 key.toNat + 1)) else none
theorem C_push {f : Nat → Int} {N e ta : Nat} (hta : isT ta) {x1 x2 : Int} {A u : St} {z : Int} (hx : 0 ≤ x1 ∧ x1 < 4) (h2 : x2 ≠ -1) (hC : CS f N e A) (h : q_X6_push (ta + 22) x1 x2 A z u) : match sPush (tw ta A) x1 x2 with
    | none => z = 0
    | some T => z = 1 ∧ CS f N e u ∧ tw ta u = T := by
  have hC2 : CS f N e u := hC.fr h.2.1 h.2.2.1 rfl rfl rfl rfl rfl (fun _ => rfl) (fun _ => rfl) (fun _ => rfl)
  have hs : 0 ≤ A (ta + 22 + 3) x1.toNat ∧ A (ta + 22 + 3) x1.toNat ≤ 6 := irSz hta.s hC.1.1
  have er : ta + 22 + 5 + x1.toNat = ta + (27 + x1.toNat) := by omega
  unfold sPush
  rcases (h.1 : tr_r_X6_push (ta + 22) x1 x2 A z u) with ⟨c, _⟩ | ⟨_, h⟩
  · omega
  · rcases h with ⟨c, _⟩ | ⟨_, z3, hq, h⟩
    · omega
    · have e3 : z3 = fnd (tw ta A (27 + x1.toNat)) x2 (tw ta A 25 x1.toNat).toNat 0 := by
        rw [C_placeInRow hx h2 hs hq, er]
        rfl
      rw [← e3]
      rcases h with ⟨c, z7, hz7, h⟩ | ⟨c, hz, _⟩
      · have hz7 : z7 = tw ta A 25 x1.toNat := hz7
        rw [← hz7]
        rcases h with ⟨c2, A10, hA10, A11, hA11, hz, hu⟩ | ⟨c2, hz, _⟩
        · rw [if_pos ⟨c, c2⟩]
          refine ⟨hz, hC2, ?_⟩
          rw [er] at hA10
          have hA11 : A11 = stA A10 (ta + 25) x1.toNat (z7 + 1) := hA11
          rw [hu, hA11, tw_st, hA10, tw_st]
        · rw [if_neg (fun g => c2 g.2)]
          exact hz
      · rw [if_neg (fun g => c g.1)]
        exact hz
def sShut (f : Nat → Int) (N : Nat) (T : St) (p : Nat) : Option (St × Nat) := (sAsk f N T 1 p).bind fun a => (sOwn f N 14 a.2).bind fun b => (sAsk f N T 2 b).bind fun c => (sPush T c.1 a.1).bind fun t => some (t, c.2)
theorem C_readShut {f : Nat → Int} {N p ta : Nat} (hta : isT ta) {B u : St} {z : Int} (hE : EK f N B) (hX : LXA f N p B) (h : q_X5_readShut ta B z u) : CT f N ta (sShut f N (tw ta B) p) z u := by
  obtain ⟨z1, A2, hq, h⟩ := (h.1 : tr_r_X5_readShut ta B z u)
  have h1 := C_asked_1 hta hE hX hq
  unfold sShut
  cases r1 : sAsk f N (tw ta B) 1 p with
  | none =>
    rw [r1] at h1
    have h1 : z1 = -1 := h1
    rcases h with ⟨_, hz, _⟩ | ⟨c, _⟩
    · exact hz
    · exact absurd h1 c
  | some a =>
    rw [r1] at h1
    obtain ⟨e1, n1, hC, ht⟩ := (show z1 = a.1 ∧ z1 ≠ -1 ∧ CS f N a.2 A2 ∧ tw ta A2 = tw ta B from h1)
    rcases h with ⟨c, _⟩ | ⟨_, z6, A7, hq2, h⟩
    · exact absurd c n1
    · have h2 := C_ownWord hta (k := 14) (by decide) rfl hC.1 (Or.inl hC.2) hq2
      show CT f N ta ((sOwn f N 14 a.2).bind _) z u
      cases r2 : sOwn f N 14 a.2 with
      | none =>
        rw [r2] at h2
        have h2 : z6 = 0 := h2
        rcases h with ⟨c, _⟩ | ⟨_, hz, _⟩
        · exact absurd h2 c
        · exact hz
      | some b =>
        rw [r2] at h2
        obtain ⟨n2, hC2, ht2⟩ := (show z6 = 1 ∧ CS f N b A7 ∧ tw ta A7 = tw ta A2 from h2)
        rcases h with ⟨_, z11, A12, hq3, h⟩ | ⟨c, _⟩
        · have h3 := C_asked_2 hta hC2.1 (Or.inl hC2.2) hq3
          rw [ht2, ht] at h3
          show CT f N ta ((sAsk f N (tw ta B) 2 b).bind _) z u
          cases r3 : sAsk f N (tw ta B) 2 b with
          | none =>
            rw [r3] at h3
            have h3 : z11 = -1 := h3
            rcases h with ⟨c, _⟩ | ⟨_, hz, _⟩
            · exact absurd h3 c
            · exact hz
          | some c =>
            rw [r3] at h3
            obtain ⟨e3, n3, hC3, ht3⟩ := (show z11 = c.1 ∧ z11 ≠ -1 ∧ CS f N c.2 A12 ∧ tw ta A12 = tw ta A7 from h3)
            have e12 : tw ta A12 = tw ta B := by rw [ht3, ht2, ht]
            have b11 := hq3.2.2.2
            show CT f N ta ((sPush (tw ta B) c.1 a.1).bind _) z u
            rcases h with ⟨_, z16, A17, hq4, h⟩ | ⟨c1, _⟩
            · have h4 := C_push hta (by omega) n1 hC3 hq4
              rw [e12, e1, e3] at h4
              cases r4 : sPush (tw ta B) c.1 a.1 with
              | none =>
                rw [r4] at h4
                have h4 : z16 = 0 := h4
                rcases h with ⟨c, _⟩ | ⟨_, z21, A22, _, hz, _⟩
                · exact absurd h4 c
                · exact hz
              | some t =>
                rw [r4] at h4
                obtain ⟨g1, g2, g3⟩ := (show z16 = 1 ∧ CS f N c.2 A17 ∧ tw ta A17 = t from h4)
                rcases h with ⟨_, hz, hu⟩ | ⟨c, _⟩
                · rw [hu]
                  exact ⟨hz, g2, g3⟩
                · omega
            · exact absurd c1 n3
        · omega
def sWants (f : Nat → Int) (N : Nat) (T : St) (p : Nat) : Option (St × Nat) := (sAsk f N T 3 p).bind fun a => if bc (T 12 a.1.toNat) < 2 then ((sAsk f N T 4 a.2).bind fun b => if oAnd (oShr (T 12 a.1.toNat) b.1) 1 = 0 then some (stA (stA T 12 a.1.toNat (oOr (T 12 a.1.toNat) (oShl 1 b.1))) 1 5 (T 1 5 + 1), b.2) else none) else none
theorem C_readWants {f : Nat → Int} {N p ta : Nat} (hta : isT ta) {B u : St} {z : Int} (hE : EK f N B) (hX : LXA f N p B) (h : q_X5_readWants ta B z u) : CT f N ta (sWants f N (tw ta B) p) z u := by
  have hIu := h.2.1
  have hfu := h.2.2.1
  obtain ⟨z1, A2, hq, h⟩ := (h.1 : tr_r_X5_readWants ta B z u)
  have h1 := C_asked_3 hta hE hX hq
  unfold sWants
  cases r1 : sAsk f N (tw ta B) 3 p with
  | none =>
    rw [r1] at h1
    have h1 : z1 = -1 := h1
    rcases h with ⟨c, _⟩ | ⟨_, hz, _⟩
    · exact absurd h1 c
    · exact hz
  | some a =>
    rw [r1] at h1
    obtain ⟨e1, n1, hC, ht⟩ := (show z1 = a.1 ∧ z1 ≠ -1 ∧ CS f N a.2 A2 ∧ tw ta A2 = tw ta B from h1)
    show CT f N ta (if bc (tw ta B 12 a.1.toNat) < 2 then ((sAsk f N (tw ta B) 4 a.2).bind _) else none) z u
    rcases h with ⟨_, z7, hz7, z8, hbc, h⟩ | ⟨c, _⟩
    · have e7 : z7 = tw ta B 12 a.1.toNat := by rw [← ht, hz7, e1]; rfl
      have e8 : z8 = bc (tw ta B 12 a.1.toNat) := by rw [C_bit hbc, e7]
      rw [← e8]
      rcases h with ⟨c, z12, A13, hq2, h⟩ | ⟨c, z35, A36, hb, hz, _⟩
      · rw [if_pos c]
        have h2 := C_asked_4 hta hC.1 (Or.inl hC.2) hq2
        rw [ht] at h2
        cases r2 : sAsk f N (tw ta B) 4 a.2 with
        | none =>
          rw [r2] at h2
          have h2 : z12 = -1 := h2
          rcases h with ⟨c, _⟩ | ⟨_, hz, _⟩
          · exact absurd h2 c
          · exact hz
        | some b =>
          rw [r2] at h2
          obtain ⟨e2, n2, hC2, ht2⟩ := (show z12 = b.1 ∧ z12 ≠ -1 ∧ CS f N b.2 A13 ∧ tw ta A13 = tw ta A2 from h2)
          have e13 : tw ta A13 = tw ta B := ht2.trans ht
          show CT f N ta (if oAnd (oShr (tw ta B 12 a.1.toNat) b.1) 1 = 0 then some (stA (stA (tw ta B) 12 a.1.toNat (oOr (tw ta B 12 a.1.toNat) (oShl 1 b.1))) 1 5 (tw ta B 1 5 + 1), b.2) else none) z u
          rcases h with ⟨_, z19, hz19, z20, hz20, h⟩ | ⟨c, _⟩
          · have e20 : z20 = oAnd (oShr (tw ta B 12 a.1.toNat) b.1) 1 := by rw [hz20, hz19, e7, e2]
            rw [← e20]
            rcases h with ⟨c, z23, hz23, z24, hz24, A25, hA25, z29, hz29, A30, hA30, hz, hu⟩ | ⟨c, z31, A32, hb, hz, _⟩
            · rw [if_pos c]
              have e24 : z24 = oOr (tw ta B 12 a.1.toNat) (oShl 1 b.1) := by rw [hz24, hz23, e7, e2]
              have t25 : tw ta A25 = stA (tw ta B) 12 a.1.toNat (oOr (tw ta B 12 a.1.toNat) (oShl 1 b.1)) := by rw [hA25, tw_st, e13, e1, e24]
              have e29 : z29 = tw ta B 1 5 := by
                have : z29 = tw ta A25 1 5 := hz29
                rw [this, t25]
                rfl
              have hA30 : A30 = stA A25 (ta + 1) 5 (z29 + 1) := hA30
              refine ⟨hz, ?_, by rw [hu, hA30, tw_st, t25, e29]⟩
              refine ⟨hE.fr hIu hfu rfl rfl rfl rfl (fun _ => rfl) (fun _ => rfl), ?_⟩
              have g : ∀ k, u 5 k = A13 5 k := by
                intro k
                rw [hu, hA30, stA_ne _ _ (by rcases hta with rfl | rfl <;> omega), hA25, stA_ne _ _ (by rcases hta with rfl | rfl <;> omega)]
              unfold LX0
              rw [g 6, g 1, g 5]
              exact hC2.2
            · rw [if_neg c]
              exact hz.trans hb.2.2.2.2
          · exact absurd c n2
      · rw [if_neg c]
        exact hz.trans hb.2.2.2.2
    · exact absurd c n1
