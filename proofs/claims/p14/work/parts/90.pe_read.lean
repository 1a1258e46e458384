def sTownL (f : Nat → Int) (N : Nat) : Nat → Nat → St → Nat → Option (Nat × St)
  | 0, _, _, _ => none
  | k + 1, n, T, p => if tKind f N p = 0 then some (n, T) else (sStmt f N T p).bind fun a => (sSign f N 59 a.2).bind fun e => sTownL f N k (n + 1) a.1 e
def CW (f : Nat → Int) (N ta : Nat) (r : Option (Nat × St)) (z : Int) (u : St) : Prop := match r with
  | none => z = -1
  | some a => z = (a.1 : Int) ∧ EK f N u ∧ tw ta u = a.2
theorem C_t2 {f : Nat → Int} {N ta k i : Nat} (hta : isT ta) {K : Int → St → Prop} {r : Option (St × Nat)} {zs z : Int} {B u : St} (hK : ∀ (A : St) (e : Nat), EK f N A → LXA f N e A → K ((i : Int) + 1) A → CW f N ta (sTownL f N k (i + 1) (tw ta A) e) z u) (h1 : CA f N ta r zs B) (h : d_X5_readTown_2 K (i : Int) z u zs B) : CW f N ta (r.bind fun a => (sSign f N 59 a.2).bind fun e => sTownL f N k (i + 1) a.1 e) z u := by
  obtain ⟨_, _, h⟩ := (h : tr_d_X5_readTown_2 K (i : Int) z u zs B)
  rcases h with ⟨c, hz, _⟩ | ⟨c, z90, A91, hq, h⟩
  · rw [h1.neg c]
    exact hz
  · obtain ⟨a, r1, hE, hX, ht⟩ := h1.pos c
    rw [r1]
    have h2 := C_sign hta (by decide) hE hX hq
    show CW f N ta ((sSign f N 59 a.2).bind _) z u
    rcases h with ⟨c2, h⟩ | ⟨c2, hz, _⟩
    · obtain ⟨e, r2, hC, ht2⟩ := h2.pos c2
      rw [r2]
      have := hK A91 e hC.1 (Or.inl hC.2) h
      rw [ht2, ht] at this
      exact this
    · rw [h2.neg c2]
      exact hz
theorem C_townL {f : Nat → Int} {N ta : Nat} (hta : isT ta) {u : St} {z : Int} : ∀ (nn i : Nat) (A : St) (p : Nat), i ≤ 1601 → EK f N A → LXA f N p A → d_X5_readTown_1 ta z u nn (i : Int) A → CW f N ta (sTownL f N (1601 - i) i (tw ta A) p) z u := by
  intro nn
  induction nn with
  | zero => intro i A p _ _ _ h; exact h.elim
  | succ m ih =>
    intro i A p hi hE hX h
    obtain ⟨_, _, h⟩ := (h : tr_d_X5_readTown_1 ta z u (fun z9 A11 => d_X5_readTown_1 ta z u m z9 A11) i A)
    rcases h with ⟨c, hz, _⟩ | ⟨c, A18, hq, h⟩
    · rw [show 1601 - i = 0 by omega]
      exact hz
    · obtain ⟨k, hk⟩ : ∃ k, 1601 - i = k + 1 := ⟨1601 - i - 1, by omega⟩
      rw [hk]
      unfold sTownL
      obtain ⟨hE1, hX1⟩ := lookA hE hX hq
      have ht1 : tw ta A18 = tw ta A := tw_fk hta hq.2.2.1 rfl
      have k2 := hX1.2.2.1
      rcases h with ⟨c1, z23, A24, hq2, h⟩ | ⟨c1, hz, hu⟩
      · rw [if_neg (by omega)]
        have hK : ∀ (B : St) (e : Nat), EK f N B → LXA f N e B → d_X5_readTown_1 ta z u m ((i : Int) + 1) B → CW f N ta (sTownL f N k (i + 1) (tw ta B) e) z u := by
          intro B e hE hX h
          have := ih (i + 1) B e (by omega) hE hX h
          rw [show 1601 - (i + 1) = k by omega] at this
          exact this
        rcases C_word hta hE1 hX1 hq2 with ⟨e1, e2⟩ | ⟨w, hw, e1, tk, hv, hl, hC, ht⟩
        · rw [ht1] at e2
          rw [sStmt_none e2]
          rcases h with ⟨_, h⟩ | h
          · obtain ⟨_, _, h⟩ := (h : tr_d_X5_readTown_2 _ (i : Int) z u 0 A24)
            rcases h with ⟨_, hz, _⟩ | ⟨c, _⟩
            · exact hz
            · exact absurd rfl c
          · exfalso
            rcases h with ⟨c, _⟩ | ⟨c, _⟩ | ⟨c, _⟩ | ⟨c, _⟩ | ⟨c, _⟩ | ⟨c, _⟩ | ⟨c, _⟩ | ⟨c, _⟩ | ⟨c, _⟩ | ⟨c, _⟩ | ⟨c, _⟩ | ⟨c, _⟩ <;> omega
        · rw [ht1] at ht hl
          rcases h with ⟨c, _⟩ | ⟨c, h⟩ | ⟨c, h⟩ | ⟨c, h⟩ | ⟨c, h⟩ | ⟨c, h⟩ | ⟨c, h⟩ | ⟨c, h⟩ | ⟨c, h⟩ | ⟨c, h⟩ | ⟨c, h⟩ | ⟨c, h⟩ | ⟨c, h⟩
          · omega
          · obtain rfl : w = 0 := by omega
            have hl : tw ta A 1 0 < 8 := by rcases hl with g | g; exact absurd g (by decide); exact g
            rw [sStmt_0 tk hv, if_pos hl]
            obtain ⟨z29, A30, hq3, z33, A34, hq4, h⟩ := h
            refine C_t2 hta hK ?_ h
            have h3 := C_newName hta hC.1 (Or.inl hC.2) hq3
            rw [ht] at h3
            unfold sPlace
            by_cases g : z29 = -1
            · rw [h3.neg g]
              rcases (hq4.1 : tr_r_X9_add_1_0 ta z29 A30 z33 A34) with ⟨_, hz, _⟩ | ⟨c9, _⟩
              · exact hz
              · exact absurd g c9
            · obtain ⟨a, r3, e3, hC3, ht3⟩ := h3.pos g
              rw [r3]
              have t30 : tw ta A30 = tw ta A := ht3.trans ht
              obtain ⟨g1, g2, g3⟩ := C_add_0 (by rw [t30]; exact hl) g hC3 hq4
              rw [t30, e3] at g3
              exact ⟨g1, g2.1, Or.inl g2.2, g3⟩
          · obtain rfl : w = 1 := by omega
            have hl : tw ta A 1 1 < 10 := by rcases hl with g | g; exact absurd g (by decide); exact g
            rw [sStmt_1 tk hv, if_pos hl]
            obtain ⟨z29, A30, hq3, h⟩ := h
            have h3 := C_readDoor hta hC.1 (Or.inl hC.2) (by rw [ht]; exact hl) hq3
            rw [ht] at h3
            exact C_t2 hta hK h3.ca h
          · obtain rfl : w = 2 := by omega
            have hl : tw ta A 1 1 < 10 := by rcases hl with g | g; exact absurd g (by decide); exact g
            rw [sStmt_2 tk hv, if_pos hl]
            obtain ⟨z29, A30, hq3, h⟩ := h
            have h3 := C_readBox hta hC.1 (Or.inl hC.2) (by rw [ht]; exact hl) hq3
            rw [ht] at h3
            exact C_t2 hta hK h3.ca h
          · obtain rfl : w = 3 := by omega
            have hl : tw ta A 1 2 < 4 := by rcases hl with g | g; exact absurd g (by decide); exact g
            rw [sStmt_3 tk hv, if_pos hl]
            obtain ⟨z29, A30, hq3, h⟩ := h
            have h3 := C_readKey hta hC.1 (Or.inl hC.2) (by rw [ht]; exact hl) hq3
            rw [ht] at h3
            exact C_t2 hta hK h3.ca h
          · obtain rfl : w = 4 := by omega
            have hl : tw ta A 1 3 < 3 := by rcases hl with g | g; exact absurd g (by decide); exact g
            rw [sStmt_4 tk hv, if_pos hl]
            obtain ⟨z29, A30, hq3, h⟩ := h
            have h3 := C_readPerson hta hC.1 (Or.inl hC.2) (by rw [ht]; exact hl) hq3
            rw [ht] at h3
            exact C_t2 hta hK h3.ca h
          · obtain rfl : w = 5 := by omega
            have hl : tw ta A 1 4 < 4 := by rcases hl with g | g; exact absurd g (by decide); exact g
            rw [sStmt_5 tk hv, if_pos hl]
            obtain ⟨z29, A30, hq3, h⟩ := h
            have h3 := C_readThing hta hC.1 (Or.inl hC.2) (by rw [ht]; exact hl) hq3
            rw [ht] at h3
            exact C_t2 hta hK h3.ca h
          · obtain rfl : w = 6 := by omega
            have hl : tw ta A 1 5 < 6 := by rcases hl with g | g; exact absurd g (by decide); exact g
            rw [sStmt_6 tk hv, if_pos hl]
            obtain ⟨z29, A30, hq3, h⟩ := h
            have h3 := C_readWants hta hC.1 (Or.inl hC.2) hq3
            rw [ht] at h3
            exact C_t2 hta hK h3.ca h
          · obtain rfl : w = 7 := by omega
            have hl : tw ta A 1 6 < 6 := by rcases hl with g | g; exact absurd g (by decide); exact g
            rw [sStmt_7 tk hv, if_pos hl]
            obtain ⟨z29, A30, hq3, h⟩ := h
            have h3 := C_readMust hta hC.1 (Or.inl hC.2) (by rw [ht]; exact hl) hq3
            rw [ht] at h3
            exact C_t2 hta hK h3.ca h
          · obtain rfl : w = 8 := by omega
            have hl : tw ta A 1 7 < 6 := by rcases hl with g | g; exact absurd g (by decide); exact g
            rw [sStmt_8 tk hv, if_pos hl]
            obtain ⟨z29, A30, hq3, h⟩ := h
            have h3 := C_readBar hta hC.1 (Or.inl hC.2) (by rw [ht]; exact hl) hq3
            rw [ht] at h3
            exact C_t2 hta hK h3 h
          · obtain rfl : w = 9 := by omega
            rw [sStmt_9 tk hv]
            obtain ⟨z29, A30, hq3, h⟩ := h
            have h3 := C_readHas hta hC.1 (Or.inl hC.2) hq3
            rw [ht] at h3
            exact C_t2 hta hK h3.ca h
          · obtain rfl : w = 10 := by omega
            rw [sStmt_10 tk hv]
            obtain ⟨z29, A30, hq3, h⟩ := h
            have h3 := C_readShut hta hC.1 (Or.inl hC.2) hq3
            rw [ht] at h3
            exact C_t2 hta hK h3.ca h
          · obtain rfl : w = 11 := by omega
            rw [sStmt_11 tk hv]
            obtain ⟨z29, A30, hq3, h⟩ := h
            have h3 := C_readLost hta hC.1 (Or.inl hC.2) hq3
            rw [ht] at h3
            exact C_t2 hta hK h3.ca h
      · rw [if_pos (by omega), hu]
        exact ⟨hz, hE1, ht1⟩
def clr (j : Nat) : Nat → St → St
  | 0, T => T
  | n + 1, T => stA (clr j n T) j n 0
def sClear (T : St) : St := stA (stA (clr 25 4 (clr 12 3 (clr 1 8 T))) 19 2 0) 0 15 0
theorem C_clear {ta : Nat} {A u : St} (h : q_X9_clear ta A u) : tw ta u = sClear (tw ta A) := by
  have l3 : ∀ (nn i : Nat) (T : St) (B : St), i ≤ 4 → tw ta B = clr 25 i T → d_X9_clear_3 ta u nn (i : Int) B → tw ta u = stA (stA (clr 25 4 T) 19 2 0) 0 15 0 := by
    intro nn
    induction nn with
    | zero => intro i T B _ _ h; exact h.elim
    | succ m ih =>
      intro i T B hi ht h
      obtain ⟨_, _, h⟩ := (h : tr_d_X9_clear_3 ta u (fun z19 A21 => d_X9_clear_3 ta u m z19 A21) i B)
      rcases h with ⟨c, A28, hA28, A29, hA29, hu⟩ | ⟨c, A30, hA30, h⟩
      · have hA29 : A29 = stA A28 (ta + 0) 15 0 := hA29
        rw [hu, hA29, tw_st, hA28, tw_st, ht, show i = 4 by omega]
      · have hA30 : A30 = stA B (ta + 25) i 0 := by rw [hA30, Int.toNat_natCast]
        exact ih (i + 1) T A30 (by omega) (by rw [hA30, tw_st, ht]; rfl) h
  have l2 : ∀ (nn i : Nat) (T : St) (B : St), i ≤ 3 → tw ta B = clr 12 i T → d_X9_clear_2 ta u nn (i : Int) B → tw ta u = stA (stA (clr 25 4 (clr 12 3 T)) 19 2 0) 0 15 0 := by
    intro nn
    induction nn with
    | zero => intro i T B _ _ h; exact h.elim
    | succ m ih =>
      intro i T B hi ht h
      obtain ⟨_, _, h⟩ := (h : tr_d_X9_clear_2 ta u (fun z10 A12 => d_X9_clear_2 ta u m z10 A12) i B)
      rcases h with ⟨c, n3, h⟩ | ⟨c, A30, hA30, h⟩
      · exact l3 n3 0 _ B (by omega) (by rw [ht, show i = 3 by omega]; rfl) h
      · have hA30 : A30 = stA B (ta + 12) i 0 := by rw [hA30, Int.toNat_natCast]
        exact ih (i + 1) T A30 (by omega) (by rw [hA30, tw_st, ht]; rfl) h
  have l1 : ∀ (nn i : Nat) (T : St) (B : St), i ≤ 8 → tw ta B = clr 1 i T → d_X9_clear_1 ta u nn (i : Int) B → tw ta u = stA (stA (clr 25 4 (clr 12 3 (clr 1 8 T))) 19 2 0) 0 15 0 := by
    intro nn
    induction nn with
    | zero => intro i T B _ _ h; exact h.elim
    | succ m ih =>
      intro i T B hi ht h
      obtain ⟨_, _, h⟩ := (h : tr_d_X9_clear_1 ta u (fun z1 A3 => d_X9_clear_1 ta u m z1 A3) i B)
      rcases h with ⟨c, n3, h⟩ | ⟨c, A30, hA30, h⟩
      · exact l2 n3 0 _ B (by omega) (by rw [ht, show i = 8 by omega]; rfl) h
      · have hA30 : A30 = stA B (ta + 1) i 0 := by rw [hA30, Int.toNat_natCast]
        exact ih (i + 1) T A30 (by omega) (by rw [hA30, tw_st, ht]; rfl) h
  obtain ⟨nn, h⟩ := (h.1 : tr_r_X9_clear ta A u)
  exact l1 nn 0 _ A (by omega) rfl h
def sTown (f : Nat → Int) (N : Nat) (T : St) : Option (Nat × St) := sTownL f N 1601 0 (sClear T) 0
theorem C_readTown {f : Nat → Int} {N ta : Nat} (hta : isT ta) {A u : St} {z : Int} (hE : EK f N A) (h : q_X5_readTown ta A z u) : CW f N ta (sTown f N (tw ta A)) z u := by
  obtain ⟨A1, hq1, A4, hq4, A7, hA7, A8, hA8, nn, h⟩ := (h.1 : tr_r_X5_readTown ta A z u)
  have hE1 : EK f N A1 := hE.fr hq1.2.1 hq1.2.2.1 rfl rfl rfl rfl (fun _ => rfl) (fun _ => rfl)
  have hE4 : EK f N A4 := hE1.fr hq4.2.1 hq4.2.2.1 rfl rfl rfl rfl (fun _ => rfl) (fun _ => rfl)
  have hI7 : IK A7 := isRD_2 hA7 hE4.1 (by decide)
  have hI8 : IK A8 := isRD_3 hA8 hI7 (by decide)
  have hf8 : fk [] [(3, 2), (3, 3)] A4 A8 := fk.df (fk.df fk.rf hA7 rfl) hA8 rfl
  have hE8 : EK f N A8 := hE4.fr hI8 hf8 rfl rfl rfl rfl (fun _ => rfl) (fun _ => rfl)
  have t8 : tw ta A8 = sClear (tw ta A) := by rw [tw_fk hta hf8 rfl, tw_fk hta hq4.2.2.1 rfl, C_clear hq1]
  obtain ⟨B1, hB1, B2, hB2, B3, hB3, hu⟩ := (hq4.1 : tr_r_X3_begin A1 A4)
  have g : ∀ k, A8 5 k = A4 5 k := fun k => hf8 5 k rfl rfl
  have hX : LX0 f N 0 A8 := by
    unfold LX0
    rw [g 6, g 1, g 5, hu, hB3]
    refine ⟨rfl, by rw [hB2, hB1]; rfl, Nat.zero_le _, ⟨fun g => ?_, fun g => absurd g.1 (by decide)⟩, by rw [hB2]; exact (by decide : (-1 : Int) ≤ ((0 : Nat) : Int))⟩
    rw [hB2] at g
    exact absurd (show (-1 : Int) = ((0 : Nat) : Int) from g) (by decide)
  have := C_townL hta nn 0 A8 0 (by omega) hE8 (Or.inl hX) h
  rw [t8] at this
  exact this
